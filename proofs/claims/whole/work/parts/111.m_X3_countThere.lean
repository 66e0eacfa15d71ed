/-! X3_countThere X3_countKept X3_counted X3_count X3_finding X3_findings X3_digest -/
theorem dX3_countThere_0 : decode cX3_countThere 0 = .ok (.iconst 0, 1) := by decide +kernel
theorem dX3_countThere_1 : decode cX3_countThere 1 = .ok (.istore_n 1, 1) := by decide +kernel
theorem dX3_countThere_2 : decode cX3_countThere 2 = .ok (.aload_n 0, 1) := by decide +kernel
theorem dX3_countThere_3 : decode cX3_countThere 3 = .ok (.astore_n 2, 1) := by decide +kernel
theorem dX3_countThere_4 : decode cX3_countThere 4 = .ok (.aload_n 2, 1) := by decide +kernel
theorem dX3_countThere_5 : decode cX3_countThere 5 = .ok (.arraylength, 1) := by decide +kernel
theorem dX3_countThere_6 : decode cX3_countThere 6 = .ok (.istore_n 3, 1) := by decide +kernel
theorem dX3_countThere_7 : decode cX3_countThere 7 = .ok (.iconst 0, 1) := by decide +kernel
theorem dX3_countThere_8 : decode cX3_countThere 8 = .ok (.istore 4, 2) := by decide +kernel
theorem dX3_countThere_10 : decode cX3_countThere 10 = .ok (.iload 4, 2) := by decide +kernel
theorem dX3_countThere_12 : decode cX3_countThere 12 = .ok (.iload_n 3, 1) := by decide +kernel
theorem dX3_countThere_13 : decode cX3_countThere 13 = .ok (.if_icmp .ge 24, 3) := by decide +kernel
theorem dX3_countThere_16 : decode cX3_countThere 16 = .ok (.aload_n 2, 1) := by decide +kernel
theorem dX3_countThere_17 : decode cX3_countThere 17 = .ok (.iload 4, 2) := by decide +kernel
theorem dX3_countThere_19 : decode cX3_countThere 19 = .ok (.iaload, 1) := by decide +kernel
theorem dX3_countThere_20 : decode cX3_countThere 20 = .ok (.istore 5, 2) := by decide +kernel
theorem dX3_countThere_22 : decode cX3_countThere 22 = .ok (.iload 5, 2) := by decide +kernel
theorem dX3_countThere_24 : decode cX3_countThere 24 = .ok (.iconst (-1), 1) := by decide +kernel
theorem dX3_countThere_25 : decode cX3_countThere 25 = .ok (.if_icmp .eq 6, 3) := by decide +kernel
theorem dX3_countThere_28 : decode cX3_countThere 28 = .ok (.iinc 1 1, 3) := by decide +kernel
theorem dX3_countThere_31 : decode cX3_countThere 31 = .ok (.iinc 4 1, 3) := by decide +kernel
theorem dX3_countThere_34 : decode cX3_countThere 34 = .ok (.goto (-24), 3) := by decide +kernel
theorem dX3_countThere_37 : decode cX3_countThere 37 = .ok (.iload_n 1, 1) := by decide +kernel
theorem dX3_countThere_38 : decode cX3_countThere 38 = .ok (.ireturn, 1) := by decide +kernel
/-! X3_countThere ([I)I -/
abbrev rmX3_countThere : Room := { frames := 0, cells := 0, slots := 0, locals := 0 }
noncomputable def fX3_countThere_b10 (G : mm_G) (a0 : Nat) (x1 : Int32) (a2 : Nat) (x3 : Int32) (x4 : Int32) (σ : mm_M) : Option ((Int32 × mm_M) ⊕ (Int32 × Nat × Int32 × Int32 × mm_M)) := if x4 < x3 then (if x4 < 0 ∨ mm_N G a2 ≤ x4.toNatClampNeg then none else (some (.inr (if (σ.1 a2 x4.toNatClampNeg) = (-1 : Int32) then x1 else x1 + 1, a2, x3, x4 + 1, σ)))) else (some (.inl (x1, σ)))
noncomputable def fX3_countThere_b0 (G : mm_G) (a0 : Nat) (σ : mm_M) : Option ((Int32 × mm_M) ⊕ (Int32 × Nat × Int32 × Int32 × mm_M)) := some (.inr ((0 : Int32), a0, Int32.ofNat (mm_N G a0), (0 : Int32), σ))
noncomputable def fX3_countThere_s (G : mm_G) (a0 : Nat) : (Int32 × Nat × Int32 × Int32 × mm_M) → Option ((Int32 × mm_M) ⊕ (Int32 × Nat × Int32 × Int32 × mm_M)) := (fun s => fX3_countThere_b10 G a0 s.1 s.2.1 s.2.2.1 s.2.2.2.1 s.2.2.2.2)
def PX3_countThere (E : mm_E) (G : mm_G) (a0 : Nat) (q : (Int32 × mm_M)) : (Int32 × Nat × Int32 × Int32 × mm_M) → Prop := (fun s => mm_Is G 6 s.2.1 → mm_At E G 6 (mm_Qi E G q) s.2.2.2.2 10 [(1, .int s.1), (2, .ref s.2.1), (3, .int s.2.2.1), (4, .int s.2.2.2.1)] [])
noncomputable def fX3_countThere (G : mm_G) (a0 : Nat) (σ : mm_M) : Option (Int32 × mm_M) := mm_run (fX3_countThere_b0 G a0 σ) (fX3_countThere_s G a0)
set_option maxHeartbeats 4000000 in
set_option maxRecDepth 100000 in
theorem wX3_countThere_b10 {E : mm_E} {G : mm_G} (X : mm_Cx E G cX3_countThere 6 RX3 wsX3_countThere rmX3_countThere (some .int)) {a0 : Nat} {x1 : Int32} {a2 : Nat} {x3 : Int32} {x4 : Int32} {σ : mm_M} {q : (Int32 × mm_M)} (ha0 : mm_Is G 6 a0) (ha2 : mm_Is G 6 a2) {o : (Int32 × mm_M) ⊕ (Int32 × Nat × Int32 × Int32 × mm_M)} (h : fX3_countThere_b10 G a0 x1 a2 x3 x4 σ = some o) (hk : mm_Ok q (PX3_countThere E G a0 q) o) : mm_At E G 6 (mm_Qi E G q) σ 10 [(1, .int x1), (2, .ref a2), (3, .int x3), (4, .int x4)] [] := by
  unfold fX3_countThere_b10 at h
  refine at_iload (pc := 10) X 4 3 dX3_countThere_10 rfl ?_
  refine at_iload_n (pc := 12) X 3 2 dX3_countThere_12 rfl rfl ?_
  refine at_icmp_ge (pc := 13) X 37 dX3_countThere_13 (by decide) (fun c13 => ?_) (fun c13 => ?_)
  · have h := mm_neg c13 h
    refine at_iload_n (pc := 37) X 1 0 dX3_countThere_37 rfl rfl ?_
    exact at_iret (pc := 38) X (mm_inl h hk) dX3_countThere_38
  · have h := mm_pos c13 h
    refine at_aload_n (pc := 16) X 2 1 dX3_countThere_16 rfl rfl ?_
    refine at_iload (pc := 17) X 4 3 dX3_countThere_17 rfl ?_
    obtain ⟨hc19, h⟩ := mm_chk h
    refine at_iald (pc := 19) X ha2 hc19 dX3_countThere_19 ?_
    refine at_istore (pc := 20) X 5 [(5, .int (σ.1 a2 x4.toNatClampNeg)), (1, .int x1), (2, .ref a2), (3, .int x3), (4, .int x4)] dX3_countThere_20 (by decide) rfl ?_
    refine at_iload (pc := 22) X 5 0 dX3_countThere_22 rfl ?_
    refine at_iconst (pc := 24) X (-1 : Int32) dX3_countThere_24 ic_m1 ?_
    have hj25 : mm_At E G 6 (mm_Qi E G q) σ 31 [(1, .int (if (σ.1 a2 x4.toNatClampNeg) = (-1 : Int32) then x1 else x1 + 1)), (2, .ref a2), (3, .int x3), (4, .int x4)] [] := by
      refine at_iinc (pc := 31) X 4 3 (x4 + 1) [(4, .int (x4 + 1)), (1, .int (if (σ.1 a2 x4.toNatClampNeg) = (-1 : Int32) then x1 else x1 + 1)), (2, .ref a2), (3, .int x3)] dX3_countThere_31 rfl (ii_1 _) (by decide) rfl ?_
      refine at_goto (pc := 34) X 10 dX3_countThere_34 (by decide) ?_
      have h2 := mm_inr h hk; exact at_sub [1, 2, 3, 0] rfl (h2 ha2)
    refine at_icmp_eq (pc := 25) X 31 dX3_countThere_25 (by decide) (fun c25 => ?_) (fun c25 => ?_)
    · try simp only [if_pos c25] at hj25
      exact at_sub [1, 2, 3, 4] rfl hj25
    · try simp only [if_neg c25] at hj25
      refine at_iinc (pc := 28) X 1 1 (x1 + 1) [(1, .int (x1 + 1)), (5, .int (σ.1 a2 x4.toNatClampNeg)), (2, .ref a2), (3, .int x3), (4, .int x4)] dX3_countThere_28 rfl (ii_1 _) (by decide) rfl ?_
      exact at_sub [0, 2, 3, 4] rfl hj25
set_option maxHeartbeats 4000000 in
set_option maxRecDepth 100000 in
theorem wX3_countThere_b0 {E : mm_E} {G : mm_G} (X : mm_Cx E G cX3_countThere 6 RX3 wsX3_countThere rmX3_countThere (some .int)) {a0 : Nat} {σ : mm_M} {q : (Int32 × mm_M)} (ha0 : mm_Is G 6 a0) {o : (Int32 × mm_M) ⊕ (Int32 × Nat × Int32 × Int32 × mm_M)} (h : fX3_countThere_b0 G a0 σ = some o) (hk : mm_Ok q (PX3_countThere E G a0 q) o) : mm_At E G 6 (mm_Qi E G q) σ 0 [(0, .ref a0)] [] := by
  unfold fX3_countThere_b0 at h
  refine at_iconst (pc := 0) X (0 : Int32) dX3_countThere_0 ic_0 ?_
  refine at_istore_n (pc := 1) X 1 [(1, .int (0 : Int32)), (0, .ref a0)] dX3_countThere_1 rfl (by decide) rfl ?_
  refine at_aload_n (pc := 2) X 0 1 dX3_countThere_2 rfl rfl ?_
  refine at_astore_n (pc := 3) X 2 [(2, .ref a0), (1, .int (0 : Int32)), (0, .ref a0)] dX3_countThere_3 rfl (by decide) rfl ?_
  refine at_aload_n (pc := 4) X 2 0 dX3_countThere_4 rfl rfl ?_
  refine at_alen (pc := 5) X ha0 dX3_countThere_5 ?_
  refine at_istore_n (pc := 6) X 3 [(3, .int (Int32.ofNat (mm_N G a0))), (2, .ref a0), (1, .int (0 : Int32)), (0, .ref a0)] dX3_countThere_6 rfl (by decide) rfl ?_
  refine at_iconst (pc := 7) X (0 : Int32) dX3_countThere_7 ic_0 ?_
  refine at_istore (pc := 8) X 4 [(4, .int (0 : Int32)), (3, .int (Int32.ofNat (mm_N G a0))), (2, .ref a0), (1, .int (0 : Int32)), (0, .ref a0)] dX3_countThere_8 (by decide) rfl ?_
  have h2 := mm_inr h hk; exact at_sub [3, 2, 1, 0] rfl (h2 ha0)
set_option maxHeartbeats 4000000 in
set_option maxRecDepth 100000 in
theorem mX3_countThere (l : Launch) {G : mm_G} (hwf : mm_WF G) {a0 : Nat} {σ : mm_M} {q : (Int32 × mm_M)} (ha0 : mm_Is G 6 a0) (h : fX3_countThere G a0 σ = some q) : mm_Mi l yX3_countThere wsX3_countThere rmX3_countThere G [.ref a0] σ q := by
  refine mm_ofi (cc := cX3_countThere) (nL := 6) (ret := some .int) (own := RX3) (lv0 := [(0, .ref a0)]) (by decide) rfl rfl (Nat.le_of_ble_eq_true rfl) rfl hwf (fun E hE X => ?_)
  obtain ⟨o, h0, hk⟩ := mm_run_ok (P := PX3_countThere E G a0 q) h (fun s o hs hk => by intro ha2; exact wX3_countThere_b10 X ha0 ha2 hs hk)
  exact wX3_countThere_b0 X ha0 h0 hk
theorem dX3_countKept_0 : decode cX3_countKept 0 = .ok (.iconst 0, 1) := by decide +kernel
theorem dX3_countKept_1 : decode cX3_countKept 1 = .ok (.istore_n 1, 1) := by decide +kernel
theorem dX3_countKept_2 : decode cX3_countKept 2 = .ok (.iconst 0, 1) := by decide +kernel
theorem dX3_countKept_3 : decode cX3_countKept 3 = .ok (.istore_n 2, 1) := by decide +kernel
theorem dX3_countKept_4 : decode cX3_countKept 4 = .ok (.iload_n 2, 1) := by decide +kernel
theorem dX3_countKept_5 : decode cX3_countKept 5 = .ok (.iconst 3, 1) := by decide +kernel
theorem dX3_countKept_6 : decode cX3_countKept 6 = .ok (.if_icmp .ge 25, 3) := by decide +kernel
theorem dX3_countKept_9 : decode cX3_countKept 9 = .ok (.aload_n 0, 1) := by decide +kernel
theorem dX3_countKept_10 : decode cX3_countKept 10 = .ok (.getfield 43, 3) := by decide +kernel
theorem dX3_countKept_13 : decode cX3_countKept 13 = .ok (.iload_n 2, 1) := by decide +kernel
theorem dX3_countKept_14 : decode cX3_countKept 14 = .ok (.aaload, 1) := by decide +kernel
theorem dX3_countKept_15 : decode cX3_countKept 15 = .ok (.getfield 76, 3) := by decide +kernel
theorem dX3_countKept_18 : decode cX3_countKept 18 = .ok (.iconst (-1), 1) := by decide +kernel
theorem dX3_countKept_19 : decode cX3_countKept 19 = .ok (.if_icmp .eq 6, 3) := by decide +kernel
theorem dX3_countKept_22 : decode cX3_countKept 22 = .ok (.iinc 1 1, 3) := by decide +kernel
theorem dX3_countKept_25 : decode cX3_countKept 25 = .ok (.iinc 2 1, 3) := by decide +kernel
theorem dX3_countKept_28 : decode cX3_countKept 28 = .ok (.goto (-24), 3) := by decide +kernel
theorem dX3_countKept_31 : decode cX3_countKept 31 = .ok (.iload_n 1, 1) := by decide +kernel
theorem dX3_countKept_32 : decode cX3_countKept 32 = .ok (.ireturn, 1) := by decide +kernel
/-! X3_countKept ()I -/
abbrev rmX3_countKept : Room := { frames := 0, cells := 0, slots := 0, locals := 0 }
theorem lkX3_countKept_0 : Cond.fieldLink RX3 43 (TX3 7).1 (TX3 7).2.1 (TX3 7).2.2.1 ∈ wsX3_countKept := by decide +kernel
theorem lkX3_countKept_1 : Cond.fieldLink RX3 76 (TX1 1).1 (TX1 1).2.1 (TX1 1).2.2.1 ∈ wsX3_countKept := by decide +kernel
theorem inX3_countKept_X3 : ∀ w ∈ u_ws RX3 TX3 17, w ∈ wsX3_countKept := by decide +kernel
theorem inX3_countKept_X1 : ∀ w ∈ u_ws RX1 TX1 2, w ∈ wsX3_countKept := by decide +kernel
noncomputable def fX3_countKept_b4 (G : mm_G) (a0 : Nat) (x1 : Int32) (x2 : Int32) (σ : mm_M) : Option ((Int32 × mm_M) ⊕ (Int32 × Int32 × mm_M)) := if x2 < (3 : Int32) then (if x2 < 0 ∨ mm_N G (mm_R G a0 7) ≤ x2.toNatClampNeg then none else (some (.inr (if (σ.1 (mm_R G (mm_R G a0 7) x2.toNatClampNeg) 1) = (-1 : Int32) then x1 else x1 + 1, x2 + 1, σ)))) else (some (.inl (x1, σ)))
noncomputable def fX3_countKept_b0 (G : mm_G) (a0 : Nat) (σ : mm_M) : Option ((Int32 × mm_M) ⊕ (Int32 × Int32 × mm_M)) := some (.inr ((0 : Int32), (0 : Int32), σ))
noncomputable def fX3_countKept_s (G : mm_G) (a0 : Nat) : (Int32 × Int32 × mm_M) → Option ((Int32 × mm_M) ⊕ (Int32 × Int32 × mm_M)) := (fun s => fX3_countKept_b4 G a0 s.1 s.2.1 s.2.2)
def PX3_countKept (E : mm_E) (G : mm_G) (a0 : Nat) (q : (Int32 × mm_M)) : (Int32 × Int32 × mm_M) → Prop := (fun s => mm_At E G 3 (mm_Qi E G q) s.2.2 4 [(0, .ref a0), (1, .int s.1), (2, .int s.2.1)] [])
noncomputable def fX3_countKept (G : mm_G) (a0 : Nat) (σ : mm_M) : Option (Int32 × mm_M) := mm_run (fX3_countKept_b0 G a0 σ) (fX3_countKept_s G a0)
set_option maxHeartbeats 4000000 in
set_option maxRecDepth 100000 in
theorem wX3_countKept_b4 {E : mm_E} {G : mm_G} (X : mm_Cx E G cX3_countKept 3 RX3 wsX3_countKept rmX3_countKept (some .int)) {a0 : Nat} {x1 : Int32} {x2 : Int32} {σ : mm_M} {q : (Int32 × mm_M)} (ha0 : mm_Is G 3 a0) {o : (Int32 × mm_M) ⊕ (Int32 × Int32 × mm_M)} (h : fX3_countKept_b4 G a0 x1 x2 σ = some o) (hk : mm_Ok q (PX3_countKept E G a0 q) o) : mm_At E G 3 (mm_Qi E G q) σ 4 [(0, .ref a0), (1, .int x1), (2, .int x2)] [] := by
  unfold fX3_countKept_b4 at h
  refine at_iload_n (pc := 4) X 2 2 dX3_countKept_4 rfl rfl ?_
  refine at_iconst (pc := 5) X (3 : Int32) dX3_countKept_5 ic_3 ?_
  refine at_icmp_ge (pc := 6) X 31 dX3_countKept_6 (by decide) (fun c6 => ?_) (fun c6 => ?_)
  · have h := mm_neg c6 h
    refine at_iload_n (pc := 31) X 1 1 dX3_countKept_31 rfl rfl ?_
    exact at_iret (pc := 32) X (mm_inl h hk) dX3_countKept_32
  · have h := mm_pos c6 h
    refine at_aload_n (pc := 9) X 0 0 dX3_countKept_9 rfl rfl ?_
    refine at_get (pc := 10) X 3 7 (.ref (mm_R G a0 7)) ha0 (by decide) rfl inX3_countKept_X3 (by decide) lkX3_countKept_0 rfl dX3_countKept_10 ?_
    refine at_iload_n (pc := 13) X 2 2 dX3_countKept_13 rfl rfl ?_
    obtain ⟨hc14, h⟩ := mm_chk h
    refine at_aald (pc := 14) X 7 2 (wf_3_7 X.wf ha0) (by decide) (by decide) rfl rfl hc14 dX3_countKept_14 ?_
    refine at_get (pc := 15) X 1 1 (.int (σ.1 (mm_R G (mm_R G a0 7) x2.toNatClampNeg) 1)) (wf_7 X.wf (wf_3_7 X.wf ha0) hc14) (by decide) rfl inX3_countKept_X1 (by decide) lkX3_countKept_1 rfl dX3_countKept_15 ?_
    refine at_iconst (pc := 18) X (-1 : Int32) dX3_countKept_18 ic_m1 ?_
    have hj19 : mm_At E G 3 (mm_Qi E G q) σ 25 [(0, .ref a0), (1, .int (if (σ.1 (mm_R G (mm_R G a0 7) x2.toNatClampNeg) 1) = (-1 : Int32) then x1 else x1 + 1)), (2, .int x2)] [] := by
      refine at_iinc (pc := 25) X 2 2 (x2 + 1) [(2, .int (x2 + 1)), (0, .ref a0), (1, .int (if (σ.1 (mm_R G (mm_R G a0 7) x2.toNatClampNeg) 1) = (-1 : Int32) then x1 else x1 + 1))] dX3_countKept_25 rfl (ii_1 _) (by decide) rfl ?_
      refine at_goto (pc := 28) X 4 dX3_countKept_28 (by decide) ?_
      have h2 := mm_inr h hk; exact at_sub [1, 2, 0] rfl h2
    refine at_icmp_eq (pc := 19) X 25 dX3_countKept_19 (by decide) (fun c19 => ?_) (fun c19 => ?_)
    · try simp only [if_pos c19] at hj19
      exact at_sub [0, 1, 2] rfl hj19
    · try simp only [if_neg c19] at hj19
      refine at_iinc (pc := 22) X 1 1 (x1 + 1) [(1, .int (x1 + 1)), (0, .ref a0), (2, .int x2)] dX3_countKept_22 rfl (ii_1 _) (by decide) rfl ?_
      exact at_sub [1, 0, 2] rfl hj19
set_option maxHeartbeats 4000000 in
set_option maxRecDepth 100000 in
theorem wX3_countKept_b0 {E : mm_E} {G : mm_G} (X : mm_Cx E G cX3_countKept 3 RX3 wsX3_countKept rmX3_countKept (some .int)) {a0 : Nat} {σ : mm_M} {q : (Int32 × mm_M)} (ha0 : mm_Is G 3 a0) {o : (Int32 × mm_M) ⊕ (Int32 × Int32 × mm_M)} (h : fX3_countKept_b0 G a0 σ = some o) (hk : mm_Ok q (PX3_countKept E G a0 q) o) : mm_At E G 3 (mm_Qi E G q) σ 0 [(0, .ref a0)] [] := by
  unfold fX3_countKept_b0 at h
  refine at_iconst (pc := 0) X (0 : Int32) dX3_countKept_0 ic_0 ?_
  refine at_istore_n (pc := 1) X 1 [(1, .int (0 : Int32)), (0, .ref a0)] dX3_countKept_1 rfl (by decide) rfl ?_
  refine at_iconst (pc := 2) X (0 : Int32) dX3_countKept_2 ic_0 ?_
  refine at_istore_n (pc := 3) X 2 [(2, .int (0 : Int32)), (1, .int (0 : Int32)), (0, .ref a0)] dX3_countKept_3 rfl (by decide) rfl ?_
  have h2 := mm_inr h hk; exact at_sub [2, 1, 0] rfl h2
set_option maxHeartbeats 4000000 in
set_option maxRecDepth 100000 in
theorem mX3_countKept (l : Launch) {G : mm_G} (hwf : mm_WF G) {a0 : Nat} {σ : mm_M} {q : (Int32 × mm_M)} (ha0 : mm_Is G 3 a0) (h : fX3_countKept G a0 σ = some q) : mm_Mi l yX3_countKept wsX3_countKept rmX3_countKept G [.ref a0] σ q := by
  refine mm_ofi (cc := cX3_countKept) (nL := 3) (ret := some .int) (own := RX3) (lv0 := [(0, .ref a0)]) (by decide) rfl rfl (Nat.le_of_ble_eq_true rfl) rfl hwf (fun E hE X => ?_)
  obtain ⟨o, h0, hk⟩ := mm_run_ok (P := PX3_countKept E G a0 q) h (fun s o hs hk => by exact wX3_countKept_b4 X ha0 hs hk)
  exact wX3_countKept_b0 X ha0 h0 hk
set_option maxRecDepth 20000 in
theorem ggX3_counted_X0_lettersBut : GoodIn wsX3_counted wsX0_lettersBut := goodIn_r _ [15, 16, 17, 18, 55, 56, 57, 58, 59, 60, 63, 64, 65, 66, 67, 68] (by decide +kernel) (by decide +kernel)
set_option maxRecDepth 20000 in
theorem gX3_counted_X0_lettersBut : GoodIn wsX3_counted (wsV RX3 242 RX0 yX0_lettersBut wsX0_lettersBut) := goodIn_app (goodIn_of _ (by decide +kernel)) ggX3_counted_X0_lettersBut
set_option maxRecDepth 20000 in
theorem ggX3_counted_X3_countThere : GoodIn wsX3_counted wsX3_countThere := goodIn_r _ [22] (by decide +kernel) (by decide +kernel)
set_option maxRecDepth 20000 in
theorem gX3_counted_X3_countThere : GoodIn wsX3_counted (va_wsS RX3 264 yX3_countThere wsX3_countThere) := goodIn_app (goodIn_of _ (by decide +kernel)) ggX3_counted_X3_countThere
set_option maxRecDepth 20000 in
theorem ggX3_counted_X3_countKept : GoodIn wsX3_counted wsX3_countKept := goodIn_r _ [26, 27, 5, 38, 39, 40, 41, 42, 43, 44, 45, 46, 47, 48, 49, 50, 51, 52, 53, 54, 61, 62] (by decide +kernel) (by decide +kernel)
set_option maxRecDepth 20000 in
theorem gX3_counted_X3_countKept : GoodIn wsX3_counted (wsV RX3 268 RX3 yX3_countKept wsX3_countKept) := goodIn_app (goodIn_of _ (by decide +kernel)) ggX3_counted_X3_countKept
set_option maxRecDepth 20000 in
theorem ggX3_counted_X0_countOf : GoodIn wsX3_counted wsX0_countOf := goodIn_r _ [31, 16, 17, 32, 33, 34, 35, 36, 37, 55, 56, 57, 58, 59, 60, 63, 64, 65, 66, 67, 68] (by decide +kernel) (by decide +kernel)
set_option maxRecDepth 20000 in
theorem gX3_counted_X0_countOf : GoodIn wsX3_counted (wsV RX3 271 RX0 yX0_countOf wsX0_countOf) := goodIn_app (goodIn_of _ (by decide +kernel)) ggX3_counted_X0_countOf
theorem dX3_counted_0 : decode cX3_counted 0 = .ok (.iload_n 1, 1) := by decide +kernel
theorem dX3_counted_1 : decode cX3_counted 1 = .ok (.tableswitch 154 0 10 #[59, 67, 75, 83, 92, 100, 108, 124, 132, 140, 145], 59) := by decide +kernel
theorem dX3_counted_60 : decode cX3_counted 60 = .ok (.aload_n 0, 1) := by decide +kernel
theorem dX3_counted_61 : decode cX3_counted 61 = .ok (.getfield 33, 3) := by decide +kernel
theorem dX3_counted_64 : decode cX3_counted 64 = .ok (.getfield 112, 3) := by decide +kernel
theorem dX3_counted_67 : decode cX3_counted 67 = .ok (.ireturn, 1) := by decide +kernel
theorem dX3_counted_68 : decode cX3_counted 68 = .ok (.aload_n 0, 1) := by decide +kernel
theorem dX3_counted_69 : decode cX3_counted 69 = .ok (.getfield 33, 3) := by decide +kernel
theorem dX3_counted_72 : decode cX3_counted 72 = .ok (.getfield 133, 3) := by decide +kernel
theorem dX3_counted_75 : decode cX3_counted 75 = .ok (.ireturn, 1) := by decide +kernel
theorem dX3_counted_76 : decode cX3_counted 76 = .ok (.aload_n 0, 1) := by decide +kernel
theorem dX3_counted_77 : decode cX3_counted 77 = .ok (.getfield 39, 3) := by decide +kernel
theorem dX3_counted_80 : decode cX3_counted 80 = .ok (.getfield 76, 3) := by decide +kernel
theorem dX3_counted_83 : decode cX3_counted 83 = .ok (.ireturn, 1) := by decide +kernel
theorem dX3_counted_84 : decode cX3_counted 84 = .ok (.aload_n 0, 1) := by decide +kernel
theorem dX3_counted_85 : decode cX3_counted 85 = .ok (.getfield 33, 3) := by decide +kernel
theorem dX3_counted_88 : decode cX3_counted 88 = .ok (.iconst 0, 1) := by decide +kernel
theorem dX3_counted_89 : decode cX3_counted 89 = .ok (.invokevirtual 242, 3) := by decide +kernel
theorem dX3_counted_92 : decode cX3_counted 92 = .ok (.ireturn, 1) := by decide +kernel
theorem dX3_counted_93 : decode cX3_counted 93 = .ok (.aload_n 0, 1) := by decide +kernel
theorem dX3_counted_94 : decode cX3_counted 94 = .ok (.getfield 33, 3) := by decide +kernel
theorem dX3_counted_97 : decode cX3_counted 97 = .ok (.getfield 223, 3) := by decide +kernel
theorem dX3_counted_100 : decode cX3_counted 100 = .ok (.ireturn, 1) := by decide +kernel
theorem dX3_counted_101 : decode cX3_counted 101 = .ok (.aload_n 0, 1) := by decide +kernel
theorem dX3_counted_102 : decode cX3_counted 102 = .ok (.getfield 33, 3) := by decide +kernel
theorem dX3_counted_105 : decode cX3_counted 105 = .ok (.getfield 180, 3) := by decide +kernel
theorem dX3_counted_108 : decode cX3_counted 108 = .ok (.ireturn, 1) := by decide +kernel
theorem dX3_counted_109 : decode cX3_counted 109 = .ok (.aload_n 0, 1) := by decide +kernel
theorem dX3_counted_110 : decode cX3_counted 110 = .ok (.getfield 33, 3) := by decide +kernel
theorem dX3_counted_113 : decode cX3_counted 113 = .ok (.getfield 120, 3) := by decide +kernel
theorem dX3_counted_116 : decode cX3_counted 116 = .ok (.ifCond .eq 7, 3) := by decide +kernel
theorem dX3_counted_119 : decode cX3_counted 119 = .ok (.iconst 1, 1) := by decide +kernel
theorem dX3_counted_120 : decode cX3_counted 120 = .ok (.goto 4, 3) := by decide +kernel
theorem dX3_counted_123 : decode cX3_counted 123 = .ok (.iconst 0, 1) := by decide +kernel
theorem dX3_counted_124 : decode cX3_counted 124 = .ok (.ireturn, 1) := by decide +kernel
theorem dX3_counted_125 : decode cX3_counted 125 = .ok (.aload_n 0, 1) := by decide +kernel
theorem dX3_counted_126 : decode cX3_counted 126 = .ok (.getfield 14, 3) := by decide +kernel
theorem dX3_counted_129 : decode cX3_counted 129 = .ok (.invokestatic 264, 3) := by decide +kernel
theorem dX3_counted_132 : decode cX3_counted 132 = .ok (.ireturn, 1) := by decide +kernel
theorem dX3_counted_133 : decode cX3_counted 133 = .ok (.aload_n 0, 1) := by decide +kernel
theorem dX3_counted_134 : decode cX3_counted 134 = .ok (.getfield 23, 3) := by decide +kernel
theorem dX3_counted_137 : decode cX3_counted 137 = .ok (.invokestatic 264, 3) := by decide +kernel
theorem dX3_counted_140 : decode cX3_counted 140 = .ok (.ireturn, 1) := by decide +kernel
theorem dX3_counted_141 : decode cX3_counted 141 = .ok (.aload_n 0, 1) := by decide +kernel
theorem dX3_counted_142 : decode cX3_counted 142 = .ok (.invokevirtual 268, 3) := by decide +kernel
theorem dX3_counted_145 : decode cX3_counted 145 = .ok (.ireturn, 1) := by decide +kernel
theorem dX3_counted_146 : decode cX3_counted 146 = .ok (.aload_n 0, 1) := by decide +kernel
theorem dX3_counted_147 : decode cX3_counted 147 = .ok (.getfield 33, 3) := by decide +kernel
theorem dX3_counted_150 : decode cX3_counted 150 = .ok (.iconst 1, 1) := by decide +kernel
theorem dX3_counted_151 : decode cX3_counted 151 = .ok (.invokevirtual 271, 3) := by decide +kernel
theorem dX3_counted_154 : decode cX3_counted 154 = .ok (.ireturn, 1) := by decide +kernel
theorem dX3_counted_155 : decode cX3_counted 155 = .ok (.aload_n 0, 1) := by decide +kernel
theorem dX3_counted_156 : decode cX3_counted 156 = .ok (.getfield 33, 3) := by decide +kernel
theorem dX3_counted_159 : decode cX3_counted 159 = .ok (.iconst 2, 1) := by decide +kernel
theorem dX3_counted_160 : decode cX3_counted 160 = .ok (.invokevirtual 271, 3) := by decide +kernel
theorem dX3_counted_163 : decode cX3_counted 163 = .ok (.ireturn, 1) := by decide +kernel
/-! X3_counted (I)I -/
abbrev rmX3_counted : Room := { frames := 2, cells := 0, slots := 0, locals := 44 }
theorem lkX3_counted_0 : Cond.fieldLink RX3 33 (TX3 5).1 (TX3 5).2.1 (TX3 5).2.2.1 ∈ wsX3_counted := by decide +kernel
theorem lkX3_counted_1 : Cond.fieldLink RX3 112 (TX0 1).1 (TX0 1).2.1 (TX0 1).2.2.1 ∈ wsX3_counted := by decide +kernel
theorem lkX3_counted_2 : Cond.fieldLink RX3 133 (TX0 2).1 (TX0 2).2.1 (TX0 2).2.2.1 ∈ wsX3_counted := by decide +kernel
theorem lkX3_counted_3 : Cond.fieldLink RX3 39 (TX3 6).1 (TX3 6).2.1 (TX3 6).2.2.1 ∈ wsX3_counted := by decide +kernel
theorem lkX3_counted_4 : Cond.fieldLink RX3 76 (TX1 1).1 (TX1 1).2.1 (TX1 1).2.2.1 ∈ wsX3_counted := by decide +kernel
theorem lkX3_counted_5 : Cond.fieldLink RX3 223 (TX0 3).1 (TX0 3).2.1 (TX0 3).2.2.1 ∈ wsX3_counted := by decide +kernel
theorem lkX3_counted_6 : Cond.fieldLink RX3 180 (TX0 4).1 (TX0 4).2.1 (TX0 4).2.2.1 ∈ wsX3_counted := by decide +kernel
theorem lkX3_counted_7 : Cond.fieldLink RX3 120 (TX0 5).1 (TX0 5).2.1 (TX0 5).2.2.1 ∈ wsX3_counted := by decide +kernel
theorem lkX3_counted_8 : Cond.fieldLink RX3 14 (TX3 1).1 (TX3 1).2.1 (TX3 1).2.2.1 ∈ wsX3_counted := by decide +kernel
theorem lkX3_counted_9 : Cond.fieldLink RX3 23 (TX3 3).1 (TX3 3).2.1 (TX3 3).2.2.1 ∈ wsX3_counted := by decide +kernel
theorem inX3_counted_X3 : ∀ w ∈ u_ws RX3 TX3 17, w ∈ wsX3_counted := by decide +kernel
theorem inX3_counted_X0 : ∀ w ∈ u_ws RX0 TX0 6, w ∈ wsX3_counted := by decide +kernel
theorem inX3_counted_X1 : ∀ w ∈ u_ws RX1 TX1 2, w ∈ wsX3_counted := by decide +kernel
noncomputable def fX3_counted (G : mm_G) (a0 : Nat) (x1 : Int32) (σ : mm_M) : Option (Int32 × mm_M) := if x1 = 0 then (some (σ.1 (mm_R G a0 5) 1, σ)) else (if x1 = 1 then (some (σ.1 (mm_R G a0 5) 2, σ)) else (if x1 = 2 then (some (σ.1 (mm_R G a0 6) 1, σ)) else (if x1 = 3 then ((fX0_lettersBut G (mm_R G a0 5) (0 : Int32) σ).bind (fun q89 => some (q89.1, q89.2))) else (if x1 = 4 then (some (σ.1 (mm_R G a0 5) 3, σ)) else (if x1 = 5 then (some (σ.1 (mm_R G a0 5) 4, σ)) else (if x1 = 6 then (some (if (σ.1 (mm_R G a0 5) 5) = 0 then (0 : Int32) else (1 : Int32), σ)) else (if x1 = 7 then ((fX3_countThere G (mm_R G a0 1) σ).bind (fun q129 => some (q129.1, q129.2))) else (if x1 = 8 then ((fX3_countThere G (mm_R G a0 3) σ).bind (fun q137 => some (q137.1, q137.2))) else (if x1 = 9 then ((fX3_countKept G a0 σ).bind (fun q142 => some (q142.1, q142.2))) else (if x1 = 10 then ((fX0_countOf G (mm_R G a0 5) (1 : Int32) σ).bind (fun q151 => some (q151.1, q151.2))) else ((fX0_countOf G (mm_R G a0 5) (2 : Int32) σ).bind (fun q160 => some (q160.1, q160.2)))))))))))))
set_option maxHeartbeats 4000000 in
set_option maxRecDepth 100000 in
theorem wX3_counted_b0 {E : mm_E} {G : mm_G} (X : mm_Cx E G cX3_counted 2 RX3 wsX3_counted rmX3_counted (some .int)) {a0 : Nat} {x1 : Int32} {σ : mm_M} {q : (Int32 × mm_M)} (ha0 : mm_Is G 3 a0) (h : fX3_counted G a0 x1 σ = some q) : mm_At E G 2 (mm_Qi E G q) σ 0 [(0, .ref a0), (1, .int x1)] [] := by
  unfold fX3_counted at h
  refine at_iload_n (pc := 0) X 1 1 dX3_counted_0 rfl rfl ?_
  by_cases c1_0 : x1 = 0
  · have h := mm_pos c1_0 h
    refine at_swIn (pc := 1) X 60 dX3_counted_1 (by rw [c1_0]; decide) (by rw [c1_0]; decide) (by rw [c1_0]; rfl) (by decide) ?_
    refine at_aload_n (pc := 60) X 0 0 dX3_counted_60 rfl rfl ?_
    refine at_get (pc := 61) X 3 5 (.ref (mm_R G a0 5)) ha0 (by decide) rfl inX3_counted_X3 (by decide) lkX3_counted_0 rfl dX3_counted_61 ?_
    refine at_get (pc := 64) X 0 1 (.int (σ.1 (mm_R G a0 5) 1)) (wf_3_5 X.wf ha0) (by decide) rfl inX3_counted_X0 (by decide) lkX3_counted_1 rfl dX3_counted_64 ?_
    exact at_iret (pc := 67) X (Option.some.inj h) dX3_counted_67
  · have h := mm_neg c1_0 h
    by_cases c1_1 : x1 = 1
    · have h := mm_pos c1_1 h
      refine at_swIn (pc := 1) X 68 dX3_counted_1 (by rw [c1_1]; decide) (by rw [c1_1]; decide) (by rw [c1_1]; rfl) (by decide) ?_
      refine at_aload_n (pc := 68) X 0 0 dX3_counted_68 rfl rfl ?_
      refine at_get (pc := 69) X 3 5 (.ref (mm_R G a0 5)) ha0 (by decide) rfl inX3_counted_X3 (by decide) lkX3_counted_0 rfl dX3_counted_69 ?_
      refine at_get (pc := 72) X 0 2 (.int (σ.1 (mm_R G a0 5) 2)) (wf_3_5 X.wf ha0) (by decide) rfl inX3_counted_X0 (by decide) lkX3_counted_2 rfl dX3_counted_72 ?_
      exact at_iret (pc := 75) X (Option.some.inj h) dX3_counted_75
    · have h := mm_neg c1_1 h
      by_cases c1_2 : x1 = 2
      · have h := mm_pos c1_2 h
        refine at_swIn (pc := 1) X 76 dX3_counted_1 (by rw [c1_2]; decide) (by rw [c1_2]; decide) (by rw [c1_2]; rfl) (by decide) ?_
        refine at_aload_n (pc := 76) X 0 0 dX3_counted_76 rfl rfl ?_
        refine at_get (pc := 77) X 3 6 (.ref (mm_R G a0 6)) ha0 (by decide) rfl inX3_counted_X3 (by decide) lkX3_counted_3 rfl dX3_counted_77 ?_
        refine at_get (pc := 80) X 1 1 (.int (σ.1 (mm_R G a0 6) 1)) (wf_3_6 X.wf ha0) (by decide) rfl inX3_counted_X1 (by decide) lkX3_counted_4 rfl dX3_counted_80 ?_
        exact at_iret (pc := 83) X (Option.some.inj h) dX3_counted_83
      · have h := mm_neg c1_2 h
        by_cases c1_3 : x1 = 3
        · have h := mm_pos c1_3 h
          refine at_swIn (pc := 1) X 84 dX3_counted_1 (by rw [c1_3]; decide) (by rw [c1_3]; decide) (by rw [c1_3]; rfl) (by decide) ?_
          refine at_aload_n (pc := 84) X 0 0 dX3_counted_84 rfl rfl ?_
          refine at_get (pc := 85) X 3 5 (.ref (mm_R G a0 5)) ha0 (by decide) rfl inX3_counted_X3 (by decide) lkX3_counted_0 rfl dX3_counted_85 ?_
          refine at_iconst (pc := 88) X (0 : Int32) dX3_counted_88 ic_0 ?_
          obtain ⟨q89, hq89, h⟩ := mm_bind h
          refine at_calli (n := 1) (pc := 89) X 0 [.int (0 : Int32)] [] (mX0_lettersBut (eL E) X.wf (wf_3_5 X.wf ha0) hq89) gX3_counted_X0_lettersBut rfl ⟨rfl, rfl⟩ (by decide +kernel) ⟨by decide, by decide⟩ (by decide) rfl (wf_3_5 X.wf ha0) rfl rfl (Nat.le_of_ble_eq_true rfl) dX3_counted_89 ?_
          exact at_iret (pc := 92) X (Option.some.inj h) dX3_counted_92
        · have h := mm_neg c1_3 h
          by_cases c1_4 : x1 = 4
          · have h := mm_pos c1_4 h
            refine at_swIn (pc := 1) X 93 dX3_counted_1 (by rw [c1_4]; decide) (by rw [c1_4]; decide) (by rw [c1_4]; rfl) (by decide) ?_
            refine at_aload_n (pc := 93) X 0 0 dX3_counted_93 rfl rfl ?_
            refine at_get (pc := 94) X 3 5 (.ref (mm_R G a0 5)) ha0 (by decide) rfl inX3_counted_X3 (by decide) lkX3_counted_0 rfl dX3_counted_94 ?_
            refine at_get (pc := 97) X 0 3 (.int (σ.1 (mm_R G a0 5) 3)) (wf_3_5 X.wf ha0) (by decide) rfl inX3_counted_X0 (by decide) lkX3_counted_5 rfl dX3_counted_97 ?_
            exact at_iret (pc := 100) X (Option.some.inj h) dX3_counted_100
          · have h := mm_neg c1_4 h
            by_cases c1_5 : x1 = 5
            · have h := mm_pos c1_5 h
              refine at_swIn (pc := 1) X 101 dX3_counted_1 (by rw [c1_5]; decide) (by rw [c1_5]; decide) (by rw [c1_5]; rfl) (by decide) ?_
              refine at_aload_n (pc := 101) X 0 0 dX3_counted_101 rfl rfl ?_
              refine at_get (pc := 102) X 3 5 (.ref (mm_R G a0 5)) ha0 (by decide) rfl inX3_counted_X3 (by decide) lkX3_counted_0 rfl dX3_counted_102 ?_
              refine at_get (pc := 105) X 0 4 (.int (σ.1 (mm_R G a0 5) 4)) (wf_3_5 X.wf ha0) (by decide) rfl inX3_counted_X0 (by decide) lkX3_counted_6 rfl dX3_counted_105 ?_
              exact at_iret (pc := 108) X (Option.some.inj h) dX3_counted_108
            · have h := mm_neg c1_5 h
              by_cases c1_6 : x1 = 6
              · have h := mm_pos c1_6 h
                refine at_swIn (pc := 1) X 109 dX3_counted_1 (by rw [c1_6]; decide) (by rw [c1_6]; decide) (by rw [c1_6]; rfl) (by decide) ?_
                refine at_aload_n (pc := 109) X 0 0 dX3_counted_109 rfl rfl ?_
                refine at_get (pc := 110) X 3 5 (.ref (mm_R G a0 5)) ha0 (by decide) rfl inX3_counted_X3 (by decide) lkX3_counted_0 rfl dX3_counted_110 ?_
                refine at_get (pc := 113) X 0 5 (.int (σ.1 (mm_R G a0 5) 5)) (wf_3_5 X.wf ha0) (by decide) rfl inX3_counted_X0 (by decide) lkX3_counted_7 rfl dX3_counted_113 ?_
                have hj116 : mm_At E G 2 (mm_Qi E G q) σ 124 [] [.int (if (σ.1 (mm_R G a0 5) 5) = 0 then (0 : Int32) else (1 : Int32))] := by
                  exact at_iret (pc := 124) X (Option.some.inj h) dX3_counted_124
                refine at_if_eq (pc := 116) X 123 dX3_counted_116 (by decide) (fun c116 => ?_) (fun c116 => ?_)
                · try simp only [if_pos c116] at hj116
                  refine at_iconst (pc := 123) X (0 : Int32) dX3_counted_123 ic_0 ?_
                  exact at_sub [] rfl hj116
                · try simp only [if_neg c116] at hj116
                  refine at_iconst (pc := 119) X (1 : Int32) dX3_counted_119 ic_1 ?_
                  refine at_goto (pc := 120) X 124 dX3_counted_120 (by decide) ?_
                  exact at_sub [] rfl hj116
              · have h := mm_neg c1_6 h
                by_cases c1_7 : x1 = 7
                · have h := mm_pos c1_7 h
                  refine at_swIn (pc := 1) X 125 dX3_counted_1 (by rw [c1_7]; decide) (by rw [c1_7]; decide) (by rw [c1_7]; rfl) (by decide) ?_
                  refine at_aload_n (pc := 125) X 0 0 dX3_counted_125 rfl rfl ?_
                  refine at_get (pc := 126) X 3 1 (.ref (mm_R G a0 1)) ha0 (by decide) rfl inX3_counted_X3 (by decide) lkX3_counted_8 rfl dX3_counted_126 ?_
                  obtain ⟨q129, hq129, h⟩ := mm_bind h
                  refine at_scalli (n := 1) (pc := 129) X [.ref (mm_R G a0 1)] [] (mX3_countThere (eL E) X.wf (wf_3_1 X.wf ha0) hq129) gX3_counted_X3_countThere rfl ⟨rfl, rfl⟩ (by decide +kernel) ⟨by decide, by decide⟩ rfl rfl (Nat.le_of_ble_eq_true rfl) dX3_counted_129 ?_
                  exact at_iret (pc := 132) X (Option.some.inj h) dX3_counted_132
                · have h := mm_neg c1_7 h
                  by_cases c1_8 : x1 = 8
                  · have h := mm_pos c1_8 h
                    refine at_swIn (pc := 1) X 133 dX3_counted_1 (by rw [c1_8]; decide) (by rw [c1_8]; decide) (by rw [c1_8]; rfl) (by decide) ?_
                    refine at_aload_n (pc := 133) X 0 0 dX3_counted_133 rfl rfl ?_
                    refine at_get (pc := 134) X 3 3 (.ref (mm_R G a0 3)) ha0 (by decide) rfl inX3_counted_X3 (by decide) lkX3_counted_9 rfl dX3_counted_134 ?_
                    obtain ⟨q137, hq137, h⟩ := mm_bind h
                    refine at_scalli (n := 1) (pc := 137) X [.ref (mm_R G a0 3)] [] (mX3_countThere (eL E) X.wf (wf_3_3 X.wf ha0) hq137) gX3_counted_X3_countThere rfl ⟨rfl, rfl⟩ (by decide +kernel) ⟨by decide, by decide⟩ rfl rfl (Nat.le_of_ble_eq_true rfl) dX3_counted_137 ?_
                    exact at_iret (pc := 140) X (Option.some.inj h) dX3_counted_140
                  · have h := mm_neg c1_8 h
                    by_cases c1_9 : x1 = 9
                    · have h := mm_pos c1_9 h
                      refine at_swIn (pc := 1) X 141 dX3_counted_1 (by rw [c1_9]; decide) (by rw [c1_9]; decide) (by rw [c1_9]; rfl) (by decide) ?_
                      refine at_aload_n (pc := 141) X 0 0 dX3_counted_141 rfl rfl ?_
                      obtain ⟨q142, hq142, h⟩ := mm_bind h
                      refine at_calli (n := 0) (pc := 142) X 3 [] [] (mX3_countKept (eL E) X.wf ha0 hq142) gX3_counted_X3_countKept rfl ⟨rfl, rfl⟩ (by decide +kernel) ⟨by decide, by decide⟩ (by decide) rfl ha0 rfl rfl (Nat.le_of_ble_eq_true rfl) dX3_counted_142 ?_
                      exact at_iret (pc := 145) X (Option.some.inj h) dX3_counted_145
                    · have h := mm_neg c1_9 h
                      by_cases c1_10 : x1 = 10
                      · have h := mm_pos c1_10 h
                        refine at_swIn (pc := 1) X 146 dX3_counted_1 (by rw [c1_10]; decide) (by rw [c1_10]; decide) (by rw [c1_10]; rfl) (by decide) ?_
                        refine at_aload_n (pc := 146) X 0 0 dX3_counted_146 rfl rfl ?_
                        refine at_get (pc := 147) X 3 5 (.ref (mm_R G a0 5)) ha0 (by decide) rfl inX3_counted_X3 (by decide) lkX3_counted_0 rfl dX3_counted_147 ?_
                        refine at_iconst (pc := 150) X (1 : Int32) dX3_counted_150 ic_1 ?_
                        obtain ⟨q151, hq151, h⟩ := mm_bind h
                        refine at_calli (n := 1) (pc := 151) X 0 [.int (1 : Int32)] [] (mX0_countOf (eL E) X.wf (wf_3_5 X.wf ha0) hq151) gX3_counted_X0_countOf rfl ⟨rfl, rfl⟩ (by decide +kernel) ⟨by decide, by decide⟩ (by decide) rfl (wf_3_5 X.wf ha0) rfl rfl (Nat.le_of_ble_eq_true rfl) dX3_counted_151 ?_
                        exact at_iret (pc := 154) X (Option.some.inj h) dX3_counted_154
                      · have h := mm_neg c1_10 h
                        refine at_swOut (pc := 1) X 155 dX3_counted_1 (sw_0_10 c1_0 c1_1 c1_2 c1_3 c1_4 c1_5 c1_6 c1_7 c1_8 c1_9 c1_10) (by decide) ?_
                        refine at_aload_n (pc := 155) X 0 0 dX3_counted_155 rfl rfl ?_
                        refine at_get (pc := 156) X 3 5 (.ref (mm_R G a0 5)) ha0 (by decide) rfl inX3_counted_X3 (by decide) lkX3_counted_0 rfl dX3_counted_156 ?_
                        refine at_iconst (pc := 159) X (2 : Int32) dX3_counted_159 ic_2 ?_
                        obtain ⟨q160, hq160, h⟩ := mm_bind h
                        refine at_calli (n := 1) (pc := 160) X 0 [.int (2 : Int32)] [] (mX0_countOf (eL E) X.wf (wf_3_5 X.wf ha0) hq160) gX3_counted_X0_countOf rfl ⟨rfl, rfl⟩ (by decide +kernel) ⟨by decide, by decide⟩ (by decide) rfl (wf_3_5 X.wf ha0) rfl rfl (Nat.le_of_ble_eq_true rfl) dX3_counted_160 ?_
                        exact at_iret (pc := 163) X (Option.some.inj h) dX3_counted_163
set_option maxHeartbeats 4000000 in
set_option maxRecDepth 100000 in
theorem mX3_counted (l : Launch) {G : mm_G} (hwf : mm_WF G) {a0 : Nat} {x1 : Int32} {σ : mm_M} {q : (Int32 × mm_M)} (ha0 : mm_Is G 3 a0) (h : fX3_counted G a0 x1 σ = some q) : mm_Mi l yX3_counted wsX3_counted rmX3_counted G [.ref a0, .int x1] σ q := by
  refine mm_ofi (cc := cX3_counted) (nL := 2) (ret := some .int) (own := RX3) (lv0 := [(0, .ref a0), (1, .int x1)]) (by decide) rfl rfl (Nat.le_of_ble_eq_true rfl) rfl hwf (fun E hE X => ?_)
  exact wX3_counted_b0 X ha0 h
set_option maxRecDepth 20000 in
theorem ggX3_count_X3_counted : GoodIn wsX3_count wsX3_counted := goodIn_r _ [5, 6, 7, 8, 9, 10, 11, 12, 13, 14, 15, 16, 17, 18, 19, 20, 21, 22, 23, 24, 25, 4, 26, 27, 28, 29, 30, 31, 32, 33, 34, 35, 36, 37, 38, 39, 40, 41, 42, 43, 44, 45, 46, 47, 48, 49, 50, 51, 52, 53, 54, 55, 56, 57, 58, 59, 60, 61, 62, 63, 64, 65, 66, 67, 68, 69, 70, 71, 72] (by decide +kernel) (by decide +kernel)
set_option maxRecDepth 20000 in
theorem gX3_count_X3_counted : GoodIn wsX3_count (wsV RX3 226 RX3 yX3_counted wsX3_counted) := goodIn_app (goodIn_of _ (by decide +kernel)) ggX3_count_X3_counted
theorem dX3_count_0 : decode cX3_count 0 = .ok (.iload_n 1, 1) := by decide +kernel
theorem dX3_count_1 : decode cX3_count 1 = .ok (.ifCond .lt 9, 3) := by decide +kernel
theorem dX3_count_4 : decode cX3_count 4 = .ok (.iload_n 1, 1) := by decide +kernel
theorem dX3_count_5 : decode cX3_count 5 = .ok (.bipush 12, 2) := by decide +kernel
theorem dX3_count_7 : decode cX3_count 7 = .ok (.if_icmp .lt 7, 3) := by decide +kernel
theorem dX3_count_10 : decode cX3_count 10 = .ok (.iconst (-1), 1) := by decide +kernel
theorem dX3_count_11 : decode cX3_count 11 = .ok (.goto 8, 3) := by decide +kernel
theorem dX3_count_14 : decode cX3_count 14 = .ok (.aload_n 0, 1) := by decide +kernel
theorem dX3_count_15 : decode cX3_count 15 = .ok (.iload_n 1, 1) := by decide +kernel
theorem dX3_count_16 : decode cX3_count 16 = .ok (.invokevirtual 226, 3) := by decide +kernel
theorem dX3_count_19 : decode cX3_count 19 = .ok (.ireturn, 1) := by decide +kernel
/-! X3_count (I)I -/
abbrev rmX3_count : Room := { frames := 3, cells := 0, slots := 0, locals := 65 }
noncomputable def fX3_count (G : mm_G) (a0 : Nat) (x1 : Int32) (σ : mm_M) : Option (Int32 × mm_M) := if x1 < 0 then (some ((-1 : Int32), σ)) else (if x1 < (12 : Int32) then ((fX3_counted G a0 x1 σ).bind (fun q16 => some (q16.1, q16.2))) else (some ((-1 : Int32), σ)))
set_option maxHeartbeats 4000000 in
set_option maxRecDepth 100000 in
theorem wX3_count_b0 {E : mm_E} {G : mm_G} (X : mm_Cx E G cX3_count 2 RX3 wsX3_count rmX3_count (some .int)) {a0 : Nat} {x1 : Int32} {σ : mm_M} {q : (Int32 × mm_M)} (ha0 : mm_Is G 3 a0) (h : fX3_count G a0 x1 σ = some q) : mm_At E G 2 (mm_Qi E G q) σ 0 [(0, .ref a0), (1, .int x1)] [] := by
  unfold fX3_count at h
  refine at_iload_n (pc := 0) X 1 1 dX3_count_0 rfl rfl ?_
  refine at_if_lt (pc := 1) X 10 dX3_count_1 (by decide) (fun c1 => ?_) (fun c1 => ?_)
  · have h := mm_pos c1 h
    refine at_iconst (pc := 10) X (-1 : Int32) dX3_count_10 ic_m1 ?_
    refine at_goto (pc := 11) X 19 dX3_count_11 (by decide) ?_
    exact at_iret (pc := 19) X (Option.some.inj h) dX3_count_19
  · have h := mm_neg c1 h
    refine at_iload_n (pc := 4) X 1 1 dX3_count_4 rfl rfl ?_
    refine at_bipush (pc := 5) X (12 : Int32) dX3_count_5 ib_12 ?_
    refine at_icmp_lt (pc := 7) X 14 dX3_count_7 (by decide) (fun c7 => ?_) (fun c7 => ?_)
    · have h := mm_pos c7 h
      refine at_aload_n (pc := 14) X 0 0 dX3_count_14 rfl rfl ?_
      refine at_iload_n (pc := 15) X 1 1 dX3_count_15 rfl rfl ?_
      obtain ⟨q16, hq16, h⟩ := mm_bind h
      refine at_calli (n := 1) (pc := 16) X 3 [.int x1] [] (mX3_counted (eL E) X.wf ha0 hq16) gX3_count_X3_counted rfl ⟨rfl, rfl⟩ (by decide +kernel) ⟨by decide, by decide⟩ (by decide) rfl ha0 rfl rfl (Nat.le_of_ble_eq_true rfl) dX3_count_16 ?_
      exact at_iret (pc := 19) X (Option.some.inj h) dX3_count_19
    · have h := mm_neg c7 h
      refine at_iconst (pc := 10) X (-1 : Int32) dX3_count_10 ic_m1 ?_
      refine at_goto (pc := 11) X 19 dX3_count_11 (by decide) ?_
      exact at_iret (pc := 19) X (Option.some.inj h) dX3_count_19
set_option maxHeartbeats 4000000 in
set_option maxRecDepth 100000 in
theorem mX3_count (l : Launch) {G : mm_G} (hwf : mm_WF G) {a0 : Nat} {x1 : Int32} {σ : mm_M} {q : (Int32 × mm_M)} (ha0 : mm_Is G 3 a0) (h : fX3_count G a0 x1 σ = some q) : mm_Mi l yX3_count wsX3_count rmX3_count G [.ref a0, .int x1] σ q := by
  refine mm_ofi (cc := cX3_count) (nL := 2) (ret := some .int) (own := RX3) (lv0 := [(0, .ref a0), (1, .int x1)]) (by decide) rfl rfl (Nat.le_of_ble_eq_true rfl) rfl hwf (fun E hE X => ?_)
  exact wX3_count_b0 X ha0 h
theorem dX3_finding_0 : decode cX3_finding 0 = .ok (.aload_n 0, 1) := by decide +kernel
theorem dX3_finding_1 : decode cX3_finding 1 = .ok (.getfield 70, 3) := by decide +kernel
theorem dX3_finding_4 : decode cX3_finding 4 = .ok (.ireturn, 1) := by decide +kernel
/-! X3_finding ()I -/
abbrev rmX3_finding : Room := { frames := 0, cells := 0, slots := 0, locals := 0 }
theorem lkX3_finding_0 : Cond.fieldLink RX3 70 (TX3 15).1 (TX3 15).2.1 (TX3 15).2.2.1 ∈ wsX3_finding := by decide +kernel
theorem inX3_finding_X3 : ∀ w ∈ u_ws RX3 TX3 17, w ∈ wsX3_finding := by decide +kernel
noncomputable def fX3_finding (G : mm_G) (a0 : Nat) (σ : mm_M) : Option (Int32 × mm_M) := some (σ.1 a0 15, σ)
set_option maxHeartbeats 4000000 in
set_option maxRecDepth 100000 in
theorem wX3_finding_b0 {E : mm_E} {G : mm_G} (X : mm_Cx E G cX3_finding 1 RX3 wsX3_finding rmX3_finding (some .int)) {a0 : Nat} {σ : mm_M} {q : (Int32 × mm_M)} (ha0 : mm_Is G 3 a0) (h : fX3_finding G a0 σ = some q) : mm_At E G 1 (mm_Qi E G q) σ 0 [(0, .ref a0)] [] := by
  unfold fX3_finding at h
  refine at_aload_n (pc := 0) X 0 0 dX3_finding_0 rfl rfl ?_
  refine at_get (pc := 1) X 3 15 (.int (σ.1 a0 15)) ha0 (by decide) rfl inX3_finding_X3 (by decide) lkX3_finding_0 rfl dX3_finding_1 ?_
  exact at_iret (pc := 4) X (Option.some.inj h) dX3_finding_4
set_option maxHeartbeats 4000000 in
set_option maxRecDepth 100000 in
theorem mX3_finding (l : Launch) {G : mm_G} (hwf : mm_WF G) {a0 : Nat} {σ : mm_M} {q : (Int32 × mm_M)} (ha0 : mm_Is G 3 a0) (h : fX3_finding G a0 σ = some q) : mm_Mi l yX3_finding wsX3_finding rmX3_finding G [.ref a0] σ q := by
  refine mm_ofi (cc := cX3_finding) (nL := 1) (ret := some .int) (own := RX3) (lv0 := [(0, .ref a0)]) (by decide) rfl rfl (Nat.le_of_ble_eq_true rfl) rfl hwf (fun E hE X => ?_)
  exact wX3_finding_b0 X ha0 h
theorem dX3_findings_0 : decode cX3_findings 0 = .ok (.iload_n 1, 1) := by decide +kernel
theorem dX3_findings_1 : decode cX3_findings 1 = .ok (.iconst 1, 1) := by decide +kernel
theorem dX3_findings_2 : decode cX3_findings 2 = .ok (.if_icmp .lt 8, 3) := by decide +kernel
theorem dX3_findings_5 : decode cX3_findings 5 = .ok (.iload_n 1, 1) := by decide +kernel
theorem dX3_findings_6 : decode cX3_findings 6 = .ok (.iconst 5, 1) := by decide +kernel
theorem dX3_findings_7 : decode cX3_findings 7 = .ok (.if_icmp .le 7, 3) := by decide +kernel
theorem dX3_findings_10 : decode cX3_findings 10 = .ok (.iconst (-1), 1) := by decide +kernel
theorem dX3_findings_11 : decode cX3_findings 11 = .ok (.goto 9, 3) := by decide +kernel
theorem dX3_findings_14 : decode cX3_findings 14 = .ok (.aload_n 0, 1) := by decide +kernel
theorem dX3_findings_15 : decode cX3_findings 15 = .ok (.getfield 73, 3) := by decide +kernel
theorem dX3_findings_18 : decode cX3_findings 18 = .ok (.iload_n 1, 1) := by decide +kernel
theorem dX3_findings_19 : decode cX3_findings 19 = .ok (.iaload, 1) := by decide +kernel
theorem dX3_findings_20 : decode cX3_findings 20 = .ok (.ireturn, 1) := by decide +kernel
/-! X3_findings (I)I -/
abbrev rmX3_findings : Room := { frames := 0, cells := 0, slots := 0, locals := 0 }
theorem lkX3_findings_0 : Cond.fieldLink RX3 73 (TX3 16).1 (TX3 16).2.1 (TX3 16).2.2.1 ∈ wsX3_findings := by decide +kernel
theorem inX3_findings_X3 : ∀ w ∈ u_ws RX3 TX3 17, w ∈ wsX3_findings := by decide +kernel
noncomputable def fX3_findings (G : mm_G) (a0 : Nat) (x1 : Int32) (σ : mm_M) : Option (Int32 × mm_M) := if x1 < (1 : Int32) then (some ((-1 : Int32), σ)) else (if (5 : Int32) < x1 then (some ((-1 : Int32), σ)) else (if x1 < 0 ∨ mm_N G (mm_R G a0 16) ≤ x1.toNatClampNeg then none else (some (σ.1 (mm_R G a0 16) x1.toNatClampNeg, σ))))
set_option maxHeartbeats 4000000 in
set_option maxRecDepth 100000 in
theorem wX3_findings_b0 {E : mm_E} {G : mm_G} (X : mm_Cx E G cX3_findings 2 RX3 wsX3_findings rmX3_findings (some .int)) {a0 : Nat} {x1 : Int32} {σ : mm_M} {q : (Int32 × mm_M)} (ha0 : mm_Is G 3 a0) (h : fX3_findings G a0 x1 σ = some q) : mm_At E G 2 (mm_Qi E G q) σ 0 [(0, .ref a0), (1, .int x1)] [] := by
  unfold fX3_findings at h
  refine at_iload_n (pc := 0) X 1 1 dX3_findings_0 rfl rfl ?_
  refine at_iconst (pc := 1) X (1 : Int32) dX3_findings_1 ic_1 ?_
  refine at_icmp_lt (pc := 2) X 10 dX3_findings_2 (by decide) (fun c2 => ?_) (fun c2 => ?_)
  · have h := mm_pos c2 h
    refine at_iconst (pc := 10) X (-1 : Int32) dX3_findings_10 ic_m1 ?_
    refine at_goto (pc := 11) X 20 dX3_findings_11 (by decide) ?_
    exact at_iret (pc := 20) X (Option.some.inj h) dX3_findings_20
  · have h := mm_neg c2 h
    refine at_iload_n (pc := 5) X 1 1 dX3_findings_5 rfl rfl ?_
    refine at_iconst (pc := 6) X (5 : Int32) dX3_findings_6 ic_5 ?_
    refine at_icmp_le (pc := 7) X 14 dX3_findings_7 (by decide) (fun c7 => ?_) (fun c7 => ?_)
    · have h := mm_neg c7 h
      refine at_aload_n (pc := 14) X 0 0 dX3_findings_14 rfl rfl ?_
      refine at_get (pc := 15) X 3 16 (.ref (mm_R G a0 16)) ha0 (by decide) rfl inX3_findings_X3 (by decide) lkX3_findings_0 rfl dX3_findings_15 ?_
      refine at_iload_n (pc := 18) X 1 1 dX3_findings_18 rfl rfl ?_
      obtain ⟨hc19, h⟩ := mm_chk h
      refine at_iald (pc := 19) X (wf_3_16 X.wf ha0) hc19 dX3_findings_19 ?_
      exact at_iret (pc := 20) X (Option.some.inj h) dX3_findings_20
    · have h := mm_pos c7 h
      refine at_iconst (pc := 10) X (-1 : Int32) dX3_findings_10 ic_m1 ?_
      refine at_goto (pc := 11) X 20 dX3_findings_11 (by decide) ?_
      exact at_iret (pc := 20) X (Option.some.inj h) dX3_findings_20
set_option maxHeartbeats 4000000 in
set_option maxRecDepth 100000 in
theorem mX3_findings (l : Launch) {G : mm_G} (hwf : mm_WF G) {a0 : Nat} {x1 : Int32} {σ : mm_M} {q : (Int32 × mm_M)} (ha0 : mm_Is G 3 a0) (h : fX3_findings G a0 x1 σ = some q) : mm_Mi l yX3_findings wsX3_findings rmX3_findings G [.ref a0, .int x1] σ q := by
  refine mm_ofi (cc := cX3_findings) (nL := 2) (ret := some .int) (own := RX3) (lv0 := [(0, .ref a0), (1, .int x1)]) (by decide) rfl rfl (Nat.le_of_ble_eq_true rfl) rfl hwf (fun E hE X => ?_)
  exact wX3_findings_b0 X ha0 h
set_option maxRecDepth 20000 in
theorem ggX3_digest_X3_counted : GoodIn wsX3_digest wsX3_counted := goodIn_r _ [17, 3, 4, 18, 19, 8, 20, 21, 6, 9, 11, 22, 23, 24, 25, 26, 27, 28, 29, 30, 31, 16, 32, 33, 34, 35, 36, 7, 37, 38, 39, 40, 41, 42, 43, 44, 45, 46, 61, 62, 63, 64, 65, 66, 67, 68, 69, 70, 71, 72, 73, 74, 75, 76, 77, 78, 79, 80, 81, 82, 83, 84, 85, 86, 87, 88, 89, 90, 91] (by decide +kernel) (by decide +kernel)
set_option maxRecDepth 20000 in
theorem gX3_digest_X3_counted : GoodIn wsX3_digest (wsV RX3 226 RX3 yX3_counted wsX3_counted) := goodIn_app (goodIn_of _ (by decide +kernel)) ggX3_digest_X3_counted
set_option maxRecDepth 20000 in
theorem ggX3_digest_X2_told : GoodIn wsX3_digest wsX2_told := goodIn_r _ [50, 46, 51, 52, 53, 54, 55, 56, 57, 58, 44, 59, 60, 42, 43, 45, 86, 87, 88, 89, 90, 91] (by decide +kernel) (by decide +kernel)
set_option maxRecDepth 20000 in
theorem gX3_digest_X2_told : GoodIn wsX3_digest (wsV RX3 124 RX2 yX2_told wsX2_told) := goodIn_app (goodIn_of _ (by decide +kernel)) ggX3_digest_X2_told
theorem dX3_digest_0 : decode cX3_digest 0 = .ok (.ldc2_w 229, 3) := by decide +kernel
theorem dX3_digest_3 : decode cX3_digest 3 = .ok (.lstore_n 1, 1) := by decide +kernel
theorem dX3_digest_4 : decode cX3_digest 4 = .ok (.iconst 0, 1) := by decide +kernel
theorem dX3_digest_5 : decode cX3_digest 5 = .ok (.istore_n 3, 1) := by decide +kernel
theorem dX3_digest_6 : decode cX3_digest 6 = .ok (.iload_n 3, 1) := by decide +kernel
theorem dX3_digest_7 : decode cX3_digest 7 = .ok (.bipush 12, 2) := by decide +kernel
theorem dX3_digest_9 : decode cX3_digest 9 = .ok (.if_icmp .ge 22, 3) := by decide +kernel
theorem dX3_digest_12 : decode cX3_digest 12 = .ok (.ldc2_w 231, 3) := by decide +kernel
theorem dX3_digest_15 : decode cX3_digest 15 = .ok (.lload_n 1, 1) := by decide +kernel
theorem dX3_digest_16 : decode cX3_digest 16 = .ok (.lmul, 1) := by decide +kernel
theorem dX3_digest_17 : decode cX3_digest 17 = .ok (.aload_n 0, 1) := by decide +kernel
theorem dX3_digest_18 : decode cX3_digest 18 = .ok (.iload_n 3, 1) := by decide +kernel
theorem dX3_digest_19 : decode cX3_digest 19 = .ok (.invokevirtual 226, 3) := by decide +kernel
theorem dX3_digest_22 : decode cX3_digest 22 = .ok (.i2l, 1) := by decide +kernel
theorem dX3_digest_23 : decode cX3_digest 23 = .ok (.ladd, 1) := by decide +kernel
theorem dX3_digest_24 : decode cX3_digest 24 = .ok (.lstore_n 1, 1) := by decide +kernel
theorem dX3_digest_25 : decode cX3_digest 25 = .ok (.iinc 3 1, 3) := by decide +kernel
theorem dX3_digest_28 : decode cX3_digest 28 = .ok (.goto (-22), 3) := by decide +kernel
theorem dX3_digest_31 : decode cX3_digest 31 = .ok (.iconst 0, 1) := by decide +kernel
theorem dX3_digest_32 : decode cX3_digest 32 = .ok (.istore_n 3, 1) := by decide +kernel
theorem dX3_digest_33 : decode cX3_digest 33 = .ok (.iload_n 3, 1) := by decide +kernel
theorem dX3_digest_34 : decode cX3_digest 34 = .ok (.aload_n 0, 1) := by decide +kernel
theorem dX3_digest_35 : decode cX3_digest 35 = .ok (.getfield 33, 3) := by decide +kernel
theorem dX3_digest_38 : decode cX3_digest 38 = .ok (.getfield 112, 3) := by decide +kernel
theorem dX3_digest_41 : decode cX3_digest 41 = .ok (.if_icmp .ge 54, 3) := by decide +kernel
theorem dX3_digest_44 : decode cX3_digest 44 = .ok (.iconst 0, 1) := by decide +kernel
theorem dX3_digest_45 : decode cX3_digest 45 = .ok (.istore 4, 2) := by decide +kernel
theorem dX3_digest_47 : decode cX3_digest 47 = .ok (.iload 4, 2) := by decide +kernel
theorem dX3_digest_49 : decode cX3_digest 49 = .ok (.bipush 7, 2) := by decide +kernel
theorem dX3_digest_51 : decode cX3_digest 51 = .ok (.if_icmp .ge 38, 3) := by decide +kernel
theorem dX3_digest_54 : decode cX3_digest 54 = .ok (.ldc2_w 231, 3) := by decide +kernel
theorem dX3_digest_57 : decode cX3_digest 57 = .ok (.lload_n 1, 1) := by decide +kernel
theorem dX3_digest_58 : decode cX3_digest 58 = .ok (.lmul, 1) := by decide +kernel
theorem dX3_digest_59 : decode cX3_digest 59 = .ok (.aload_n 0, 1) := by decide +kernel
theorem dX3_digest_60 : decode cX3_digest 60 = .ok (.getfield 33, 3) := by decide +kernel
theorem dX3_digest_63 : decode cX3_digest 63 = .ok (.getfield 116, 3) := by decide +kernel
theorem dX3_digest_66 : decode cX3_digest 66 = .ok (.iload_n 3, 1) := by decide +kernel
theorem dX3_digest_67 : decode cX3_digest 67 = .ok (.aaload, 1) := by decide +kernel
theorem dX3_digest_68 : decode cX3_digest 68 = .ok (.iload 4, 2) := by decide +kernel
theorem dX3_digest_70 : decode cX3_digest 70 = .ok (.aload_n 0, 1) := by decide +kernel
theorem dX3_digest_71 : decode cX3_digest 71 = .ok (.getfield 33, 3) := by decide +kernel
theorem dX3_digest_74 : decode cX3_digest 74 = .ok (.getfield 120, 3) := by decide +kernel
theorem dX3_digest_77 : decode cX3_digest 77 = .ok (.invokevirtual 124, 3) := by decide +kernel
theorem dX3_digest_80 : decode cX3_digest 80 = .ok (.i2l, 1) := by decide +kernel
theorem dX3_digest_81 : decode cX3_digest 81 = .ok (.ladd, 1) := by decide +kernel
theorem dX3_digest_82 : decode cX3_digest 82 = .ok (.lstore_n 1, 1) := by decide +kernel
theorem dX3_digest_83 : decode cX3_digest 83 = .ok (.iinc 4 1, 3) := by decide +kernel
theorem dX3_digest_86 : decode cX3_digest 86 = .ok (.goto (-39), 3) := by decide +kernel
theorem dX3_digest_89 : decode cX3_digest 89 = .ok (.iinc 3 1, 3) := by decide +kernel
theorem dX3_digest_92 : decode cX3_digest 92 = .ok (.goto (-59), 3) := by decide +kernel
theorem dX3_digest_95 : decode cX3_digest 95 = .ok (.iconst 0, 1) := by decide +kernel
theorem dX3_digest_96 : decode cX3_digest 96 = .ok (.istore_n 3, 1) := by decide +kernel
theorem dX3_digest_97 : decode cX3_digest 97 = .ok (.iload_n 3, 1) := by decide +kernel
theorem dX3_digest_98 : decode cX3_digest 98 = .ok (.iconst 3, 1) := by decide +kernel
theorem dX3_digest_99 : decode cX3_digest 99 = .ok (.if_icmp .ge 26, 3) := by decide +kernel
theorem dX3_digest_102 : decode cX3_digest 102 = .ok (.ldc2_w 231, 3) := by decide +kernel
theorem dX3_digest_105 : decode cX3_digest 105 = .ok (.lload_n 1, 1) := by decide +kernel
theorem dX3_digest_106 : decode cX3_digest 106 = .ok (.lmul, 1) := by decide +kernel
theorem dX3_digest_107 : decode cX3_digest 107 = .ok (.aload_n 0, 1) := by decide +kernel
theorem dX3_digest_108 : decode cX3_digest 108 = .ok (.getfield 43, 3) := by decide +kernel
theorem dX3_digest_111 : decode cX3_digest 111 = .ok (.iload_n 3, 1) := by decide +kernel
theorem dX3_digest_112 : decode cX3_digest 112 = .ok (.aaload, 1) := by decide +kernel
theorem dX3_digest_113 : decode cX3_digest 113 = .ok (.getfield 76, 3) := by decide +kernel
theorem dX3_digest_116 : decode cX3_digest 116 = .ok (.i2l, 1) := by decide +kernel
theorem dX3_digest_117 : decode cX3_digest 117 = .ok (.ladd, 1) := by decide +kernel
theorem dX3_digest_118 : decode cX3_digest 118 = .ok (.lstore_n 1, 1) := by decide +kernel
theorem dX3_digest_119 : decode cX3_digest 119 = .ok (.iinc 3 1, 3) := by decide +kernel
theorem dX3_digest_122 : decode cX3_digest 122 = .ok (.goto (-25), 3) := by decide +kernel
theorem dX3_digest_125 : decode cX3_digest 125 = .ok (.iconst 0, 1) := by decide +kernel
theorem dX3_digest_126 : decode cX3_digest 126 = .ok (.istore_n 3, 1) := by decide +kernel
theorem dX3_digest_127 : decode cX3_digest 127 = .ok (.iload_n 3, 1) := by decide +kernel
theorem dX3_digest_128 : decode cX3_digest 128 = .ok (.bipush 6, 2) := by decide +kernel
theorem dX3_digest_130 : decode cX3_digest 130 = .ok (.if_icmp .ge 60, 3) := by decide +kernel
theorem dX3_digest_133 : decode cX3_digest 133 = .ok (.ldc2_w 231, 3) := by decide +kernel
theorem dX3_digest_136 : decode cX3_digest 136 = .ok (.lload_n 1, 1) := by decide +kernel
theorem dX3_digest_137 : decode cX3_digest 137 = .ok (.lmul, 1) := by decide +kernel
theorem dX3_digest_138 : decode cX3_digest 138 = .ok (.aload_n 0, 1) := by decide +kernel
theorem dX3_digest_139 : decode cX3_digest 139 = .ok (.getfield 14, 3) := by decide +kernel
theorem dX3_digest_142 : decode cX3_digest 142 = .ok (.iload_n 3, 1) := by decide +kernel
theorem dX3_digest_143 : decode cX3_digest 143 = .ok (.iaload, 1) := by decide +kernel
theorem dX3_digest_144 : decode cX3_digest 144 = .ok (.i2l, 1) := by decide +kernel
theorem dX3_digest_145 : decode cX3_digest 145 = .ok (.ladd, 1) := by decide +kernel
theorem dX3_digest_146 : decode cX3_digest 146 = .ok (.lstore_n 1, 1) := by decide +kernel
theorem dX3_digest_147 : decode cX3_digest 147 = .ok (.iconst 0, 1) := by decide +kernel
theorem dX3_digest_148 : decode cX3_digest 148 = .ok (.istore 4, 2) := by decide +kernel
theorem dX3_digest_150 : decode cX3_digest 150 = .ok (.iload 4, 2) := by decide +kernel
theorem dX3_digest_152 : decode cX3_digest 152 = .ok (.aload_n 0, 1) := by decide +kernel
theorem dX3_digest_153 : decode cX3_digest 153 = .ok (.getfield 14, 3) := by decide +kernel
theorem dX3_digest_156 : decode cX3_digest 156 = .ok (.iload_n 3, 1) := by decide +kernel
theorem dX3_digest_157 : decode cX3_digest 157 = .ok (.iaload, 1) := by decide +kernel
theorem dX3_digest_158 : decode cX3_digest 158 = .ok (.if_icmp .ge 26, 3) := by decide +kernel
theorem dX3_digest_161 : decode cX3_digest 161 = .ok (.ldc2_w 231, 3) := by decide +kernel
theorem dX3_digest_164 : decode cX3_digest 164 = .ok (.lload_n 1, 1) := by decide +kernel
theorem dX3_digest_165 : decode cX3_digest 165 = .ok (.lmul, 1) := by decide +kernel
theorem dX3_digest_166 : decode cX3_digest 166 = .ok (.aload_n 0, 1) := by decide +kernel
theorem dX3_digest_167 : decode cX3_digest 167 = .ok (.getfield 11, 3) := by decide +kernel
theorem dX3_digest_170 : decode cX3_digest 170 = .ok (.iload_n 3, 1) := by decide +kernel
theorem dX3_digest_171 : decode cX3_digest 171 = .ok (.aaload, 1) := by decide +kernel
theorem dX3_digest_172 : decode cX3_digest 172 = .ok (.iload 4, 2) := by decide +kernel
theorem dX3_digest_174 : decode cX3_digest 174 = .ok (.iaload, 1) := by decide +kernel
theorem dX3_digest_175 : decode cX3_digest 175 = .ok (.i2l, 1) := by decide +kernel
theorem dX3_digest_176 : decode cX3_digest 176 = .ok (.ladd, 1) := by decide +kernel
theorem dX3_digest_177 : decode cX3_digest 177 = .ok (.lstore_n 1, 1) := by decide +kernel
theorem dX3_digest_178 : decode cX3_digest 178 = .ok (.iinc 4 1, 3) := by decide +kernel
theorem dX3_digest_181 : decode cX3_digest 181 = .ok (.goto (-31), 3) := by decide +kernel
theorem dX3_digest_184 : decode cX3_digest 184 = .ok (.iinc 3 1, 3) := by decide +kernel
theorem dX3_digest_187 : decode cX3_digest 187 = .ok (.goto (-60), 3) := by decide +kernel
theorem dX3_digest_190 : decode cX3_digest 190 = .ok (.iconst 0, 1) := by decide +kernel
theorem dX3_digest_191 : decode cX3_digest 191 = .ok (.istore_n 3, 1) := by decide +kernel
theorem dX3_digest_192 : decode cX3_digest 192 = .ok (.iload_n 3, 1) := by decide +kernel
theorem dX3_digest_193 : decode cX3_digest 193 = .ok (.iconst 4, 1) := by decide +kernel
theorem dX3_digest_194 : decode cX3_digest 194 = .ok (.if_icmp .ge 60, 3) := by decide +kernel
theorem dX3_digest_197 : decode cX3_digest 197 = .ok (.ldc2_w 231, 3) := by decide +kernel
theorem dX3_digest_200 : decode cX3_digest 200 = .ok (.lload_n 1, 1) := by decide +kernel
theorem dX3_digest_201 : decode cX3_digest 201 = .ok (.lmul, 1) := by decide +kernel
theorem dX3_digest_202 : decode cX3_digest 202 = .ok (.aload_n 0, 1) := by decide +kernel
theorem dX3_digest_203 : decode cX3_digest 203 = .ok (.getfield 23, 3) := by decide +kernel
theorem dX3_digest_206 : decode cX3_digest 206 = .ok (.iload_n 3, 1) := by decide +kernel
theorem dX3_digest_207 : decode cX3_digest 207 = .ok (.iaload, 1) := by decide +kernel
theorem dX3_digest_208 : decode cX3_digest 208 = .ok (.i2l, 1) := by decide +kernel
theorem dX3_digest_209 : decode cX3_digest 209 = .ok (.ladd, 1) := by decide +kernel
theorem dX3_digest_210 : decode cX3_digest 210 = .ok (.lstore_n 1, 1) := by decide +kernel
theorem dX3_digest_211 : decode cX3_digest 211 = .ok (.iconst 0, 1) := by decide +kernel
theorem dX3_digest_212 : decode cX3_digest 212 = .ok (.istore 4, 2) := by decide +kernel
theorem dX3_digest_214 : decode cX3_digest 214 = .ok (.iload 4, 2) := by decide +kernel
theorem dX3_digest_216 : decode cX3_digest 216 = .ok (.aload_n 0, 1) := by decide +kernel
theorem dX3_digest_217 : decode cX3_digest 217 = .ok (.getfield 23, 3) := by decide +kernel
theorem dX3_digest_220 : decode cX3_digest 220 = .ok (.iload_n 3, 1) := by decide +kernel
theorem dX3_digest_221 : decode cX3_digest 221 = .ok (.iaload, 1) := by decide +kernel
theorem dX3_digest_222 : decode cX3_digest 222 = .ok (.if_icmp .ge 26, 3) := by decide +kernel
theorem dX3_digest_225 : decode cX3_digest 225 = .ok (.ldc2_w 231, 3) := by decide +kernel
theorem dX3_digest_228 : decode cX3_digest 228 = .ok (.lload_n 1, 1) := by decide +kernel
theorem dX3_digest_229 : decode cX3_digest 229 = .ok (.lmul, 1) := by decide +kernel
theorem dX3_digest_230 : decode cX3_digest 230 = .ok (.aload_n 0, 1) := by decide +kernel
theorem dX3_digest_231 : decode cX3_digest 231 = .ok (.getfield 20, 3) := by decide +kernel
theorem dX3_digest_234 : decode cX3_digest 234 = .ok (.iload_n 3, 1) := by decide +kernel
theorem dX3_digest_235 : decode cX3_digest 235 = .ok (.aaload, 1) := by decide +kernel
theorem dX3_digest_236 : decode cX3_digest 236 = .ok (.iload 4, 2) := by decide +kernel
theorem dX3_digest_238 : decode cX3_digest 238 = .ok (.baload, 1) := by decide +kernel
theorem dX3_digest_239 : decode cX3_digest 239 = .ok (.i2l, 1) := by decide +kernel
theorem dX3_digest_240 : decode cX3_digest 240 = .ok (.ladd, 1) := by decide +kernel
theorem dX3_digest_241 : decode cX3_digest 241 = .ok (.lstore_n 1, 1) := by decide +kernel
theorem dX3_digest_242 : decode cX3_digest 242 = .ok (.iinc 4 1, 3) := by decide +kernel
theorem dX3_digest_245 : decode cX3_digest 245 = .ok (.goto (-31), 3) := by decide +kernel
theorem dX3_digest_248 : decode cX3_digest 248 = .ok (.iinc 3 1, 3) := by decide +kernel
theorem dX3_digest_251 : decode cX3_digest 251 = .ok (.goto (-59), 3) := by decide +kernel
theorem dX3_digest_254 : decode cX3_digest 254 = .ok (.lload_n 1, 1) := by decide +kernel
theorem dX3_digest_255 : decode cX3_digest 255 = .ok (.lreturn, 1) := by decide +kernel
/-! X3_digest ()J -/
abbrev rmX3_digest : Room := { frames := 3, cells := 0, slots := 0, locals := 65 }
theorem lkX3_digest_0 : Cond.constantLong RX3 229 (17) ∈ wsX3_digest := by decide +kernel
theorem lkX3_digest_1 : Cond.fieldLink RX3 33 (TX3 5).1 (TX3 5).2.1 (TX3 5).2.2.1 ∈ wsX3_digest := by decide +kernel
theorem lkX3_digest_2 : Cond.fieldLink RX3 112 (TX0 1).1 (TX0 1).2.1 (TX0 1).2.2.1 ∈ wsX3_digest := by decide +kernel
theorem lkX3_digest_3 : Cond.constantLong RX3 231 (31) ∈ wsX3_digest := by decide +kernel
theorem lkX3_digest_4 : Cond.fieldLink RX3 23 (TX3 3).1 (TX3 3).2.1 (TX3 3).2.2.1 ∈ wsX3_digest := by decide +kernel
theorem lkX3_digest_5 : Cond.fieldLink RX3 20 (TX3 2).1 (TX3 2).2.1 (TX3 2).2.2.1 ∈ wsX3_digest := by decide +kernel
theorem lkX3_digest_6 : Cond.fieldLink RX3 14 (TX3 1).1 (TX3 1).2.1 (TX3 1).2.2.1 ∈ wsX3_digest := by decide +kernel
theorem lkX3_digest_7 : Cond.fieldLink RX3 11 (TX3 0).1 (TX3 0).2.1 (TX3 0).2.2.1 ∈ wsX3_digest := by decide +kernel
theorem lkX3_digest_8 : Cond.fieldLink RX3 43 (TX3 7).1 (TX3 7).2.1 (TX3 7).2.2.1 ∈ wsX3_digest := by decide +kernel
theorem lkX3_digest_9 : Cond.fieldLink RX3 76 (TX1 1).1 (TX1 1).2.1 (TX1 1).2.2.1 ∈ wsX3_digest := by decide +kernel
theorem lkX3_digest_10 : Cond.fieldLink RX3 116 (TX0 0).1 (TX0 0).2.1 (TX0 0).2.2.1 ∈ wsX3_digest := by decide +kernel
theorem lkX3_digest_11 : Cond.fieldLink RX3 120 (TX0 5).1 (TX0 5).2.1 (TX0 5).2.2.1 ∈ wsX3_digest := by decide +kernel
theorem inX3_digest_X3 : ∀ w ∈ u_ws RX3 TX3 17, w ∈ wsX3_digest := by decide +kernel
theorem inX3_digest_X0 : ∀ w ∈ u_ws RX0 TX0 6, w ∈ wsX3_digest := by decide +kernel
theorem inX3_digest_X1 : ∀ w ∈ u_ws RX1 TX1 2, w ∈ wsX3_digest := by decide +kernel
noncomputable def fX3_digest_b214 (G : mm_G) (a0 : Nat) (y1 : Int64) (x3 : Int32) (x4 : Int32) (σ : mm_M) : Option ((Int64 × mm_M) ⊕ ((Int64 × Int32 × mm_M) ⊕ ((Int64 × Int32 × mm_M) ⊕ ((Int64 × Int32 × Int32 × mm_M) ⊕ ((Int64 × Int32 × mm_M) ⊕ ((Int64 × Int32 × mm_M) ⊕ ((Int64 × Int32 × Int32 × mm_M) ⊕ ((Int64 × Int32 × mm_M) ⊕ (Int64 × Int32 × Int32 × mm_M))))))))) := if x3 < 0 ∨ mm_N G (mm_R G a0 3) ≤ x3.toNatClampNeg then none else (if x4 < (σ.1 (mm_R G a0 3) x3.toNatClampNeg) then (if x3 < 0 ∨ mm_N G (mm_R G a0 2) ≤ x3.toNatClampNeg then none else (if x4 < 0 ∨ mm_N G (mm_R G (mm_R G a0 2) x3.toNatClampNeg) ≤ x4.toNatClampNeg then none else (some (.inr (.inr (.inr (.inr (.inr (.inr (.inr (.inr (((31 : Int64) * y1) + ((σ.1 (mm_R G (mm_R G a0 2) x3.toNatClampNeg) x4.toNatClampNeg).toInt64), x3, x4 + 1, σ)))))))))))) else (some (.inr (.inr (.inr (.inr (.inr (.inr (.inr (.inl (y1, x3 + 1, σ)))))))))))
noncomputable def fX3_digest_b192 (G : mm_G) (a0 : Nat) (y1 : Int64) (x3 : Int32) (σ : mm_M) : Option ((Int64 × mm_M) ⊕ ((Int64 × Int32 × mm_M) ⊕ ((Int64 × Int32 × mm_M) ⊕ ((Int64 × Int32 × Int32 × mm_M) ⊕ ((Int64 × Int32 × mm_M) ⊕ ((Int64 × Int32 × mm_M) ⊕ ((Int64 × Int32 × Int32 × mm_M) ⊕ ((Int64 × Int32 × mm_M) ⊕ (Int64 × Int32 × Int32 × mm_M))))))))) := if x3 < (4 : Int32) then (if x3 < 0 ∨ mm_N G (mm_R G a0 3) ≤ x3.toNatClampNeg then none else (some (.inr (.inr (.inr (.inr (.inr (.inr (.inr (.inr (((31 : Int64) * y1) + ((σ.1 (mm_R G a0 3) x3.toNatClampNeg).toInt64), x3, (0 : Int32), σ))))))))))) else (some (.inl (y1, σ)))
noncomputable def fX3_digest_b150 (G : mm_G) (a0 : Nat) (y1 : Int64) (x3 : Int32) (x4 : Int32) (σ : mm_M) : Option ((Int64 × mm_M) ⊕ ((Int64 × Int32 × mm_M) ⊕ ((Int64 × Int32 × mm_M) ⊕ ((Int64 × Int32 × Int32 × mm_M) ⊕ ((Int64 × Int32 × mm_M) ⊕ ((Int64 × Int32 × mm_M) ⊕ ((Int64 × Int32 × Int32 × mm_M) ⊕ ((Int64 × Int32 × mm_M) ⊕ (Int64 × Int32 × Int32 × mm_M))))))))) := if x3 < 0 ∨ mm_N G (mm_R G a0 1) ≤ x3.toNatClampNeg then none else (if x4 < (σ.1 (mm_R G a0 1) x3.toNatClampNeg) then (if x3 < 0 ∨ mm_N G (mm_R G a0 0) ≤ x3.toNatClampNeg then none else (if x4 < 0 ∨ mm_N G (mm_R G (mm_R G a0 0) x3.toNatClampNeg) ≤ x4.toNatClampNeg then none else (some (.inr (.inr (.inr (.inr (.inr (.inr (.inl (((31 : Int64) * y1) + ((σ.1 (mm_R G (mm_R G a0 0) x3.toNatClampNeg) x4.toNatClampNeg).toInt64), x3, x4 + 1, σ))))))))))) else (some (.inr (.inr (.inr (.inr (.inr (.inl (y1, x3 + 1, σ)))))))))
noncomputable def fX3_digest_b127 (G : mm_G) (a0 : Nat) (y1 : Int64) (x3 : Int32) (σ : mm_M) : Option ((Int64 × mm_M) ⊕ ((Int64 × Int32 × mm_M) ⊕ ((Int64 × Int32 × mm_M) ⊕ ((Int64 × Int32 × Int32 × mm_M) ⊕ ((Int64 × Int32 × mm_M) ⊕ ((Int64 × Int32 × mm_M) ⊕ ((Int64 × Int32 × Int32 × mm_M) ⊕ ((Int64 × Int32 × mm_M) ⊕ (Int64 × Int32 × Int32 × mm_M))))))))) := if x3 < (6 : Int32) then (if x3 < 0 ∨ mm_N G (mm_R G a0 1) ≤ x3.toNatClampNeg then none else (some (.inr (.inr (.inr (.inr (.inr (.inr (.inl (((31 : Int64) * y1) + ((σ.1 (mm_R G a0 1) x3.toNatClampNeg).toInt64), x3, (0 : Int32), σ)))))))))) else (some (.inr (.inr (.inr (.inr (.inr (.inr (.inr (.inl (y1, (0 : Int32), σ))))))))))
noncomputable def fX3_digest_b97 (G : mm_G) (a0 : Nat) (y1 : Int64) (x3 : Int32) (σ : mm_M) : Option ((Int64 × mm_M) ⊕ ((Int64 × Int32 × mm_M) ⊕ ((Int64 × Int32 × mm_M) ⊕ ((Int64 × Int32 × Int32 × mm_M) ⊕ ((Int64 × Int32 × mm_M) ⊕ ((Int64 × Int32 × mm_M) ⊕ ((Int64 × Int32 × Int32 × mm_M) ⊕ ((Int64 × Int32 × mm_M) ⊕ (Int64 × Int32 × Int32 × mm_M))))))))) := if x3 < (3 : Int32) then (if x3 < 0 ∨ mm_N G (mm_R G a0 7) ≤ x3.toNatClampNeg then none else (some (.inr (.inr (.inr (.inr (.inl (((31 : Int64) * y1) + ((σ.1 (mm_R G (mm_R G a0 7) x3.toNatClampNeg) 1).toInt64), x3 + 1, σ)))))))) else (some (.inr (.inr (.inr (.inr (.inr (.inl (y1, (0 : Int32), σ))))))))
noncomputable def fX3_digest_b47 (G : mm_G) (a0 : Nat) (y1 : Int64) (x3 : Int32) (x4 : Int32) (σ : mm_M) : Option ((Int64 × mm_M) ⊕ ((Int64 × Int32 × mm_M) ⊕ ((Int64 × Int32 × mm_M) ⊕ ((Int64 × Int32 × Int32 × mm_M) ⊕ ((Int64 × Int32 × mm_M) ⊕ ((Int64 × Int32 × mm_M) ⊕ ((Int64 × Int32 × Int32 × mm_M) ⊕ ((Int64 × Int32 × mm_M) ⊕ (Int64 × Int32 × Int32 × mm_M))))))))) := if x4 < (7 : Int32) then (if x3 < 0 ∨ mm_N G (mm_R G (mm_R G a0 5) 0) ≤ x3.toNatClampNeg then none else ((fX2_told G (mm_R G (mm_R G (mm_R G a0 5) 0) x3.toNatClampNeg) x4 (σ.1 (mm_R G a0 5) 5) σ).bind (fun q77 => some (.inr (.inr (.inr (.inl (((31 : Int64) * y1) + q77.1.toInt64, x3, x4 + 1, q77.2)))))))) else (some (.inr (.inr (.inl (y1, x3 + 1, σ)))))
noncomputable def fX3_digest_b33 (G : mm_G) (a0 : Nat) (y1 : Int64) (x3 : Int32) (σ : mm_M) : Option ((Int64 × mm_M) ⊕ ((Int64 × Int32 × mm_M) ⊕ ((Int64 × Int32 × mm_M) ⊕ ((Int64 × Int32 × Int32 × mm_M) ⊕ ((Int64 × Int32 × mm_M) ⊕ ((Int64 × Int32 × mm_M) ⊕ ((Int64 × Int32 × Int32 × mm_M) ⊕ ((Int64 × Int32 × mm_M) ⊕ (Int64 × Int32 × Int32 × mm_M))))))))) := if x3 < (σ.1 (mm_R G a0 5) 1) then (some (.inr (.inr (.inr (.inl (y1, x3, (0 : Int32), σ)))))) else (some (.inr (.inr (.inr (.inr (.inl (y1, (0 : Int32), σ)))))))
noncomputable def fX3_digest_b6 (G : mm_G) (a0 : Nat) (y1 : Int64) (x3 : Int32) (σ : mm_M) : Option ((Int64 × mm_M) ⊕ ((Int64 × Int32 × mm_M) ⊕ ((Int64 × Int32 × mm_M) ⊕ ((Int64 × Int32 × Int32 × mm_M) ⊕ ((Int64 × Int32 × mm_M) ⊕ ((Int64 × Int32 × mm_M) ⊕ ((Int64 × Int32 × Int32 × mm_M) ⊕ ((Int64 × Int32 × mm_M) ⊕ (Int64 × Int32 × Int32 × mm_M))))))))) := if x3 < (12 : Int32) then ((fX3_counted G a0 x3 σ).bind (fun q19 => some (.inr (.inl (((31 : Int64) * y1) + q19.1.toInt64, x3 + 1, q19.2))))) else (some (.inr (.inr (.inl (y1, (0 : Int32), σ)))))
noncomputable def fX3_digest_b0 (G : mm_G) (a0 : Nat) (σ : mm_M) : Option ((Int64 × mm_M) ⊕ ((Int64 × Int32 × mm_M) ⊕ ((Int64 × Int32 × mm_M) ⊕ ((Int64 × Int32 × Int32 × mm_M) ⊕ ((Int64 × Int32 × mm_M) ⊕ ((Int64 × Int32 × mm_M) ⊕ ((Int64 × Int32 × Int32 × mm_M) ⊕ ((Int64 × Int32 × mm_M) ⊕ (Int64 × Int32 × Int32 × mm_M))))))))) := some (.inr (.inl ((17 : Int64), (0 : Int32), σ)))
noncomputable def fX3_digest_s (G : mm_G) (a0 : Nat) : ((Int64 × Int32 × mm_M) ⊕ ((Int64 × Int32 × mm_M) ⊕ ((Int64 × Int32 × Int32 × mm_M) ⊕ ((Int64 × Int32 × mm_M) ⊕ ((Int64 × Int32 × mm_M) ⊕ ((Int64 × Int32 × Int32 × mm_M) ⊕ ((Int64 × Int32 × mm_M) ⊕ (Int64 × Int32 × Int32 × mm_M)))))))) → Option ((Int64 × mm_M) ⊕ ((Int64 × Int32 × mm_M) ⊕ ((Int64 × Int32 × mm_M) ⊕ ((Int64 × Int32 × Int32 × mm_M) ⊕ ((Int64 × Int32 × mm_M) ⊕ ((Int64 × Int32 × mm_M) ⊕ ((Int64 × Int32 × Int32 × mm_M) ⊕ ((Int64 × Int32 × mm_M) ⊕ (Int64 × Int32 × Int32 × mm_M))))))))) := (Sum.elim (fun s => fX3_digest_b6 G a0 s.1 s.2.1 s.2.2) (Sum.elim (fun s => fX3_digest_b33 G a0 s.1 s.2.1 s.2.2) (Sum.elim (fun s => fX3_digest_b47 G a0 s.1 s.2.1 s.2.2.1 s.2.2.2) (Sum.elim (fun s => fX3_digest_b97 G a0 s.1 s.2.1 s.2.2) (Sum.elim (fun s => fX3_digest_b127 G a0 s.1 s.2.1 s.2.2) (Sum.elim (fun s => fX3_digest_b150 G a0 s.1 s.2.1 s.2.2.1 s.2.2.2) (Sum.elim (fun s => fX3_digest_b192 G a0 s.1 s.2.1 s.2.2) (fun s => fX3_digest_b214 G a0 s.1 s.2.1 s.2.2.1 s.2.2.2))))))))
def PX3_digest (E : mm_E) (G : mm_G) (a0 : Nat) (q : (Int64 × mm_M)) : ((Int64 × Int32 × mm_M) ⊕ ((Int64 × Int32 × mm_M) ⊕ ((Int64 × Int32 × Int32 × mm_M) ⊕ ((Int64 × Int32 × mm_M) ⊕ ((Int64 × Int32 × mm_M) ⊕ ((Int64 × Int32 × Int32 × mm_M) ⊕ ((Int64 × Int32 × mm_M) ⊕ (Int64 × Int32 × Int32 × mm_M)))))))) → Prop := (Sum.elim (fun s => mm_At E G 5 (mm_Ql E G q) s.2.2 6 [(0, .ref a0), (1, .long s.1), (3, .int s.2.1)] []) (Sum.elim (fun s => mm_At E G 5 (mm_Ql E G q) s.2.2 33 [(0, .ref a0), (1, .long s.1), (3, .int s.2.1)] []) (Sum.elim (fun s => mm_At E G 5 (mm_Ql E G q) s.2.2.2 47 [(0, .ref a0), (1, .long s.1), (3, .int s.2.1), (4, .int s.2.2.1)] []) (Sum.elim (fun s => mm_At E G 5 (mm_Ql E G q) s.2.2 97 [(0, .ref a0), (1, .long s.1), (3, .int s.2.1)] []) (Sum.elim (fun s => mm_At E G 5 (mm_Ql E G q) s.2.2 127 [(0, .ref a0), (1, .long s.1), (3, .int s.2.1)] []) (Sum.elim (fun s => mm_At E G 5 (mm_Ql E G q) s.2.2.2 150 [(0, .ref a0), (1, .long s.1), (3, .int s.2.1), (4, .int s.2.2.1)] []) (Sum.elim (fun s => mm_At E G 5 (mm_Ql E G q) s.2.2 192 [(0, .ref a0), (1, .long s.1), (3, .int s.2.1)] []) (fun s => mm_At E G 5 (mm_Ql E G q) s.2.2.2 214 [(0, .ref a0), (1, .long s.1), (3, .int s.2.1), (4, .int s.2.2.1)] []))))))))
noncomputable def fX3_digest (G : mm_G) (a0 : Nat) (σ : mm_M) : Option (Int64 × mm_M) := mm_run (fX3_digest_b0 G a0 σ) (fX3_digest_s G a0)
set_option maxHeartbeats 4000000 in
set_option maxRecDepth 100000 in
theorem wX3_digest_b214 {E : mm_E} {G : mm_G} (X : mm_Cx E G cX3_digest 5 RX3 wsX3_digest rmX3_digest (some .long)) {a0 : Nat} {y1 : Int64} {x3 : Int32} {x4 : Int32} {σ : mm_M} {q : (Int64 × mm_M)} (ha0 : mm_Is G 3 a0) {o : (Int64 × mm_M) ⊕ ((Int64 × Int32 × mm_M) ⊕ ((Int64 × Int32 × mm_M) ⊕ ((Int64 × Int32 × Int32 × mm_M) ⊕ ((Int64 × Int32 × mm_M) ⊕ ((Int64 × Int32 × mm_M) ⊕ ((Int64 × Int32 × Int32 × mm_M) ⊕ ((Int64 × Int32 × mm_M) ⊕ (Int64 × Int32 × Int32 × mm_M))))))))} (h : fX3_digest_b214 G a0 y1 x3 x4 σ = some o) (hk : mm_Ok q (PX3_digest E G a0 q) o) : mm_At E G 5 (mm_Ql E G q) σ 214 [(0, .ref a0), (1, .long y1), (3, .int x3), (4, .int x4)] [] := by
  unfold fX3_digest_b214 at h
  refine at_iload (pc := 214) X 4 3 dX3_digest_214 rfl ?_
  refine at_aload_n (pc := 216) X 0 0 dX3_digest_216 rfl rfl ?_
  refine at_get (pc := 217) X 3 3 (.ref (mm_R G a0 3)) ha0 (by decide) rfl inX3_digest_X3 (by decide) lkX3_digest_4 rfl dX3_digest_217 ?_
  refine at_iload_n (pc := 220) X 3 2 dX3_digest_220 rfl rfl ?_
  obtain ⟨hc221, h⟩ := mm_chk h
  refine at_iald (pc := 221) X (wf_3_3 X.wf ha0) hc221 dX3_digest_221 ?_
  refine at_icmp_ge (pc := 222) X 248 dX3_digest_222 (by decide) (fun c222 => ?_) (fun c222 => ?_)
  · have h := mm_neg c222 h
    refine at_iinc (pc := 248) X 3 2 (x3 + 1) [(3, .int (x3 + 1)), (0, .ref a0), (1, .long y1), (4, .int x4)] dX3_digest_248 rfl (ii_1 _) (by decide) rfl ?_
    refine at_goto (pc := 251) X 192 dX3_digest_251 (by decide) ?_
    have h2 := mm_inr h hk; exact at_sub [1, 2, 0] rfl h2
  · have h := mm_pos c222 h
    refine at_ldc2_w (pc := 225) X (31 : Int64) lkX3_digest_3 dX3_digest_225 ?_
    refine at_lload_n (pc := 228) X 1 1 dX3_digest_228 rfl rfl ?_
    refine at_lmul (pc := 229) X dX3_digest_229 ?_
    refine at_aload_n (pc := 230) X 0 0 dX3_digest_230 rfl rfl ?_
    refine at_get (pc := 231) X 3 2 (.ref (mm_R G a0 2)) ha0 (by decide) rfl inX3_digest_X3 (by decide) lkX3_digest_5 rfl dX3_digest_231 ?_
    refine at_iload_n (pc := 234) X 3 2 dX3_digest_234 rfl rfl ?_
    obtain ⟨hc235, h⟩ := mm_chk h
    refine at_aald (pc := 235) X 9 4 (wf_3_2 X.wf ha0) (by decide) (by decide) rfl rfl hc235 dX3_digest_235 ?_
    refine at_iload (pc := 236) X 4 3 dX3_digest_236 rfl ?_
    obtain ⟨hc238, h⟩ := mm_chk h
    refine at_bald (pc := 238) X (wf_9 X.wf (wf_3_2 X.wf ha0) hc235) hc238 dX3_digest_238 ?_
    refine at_i2l (pc := 239) X dX3_digest_239 ?_
    refine at_ladd (pc := 240) X dX3_digest_240 ?_
    refine at_lstore_n (pc := 241) X 1 [(1, .long (((31 : Int64) * y1) + ((σ.1 (mm_R G (mm_R G a0 2) x3.toNatClampNeg) x4.toNatClampNeg).toInt64))), (0, .ref a0), (3, .int x3), (4, .int x4)] dX3_digest_241 rfl (by decide) rfl ?_
    refine at_iinc (pc := 242) X 4 3 (x4 + 1) [(4, .int (x4 + 1)), (1, .long (((31 : Int64) * y1) + ((σ.1 (mm_R G (mm_R G a0 2) x3.toNatClampNeg) x4.toNatClampNeg).toInt64))), (0, .ref a0), (3, .int x3)] dX3_digest_242 rfl (ii_1 _) (by decide) rfl ?_
    refine at_goto (pc := 245) X 214 dX3_digest_245 (by decide) ?_
    have h2 := mm_inr h hk; exact at_sub [2, 1, 3, 0] rfl h2
set_option maxHeartbeats 4000000 in
set_option maxRecDepth 100000 in
theorem wX3_digest_b192 {E : mm_E} {G : mm_G} (X : mm_Cx E G cX3_digest 5 RX3 wsX3_digest rmX3_digest (some .long)) {a0 : Nat} {y1 : Int64} {x3 : Int32} {σ : mm_M} {q : (Int64 × mm_M)} (ha0 : mm_Is G 3 a0) {o : (Int64 × mm_M) ⊕ ((Int64 × Int32 × mm_M) ⊕ ((Int64 × Int32 × mm_M) ⊕ ((Int64 × Int32 × Int32 × mm_M) ⊕ ((Int64 × Int32 × mm_M) ⊕ ((Int64 × Int32 × mm_M) ⊕ ((Int64 × Int32 × Int32 × mm_M) ⊕ ((Int64 × Int32 × mm_M) ⊕ (Int64 × Int32 × Int32 × mm_M))))))))} (h : fX3_digest_b192 G a0 y1 x3 σ = some o) (hk : mm_Ok q (PX3_digest E G a0 q) o) : mm_At E G 5 (mm_Ql E G q) σ 192 [(0, .ref a0), (1, .long y1), (3, .int x3)] [] := by
  unfold fX3_digest_b192 at h
  refine at_iload_n (pc := 192) X 3 2 dX3_digest_192 rfl rfl ?_
  refine at_iconst (pc := 193) X (4 : Int32) dX3_digest_193 ic_4 ?_
  refine at_icmp_ge (pc := 194) X 254 dX3_digest_194 (by decide) (fun c194 => ?_) (fun c194 => ?_)
  · have h := mm_neg c194 h
    refine at_lload_n (pc := 254) X 1 1 dX3_digest_254 rfl rfl ?_
    exact at_lret (pc := 255) X (mm_inl h hk) dX3_digest_255
  · have h := mm_pos c194 h
    refine at_ldc2_w (pc := 197) X (31 : Int64) lkX3_digest_3 dX3_digest_197 ?_
    refine at_lload_n (pc := 200) X 1 1 dX3_digest_200 rfl rfl ?_
    refine at_lmul (pc := 201) X dX3_digest_201 ?_
    refine at_aload_n (pc := 202) X 0 0 dX3_digest_202 rfl rfl ?_
    refine at_get (pc := 203) X 3 3 (.ref (mm_R G a0 3)) ha0 (by decide) rfl inX3_digest_X3 (by decide) lkX3_digest_4 rfl dX3_digest_203 ?_
    refine at_iload_n (pc := 206) X 3 2 dX3_digest_206 rfl rfl ?_
    obtain ⟨hc207, h⟩ := mm_chk h
    refine at_iald (pc := 207) X (wf_3_3 X.wf ha0) hc207 dX3_digest_207 ?_
    refine at_i2l (pc := 208) X dX3_digest_208 ?_
    refine at_ladd (pc := 209) X dX3_digest_209 ?_
    refine at_lstore_n (pc := 210) X 1 [(1, .long (((31 : Int64) * y1) + ((σ.1 (mm_R G a0 3) x3.toNatClampNeg).toInt64))), (0, .ref a0), (3, .int x3)] dX3_digest_210 rfl (by decide) rfl ?_
    refine at_iconst (pc := 211) X (0 : Int32) dX3_digest_211 ic_0 ?_
    refine at_istore (pc := 212) X 4 [(4, .int (0 : Int32)), (1, .long (((31 : Int64) * y1) + ((σ.1 (mm_R G a0 3) x3.toNatClampNeg).toInt64))), (0, .ref a0), (3, .int x3)] dX3_digest_212 (by decide) rfl ?_
    have h2 := mm_inr h hk; exact at_sub [2, 1, 3, 0] rfl h2
set_option maxHeartbeats 4000000 in
set_option maxRecDepth 100000 in
theorem wX3_digest_b150 {E : mm_E} {G : mm_G} (X : mm_Cx E G cX3_digest 5 RX3 wsX3_digest rmX3_digest (some .long)) {a0 : Nat} {y1 : Int64} {x3 : Int32} {x4 : Int32} {σ : mm_M} {q : (Int64 × mm_M)} (ha0 : mm_Is G 3 a0) {o : (Int64 × mm_M) ⊕ ((Int64 × Int32 × mm_M) ⊕ ((Int64 × Int32 × mm_M) ⊕ ((Int64 × Int32 × Int32 × mm_M) ⊕ ((Int64 × Int32 × mm_M) ⊕ ((Int64 × Int32 × mm_M) ⊕ ((Int64 × Int32 × Int32 × mm_M) ⊕ ((Int64 × Int32 × mm_M) ⊕ (Int64 × Int32 × Int32 × mm_M))))))))} (h : fX3_digest_b150 G a0 y1 x3 x4 σ = some o) (hk : mm_Ok q (PX3_digest E G a0 q) o) : mm_At E G 5 (mm_Ql E G q) σ 150 [(0, .ref a0), (1, .long y1), (3, .int x3), (4, .int x4)] [] := by
  unfold fX3_digest_b150 at h
  refine at_iload (pc := 150) X 4 3 dX3_digest_150 rfl ?_
  refine at_aload_n (pc := 152) X 0 0 dX3_digest_152 rfl rfl ?_
  refine at_get (pc := 153) X 3 1 (.ref (mm_R G a0 1)) ha0 (by decide) rfl inX3_digest_X3 (by decide) lkX3_digest_6 rfl dX3_digest_153 ?_
  refine at_iload_n (pc := 156) X 3 2 dX3_digest_156 rfl rfl ?_
  obtain ⟨hc157, h⟩ := mm_chk h
  refine at_iald (pc := 157) X (wf_3_1 X.wf ha0) hc157 dX3_digest_157 ?_
  refine at_icmp_ge (pc := 158) X 184 dX3_digest_158 (by decide) (fun c158 => ?_) (fun c158 => ?_)
  · have h := mm_neg c158 h
    refine at_iinc (pc := 184) X 3 2 (x3 + 1) [(3, .int (x3 + 1)), (0, .ref a0), (1, .long y1), (4, .int x4)] dX3_digest_184 rfl (ii_1 _) (by decide) rfl ?_
    refine at_goto (pc := 187) X 127 dX3_digest_187 (by decide) ?_
    have h2 := mm_inr h hk; exact at_sub [1, 2, 0] rfl h2
  · have h := mm_pos c158 h
    refine at_ldc2_w (pc := 161) X (31 : Int64) lkX3_digest_3 dX3_digest_161 ?_
    refine at_lload_n (pc := 164) X 1 1 dX3_digest_164 rfl rfl ?_
    refine at_lmul (pc := 165) X dX3_digest_165 ?_
    refine at_aload_n (pc := 166) X 0 0 dX3_digest_166 rfl rfl ?_
    refine at_get (pc := 167) X 3 0 (.ref (mm_R G a0 0)) ha0 (by decide) rfl inX3_digest_X3 (by decide) lkX3_digest_7 rfl dX3_digest_167 ?_
    refine at_iload_n (pc := 170) X 3 2 dX3_digest_170 rfl rfl ?_
    obtain ⟨hc171, h⟩ := mm_chk h
    refine at_aald (pc := 171) X 10 5 (wf_3_0 X.wf ha0) (by decide) (by decide) rfl rfl hc171 dX3_digest_171 ?_
    refine at_iload (pc := 172) X 4 3 dX3_digest_172 rfl ?_
    obtain ⟨hc174, h⟩ := mm_chk h
    refine at_iald (pc := 174) X (wf_10 X.wf (wf_3_0 X.wf ha0) hc171) hc174 dX3_digest_174 ?_
    refine at_i2l (pc := 175) X dX3_digest_175 ?_
    refine at_ladd (pc := 176) X dX3_digest_176 ?_
    refine at_lstore_n (pc := 177) X 1 [(1, .long (((31 : Int64) * y1) + ((σ.1 (mm_R G (mm_R G a0 0) x3.toNatClampNeg) x4.toNatClampNeg).toInt64))), (0, .ref a0), (3, .int x3), (4, .int x4)] dX3_digest_177 rfl (by decide) rfl ?_
    refine at_iinc (pc := 178) X 4 3 (x4 + 1) [(4, .int (x4 + 1)), (1, .long (((31 : Int64) * y1) + ((σ.1 (mm_R G (mm_R G a0 0) x3.toNatClampNeg) x4.toNatClampNeg).toInt64))), (0, .ref a0), (3, .int x3)] dX3_digest_178 rfl (ii_1 _) (by decide) rfl ?_
    refine at_goto (pc := 181) X 150 dX3_digest_181 (by decide) ?_
    have h2 := mm_inr h hk; exact at_sub [2, 1, 3, 0] rfl h2
set_option maxHeartbeats 4000000 in
set_option maxRecDepth 100000 in
theorem wX3_digest_b127 {E : mm_E} {G : mm_G} (X : mm_Cx E G cX3_digest 5 RX3 wsX3_digest rmX3_digest (some .long)) {a0 : Nat} {y1 : Int64} {x3 : Int32} {σ : mm_M} {q : (Int64 × mm_M)} (ha0 : mm_Is G 3 a0) {o : (Int64 × mm_M) ⊕ ((Int64 × Int32 × mm_M) ⊕ ((Int64 × Int32 × mm_M) ⊕ ((Int64 × Int32 × Int32 × mm_M) ⊕ ((Int64 × Int32 × mm_M) ⊕ ((Int64 × Int32 × mm_M) ⊕ ((Int64 × Int32 × Int32 × mm_M) ⊕ ((Int64 × Int32 × mm_M) ⊕ (Int64 × Int32 × Int32 × mm_M))))))))} (h : fX3_digest_b127 G a0 y1 x3 σ = some o) (hk : mm_Ok q (PX3_digest E G a0 q) o) : mm_At E G 5 (mm_Ql E G q) σ 127 [(0, .ref a0), (1, .long y1), (3, .int x3)] [] := by
  unfold fX3_digest_b127 at h
  refine at_iload_n (pc := 127) X 3 2 dX3_digest_127 rfl rfl ?_
  refine at_bipush (pc := 128) X (6 : Int32) dX3_digest_128 ib_6 ?_
  refine at_icmp_ge (pc := 130) X 190 dX3_digest_130 (by decide) (fun c130 => ?_) (fun c130 => ?_)
  · have h := mm_neg c130 h
    refine at_iconst (pc := 190) X (0 : Int32) dX3_digest_190 ic_0 ?_
    refine at_istore_n (pc := 191) X 3 [(3, .int (0 : Int32)), (0, .ref a0), (1, .long y1)] dX3_digest_191 rfl (by decide) rfl ?_
    have h2 := mm_inr h hk; exact at_sub [1, 2, 0] rfl h2
  · have h := mm_pos c130 h
    refine at_ldc2_w (pc := 133) X (31 : Int64) lkX3_digest_3 dX3_digest_133 ?_
    refine at_lload_n (pc := 136) X 1 1 dX3_digest_136 rfl rfl ?_
    refine at_lmul (pc := 137) X dX3_digest_137 ?_
    refine at_aload_n (pc := 138) X 0 0 dX3_digest_138 rfl rfl ?_
    refine at_get (pc := 139) X 3 1 (.ref (mm_R G a0 1)) ha0 (by decide) rfl inX3_digest_X3 (by decide) lkX3_digest_6 rfl dX3_digest_139 ?_
    refine at_iload_n (pc := 142) X 3 2 dX3_digest_142 rfl rfl ?_
    obtain ⟨hc143, h⟩ := mm_chk h
    refine at_iald (pc := 143) X (wf_3_1 X.wf ha0) hc143 dX3_digest_143 ?_
    refine at_i2l (pc := 144) X dX3_digest_144 ?_
    refine at_ladd (pc := 145) X dX3_digest_145 ?_
    refine at_lstore_n (pc := 146) X 1 [(1, .long (((31 : Int64) * y1) + ((σ.1 (mm_R G a0 1) x3.toNatClampNeg).toInt64))), (0, .ref a0), (3, .int x3)] dX3_digest_146 rfl (by decide) rfl ?_
    refine at_iconst (pc := 147) X (0 : Int32) dX3_digest_147 ic_0 ?_
    refine at_istore (pc := 148) X 4 [(4, .int (0 : Int32)), (1, .long (((31 : Int64) * y1) + ((σ.1 (mm_R G a0 1) x3.toNatClampNeg).toInt64))), (0, .ref a0), (3, .int x3)] dX3_digest_148 (by decide) rfl ?_
    have h2 := mm_inr h hk; exact at_sub [2, 1, 3, 0] rfl h2
set_option maxHeartbeats 4000000 in
set_option maxRecDepth 100000 in
theorem wX3_digest_b97 {E : mm_E} {G : mm_G} (X : mm_Cx E G cX3_digest 5 RX3 wsX3_digest rmX3_digest (some .long)) {a0 : Nat} {y1 : Int64} {x3 : Int32} {σ : mm_M} {q : (Int64 × mm_M)} (ha0 : mm_Is G 3 a0) {o : (Int64 × mm_M) ⊕ ((Int64 × Int32 × mm_M) ⊕ ((Int64 × Int32 × mm_M) ⊕ ((Int64 × Int32 × Int32 × mm_M) ⊕ ((Int64 × Int32 × mm_M) ⊕ ((Int64 × Int32 × mm_M) ⊕ ((Int64 × Int32 × Int32 × mm_M) ⊕ ((Int64 × Int32 × mm_M) ⊕ (Int64 × Int32 × Int32 × mm_M))))))))} (h : fX3_digest_b97 G a0 y1 x3 σ = some o) (hk : mm_Ok q (PX3_digest E G a0 q) o) : mm_At E G 5 (mm_Ql E G q) σ 97 [(0, .ref a0), (1, .long y1), (3, .int x3)] [] := by
  unfold fX3_digest_b97 at h
  refine at_iload_n (pc := 97) X 3 2 dX3_digest_97 rfl rfl ?_
  refine at_iconst (pc := 98) X (3 : Int32) dX3_digest_98 ic_3 ?_
  refine at_icmp_ge (pc := 99) X 125 dX3_digest_99 (by decide) (fun c99 => ?_) (fun c99 => ?_)
  · have h := mm_neg c99 h
    refine at_iconst (pc := 125) X (0 : Int32) dX3_digest_125 ic_0 ?_
    refine at_istore_n (pc := 126) X 3 [(3, .int (0 : Int32)), (0, .ref a0), (1, .long y1)] dX3_digest_126 rfl (by decide) rfl ?_
    have h2 := mm_inr h hk; exact at_sub [1, 2, 0] rfl h2
  · have h := mm_pos c99 h
    refine at_ldc2_w (pc := 102) X (31 : Int64) lkX3_digest_3 dX3_digest_102 ?_
    refine at_lload_n (pc := 105) X 1 1 dX3_digest_105 rfl rfl ?_
    refine at_lmul (pc := 106) X dX3_digest_106 ?_
    refine at_aload_n (pc := 107) X 0 0 dX3_digest_107 rfl rfl ?_
    refine at_get (pc := 108) X 3 7 (.ref (mm_R G a0 7)) ha0 (by decide) rfl inX3_digest_X3 (by decide) lkX3_digest_8 rfl dX3_digest_108 ?_
    refine at_iload_n (pc := 111) X 3 2 dX3_digest_111 rfl rfl ?_
    obtain ⟨hc112, h⟩ := mm_chk h
    refine at_aald (pc := 112) X 7 2 (wf_3_7 X.wf ha0) (by decide) (by decide) rfl rfl hc112 dX3_digest_112 ?_
    refine at_get (pc := 113) X 1 1 (.int (σ.1 (mm_R G (mm_R G a0 7) x3.toNatClampNeg) 1)) (wf_7 X.wf (wf_3_7 X.wf ha0) hc112) (by decide) rfl inX3_digest_X1 (by decide) lkX3_digest_9 rfl dX3_digest_113 ?_
    refine at_i2l (pc := 116) X dX3_digest_116 ?_
    refine at_ladd (pc := 117) X dX3_digest_117 ?_
    refine at_lstore_n (pc := 118) X 1 [(1, .long (((31 : Int64) * y1) + ((σ.1 (mm_R G (mm_R G a0 7) x3.toNatClampNeg) 1).toInt64))), (0, .ref a0), (3, .int x3)] dX3_digest_118 rfl (by decide) rfl ?_
    refine at_iinc (pc := 119) X 3 2 (x3 + 1) [(3, .int (x3 + 1)), (1, .long (((31 : Int64) * y1) + ((σ.1 (mm_R G (mm_R G a0 7) x3.toNatClampNeg) 1).toInt64))), (0, .ref a0)] dX3_digest_119 rfl (ii_1 _) (by decide) rfl ?_
    refine at_goto (pc := 122) X 97 dX3_digest_122 (by decide) ?_
    have h2 := mm_inr h hk; exact at_sub [2, 1, 0] rfl h2
set_option maxHeartbeats 4000000 in
set_option maxRecDepth 100000 in
theorem wX3_digest_b47 {E : mm_E} {G : mm_G} (X : mm_Cx E G cX3_digest 5 RX3 wsX3_digest rmX3_digest (some .long)) {a0 : Nat} {y1 : Int64} {x3 : Int32} {x4 : Int32} {σ : mm_M} {q : (Int64 × mm_M)} (ha0 : mm_Is G 3 a0) {o : (Int64 × mm_M) ⊕ ((Int64 × Int32 × mm_M) ⊕ ((Int64 × Int32 × mm_M) ⊕ ((Int64 × Int32 × Int32 × mm_M) ⊕ ((Int64 × Int32 × mm_M) ⊕ ((Int64 × Int32 × mm_M) ⊕ ((Int64 × Int32 × Int32 × mm_M) ⊕ ((Int64 × Int32 × mm_M) ⊕ (Int64 × Int32 × Int32 × mm_M))))))))} (h : fX3_digest_b47 G a0 y1 x3 x4 σ = some o) (hk : mm_Ok q (PX3_digest E G a0 q) o) : mm_At E G 5 (mm_Ql E G q) σ 47 [(0, .ref a0), (1, .long y1), (3, .int x3), (4, .int x4)] [] := by
  unfold fX3_digest_b47 at h
  refine at_iload (pc := 47) X 4 3 dX3_digest_47 rfl ?_
  refine at_bipush (pc := 49) X (7 : Int32) dX3_digest_49 ib_7 ?_
  refine at_icmp_ge (pc := 51) X 89 dX3_digest_51 (by decide) (fun c51 => ?_) (fun c51 => ?_)
  · have h := mm_neg c51 h
    refine at_iinc (pc := 89) X 3 2 (x3 + 1) [(3, .int (x3 + 1)), (0, .ref a0), (1, .long y1), (4, .int x4)] dX3_digest_89 rfl (ii_1 _) (by decide) rfl ?_
    refine at_goto (pc := 92) X 33 dX3_digest_92 (by decide) ?_
    have h2 := mm_inr h hk; exact at_sub [1, 2, 0] rfl h2
  · have h := mm_pos c51 h
    refine at_ldc2_w (pc := 54) X (31 : Int64) lkX3_digest_3 dX3_digest_54 ?_
    refine at_lload_n (pc := 57) X 1 1 dX3_digest_57 rfl rfl ?_
    refine at_lmul (pc := 58) X dX3_digest_58 ?_
    refine at_aload_n (pc := 59) X 0 0 dX3_digest_59 rfl rfl ?_
    refine at_get (pc := 60) X 3 5 (.ref (mm_R G a0 5)) ha0 (by decide) rfl inX3_digest_X3 (by decide) lkX3_digest_1 rfl dX3_digest_60 ?_
    refine at_get (pc := 63) X 0 0 (.ref (mm_R G (mm_R G a0 5) 0)) (wf_3_5 X.wf ha0) (by decide) rfl inX3_digest_X0 (by decide) lkX3_digest_10 rfl dX3_digest_63 ?_
    refine at_iload_n (pc := 66) X 3 2 dX3_digest_66 rfl rfl ?_
    obtain ⟨hc67, h⟩ := mm_chk h
    refine at_aald (pc := 67) X 8 3 (wf_0_0 X.wf (wf_3_5 X.wf ha0)) (by decide) (by decide) rfl rfl hc67 dX3_digest_67 ?_
    refine at_iload (pc := 68) X 4 3 dX3_digest_68 rfl ?_
    refine at_aload_n (pc := 70) X 0 0 dX3_digest_70 rfl rfl ?_
    refine at_get (pc := 71) X 3 5 (.ref (mm_R G a0 5)) ha0 (by decide) rfl inX3_digest_X3 (by decide) lkX3_digest_1 rfl dX3_digest_71 ?_
    refine at_get (pc := 74) X 0 5 (.int (σ.1 (mm_R G a0 5) 5)) (wf_3_5 X.wf ha0) (by decide) rfl inX3_digest_X0 (by decide) lkX3_digest_11 rfl dX3_digest_74 ?_
    obtain ⟨q77, hq77, h⟩ := mm_bind h
    refine at_calli (n := 2) (pc := 77) X 2 [.int x4, .int (σ.1 (mm_R G a0 5) 5)] [.long ((31 : Int64) * y1)] (mX2_told (eL E) X.wf (wf_8 X.wf (wf_0_0 X.wf (wf_3_5 X.wf ha0)) hc67) hq77) gX3_digest_X2_told rfl ⟨rfl, rfl⟩ (by decide +kernel) ⟨by decide, by decide⟩ (by decide) rfl (wf_8 X.wf (wf_0_0 X.wf (wf_3_5 X.wf ha0)) hc67) rfl rfl (Nat.le_of_ble_eq_true rfl) dX3_digest_77 ?_
    refine at_i2l (pc := 80) X dX3_digest_80 ?_
    refine at_ladd (pc := 81) X dX3_digest_81 ?_
    refine at_lstore_n (pc := 82) X 1 [(1, .long (((31 : Int64) * y1) + q77.1.toInt64)), (0, .ref a0), (3, .int x3), (4, .int x4)] dX3_digest_82 rfl (by decide) rfl ?_
    refine at_iinc (pc := 83) X 4 3 (x4 + 1) [(4, .int (x4 + 1)), (1, .long (((31 : Int64) * y1) + q77.1.toInt64)), (0, .ref a0), (3, .int x3)] dX3_digest_83 rfl (ii_1 _) (by decide) rfl ?_
    refine at_goto (pc := 86) X 47 dX3_digest_86 (by decide) ?_
    have h2 := mm_inr h hk; exact at_sub [2, 1, 3, 0] rfl h2
set_option maxHeartbeats 4000000 in
set_option maxRecDepth 100000 in
theorem wX3_digest_b33 {E : mm_E} {G : mm_G} (X : mm_Cx E G cX3_digest 5 RX3 wsX3_digest rmX3_digest (some .long)) {a0 : Nat} {y1 : Int64} {x3 : Int32} {σ : mm_M} {q : (Int64 × mm_M)} (ha0 : mm_Is G 3 a0) {o : (Int64 × mm_M) ⊕ ((Int64 × Int32 × mm_M) ⊕ ((Int64 × Int32 × mm_M) ⊕ ((Int64 × Int32 × Int32 × mm_M) ⊕ ((Int64 × Int32 × mm_M) ⊕ ((Int64 × Int32 × mm_M) ⊕ ((Int64 × Int32 × Int32 × mm_M) ⊕ ((Int64 × Int32 × mm_M) ⊕ (Int64 × Int32 × Int32 × mm_M))))))))} (h : fX3_digest_b33 G a0 y1 x3 σ = some o) (hk : mm_Ok q (PX3_digest E G a0 q) o) : mm_At E G 5 (mm_Ql E G q) σ 33 [(0, .ref a0), (1, .long y1), (3, .int x3)] [] := by
  unfold fX3_digest_b33 at h
  refine at_iload_n (pc := 33) X 3 2 dX3_digest_33 rfl rfl ?_
  refine at_aload_n (pc := 34) X 0 0 dX3_digest_34 rfl rfl ?_
  refine at_get (pc := 35) X 3 5 (.ref (mm_R G a0 5)) ha0 (by decide) rfl inX3_digest_X3 (by decide) lkX3_digest_1 rfl dX3_digest_35 ?_
  refine at_get (pc := 38) X 0 1 (.int (σ.1 (mm_R G a0 5) 1)) (wf_3_5 X.wf ha0) (by decide) rfl inX3_digest_X0 (by decide) lkX3_digest_2 rfl dX3_digest_38 ?_
  refine at_icmp_ge (pc := 41) X 95 dX3_digest_41 (by decide) (fun c41 => ?_) (fun c41 => ?_)
  · have h := mm_neg c41 h
    refine at_iconst (pc := 95) X (0 : Int32) dX3_digest_95 ic_0 ?_
    refine at_istore_n (pc := 96) X 3 [(3, .int (0 : Int32)), (0, .ref a0), (1, .long y1)] dX3_digest_96 rfl (by decide) rfl ?_
    have h2 := mm_inr h hk; exact at_sub [1, 2, 0] rfl h2
  · have h := mm_pos c41 h
    refine at_iconst (pc := 44) X (0 : Int32) dX3_digest_44 ic_0 ?_
    refine at_istore (pc := 45) X 4 [(4, .int (0 : Int32)), (0, .ref a0), (1, .long y1), (3, .int x3)] dX3_digest_45 (by decide) rfl ?_
    have h2 := mm_inr h hk; exact at_sub [1, 2, 3, 0] rfl h2
set_option maxHeartbeats 4000000 in
set_option maxRecDepth 100000 in
theorem wX3_digest_b6 {E : mm_E} {G : mm_G} (X : mm_Cx E G cX3_digest 5 RX3 wsX3_digest rmX3_digest (some .long)) {a0 : Nat} {y1 : Int64} {x3 : Int32} {σ : mm_M} {q : (Int64 × mm_M)} (ha0 : mm_Is G 3 a0) {o : (Int64 × mm_M) ⊕ ((Int64 × Int32 × mm_M) ⊕ ((Int64 × Int32 × mm_M) ⊕ ((Int64 × Int32 × Int32 × mm_M) ⊕ ((Int64 × Int32 × mm_M) ⊕ ((Int64 × Int32 × mm_M) ⊕ ((Int64 × Int32 × Int32 × mm_M) ⊕ ((Int64 × Int32 × mm_M) ⊕ (Int64 × Int32 × Int32 × mm_M))))))))} (h : fX3_digest_b6 G a0 y1 x3 σ = some o) (hk : mm_Ok q (PX3_digest E G a0 q) o) : mm_At E G 5 (mm_Ql E G q) σ 6 [(0, .ref a0), (1, .long y1), (3, .int x3)] [] := by
  unfold fX3_digest_b6 at h
  refine at_iload_n (pc := 6) X 3 2 dX3_digest_6 rfl rfl ?_
  refine at_bipush (pc := 7) X (12 : Int32) dX3_digest_7 ib_12 ?_
  refine at_icmp_ge (pc := 9) X 31 dX3_digest_9 (by decide) (fun c9 => ?_) (fun c9 => ?_)
  · have h := mm_neg c9 h
    refine at_iconst (pc := 31) X (0 : Int32) dX3_digest_31 ic_0 ?_
    refine at_istore_n (pc := 32) X 3 [(3, .int (0 : Int32)), (0, .ref a0), (1, .long y1)] dX3_digest_32 rfl (by decide) rfl ?_
    have h2 := mm_inr h hk; exact at_sub [1, 2, 0] rfl h2
  · have h := mm_pos c9 h
    refine at_ldc2_w (pc := 12) X (31 : Int64) lkX3_digest_3 dX3_digest_12 ?_
    refine at_lload_n (pc := 15) X 1 1 dX3_digest_15 rfl rfl ?_
    refine at_lmul (pc := 16) X dX3_digest_16 ?_
    refine at_aload_n (pc := 17) X 0 0 dX3_digest_17 rfl rfl ?_
    refine at_iload_n (pc := 18) X 3 2 dX3_digest_18 rfl rfl ?_
    obtain ⟨q19, hq19, h⟩ := mm_bind h
    refine at_calli (n := 1) (pc := 19) X 3 [.int x3] [.long ((31 : Int64) * y1)] (mX3_counted (eL E) X.wf ha0 hq19) gX3_digest_X3_counted rfl ⟨rfl, rfl⟩ (by decide +kernel) ⟨by decide, by decide⟩ (by decide) rfl ha0 rfl rfl (Nat.le_of_ble_eq_true rfl) dX3_digest_19 ?_
    refine at_i2l (pc := 22) X dX3_digest_22 ?_
    refine at_ladd (pc := 23) X dX3_digest_23 ?_
    refine at_lstore_n (pc := 24) X 1 [(1, .long (((31 : Int64) * y1) + q19.1.toInt64)), (0, .ref a0), (3, .int x3)] dX3_digest_24 rfl (by decide) rfl ?_
    refine at_iinc (pc := 25) X 3 2 (x3 + 1) [(3, .int (x3 + 1)), (1, .long (((31 : Int64) * y1) + q19.1.toInt64)), (0, .ref a0)] dX3_digest_25 rfl (ii_1 _) (by decide) rfl ?_
    refine at_goto (pc := 28) X 6 dX3_digest_28 (by decide) ?_
    have h2 := mm_inr h hk; exact at_sub [2, 1, 0] rfl h2
set_option maxHeartbeats 4000000 in
set_option maxRecDepth 100000 in
theorem wX3_digest_b0 {E : mm_E} {G : mm_G} (X : mm_Cx E G cX3_digest 5 RX3 wsX3_digest rmX3_digest (some .long)) {a0 : Nat} {σ : mm_M} {q : (Int64 × mm_M)} (ha0 : mm_Is G 3 a0) {o : (Int64 × mm_M) ⊕ ((Int64 × Int32 × mm_M) ⊕ ((Int64 × Int32 × mm_M) ⊕ ((Int64 × Int32 × Int32 × mm_M) ⊕ ((Int64 × Int32 × mm_M) ⊕ ((Int64 × Int32 × mm_M) ⊕ ((Int64 × Int32 × Int32 × mm_M) ⊕ ((Int64 × Int32 × mm_M) ⊕ (Int64 × Int32 × Int32 × mm_M))))))))} (h : fX3_digest_b0 G a0 σ = some o) (hk : mm_Ok q (PX3_digest E G a0 q) o) : mm_At E G 5 (mm_Ql E G q) σ 0 [(0, .ref a0)] [] := by
  unfold fX3_digest_b0 at h
  refine at_ldc2_w (pc := 0) X (17 : Int64) lkX3_digest_0 dX3_digest_0 ?_
  refine at_lstore_n (pc := 3) X 1 [(1, .long (17 : Int64)), (0, .ref a0)] dX3_digest_3 rfl (by decide) rfl ?_
  refine at_iconst (pc := 4) X (0 : Int32) dX3_digest_4 ic_0 ?_
  refine at_istore_n (pc := 5) X 3 [(3, .int (0 : Int32)), (1, .long (17 : Int64)), (0, .ref a0)] dX3_digest_5 rfl (by decide) rfl ?_
  have h2 := mm_inr h hk; exact at_sub [2, 1, 0] rfl h2
set_option maxHeartbeats 4000000 in
set_option maxRecDepth 100000 in
theorem mX3_digest (l : Launch) {G : mm_G} (hwf : mm_WF G) {a0 : Nat} {σ : mm_M} {q : (Int64 × mm_M)} (ha0 : mm_Is G 3 a0) (h : fX3_digest G a0 σ = some q) : mm_Ml l yX3_digest wsX3_digest rmX3_digest G [.ref a0] σ q := by
  refine mm_ofl (cc := cX3_digest) (nL := 5) (ret := some .long) (own := RX3) (lv0 := [(0, .ref a0)]) (by decide) rfl rfl (Nat.le_of_ble_eq_true rfl) rfl hwf (fun E hE X => ?_)
  obtain ⟨o, h0, hk⟩ := mm_run_ok (P := PX3_digest E G a0 q) h (fun s o hs hk => by cases s with | inl s => exact wX3_digest_b6 X ha0 hs hk | inr s => (cases s with | inl s => exact wX3_digest_b33 X ha0 hs hk | inr s => (cases s with | inl s => exact wX3_digest_b47 X ha0 hs hk | inr s => (cases s with | inl s => exact wX3_digest_b97 X ha0 hs hk | inr s => (cases s with | inl s => exact wX3_digest_b127 X ha0 hs hk | inr s => (cases s with | inl s => exact wX3_digest_b150 X ha0 hs hk | inr s => (cases s with | inl s => exact wX3_digest_b192 X ha0 hs hk | inr s => (exact wX3_digest_b214 X ha0 hs hk))))))))
  exact wX3_digest_b0 X ha0 h0 hk
