/-! WHAT THE TABLES SAY at the law's entry: classes, array classes, the class's two static tables. -/
section LT
variable {s : State} {b : Nat}
theorem lt_arr {cA : ClassId} {k : Class} {comp : ClassId} {ty : FieldType} (h1 : s.vm.classes[cA]? = some k) (h2 : k.kind = .array comp ty) : ArrOfT s cA ty := fun _ _ => ⟨(fun k h => by cases h), k, h1, comp, h2⟩
theorem lt_i39 : Cond.initialized "AirTalkers" ∈ lw_tbl := List.mem_of_getElem? (i := 39) (by decide +kernel)
theorem lt_i48 : Cond.instantiable RX3 17 ∈ lw_tbl := List.mem_of_getElem? (i := 48) (by decide +kernel)
theorem lt_i56 : Cond.arrayOver (.array .int) ∈ lw_tbl := List.mem_of_getElem? (i := 56) (by decide +kernel)
theorem lt_i58 : Cond.arrayOver (.array .byte) ∈ lw_tbl := List.mem_of_getElem? (i := 58) (by decide +kernel)
theorem lt_i60 : Cond.instantiable RX0 6 ∈ lw_tbl := List.mem_of_getElem? (i := 60) (by decide +kernel)
theorem lt_i66 : Cond.arrayOver (.object RX2) ∈ lw_tbl := List.mem_of_getElem? (i := 66) (by decide +kernel)
theorem lt_i67 : Cond.instantiable RX2 6 ∈ lw_tbl := List.mem_of_getElem? (i := 67) (by decide +kernel)
theorem lt_i68 : Cond.methodLinkNest RX0 34 yX2_init "AirTalkers" ∈ lw_tbl := List.mem_of_getElem? (i := 68) (by decide +kernel)
theorem lt_i99 : Cond.arrayClass .int ∈ lw_tbl := List.mem_of_getElem? (i := 99) (by decide +kernel)
theorem lt_i100 : Cond.arrayClass .byte ∈ lw_tbl := List.mem_of_getElem? (i := 100) (by decide +kernel)
theorem lt_i127 : Cond.instantiable RX1 2 ∈ lw_tbl := List.mem_of_getElem? (i := 127) (by decide +kernel)
theorem lt_i128 : Cond.methodLinkNest RX3 38 yX1_init "AirTalkers" ∈ lw_tbl := List.mem_of_getElem? (i := 128) (by decide +kernel)
theorem lt_i141 : Cond.arrayOver (.object RX1) ∈ lw_tbl := List.mem_of_getElem? (i := 141) (by decide +kernel)
theorem lt_i261 : mm_w1 ∈ lw_tbl := List.mem_of_getElem? (i := 261) (by decide +kernel)
theorem lt_i262 : Cond.laysStatic "AirTalkers" "KIND_LETTERS" "[I" ∈ lw_tbl := List.mem_of_getElem? (i := 262) (by decide +kernel)
theorem lt_i299 : mm_w0 ∈ lw_tbl := List.mem_of_getElem? (i := 299) (by decide +kernel)
theorem lt_i300 : Cond.laysStatic "AirTalkers" "KIND_ABOVE" "[I" ∈ lw_tbl := List.mem_of_getElem? (i := 300) (by decide +kernel)
theorem lt_i587 : Cond.instantiable RX4 22 ∈ lw_tbl := List.mem_of_getElem? (i := 587) (by decide +kernel)
def lt_C (c5 c6 c7 c8 c9 c10 : ClassId) (k : Nat) : ClassId := if k = 5 then c5 else if k = 6 then c6 else if k = 7 then c7 else if k = 8 then c8 else if k = 9 then c9 else c10
def lt_f {α : Type} (a0 a1 a2 a3 a4 : α) (k : Nat) : α := if k = 0 then a0 else if k = 1 then a1 else if k = 2 then a2 else if k = 3 then a3 else a4
theorem lt_cl {dC : Nat → ClassId} {dI : Nat → Nat → Nat} (h0 : u_Kn s RX0 TX0 6 (dC 0) (dI 0)) (h1 : u_Kn s RX1 TX1 2 (dC 1) (dI 1)) (h2 : u_Kn s RX2 TX2 6 (dC 2) (dI 2)) (h3 : u_Kn s RX3 TX3 17 (dC 3) (dI 3)) (h4 : u_Kn s RX4 TX4 22 (dC 4) (dI 4)) : ∀ (c : Nat) (q : vw_C), vwCl[c]? = some q → u_Kn s q.1 q.2.1 q.2.2 (dC c) (dI c) := by
  intro c q hq
  match c, hq with
  | 0, hq => cases hq; exact h0
  | 1, hq => cases hq; exact h1
  | 2, hq => cases hq; exact h2
  | 3, hq => cases hq; exact h3
  | 4, hq => cases hq; exact h4
  | c + 5, hq => simp [vwCl] at hq
theorem lt_ty {C : Nat → ClassId} (h5 : ArrOfT s (C 5) .byte ∧ va_RA s (C 5) .byte) (h6 : ArrOfT s (C 6) .int ∧ va_RA s (C 6) .int) (h7 : ArrOfT s (C 7) (.object RX1) ∧ va_RA s (C 7) (.object RX1)) (h8 : ArrOfT s (C 8) (.object RX2) ∧ va_RA s (C 8) (.object RX2)) (h9 : ArrOfT s (C 9) (.array .byte) ∧ va_RA s (C 9) (.array .byte)) (h10 : ArrOfT s (C 10) (.array .int) ∧ va_RA s (C 10) (.array .int)) : ∀ (k : Nat) (q : ClassId × FieldType), (kk_tys C)[k]? = some q → ArrOfT s q.1 q.2 ∧ va_RA s q.1 q.2 := by
  intro k q hq
  unfold kk_tys at hq
  match k, hq with
  | 0, hq => cases hq; exact h5
  | 1, hq => cases hq; exact h6
  | 2, hq => cases hq; exact h7
  | 3, hq => cases hq; exact h8
  | 4, hq => cases hq; exact h9
  | 5, hq => cases hq; exact h10
  | k + 6, hq => simp at hq
set_option maxHeartbeats 4000000 in
set_option maxRecDepth 100000 in
theorem lt_T (hts : ∀ w ∈ lw_tbl, w.before #[Value.ref b] s = true) : ∃ (D : va_G) (C : Nat → ClassId), kk_T D C s := by
  obtain ⟨c10, c6, hI⟩ := mn_T.of (hts _ lt_i56) (hts _ lt_i99)
  obtain ⟨c9, c5, hB⟩ := mn_T.of (hts _ lt_i58) (hts _ lt_i100)
  obtain ⟨o7, c7, k7, a1, -, a3, a4, a5⟩ := Cond.arrayOver_spec (hts _ lt_i141)
  obtain ⟨o8, c8, k8, b1, -, b3, b4, b5⟩ := Cond.arrayOver_spec (hts _ lt_i66)
  obtain ⟨d0, i0, hK0⟩ := u_known (C := RX0) (T := TX0) (N := 6) (n := 6) hts inX0 (hts _ lt_i60)
  obtain ⟨d1, i1, hK1⟩ := u_known (C := RX1) (T := TX1) (N := 2) (n := 2) hts inX1 (hts _ lt_i127)
  obtain ⟨d2, i2, hK2⟩ := u_known (C := RX2) (T := TX2) (N := 6) (n := 6) hts inX2 (hts _ lt_i67)
  obtain ⟨d3, i3, hK3⟩ := u_known (C := RX3) (T := TX3) (N := 17) (n := 17) hts inX3 (hts _ lt_i48)
  obtain ⟨d4, i4, hK4⟩ := u_known (C := RX4) (T := TX4) (N := 22) (n := 22) hts inX4 (hts _ lt_i587)
  have hI' := hI
  have hB' := hB
  obtain ⟨kA, kC, cc, n1, n2, n3, n4, n5, n6⟩ := hI'
  obtain ⟨lA, lC, lc, m1, m2, m3, m4, m5, m6⟩ := hB'
  refine ⟨(lt_f d0 d1 d2 d3 d4, lt_f i0 i1 i2 i3 i4), lt_C c5 c6 c7 c8 c9 c10, ⟨lt_cl (dC := lt_f d0 d1 d2 d3 d4) (dI := lt_f i0 i1 i2 i3 i4) hK0 hK1 hK2 hK3 hK4, lt_ty (C := lt_C c5 c6 c7 c8 c9 c10) ⟨lt_arr (cA := c5) m5 m6, m2⟩ ⟨lt_arr (cA := c6) n5 n6, n2⟩ ⟨lt_arr (cA := c7) a3 a4, k7, o7, a3, a4, a1, a5⟩ ⟨lt_arr (cA := c8) b3 b4, k8, o8, b3, b4, b1, b5⟩ ⟨lt_arr (cA := c9) m3 m4, m1⟩ ⟨lt_arr (cA := c10) n3 n4, n1⟩⟩, hI, hB, va_AO.of (hts _ lt_i66), va_AO.of (hts _ lt_i141), va_Nw.of rfl (hts _ lt_i68), va_Nw.of rfl (hts _ lt_i128)⟩
abbrev lt_t0 : Term := .static "AirTalkers" "KIND_ABOVE" "[I"
abbrev lt_t1 : Term := .static "AirTalkers" "KIND_LETTERS" "[I"
theorem lt_fl {args : Array Value} {w : Cond} (h : (Jvm.Cond.and given_1 narrow_1).before args s = true) (hw : w ∈ flatC (Jvm.Cond.and given_1 narrow_1)) : w.before args s = true := flat_of_before _ h w hw
set_option maxHeartbeats 4000000 in
set_option maxRecDepth 100000 in
theorem lt_S0 (hts : ∀ w ∈ lw_tbl, w.before #[Value.ref b] s = true) (hgv : (Jvm.Cond.and given_1 narrow_1).before #[Value.ref b] s = true) : ∃ t : Nat, va_Z "AirTalkers" "KIND_ABOVE" "[I" (.ref t) (fun q => s.heap.size ≤ q) s s.heap ∧ va_T .int t 6 (fun j => .int (mm_tab 0 j)) (fun q => s.heap.size ≤ q) s s.heap := by
  have hA : ∀ a : Nat, a < s.heap.size → ¬ (fun q : Nat => s.heap.size ≤ q) a := fun a h => Nat.not_le.mpr h
  obtain ⟨t, ht, hT⟩ := va_Tof (tm := lt_t0) (ty := .int) (N := 6) (f := fun j => .int (mm_tab 0 j)) (A := fun q => s.heap.size ≤ q) (by decide) (lt_fl hgv (by decide +kernel)) (va_eqt (z := Int32.ofNat 6) (lt_fl hgv (by decide +kernel))) (fun j hj => by
    rcases (show j = 0 ∨ j = 1 ∨ j = 2 ∨ j = 3 ∨ j = 4 ∨ j = 5 by omega) with rfl | rfl | rfl | rfl | rfl | rfl
    · exact va_eqt (z := mm_tab 0 0) (lt_fl hgv (by decide +kernel))
    · exact va_eqt (z := mm_tab 0 1) (lt_fl hgv (by decide +kernel))
    · exact va_eqt (z := mm_tab 0 2) (lt_fl hgv (by decide +kernel))
    · exact va_eqt (z := mm_tab 0 3) (lt_fl hgv (by decide +kernel))
    · exact va_eqt (z := mm_tab 0 4) (lt_fl hgv (by decide +kernel))
    · exact va_eqt (z := mm_tab 0 5) (lt_fl hgv (by decide +kernel))) hA
  exact ⟨t, va_Zof (hts _ lt_i300) (hts _ lt_i39) ht hA, hT⟩
set_option maxHeartbeats 4000000 in
set_option maxRecDepth 100000 in
theorem lt_S1 (hts : ∀ w ∈ lw_tbl, w.before #[Value.ref b] s = true) (hgv : (Jvm.Cond.and given_1 narrow_1).before #[Value.ref b] s = true) : ∃ t : Nat, va_Z "AirTalkers" "KIND_LETTERS" "[I" (.ref t) (fun q => s.heap.size ≤ q) s s.heap ∧ va_T .int t 6 (fun j => .int (mm_tab 1 j)) (fun q => s.heap.size ≤ q) s s.heap := by
  have hA : ∀ a : Nat, a < s.heap.size → ¬ (fun q : Nat => s.heap.size ≤ q) a := fun a h => Nat.not_le.mpr h
  obtain ⟨t, ht, hT⟩ := va_Tof (tm := lt_t1) (ty := .int) (N := 6) (f := fun j => .int (mm_tab 1 j)) (A := fun q => s.heap.size ≤ q) (by decide) (lt_fl hgv (by decide +kernel)) (va_eqt (z := Int32.ofNat 6) (lt_fl hgv (by decide +kernel))) (fun j hj => by
    rcases (show j = 0 ∨ j = 1 ∨ j = 2 ∨ j = 3 ∨ j = 4 ∨ j = 5 by omega) with rfl | rfl | rfl | rfl | rfl | rfl
    · exact va_eqt (z := mm_tab 1 0) (lt_fl hgv (by decide +kernel))
    · exact va_eqt (z := mm_tab 1 1) (lt_fl hgv (by decide +kernel))
    · exact va_eqt (z := mm_tab 1 2) (lt_fl hgv (by decide +kernel))
    · exact va_eqt (z := mm_tab 1 3) (lt_fl hgv (by decide +kernel))
    · exact va_eqt (z := mm_tab 1 4) (lt_fl hgv (by decide +kernel))
    · exact va_eqt (z := mm_tab 1 5) (lt_fl hgv (by decide +kernel))) hA
  exact ⟨t, va_Zof (hts _ lt_i262) (hts _ lt_i39) ht hA, hT⟩
/-- the two tables, in any world of new cells -/
theorem lt_St (hts : ∀ w ∈ lw_tbl, w.before #[Value.ref b] s = true) (hgv : (Jvm.Cond.and given_1 narrow_1).before #[Value.ref b] s = true) : ∃ T : Nat → Nat, ∀ (L : List Nat) (D : va_G) (C : Nat → ClassId), (∀ a, a ∈ L → s.heap.size ≤ a) → mm_St (ge_G L D C T) s := by
  obtain ⟨t0, z0, h0⟩ := lt_S0 hts hgv
  obtain ⟨t1, z1, h1⟩ := lt_S1 hts hgv
  refine ⟨fun k => if k = 0 then t0 else t1, fun L D C hL => ⟨⟨?_, ?_, va_Nw.of rfl (hts _ lt_i299)⟩, ⟨?_, ?_, va_Nw.of rfl (hts _ lt_i261)⟩⟩⟩
  · exact z0.narrow hL
  · exact h0.narrow hL
  · exact z1.narrow hL
  · exact h1.narrow hL
end LT
