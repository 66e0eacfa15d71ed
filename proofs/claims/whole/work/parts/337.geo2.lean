/-! THE START, as a value; both sides hold it. -/
def Y_0 : Ps := (fun _ => -1, fun _ _ => 0, fun _ => -1, fun _ _ => 0, (0, (0, 0, 0, 0), fun _ => (0, 0, 0, 0, 0, 0)), [], fun _ => none, 0, 0, 1, 0, fun _ => 0)
theorem Y_0_ok : okP Y_0 := by
  have hA : okA ((0, (0, 0, 0, 0), fun _ => (0, 0, 0, 0, 0, 0)) : ab_A) := ⟨0, by decide, rfl, ⟨by decide, ⟨0, by decide, rfl⟩, Or.inl rfl, fun i h => absurd h (Nat.not_lt_zero i)⟩, fun i h => absurd h (Nat.not_lt_zero i)⟩
  refine ⟨fun _ _ => Or.inl rfl, fun _ _ => Or.inl rfl, fun _ _ => (by decide : (0 : Int32).toInt8.toInt32 = 0), ⟨by decide, fun d h => absurd h List.not_mem_nil, fun j _ => ?_⟩, fun k _ L h => ?_, fun _ _ _ => rfl⟩
  · show okA (ab_acts _ (List.take j []))
    rw [List.take_nil]
    exact hA
  · cases h
theorem Y_no {i : Nat} (hi : i < 2 ^ 31) : ¬ nI i < (-1 : Int32) := fun h => nI_pos hi (Int32.lt_trans h (by decide))
section GC
variable {L : List Nat} {D : va_G} {C : Nat → ClassId} {T : Nat → Nat}
set_option maxHeartbeats 4000000 in
set_option maxRecDepth 100000 in
theorem ge_CR (hn : ge_nd L) (hl : L.length = 87) : CR (ge_G L D C T) (ge_ad L 0) (ge_s L) Y_0 := by
  have e0 : mm_R (ge_G L D C T) (ge_ad L 0) 0 = ge_ad L 7 := ge_Rk hn hl (k := 0) (by decide) 0
  have e1 : mm_R (ge_G L D C T) (ge_ad L 0) 1 = ge_ad L 1 := ge_Rk hn hl (k := 0) (by decide) 1
  have e2 : mm_R (ge_G L D C T) (ge_ad L 0) 2 = ge_ad L 14 := ge_Rk hn hl (k := 0) (by decide) 2
  have e3 : mm_R (ge_G L D C T) (ge_ad L 0) 3 = ge_ad L 2 := ge_Rk hn hl (k := 0) (by decide) 3
  have e4 : mm_R (ge_G L D C T) (ge_ad L 0) 4 = ge_ad L 19 := ge_Rk hn hl (k := 0) (by decide) 4
  have e5 : mm_R (ge_G L D C T) (ge_ad L 0) 5 = ge_ad L 28 := ge_Rk hn hl (k := 0) (by decide) 5
  have e6 : mm_R (ge_G L D C T) (ge_ad L 0) 6 = ge_ad L 37 := ge_Rk hn hl (k := 0) (by decide) 6
  have e7 : mm_R (ge_G L D C T) (ge_ad L 0) 7 = ge_ad L 3 := ge_Rk hn hl (k := 0) (by decide) 7
  have e8 : mm_R (ge_G L D C T) (ge_ad L 0) 8 = ge_ad L 39 := ge_Rk hn hl (k := 0) (by decide) 8
  have e9 : mm_R (ge_G L D C T) (ge_ad L 0) 9 = ge_ad L 48 := ge_Rk hn hl (k := 0) (by decide) 9
  have e10 : mm_R (ge_G L D C T) (ge_ad L 0) 10 = ge_ad L 57 := ge_Rk hn hl (k := 0) (by decide) 10
  have e11 : mm_R (ge_G L D C T) (ge_ad L 0) 11 = ge_ad L 58 := ge_Rk hn hl (k := 0) (by decide) 11
  have e16 : mm_R (ge_G L D C T) (ge_ad L 0) 16 = ge_ad L 65 := ge_Rk hn hl (k := 0) (by decide) 16
  refine ⟨fun r hr => ?_, fun t ht => ?_, ?_, ?_, ?_, fun k hk => ?_, ?_, fun f h1 h6 => ?_⟩
  · rw [e1]
    refine ⟨(ge_ik hn hl (k := 1) (by decide) r).trans ?_, fun i h h40 => absurd h (Y_no (by omega))⟩
    have h : ∀ r, r < 6 → ge_int 1 r = -1 := by decide +kernel
    exact h r hr
  · rw [e3]
    refine ⟨(ge_ik hn hl (k := 2) (by decide) t).trans ?_, fun i h h40 => absurd h (Y_no (by omega))⟩
    have h : ∀ t, t < 4 → ge_int 2 t = -1 := by decide +kernel
    exact h t ht
  · unfold c_now
    rw [e5]
    exact ⟨(ge_ik hn hl (k := 28) (by decide) 1).trans (by decide), (ge_ik hn hl (k := 28) (by decide) 2).trans (by decide), (ge_ik hn hl (k := 28) (by decide) 3).trans (by decide), (ge_ik hn hl (k := 28) (by decide) 4).trans (by decide), (ge_ik hn hl (k := 28) (by decide) 5).trans (by decide), fun i h => absurd h (Nat.not_lt_zero i)⟩
  · unfold c_start
    rw [e4]
    exact ⟨(ge_ik hn hl (k := 19) (by decide) 1).trans (by decide), (ge_ik hn hl (k := 19) (by decide) 2).trans (by decide), (ge_ik hn hl (k := 19) (by decide) 3).trans (by decide), (ge_ik hn hl (k := 19) (by decide) 4).trans (by decide), (ge_ik hn hl (k := 19) (by decide) 5).trans (by decide), fun i h => absurd h (Nat.not_lt_zero i)⟩
  · unfold c_deeds
    rw [e6]
    exact ⟨(ge_ik hn hl (k := 37) (by decide) 1).trans (by decide), fun j h => absurd h (Nat.not_lt_zero j)⟩
  · show (ge_s L).1 (mm_R (ge_G L D C T) (mm_R (ge_G L D C T) (ge_ad L 0) 7) k) 1 = -1
    have h : ∀ k, k < 3 → ge_rt 3 k < 87 ∧ ge_int (ge_rt 3 k) 1 = -1 := by decide +kernel
    obtain ⟨h1, h2⟩ := h k hk
    rw [e7, ge_Rk hn hl (k := 3) (by decide)]
    exact (ge_ik hn hl h1 1).trans h2
  · exact ⟨(ge_ik hn hl (k := 0) (by decide) 12).trans (by decide), (ge_lk hn hl (k := 0) (by decide) 13).trans (by decide), (ge_lk hn hl (k := 0) (by decide) 14).trans (by decide), (ge_ik hn hl (k := 0) (by decide) 15).trans (by decide)⟩
  · rw [e16]
    have h : ∀ f, f < 6 → ge_int 65 f = 0 := by decide +kernel
    exact (ge_ik hn hl (k := 65) (by decide) f).trans (h f h6)
set_option maxHeartbeats 4000000 in
set_option maxRecDepth 100000 in
theorem ge_MR (hn : ge_nd L) (hl : L.length = 87) : MR (ge_G L D C T) (ge_ad L 69) (ge_s L) Y_0 := by
  have e0 : mm_R (ge_G L D C T) (ge_ad L 69) 0 = ge_ad L 70 := ge_Rk hn hl (k := 69) (by decide) 0
  have e1 : mm_R (ge_G L D C T) (ge_ad L 69) 1 = ge_ad L 73 := ge_Rk hn hl (k := 69) (by decide) 1
  have e2 : mm_R (ge_G L D C T) (ge_ad L 69) 2 = ge_ad L 74 := ge_Rk hn hl (k := 69) (by decide) 2
  have e3 : mm_R (ge_G L D C T) (ge_ad L 69) 3 = ge_ad L 71 := ge_Rk hn hl (k := 69) (by decide) 3
  have e4 : mm_R (ge_G L D C T) (ge_ad L 69) 4 = ge_ad L 75 := ge_Rk hn hl (k := 69) (by decide) 4
  have e5 : mm_R (ge_G L D C T) (ge_ad L 69) 5 = ge_ad L 76 := ge_Rk hn hl (k := 69) (by decide) 5
  have e6 : mm_R (ge_G L D C T) (ge_ad L 69) 6 = ge_ad L 77 := ge_Rk hn hl (k := 69) (by decide) 6
  have e7 : mm_R (ge_G L D C T) (ge_ad L 69) 7 = ge_ad L 78 := ge_Rk hn hl (k := 69) (by decide) 7
  have e8 : mm_R (ge_G L D C T) (ge_ad L 69) 8 = ge_ad L 79 := ge_Rk hn hl (k := 69) (by decide) 8
  have e9 : mm_R (ge_G L D C T) (ge_ad L 69) 9 = ge_ad L 80 := ge_Rk hn hl (k := 69) (by decide) 9
  have e11 : mm_R (ge_G L D C T) (ge_ad L 69) 11 = ge_ad L 81 := ge_Rk hn hl (k := 69) (by decide) 11
  have e12 : mm_R (ge_G L D C T) (ge_ad L 69) 12 = ge_ad L 82 := ge_Rk hn hl (k := 69) (by decide) 12
  have e13 : mm_R (ge_G L D C T) (ge_ad L 69) 13 = ge_ad L 72 := ge_Rk hn hl (k := 69) (by decide) 13
  have e18 : mm_R (ge_G L D C T) (ge_ad L 69) 18 = ge_ad L 83 := ge_Rk hn hl (k := 69) (by decide) 18
  have e19 : mm_R (ge_G L D C T) (ge_ad L 69) 19 = ge_ad L 84 := ge_Rk hn hl (k := 69) (by decide) 19
  have e20 : mm_R (ge_G L D C T) (ge_ad L 69) 20 = ge_ad L 85 := ge_Rk hn hl (k := 69) (by decide) 20
  have e21 : mm_R (ge_G L D C T) (ge_ad L 69) 21 = ge_ad L 86 := ge_Rk hn hl (k := 69) (by decide) 21
  refine ⟨fun r hr => ?_, fun t ht => ?_, ?_, ?_, fun k hk => ?_, ?_, fun f h1 h6 => ?_⟩
  · rw [e0]
    refine ⟨(ge_ik hn hl (k := 70) (by decide) r).trans ?_, fun i h h40 => absurd h (Y_no (by omega))⟩
    have h : ∀ r, r < 6 → ge_int 70 r = -1 := by decide +kernel
    exact h r hr
  · rw [e3]
    refine ⟨(ge_ik hn hl (k := 71) (by decide) t).trans ?_, fun i h h40 => absurd h (Y_no (by omega))⟩
    have h : ∀ t, t < 4 → ge_int 71 t = -1 := by decide +kernel
    exact h t ht
  · unfold m_now
    rw [e5]
    exact ⟨(ge_ik hn hl (k := 76) (by decide) 32).trans (by decide), (ge_ik hn hl (k := 76) (by decide) 0).trans (by decide), (ge_ik hn hl (k := 76) (by decide) 1).trans (by decide), (ge_ik hn hl (k := 76) (by decide) 2).trans (by decide), (ge_ik hn hl (k := 76) (by decide) 3).trans (by decide), (ge_ik hn hl (k := 76) (by decide) 47).trans (by decide), fun i h => absurd h (Nat.not_lt_zero i)⟩
  · exact ⟨(ge_ik hn hl (k := 69) (by decide) 10).trans (by decide), fun j h => absurd h (Nat.not_lt_zero j)⟩
  · show (ge_s L).1 (mm_R (ge_G L D C T) (ge_ad L 69) 13) k = -1
    rw [e13]
    have h : ∀ k, k < 3 → ge_int 72 k = -1 := by decide +kernel
    exact (ge_ik hn hl (k := 72) (by decide) k).trans (h k hk)
  · exact ⟨(ge_ik hn hl (k := 69) (by decide) 14).trans (by decide), (ge_lk hn hl (k := 69) (by decide) 15).trans (by decide), (ge_lk hn hl (k := 69) (by decide) 16).trans (by decide), (ge_ik hn hl (k := 69) (by decide) 17).trans (by decide)⟩
  · rw [e18]
    have h : ∀ f, f < 6 → ge_int 83 f = 0 := by decide +kernel
    exact (ge_ik hn hl (k := 83) (by decide) f).trans (h f h6)
end GC
theorem vat_i {D : va_G} {cl : List vw_C} {a n : Nat} {c : ClassId} {f g : Nat → Int32} {H : Heap} (h : va_at D cl (a, .inl (c, n, .inl f)) H) (e : ∀ j, j < n → f j = g j) : va_at D cl (a, .inl (c, n, .inl g)) H := by
  have h1 : H[a]? = some (arrV c n (fun j => .int (f j))) := h
  show H[a]? = some (arrV c n (fun j => .int (g j)))
  rw [h1, mn_congr (fun j hj => by rw [e j hj])]
theorem vat_q {D : va_G} {cl : List vw_C} {a n : Nat} {c : ClassId} {f g : Nat → Option Nat} {H : Heap} (h : va_at D cl (a, .inl (c, n, .inr (.inr (.inr (.inr f))))) H) (e : ∀ j, j < n → f j = g j) : va_at D cl (a, .inl (c, n, .inr (.inr (.inr (.inr g))))) H := by
  have h1 : H[a]? = some (arrV c n (fun j => va_rf (f j))) := h
  show H[a]? = some (arrV c n (fun j => va_rf (g j)))
  rw [h1, mn_congr (fun j hj => by rw [e j hj])]
def ge_L (x m : Nat) (r r' : kk_S) : List Nat := [x, r 0 1, r 0 3, r 0 7, r 1 0, r 1 1, r 1 2, r 0 0, r 3 0 + 0, r 3 0 + 1, r 3 0 + 2, r 3 0 + 3, r 3 0 + 4, r 3 0 + 5, r 0 2, r 3 2 + 0, r 3 2 + 1, r 3 2 + 2, r 3 2 + 3, r 0 4, r 4 7, r 4 0, r 4 1, r 4 2, r 4 3, r 4 4, r 4 5, r 4 6, r 0 5, r 5 7, r 5 0, r 5 1, r 5 2, r 5 3, r 5 4, r 5 5, r 5 6, r 0 6, r 6 0, r 0 8, r 8 7, r 8 0, r 8 1, r 8 2, r 8 3, r 8 4, r 8 5, r 8 6, r 0 9, r 9 7, r 9 0, r 9 1, r 9 2, r 9 3, r 9 4, r 9 5, r 9 6, r 0 10, r 0 11, r 3 11 + 0, r 3 11 + 1, r 3 11 + 2, r 3 11 + 3, r 3 11 + 4, r 3 11 + 5, r 0 16, r 2 0, r 2 1, r 2 2, m, r' 0 0, r' 0 3, r' 0 13, r' 0 1, r' 0 2, r' 0 4, r' 0 5, r' 0 6, r' 0 7, r' 0 8, r' 0 9, r' 0 11, r' 0 12, r' 0 18, r' 0 19, r' 0 20, r' 0 21]
theorem ge_L_eq (C : Nat → ClassId) (x m : Nat) (r r' : kk_S) : (kw3 C x r ++ kw4 C m r').map (fun q => q.1) = ge_L x m r r' := rfl
def ge_fs (L : List Nat) (ci k : Nat) : List Value := match ci with
  | 0 => [.ref (ge_ad L (ge_rt k 0)), .int (ge_int k 1), .int (ge_int k 2), .int (ge_int k 3), .int (ge_int k 4), .int (ge_int k 5)]
  | 1 => [.ref (ge_ad L (ge_rt k 0)), .int (ge_int k 1)]
  | 2 => [.int (ge_int k 0), .int (ge_int k 1), .int (ge_int k 2), .int (ge_int k 3), .int (ge_int k 4), .int (ge_int k 5)]
  | 3 => [.ref (ge_ad L (ge_rt k 0)), .ref (ge_ad L (ge_rt k 1)), .ref (ge_ad L (ge_rt k 2)), .ref (ge_ad L (ge_rt k 3)), .ref (ge_ad L (ge_rt k 4)), .ref (ge_ad L (ge_rt k 5)), .ref (ge_ad L (ge_rt k 6)), .ref (ge_ad L (ge_rt k 7)), .ref (ge_ad L (ge_rt k 8)), .ref (ge_ad L (ge_rt k 9)), .ref (ge_ad L (ge_rt k 10)), .ref (ge_ad L (ge_rt k 11)), .int (ge_int k 12), .long (ge_lng k 13), .long (ge_lng k 14), .int (ge_int k 15), .ref (ge_ad L (ge_rt k 16))]
  | _ => [.ref (ge_ad L (ge_rt k 0)), .ref (ge_ad L (ge_rt k 1)), .ref (ge_ad L (ge_rt k 2)), .ref (ge_ad L (ge_rt k 3)), .ref (ge_ad L (ge_rt k 4)), .ref (ge_ad L (ge_rt k 5)), .ref (ge_ad L (ge_rt k 6)), .ref (ge_ad L (ge_rt k 7)), .ref (ge_ad L (ge_rt k 8)), .ref (ge_ad L (ge_rt k 9)), .int (ge_int k 10), .ref (ge_ad L (ge_rt k 11)), .ref (ge_ad L (ge_rt k 12)), .ref (ge_ad L (ge_rt k 13)), .int (ge_int k 14), .long (ge_lng k 15), .long (ge_lng k 16), .int (ge_int k 17), .ref (ge_ad L (ge_rt k 18)), .ref (ge_ad L (ge_rt k 19)), .ref (ge_ad L (ge_rt k 20)), .ref (ge_ad L (ge_rt k 21))]
def ge_cf (L : List Nat) (C : Nat → ClassId) (k : Nat) : va_E :=
  if ge_kt k < 5 then .inr (ge_kt k, ge_fs L (ge_kt k) k)
  else if ge_kt k < 7 then .inl (C (ge_kt k), ge_nt k, .inl (ge_int k))
  else .inl (C (ge_kt k), ge_nt k, .inr (.inr (.inr (.inr (fun i => some (ge_ad L (ge_rt k i)))))))
set_option maxHeartbeats 4000000 in
set_option maxRecDepth 100000 in
theorem ge_cf_eq {L : List Nat} {D : va_G} {C : Nat → ClassId} {T : Nat → Nat} {k : Nat} (hn : ge_nd L) (hl : L.length = 87) (hk : k < 87) : mm_cf (ge_G L D C T) (ge_s L) (ge_ad L k) = ge_cf L C k := by
  have e := ge_xi hn hl hk
  have eK := ge_Kk (D := D) (C := C) (T := T) hn hl hk
  have eF : ∀ ci, mm_fs (ge_G L D C T) (ge_s L) ci (ge_ad L k) = ge_fs L ci k := by
    intro ci
    have hR : ∀ j, mm_R (ge_G L D C T) (ge_ad L k) j = ge_ad L (ge_rt k j) := ge_Rk hn hl hk
    have hI : ∀ j, (ge_s L).1 (ge_ad L k) j = ge_int k j := ge_ik hn hl hk
    have hJ : ∀ j, (ge_s L).2 (ge_ad L k) j = ge_lng k j := ge_lk hn hl hk
    unfold mm_fs ge_fs
    rcases ci with _ | _ | _ | _ | ci <;> simp only [hR, hI, hJ]
  unfold mm_cf ge_cf
  rw [eK, eF, ge_Nk hn hl hk]
  have hI : (ge_s L).1 (ge_ad L k) = ge_int k := funext fun j => ge_ik hn hl hk j
  rw [hI]
  simp only [ge_Rk hn hl hk]
  rfl
theorem ge_all {P : Nat → Prop} (h0 : P 0) (h1 : P 1) (h2 : P 2) (h3 : P 3) (h4 : P 4) (h5 : P 5) (h6 : P 6) (h7 : P 7) (h8 : P 8) (h9 : P 9) (h10 : P 10) (h11 : P 11) (h12 : P 12) (h13 : P 13) (h14 : P 14) (h15 : P 15) (h16 : P 16) (h17 : P 17) (h18 : P 18) (h19 : P 19) (h20 : P 20) (h21 : P 21) (h22 : P 22) (h23 : P 23) (h24 : P 24) (h25 : P 25) (h26 : P 26) (h27 : P 27) (h28 : P 28) (h29 : P 29) (h30 : P 30) (h31 : P 31) (h32 : P 32) (h33 : P 33) (h34 : P 34) (h35 : P 35) (h36 : P 36) (h37 : P 37) (h38 : P 38) (h39 : P 39) (h40 : P 40) (h41 : P 41) (h42 : P 42) (h43 : P 43) (h44 : P 44) (h45 : P 45) (h46 : P 46) (h47 : P 47) (h48 : P 48) (h49 : P 49) (h50 : P 50) (h51 : P 51) (h52 : P 52) (h53 : P 53) (h54 : P 54) (h55 : P 55) (h56 : P 56) (h57 : P 57) (h58 : P 58) (h59 : P 59) (h60 : P 60) (h61 : P 61) (h62 : P 62) (h63 : P 63) (h64 : P 64) (h65 : P 65) (h66 : P 66) (h67 : P 67) (h68 : P 68) (h69 : P 69) (h70 : P 70) (h71 : P 71) (h72 : P 72) (h73 : P 73) (h74 : P 74) (h75 : P 75) (h76 : P 76) (h77 : P 77) (h78 : P 78) (h79 : P 79) (h80 : P 80) (h81 : P 81) (h82 : P 82) (h83 : P 83) (h84 : P 84) (h85 : P 85) (h86 : P 86) : ∀ k, k < 87 → P k
  | 0, _ => h0
  | 1, _ => h1
  | 2, _ => h2
  | 3, _ => h3
  | 4, _ => h4
  | 5, _ => h5
  | 6, _ => h6
  | 7, _ => h7
  | 8, _ => h8
  | 9, _ => h9
  | 10, _ => h10
  | 11, _ => h11
  | 12, _ => h12
  | 13, _ => h13
  | 14, _ => h14
  | 15, _ => h15
  | 16, _ => h16
  | 17, _ => h17
  | 18, _ => h18
  | 19, _ => h19
  | 20, _ => h20
  | 21, _ => h21
  | 22, _ => h22
  | 23, _ => h23
  | 24, _ => h24
  | 25, _ => h25
  | 26, _ => h26
  | 27, _ => h27
  | 28, _ => h28
  | 29, _ => h29
  | 30, _ => h30
  | 31, _ => h31
  | 32, _ => h32
  | 33, _ => h33
  | 34, _ => h34
  | 35, _ => h35
  | 36, _ => h36
  | 37, _ => h37
  | 38, _ => h38
  | 39, _ => h39
  | 40, _ => h40
  | 41, _ => h41
  | 42, _ => h42
  | 43, _ => h43
  | 44, _ => h44
  | 45, _ => h45
  | 46, _ => h46
  | 47, _ => h47
  | 48, _ => h48
  | 49, _ => h49
  | 50, _ => h50
  | 51, _ => h51
  | 52, _ => h52
  | 53, _ => h53
  | 54, _ => h54
  | 55, _ => h55
  | 56, _ => h56
  | 57, _ => h57
  | 58, _ => h58
  | 59, _ => h59
  | 60, _ => h60
  | 61, _ => h61
  | 62, _ => h62
  | 63, _ => h63
  | 64, _ => h64
  | 65, _ => h65
  | 66, _ => h66
  | 67, _ => h67
  | 68, _ => h68
  | 69, _ => h69
  | 70, _ => h70
  | 71, _ => h71
  | 72, _ => h72
  | 73, _ => h73
  | 74, _ => h74
  | 75, _ => h75
  | 76, _ => h76
  | 77, _ => h77
  | 78, _ => h78
  | 79, _ => h79
  | 80, _ => h80
  | 81, _ => h81
  | 82, _ => h82
  | 83, _ => h83
  | 84, _ => h84
  | 85, _ => h85
  | 86, _ => h86
  | n + 87, h => absurd h (by omega)
