/-! every cell of the start is as the tables say -/
def ge_W (C : Nat → ClassId) (x m : Nat) (r r' : kk_S) : va_W := [(x, .inr (3, [.ref (r 0 0), .ref (r 0 1), .ref (r 0 2), .ref (r 0 3), .ref (r 0 4), .ref (r 0 5), .ref (r 0 6), .ref (r 0 7), .ref (r 0 8), .ref (r 0 9), .ref (r 0 10), .ref (r 0 11), .int 0, .long 0, .long 1, .int 0, .ref (r 0 16)])), (r 0 1, .inl (C 6, 6, .inl (fun j => if j < 6 then -1 else 0))), (r 0 3, .inl (C 6, 4, .inl (fun j => if j < 4 then -1 else 0))), (r 0 7, .inl (C 7, 3, .inr (.inr (.inr (.inr (fun i => some (r 1 i))))))), (r 1 0, .inr (1, [.ref (r 2 0), .int (-1)])), (r 1 1, .inr (1, [.ref (r 2 1), .int (-1)])), (r 1 2, .inr (1, [.ref (r 2 2), .int (-1)])), (r 0 0, .inl (C 10, 6, .inr (.inr (.inr (.inr (fun i => some (r 3 0 + i))))))), (r 3 0 + 0, .inl (C 6, 40, .inl (fun _ => 0))), (r 3 0 + 1, .inl (C 6, 40, .inl (fun _ => 0))), (r 3 0 + 2, .inl (C 6, 40, .inl (fun _ => 0))), (r 3 0 + 3, .inl (C 6, 40, .inl (fun _ => 0))), (r 3 0 + 4, .inl (C 6, 40, .inl (fun _ => 0))), (r 3 0 + 5, .inl (C 6, 40, .inl (fun _ => 0))), (r 0 2, .inl (C 9, 4, .inr (.inr (.inr (.inr (fun i => some (r 3 2 + i))))))), (r 3 2 + 0, .inl (C 5, 60, .inl (fun _ => 0))), (r 3 2 + 1, .inl (C 5, 60, .inl (fun _ => 0))), (r 3 2 + 2, .inl (C 5, 60, .inl (fun _ => 0))), (r 3 2 + 3, .inl (C 5, 60, .inl (fun _ => 0))), (r 0 4, .inr (0, [.ref (r 4 7), .int 0, .int 0, .int 0, .int 0, .int 0])), (r 4 7, .inl (C 8, 7, .inr (.inr (.inr (.inr (fun i => some (r 4 i))))))), (r 4 0, .inr (2, [.int 0, .int 0, .int 0, .int 0, .int 0, .int 0])), (r 4 1, .inr (2, [.int 0, .int 0, .int 0, .int 0, .int 0, .int 0])), (r 4 2, .inr (2, [.int 0, .int 0, .int 0, .int 0, .int 0, .int 0])), (r 4 3, .inr (2, [.int 0, .int 0, .int 0, .int 0, .int 0, .int 0])), (r 4 4, .inr (2, [.int 0, .int 0, .int 0, .int 0, .int 0, .int 0])), (r 4 5, .inr (2, [.int 0, .int 0, .int 0, .int 0, .int 0, .int 0])), (r 4 6, .inr (2, [.int 0, .int 0, .int 0, .int 0, .int 0, .int 0])), (r 0 5, .inr (0, [.ref (r 5 7), .int 0, .int 0, .int 0, .int 0, .int 0])), (r 5 7, .inl (C 8, 7, .inr (.inr (.inr (.inr (fun i => some (r 5 i))))))), (r 5 0, .inr (2, [.int 0, .int 0, .int 0, .int 0, .int 0, .int 0])), (r 5 1, .inr (2, [.int 0, .int 0, .int 0, .int 0, .int 0, .int 0])), (r 5 2, .inr (2, [.int 0, .int 0, .int 0, .int 0, .int 0, .int 0])), (r 5 3, .inr (2, [.int 0, .int 0, .int 0, .int 0, .int 0, .int 0])), (r 5 4, .inr (2, [.int 0, .int 0, .int 0, .int 0, .int 0, .int 0])), (r 5 5, .inr (2, [.int 0, .int 0, .int 0, .int 0, .int 0, .int 0])), (r 5 6, .inr (2, [.int 0, .int 0, .int 0, .int 0, .int 0, .int 0])), (r 0 6, .inr (1, [.ref (r 6 0), .int 0])), (r 6 0, .inl (C 6, 40, .inl (fun _ => 0))), (r 0 8, .inr (0, [.ref (r 8 7), .int 0, .int 0, .int 0, .int 0, .int 0])), (r 8 7, .inl (C 8, 7, .inr (.inr (.inr (.inr (fun i => some (r 8 i))))))), (r 8 0, .inr (2, [.int 0, .int 0, .int 0, .int 0, .int 0, .int 0])), (r 8 1, .inr (2, [.int 0, .int 0, .int 0, .int 0, .int 0, .int 0])), (r 8 2, .inr (2, [.int 0, .int 0, .int 0, .int 0, .int 0, .int 0])), (r 8 3, .inr (2, [.int 0, .int 0, .int 0, .int 0, .int 0, .int 0])), (r 8 4, .inr (2, [.int 0, .int 0, .int 0, .int 0, .int 0, .int 0])), (r 8 5, .inr (2, [.int 0, .int 0, .int 0, .int 0, .int 0, .int 0])), (r 8 6, .inr (2, [.int 0, .int 0, .int 0, .int 0, .int 0, .int 0])), (r 0 9, .inr (0, [.ref (r 9 7), .int 0, .int 0, .int 0, .int 0, .int 0])), (r 9 7, .inl (C 8, 7, .inr (.inr (.inr (.inr (fun i => some (r 9 i))))))), (r 9 0, .inr (2, [.int 0, .int 0, .int 0, .int 0, .int 0, .int 0])), (r 9 1, .inr (2, [.int 0, .int 0, .int 0, .int 0, .int 0, .int 0])), (r 9 2, .inr (2, [.int 0, .int 0, .int 0, .int 0, .int 0, .int 0])), (r 9 3, .inr (2, [.int 0, .int 0, .int 0, .int 0, .int 0, .int 0])), (r 9 4, .inr (2, [.int 0, .int 0, .int 0, .int 0, .int 0, .int 0])), (r 9 5, .inr (2, [.int 0, .int 0, .int 0, .int 0, .int 0, .int 0])), (r 9 6, .inr (2, [.int 0, .int 0, .int 0, .int 0, .int 0, .int 0])), (r 0 10, .inl (C 6, 7, .inl (fun _ => 0))), (r 0 11, .inl (C 10, 6, .inr (.inr (.inr (.inr (fun i => some (r 3 11 + i))))))), (r 3 11 + 0, .inl (C 6, 20, .inl (fun _ => 0))), (r 3 11 + 1, .inl (C 6, 20, .inl (fun _ => 0))), (r 3 11 + 2, .inl (C 6, 20, .inl (fun _ => 0))), (r 3 11 + 3, .inl (C 6, 20, .inl (fun _ => 0))), (r 3 11 + 4, .inl (C 6, 20, .inl (fun _ => 0))), (r 3 11 + 5, .inl (C 6, 20, .inl (fun _ => 0))), (r 0 16, .inl (C 6, 6, .inl (fun _ => 0))), (r 2 0, .inl (C 6, 40, .inl (fun _ => 0))), (r 2 1, .inl (C 6, 40, .inl (fun _ => 0))), (r 2 2, .inl (C 6, 40, .inl (fun _ => 0))), (m, .inr (4, [.ref (r' 0 0), .ref (r' 0 1), .ref (r' 0 2), .ref (r' 0 3), .ref (r' 0 4), .ref (r' 0 5), .ref (r' 0 6), .ref (r' 0 7), .ref (r' 0 8), .ref (r' 0 9), .int 0, .ref (r' 0 11), .ref (r' 0 12), .ref (r' 0 13), .int 0, .long 0, .long 1, .int 0, .ref (r' 0 18), .ref (r' 0 19), .ref (r' 0 20), .ref (r' 0 21)])), (r' 0 0, .inl (C 6, 6, .inl (fun j => if j < 6 then -1 else 0))), (r' 0 3, .inl (C 6, 4, .inl (fun j => if j < 4 then -1 else 0))), (r' 0 13, .inl (C 6, 3, .inl (fun j => if j < 3 then -1 else 0))), (r' 0 1, .inl (C 6, 240, .inl (fun _ => 0))), (r' 0 2, .inl (C 6, 40, .inl (fun _ => 0))), (r' 0 4, .inl (C 5, 240, .inl (fun _ => 0))), (r' 0 5, .inl (C 6, 48, .inl (fun _ => 0))), (r' 0 6, .inl (C 6, 48, .inl (fun _ => 0))), (r' 0 7, .inl (C 6, 48, .inl (fun _ => 0))), (r' 0 8, .inl (C 6, 48, .inl (fun _ => 0))), (r' 0 9, .inl (C 6, 1280, .inl (fun _ => 0))), (r' 0 11, .inl (C 6, 144, .inl (fun _ => 0))), (r' 0 12, .inl (C 6, 3840, .inl (fun _ => 0))), (r' 0 18, .inl (C 6, 6, .inl (fun _ => 0))), (r' 0 19, .inl (C 6, 7, .inl (fun _ => 0))), (r' 0 20, .inl (C 6, 8, .inl (fun _ => 0))), (r' 0 21, .inl (C 6, 126, .inl (fun _ => 0)))]
set_option maxHeartbeats 4000000 in
set_option maxRecDepth 100000 in
theorem ge_W_eq (C : Nat → ClassId) (x m : Nat) (r r' : kk_S) : kw3 C x r ++ kw4 C m r' = ge_W C x m r r' := rfl
theorem ge_int_z {k j : Nat} (h : k ≠ 1 ∧ k ≠ 2 ∧ k ≠ 4 ∧ k ≠ 5 ∧ k ≠ 6 ∧ k ≠ 70 ∧ k ≠ 71 ∧ k ≠ 72) : ge_int k j = 0 := by
  obtain ⟨h1, h2, h4, h5, h6, h7, h8, h9⟩ := h
  unfold ge_int
  rw [if_neg (fun q => h1 q.1), if_neg (fun q => h2 q.1), if_neg (fun q => q.1.elim h4 (fun z => z.elim h5 h6)), if_neg (fun q => h7 q.1), if_neg (fun q => h8 q.1), if_neg (fun q => h9 q.1)]
set_option maxHeartbeats 4000000 in
set_option maxRecDepth 100000 in
theorem ga_0 {D : va_G} {C : Nat → ClassId} {x m : Nat} {r r' : kk_S} {H : Heap} (hP : va_P D vwCl (ge_W C x m r r') H) : va_at D vwCl (ge_ad (ge_L x m r r') 0, ge_cf (ge_L x m r r') C 0) H := by
  have e1 : ge_ad (ge_L x m r r') 0 = x := rfl
  have e2 : ge_cf (ge_L x m r r') C 0 = .inr (3, [.ref (r 0 0), .ref (r 0 1), .ref (r 0 2), .ref (r 0 3), .ref (r 0 4), .ref (r 0 5), .ref (r 0 6), .ref (r 0 7), .ref (r 0 8), .ref (r 0 9), .ref (r 0 10), .ref (r 0 11), .int 0, .long 0, .long 1, .int 0, .ref (r 0 16)]) := rfl
  rw [e1, e2]
  exact hP 0 _ rfl
set_option maxHeartbeats 4000000 in
set_option maxRecDepth 100000 in
theorem ga_1 {D : va_G} {C : Nat → ClassId} {x m : Nat} {r r' : kk_S} {H : Heap} (hP : va_P D vwCl (ge_W C x m r r') H) : va_at D vwCl (ge_ad (ge_L x m r r') 1, ge_cf (ge_L x m r r') C 1) H := by
  have e1 : ge_ad (ge_L x m r r') 1 = r 0 1 := rfl
  have e2 : ge_cf (ge_L x m r r') C 1 = .inl (C 6, 6, .inl (ge_int 1)) := rfl
  rw [e1, e2]
  exact vat_i (f := fun j => if j < 6 then -1 else 0) (hP 1 _ rfl) (by decide +kernel)
set_option maxHeartbeats 4000000 in
set_option maxRecDepth 100000 in
theorem ga_2 {D : va_G} {C : Nat → ClassId} {x m : Nat} {r r' : kk_S} {H : Heap} (hP : va_P D vwCl (ge_W C x m r r') H) : va_at D vwCl (ge_ad (ge_L x m r r') 2, ge_cf (ge_L x m r r') C 2) H := by
  have e1 : ge_ad (ge_L x m r r') 2 = r 0 3 := rfl
  have e2 : ge_cf (ge_L x m r r') C 2 = .inl (C 6, 4, .inl (ge_int 2)) := rfl
  rw [e1, e2]
  exact vat_i (f := fun j => if j < 4 then -1 else 0) (hP 2 _ rfl) (by decide +kernel)
set_option maxHeartbeats 4000000 in
set_option maxRecDepth 100000 in
theorem ga_3 {D : va_G} {C : Nat → ClassId} {x m : Nat} {r r' : kk_S} {H : Heap} (hP : va_P D vwCl (ge_W C x m r r') H) : va_at D vwCl (ge_ad (ge_L x m r r') 3, ge_cf (ge_L x m r r') C 3) H := by
  have e1 : ge_ad (ge_L x m r r') 3 = r 0 7 := rfl
  have e2 : ge_cf (ge_L x m r r') C 3 = .inl (C 7, 3, .inr (.inr (.inr (.inr (fun i => some (ge_ad (ge_L x m r r') (ge_rt 3 i))))))) := rfl
  rw [e1, e2]
  refine vat_q (f := fun i => some (r 1 i)) (hP 3 _ rfl) (fun j hj => ?_)
  rcases (show j = 0 ∨ j = 1 ∨ j = 2 by omega) with rfl | rfl | rfl <;> rfl
set_option maxHeartbeats 4000000 in
set_option maxRecDepth 100000 in
theorem ga_4 {D : va_G} {C : Nat → ClassId} {x m : Nat} {r r' : kk_S} {H : Heap} (hP : va_P D vwCl (ge_W C x m r r') H) : va_at D vwCl (ge_ad (ge_L x m r r') 4, ge_cf (ge_L x m r r') C 4) H := by
  have e1 : ge_ad (ge_L x m r r') 4 = r 1 0 := rfl
  have e2 : ge_cf (ge_L x m r r') C 4 = .inr (1, [.ref (r 2 0), .int (-1)]) := rfl
  rw [e1, e2]
  exact hP 4 _ rfl
set_option maxHeartbeats 4000000 in
set_option maxRecDepth 100000 in
theorem ga_5 {D : va_G} {C : Nat → ClassId} {x m : Nat} {r r' : kk_S} {H : Heap} (hP : va_P D vwCl (ge_W C x m r r') H) : va_at D vwCl (ge_ad (ge_L x m r r') 5, ge_cf (ge_L x m r r') C 5) H := by
  have e1 : ge_ad (ge_L x m r r') 5 = r 1 1 := rfl
  have e2 : ge_cf (ge_L x m r r') C 5 = .inr (1, [.ref (r 2 1), .int (-1)]) := rfl
  rw [e1, e2]
  exact hP 5 _ rfl
set_option maxHeartbeats 4000000 in
set_option maxRecDepth 100000 in
theorem ga_6 {D : va_G} {C : Nat → ClassId} {x m : Nat} {r r' : kk_S} {H : Heap} (hP : va_P D vwCl (ge_W C x m r r') H) : va_at D vwCl (ge_ad (ge_L x m r r') 6, ge_cf (ge_L x m r r') C 6) H := by
  have e1 : ge_ad (ge_L x m r r') 6 = r 1 2 := rfl
  have e2 : ge_cf (ge_L x m r r') C 6 = .inr (1, [.ref (r 2 2), .int (-1)]) := rfl
  rw [e1, e2]
  exact hP 6 _ rfl
set_option maxHeartbeats 4000000 in
set_option maxRecDepth 100000 in
theorem ga_7 {D : va_G} {C : Nat → ClassId} {x m : Nat} {r r' : kk_S} {H : Heap} (hP : va_P D vwCl (ge_W C x m r r') H) : va_at D vwCl (ge_ad (ge_L x m r r') 7, ge_cf (ge_L x m r r') C 7) H := by
  have e1 : ge_ad (ge_L x m r r') 7 = r 0 0 := rfl
  have e2 : ge_cf (ge_L x m r r') C 7 = .inl (C 10, 6, .inr (.inr (.inr (.inr (fun i => some (ge_ad (ge_L x m r r') (ge_rt 7 i))))))) := rfl
  rw [e1, e2]
  refine vat_q (f := fun i => some (r 3 0 + i)) (hP 7 _ rfl) (fun j hj => ?_)
  rcases (show j = 0 ∨ j = 1 ∨ j = 2 ∨ j = 3 ∨ j = 4 ∨ j = 5 by omega) with rfl | rfl | rfl | rfl | rfl | rfl <;> rfl
set_option maxHeartbeats 4000000 in
set_option maxRecDepth 100000 in
theorem ga_8 {D : va_G} {C : Nat → ClassId} {x m : Nat} {r r' : kk_S} {H : Heap} (hP : va_P D vwCl (ge_W C x m r r') H) : va_at D vwCl (ge_ad (ge_L x m r r') 8, ge_cf (ge_L x m r r') C 8) H := by
  have e1 : ge_ad (ge_L x m r r') 8 = r 3 0 + 0 := rfl
  have e2 : ge_cf (ge_L x m r r') C 8 = .inl (C 6, 40, .inl (ge_int 8)) := rfl
  rw [e1, e2]
  exact vat_i (f := fun _ => 0) (hP 8 _ rfl) (fun j _ => (ge_int_z (by decide)).symm)
set_option maxHeartbeats 4000000 in
set_option maxRecDepth 100000 in
theorem ga_9 {D : va_G} {C : Nat → ClassId} {x m : Nat} {r r' : kk_S} {H : Heap} (hP : va_P D vwCl (ge_W C x m r r') H) : va_at D vwCl (ge_ad (ge_L x m r r') 9, ge_cf (ge_L x m r r') C 9) H := by
  have e1 : ge_ad (ge_L x m r r') 9 = r 3 0 + 1 := rfl
  have e2 : ge_cf (ge_L x m r r') C 9 = .inl (C 6, 40, .inl (ge_int 9)) := rfl
  rw [e1, e2]
  exact vat_i (f := fun _ => 0) (hP 9 _ rfl) (fun j _ => (ge_int_z (by decide)).symm)
set_option maxHeartbeats 4000000 in
set_option maxRecDepth 100000 in
theorem ga_10 {D : va_G} {C : Nat → ClassId} {x m : Nat} {r r' : kk_S} {H : Heap} (hP : va_P D vwCl (ge_W C x m r r') H) : va_at D vwCl (ge_ad (ge_L x m r r') 10, ge_cf (ge_L x m r r') C 10) H := by
  have e1 : ge_ad (ge_L x m r r') 10 = r 3 0 + 2 := rfl
  have e2 : ge_cf (ge_L x m r r') C 10 = .inl (C 6, 40, .inl (ge_int 10)) := rfl
  rw [e1, e2]
  exact vat_i (f := fun _ => 0) (hP 10 _ rfl) (fun j _ => (ge_int_z (by decide)).symm)
set_option maxHeartbeats 4000000 in
set_option maxRecDepth 100000 in
theorem ga_11 {D : va_G} {C : Nat → ClassId} {x m : Nat} {r r' : kk_S} {H : Heap} (hP : va_P D vwCl (ge_W C x m r r') H) : va_at D vwCl (ge_ad (ge_L x m r r') 11, ge_cf (ge_L x m r r') C 11) H := by
  have e1 : ge_ad (ge_L x m r r') 11 = r 3 0 + 3 := rfl
  have e2 : ge_cf (ge_L x m r r') C 11 = .inl (C 6, 40, .inl (ge_int 11)) := rfl
  rw [e1, e2]
  exact vat_i (f := fun _ => 0) (hP 11 _ rfl) (fun j _ => (ge_int_z (by decide)).symm)
set_option maxHeartbeats 4000000 in
set_option maxRecDepth 100000 in
theorem ga_12 {D : va_G} {C : Nat → ClassId} {x m : Nat} {r r' : kk_S} {H : Heap} (hP : va_P D vwCl (ge_W C x m r r') H) : va_at D vwCl (ge_ad (ge_L x m r r') 12, ge_cf (ge_L x m r r') C 12) H := by
  have e1 : ge_ad (ge_L x m r r') 12 = r 3 0 + 4 := rfl
  have e2 : ge_cf (ge_L x m r r') C 12 = .inl (C 6, 40, .inl (ge_int 12)) := rfl
  rw [e1, e2]
  exact vat_i (f := fun _ => 0) (hP 12 _ rfl) (fun j _ => (ge_int_z (by decide)).symm)
set_option maxHeartbeats 4000000 in
set_option maxRecDepth 100000 in
theorem ga_13 {D : va_G} {C : Nat → ClassId} {x m : Nat} {r r' : kk_S} {H : Heap} (hP : va_P D vwCl (ge_W C x m r r') H) : va_at D vwCl (ge_ad (ge_L x m r r') 13, ge_cf (ge_L x m r r') C 13) H := by
  have e1 : ge_ad (ge_L x m r r') 13 = r 3 0 + 5 := rfl
  have e2 : ge_cf (ge_L x m r r') C 13 = .inl (C 6, 40, .inl (ge_int 13)) := rfl
  rw [e1, e2]
  exact vat_i (f := fun _ => 0) (hP 13 _ rfl) (fun j _ => (ge_int_z (by decide)).symm)
set_option maxHeartbeats 4000000 in
set_option maxRecDepth 100000 in
theorem ga_14 {D : va_G} {C : Nat → ClassId} {x m : Nat} {r r' : kk_S} {H : Heap} (hP : va_P D vwCl (ge_W C x m r r') H) : va_at D vwCl (ge_ad (ge_L x m r r') 14, ge_cf (ge_L x m r r') C 14) H := by
  have e1 : ge_ad (ge_L x m r r') 14 = r 0 2 := rfl
  have e2 : ge_cf (ge_L x m r r') C 14 = .inl (C 9, 4, .inr (.inr (.inr (.inr (fun i => some (ge_ad (ge_L x m r r') (ge_rt 14 i))))))) := rfl
  rw [e1, e2]
  refine vat_q (f := fun i => some (r 3 2 + i)) (hP 14 _ rfl) (fun j hj => ?_)
  rcases (show j = 0 ∨ j = 1 ∨ j = 2 ∨ j = 3 by omega) with rfl | rfl | rfl | rfl <;> rfl
set_option maxHeartbeats 4000000 in
set_option maxRecDepth 100000 in
theorem ga_15 {D : va_G} {C : Nat → ClassId} {x m : Nat} {r r' : kk_S} {H : Heap} (hP : va_P D vwCl (ge_W C x m r r') H) : va_at D vwCl (ge_ad (ge_L x m r r') 15, ge_cf (ge_L x m r r') C 15) H := by
  have e1 : ge_ad (ge_L x m r r') 15 = r 3 2 + 0 := rfl
  have e2 : ge_cf (ge_L x m r r') C 15 = .inl (C 5, 60, .inl (ge_int 15)) := rfl
  rw [e1, e2]
  exact vat_i (f := fun _ => 0) (hP 15 _ rfl) (fun j _ => (ge_int_z (by decide)).symm)
set_option maxHeartbeats 4000000 in
set_option maxRecDepth 100000 in
theorem ga_16 {D : va_G} {C : Nat → ClassId} {x m : Nat} {r r' : kk_S} {H : Heap} (hP : va_P D vwCl (ge_W C x m r r') H) : va_at D vwCl (ge_ad (ge_L x m r r') 16, ge_cf (ge_L x m r r') C 16) H := by
  have e1 : ge_ad (ge_L x m r r') 16 = r 3 2 + 1 := rfl
  have e2 : ge_cf (ge_L x m r r') C 16 = .inl (C 5, 60, .inl (ge_int 16)) := rfl
  rw [e1, e2]
  exact vat_i (f := fun _ => 0) (hP 16 _ rfl) (fun j _ => (ge_int_z (by decide)).symm)
set_option maxHeartbeats 4000000 in
set_option maxRecDepth 100000 in
theorem ga_17 {D : va_G} {C : Nat → ClassId} {x m : Nat} {r r' : kk_S} {H : Heap} (hP : va_P D vwCl (ge_W C x m r r') H) : va_at D vwCl (ge_ad (ge_L x m r r') 17, ge_cf (ge_L x m r r') C 17) H := by
  have e1 : ge_ad (ge_L x m r r') 17 = r 3 2 + 2 := rfl
  have e2 : ge_cf (ge_L x m r r') C 17 = .inl (C 5, 60, .inl (ge_int 17)) := rfl
  rw [e1, e2]
  exact vat_i (f := fun _ => 0) (hP 17 _ rfl) (fun j _ => (ge_int_z (by decide)).symm)
set_option maxHeartbeats 4000000 in
set_option maxRecDepth 100000 in
theorem ga_18 {D : va_G} {C : Nat → ClassId} {x m : Nat} {r r' : kk_S} {H : Heap} (hP : va_P D vwCl (ge_W C x m r r') H) : va_at D vwCl (ge_ad (ge_L x m r r') 18, ge_cf (ge_L x m r r') C 18) H := by
  have e1 : ge_ad (ge_L x m r r') 18 = r 3 2 + 3 := rfl
  have e2 : ge_cf (ge_L x m r r') C 18 = .inl (C 5, 60, .inl (ge_int 18)) := rfl
  rw [e1, e2]
  exact vat_i (f := fun _ => 0) (hP 18 _ rfl) (fun j _ => (ge_int_z (by decide)).symm)
set_option maxHeartbeats 4000000 in
set_option maxRecDepth 100000 in
theorem ga_19 {D : va_G} {C : Nat → ClassId} {x m : Nat} {r r' : kk_S} {H : Heap} (hP : va_P D vwCl (ge_W C x m r r') H) : va_at D vwCl (ge_ad (ge_L x m r r') 19, ge_cf (ge_L x m r r') C 19) H := by
  have e1 : ge_ad (ge_L x m r r') 19 = r 0 4 := rfl
  have e2 : ge_cf (ge_L x m r r') C 19 = .inr (0, [.ref (r 4 7), .int 0, .int 0, .int 0, .int 0, .int 0]) := rfl
  rw [e1, e2]
  exact hP 19 _ rfl
set_option maxHeartbeats 4000000 in
set_option maxRecDepth 100000 in
theorem ga_20 {D : va_G} {C : Nat → ClassId} {x m : Nat} {r r' : kk_S} {H : Heap} (hP : va_P D vwCl (ge_W C x m r r') H) : va_at D vwCl (ge_ad (ge_L x m r r') 20, ge_cf (ge_L x m r r') C 20) H := by
  have e1 : ge_ad (ge_L x m r r') 20 = r 4 7 := rfl
  have e2 : ge_cf (ge_L x m r r') C 20 = .inl (C 8, 7, .inr (.inr (.inr (.inr (fun i => some (ge_ad (ge_L x m r r') (ge_rt 20 i))))))) := rfl
  rw [e1, e2]
  refine vat_q (f := fun i => some (r 4 i)) (hP 20 _ rfl) (fun j hj => ?_)
  rcases (show j = 0 ∨ j = 1 ∨ j = 2 ∨ j = 3 ∨ j = 4 ∨ j = 5 ∨ j = 6 by omega) with rfl | rfl | rfl | rfl | rfl | rfl | rfl <;> rfl
set_option maxHeartbeats 4000000 in
set_option maxRecDepth 100000 in
theorem ga_21 {D : va_G} {C : Nat → ClassId} {x m : Nat} {r r' : kk_S} {H : Heap} (hP : va_P D vwCl (ge_W C x m r r') H) : va_at D vwCl (ge_ad (ge_L x m r r') 21, ge_cf (ge_L x m r r') C 21) H := by
  have e1 : ge_ad (ge_L x m r r') 21 = r 4 0 := rfl
  have e2 : ge_cf (ge_L x m r r') C 21 = .inr (2, [.int 0, .int 0, .int 0, .int 0, .int 0, .int 0]) := rfl
  rw [e1, e2]
  exact hP 21 _ rfl
set_option maxHeartbeats 4000000 in
set_option maxRecDepth 100000 in
theorem ga_22 {D : va_G} {C : Nat → ClassId} {x m : Nat} {r r' : kk_S} {H : Heap} (hP : va_P D vwCl (ge_W C x m r r') H) : va_at D vwCl (ge_ad (ge_L x m r r') 22, ge_cf (ge_L x m r r') C 22) H := by
  have e1 : ge_ad (ge_L x m r r') 22 = r 4 1 := rfl
  have e2 : ge_cf (ge_L x m r r') C 22 = .inr (2, [.int 0, .int 0, .int 0, .int 0, .int 0, .int 0]) := rfl
  rw [e1, e2]
  exact hP 22 _ rfl
set_option maxHeartbeats 4000000 in
set_option maxRecDepth 100000 in
theorem ga_23 {D : va_G} {C : Nat → ClassId} {x m : Nat} {r r' : kk_S} {H : Heap} (hP : va_P D vwCl (ge_W C x m r r') H) : va_at D vwCl (ge_ad (ge_L x m r r') 23, ge_cf (ge_L x m r r') C 23) H := by
  have e1 : ge_ad (ge_L x m r r') 23 = r 4 2 := rfl
  have e2 : ge_cf (ge_L x m r r') C 23 = .inr (2, [.int 0, .int 0, .int 0, .int 0, .int 0, .int 0]) := rfl
  rw [e1, e2]
  exact hP 23 _ rfl
set_option maxHeartbeats 4000000 in
set_option maxRecDepth 100000 in
theorem ga_24 {D : va_G} {C : Nat → ClassId} {x m : Nat} {r r' : kk_S} {H : Heap} (hP : va_P D vwCl (ge_W C x m r r') H) : va_at D vwCl (ge_ad (ge_L x m r r') 24, ge_cf (ge_L x m r r') C 24) H := by
  have e1 : ge_ad (ge_L x m r r') 24 = r 4 3 := rfl
  have e2 : ge_cf (ge_L x m r r') C 24 = .inr (2, [.int 0, .int 0, .int 0, .int 0, .int 0, .int 0]) := rfl
  rw [e1, e2]
  exact hP 24 _ rfl
set_option maxHeartbeats 4000000 in
set_option maxRecDepth 100000 in
theorem ga_25 {D : va_G} {C : Nat → ClassId} {x m : Nat} {r r' : kk_S} {H : Heap} (hP : va_P D vwCl (ge_W C x m r r') H) : va_at D vwCl (ge_ad (ge_L x m r r') 25, ge_cf (ge_L x m r r') C 25) H := by
  have e1 : ge_ad (ge_L x m r r') 25 = r 4 4 := rfl
  have e2 : ge_cf (ge_L x m r r') C 25 = .inr (2, [.int 0, .int 0, .int 0, .int 0, .int 0, .int 0]) := rfl
  rw [e1, e2]
  exact hP 25 _ rfl
set_option maxHeartbeats 4000000 in
set_option maxRecDepth 100000 in
theorem ga_26 {D : va_G} {C : Nat → ClassId} {x m : Nat} {r r' : kk_S} {H : Heap} (hP : va_P D vwCl (ge_W C x m r r') H) : va_at D vwCl (ge_ad (ge_L x m r r') 26, ge_cf (ge_L x m r r') C 26) H := by
  have e1 : ge_ad (ge_L x m r r') 26 = r 4 5 := rfl
  have e2 : ge_cf (ge_L x m r r') C 26 = .inr (2, [.int 0, .int 0, .int 0, .int 0, .int 0, .int 0]) := rfl
  rw [e1, e2]
  exact hP 26 _ rfl
set_option maxHeartbeats 4000000 in
set_option maxRecDepth 100000 in
theorem ga_27 {D : va_G} {C : Nat → ClassId} {x m : Nat} {r r' : kk_S} {H : Heap} (hP : va_P D vwCl (ge_W C x m r r') H) : va_at D vwCl (ge_ad (ge_L x m r r') 27, ge_cf (ge_L x m r r') C 27) H := by
  have e1 : ge_ad (ge_L x m r r') 27 = r 4 6 := rfl
  have e2 : ge_cf (ge_L x m r r') C 27 = .inr (2, [.int 0, .int 0, .int 0, .int 0, .int 0, .int 0]) := rfl
  rw [e1, e2]
  exact hP 27 _ rfl
set_option maxHeartbeats 4000000 in
set_option maxRecDepth 100000 in
theorem ga_28 {D : va_G} {C : Nat → ClassId} {x m : Nat} {r r' : kk_S} {H : Heap} (hP : va_P D vwCl (ge_W C x m r r') H) : va_at D vwCl (ge_ad (ge_L x m r r') 28, ge_cf (ge_L x m r r') C 28) H := by
  have e1 : ge_ad (ge_L x m r r') 28 = r 0 5 := rfl
  have e2 : ge_cf (ge_L x m r r') C 28 = .inr (0, [.ref (r 5 7), .int 0, .int 0, .int 0, .int 0, .int 0]) := rfl
  rw [e1, e2]
  exact hP 28 _ rfl
set_option maxHeartbeats 4000000 in
set_option maxRecDepth 100000 in
theorem ga_29 {D : va_G} {C : Nat → ClassId} {x m : Nat} {r r' : kk_S} {H : Heap} (hP : va_P D vwCl (ge_W C x m r r') H) : va_at D vwCl (ge_ad (ge_L x m r r') 29, ge_cf (ge_L x m r r') C 29) H := by
  have e1 : ge_ad (ge_L x m r r') 29 = r 5 7 := rfl
  have e2 : ge_cf (ge_L x m r r') C 29 = .inl (C 8, 7, .inr (.inr (.inr (.inr (fun i => some (ge_ad (ge_L x m r r') (ge_rt 29 i))))))) := rfl
  rw [e1, e2]
  refine vat_q (f := fun i => some (r 5 i)) (hP 29 _ rfl) (fun j hj => ?_)
  rcases (show j = 0 ∨ j = 1 ∨ j = 2 ∨ j = 3 ∨ j = 4 ∨ j = 5 ∨ j = 6 by omega) with rfl | rfl | rfl | rfl | rfl | rfl | rfl <;> rfl
set_option maxHeartbeats 4000000 in
set_option maxRecDepth 100000 in
theorem ga_30 {D : va_G} {C : Nat → ClassId} {x m : Nat} {r r' : kk_S} {H : Heap} (hP : va_P D vwCl (ge_W C x m r r') H) : va_at D vwCl (ge_ad (ge_L x m r r') 30, ge_cf (ge_L x m r r') C 30) H := by
  have e1 : ge_ad (ge_L x m r r') 30 = r 5 0 := rfl
  have e2 : ge_cf (ge_L x m r r') C 30 = .inr (2, [.int 0, .int 0, .int 0, .int 0, .int 0, .int 0]) := rfl
  rw [e1, e2]
  exact hP 30 _ rfl
set_option maxHeartbeats 4000000 in
set_option maxRecDepth 100000 in
theorem ga_31 {D : va_G} {C : Nat → ClassId} {x m : Nat} {r r' : kk_S} {H : Heap} (hP : va_P D vwCl (ge_W C x m r r') H) : va_at D vwCl (ge_ad (ge_L x m r r') 31, ge_cf (ge_L x m r r') C 31) H := by
  have e1 : ge_ad (ge_L x m r r') 31 = r 5 1 := rfl
  have e2 : ge_cf (ge_L x m r r') C 31 = .inr (2, [.int 0, .int 0, .int 0, .int 0, .int 0, .int 0]) := rfl
  rw [e1, e2]
  exact hP 31 _ rfl
set_option maxHeartbeats 4000000 in
set_option maxRecDepth 100000 in
theorem ga_32 {D : va_G} {C : Nat → ClassId} {x m : Nat} {r r' : kk_S} {H : Heap} (hP : va_P D vwCl (ge_W C x m r r') H) : va_at D vwCl (ge_ad (ge_L x m r r') 32, ge_cf (ge_L x m r r') C 32) H := by
  have e1 : ge_ad (ge_L x m r r') 32 = r 5 2 := rfl
  have e2 : ge_cf (ge_L x m r r') C 32 = .inr (2, [.int 0, .int 0, .int 0, .int 0, .int 0, .int 0]) := rfl
  rw [e1, e2]
  exact hP 32 _ rfl
set_option maxHeartbeats 4000000 in
set_option maxRecDepth 100000 in
theorem ga_33 {D : va_G} {C : Nat → ClassId} {x m : Nat} {r r' : kk_S} {H : Heap} (hP : va_P D vwCl (ge_W C x m r r') H) : va_at D vwCl (ge_ad (ge_L x m r r') 33, ge_cf (ge_L x m r r') C 33) H := by
  have e1 : ge_ad (ge_L x m r r') 33 = r 5 3 := rfl
  have e2 : ge_cf (ge_L x m r r') C 33 = .inr (2, [.int 0, .int 0, .int 0, .int 0, .int 0, .int 0]) := rfl
  rw [e1, e2]
  exact hP 33 _ rfl
set_option maxHeartbeats 4000000 in
set_option maxRecDepth 100000 in
theorem ga_34 {D : va_G} {C : Nat → ClassId} {x m : Nat} {r r' : kk_S} {H : Heap} (hP : va_P D vwCl (ge_W C x m r r') H) : va_at D vwCl (ge_ad (ge_L x m r r') 34, ge_cf (ge_L x m r r') C 34) H := by
  have e1 : ge_ad (ge_L x m r r') 34 = r 5 4 := rfl
  have e2 : ge_cf (ge_L x m r r') C 34 = .inr (2, [.int 0, .int 0, .int 0, .int 0, .int 0, .int 0]) := rfl
  rw [e1, e2]
  exact hP 34 _ rfl
set_option maxHeartbeats 4000000 in
set_option maxRecDepth 100000 in
theorem ga_35 {D : va_G} {C : Nat → ClassId} {x m : Nat} {r r' : kk_S} {H : Heap} (hP : va_P D vwCl (ge_W C x m r r') H) : va_at D vwCl (ge_ad (ge_L x m r r') 35, ge_cf (ge_L x m r r') C 35) H := by
  have e1 : ge_ad (ge_L x m r r') 35 = r 5 5 := rfl
  have e2 : ge_cf (ge_L x m r r') C 35 = .inr (2, [.int 0, .int 0, .int 0, .int 0, .int 0, .int 0]) := rfl
  rw [e1, e2]
  exact hP 35 _ rfl
set_option maxHeartbeats 4000000 in
set_option maxRecDepth 100000 in
theorem ga_36 {D : va_G} {C : Nat → ClassId} {x m : Nat} {r r' : kk_S} {H : Heap} (hP : va_P D vwCl (ge_W C x m r r') H) : va_at D vwCl (ge_ad (ge_L x m r r') 36, ge_cf (ge_L x m r r') C 36) H := by
  have e1 : ge_ad (ge_L x m r r') 36 = r 5 6 := rfl
  have e2 : ge_cf (ge_L x m r r') C 36 = .inr (2, [.int 0, .int 0, .int 0, .int 0, .int 0, .int 0]) := rfl
  rw [e1, e2]
  exact hP 36 _ rfl
set_option maxHeartbeats 4000000 in
set_option maxRecDepth 100000 in
theorem ga_37 {D : va_G} {C : Nat → ClassId} {x m : Nat} {r r' : kk_S} {H : Heap} (hP : va_P D vwCl (ge_W C x m r r') H) : va_at D vwCl (ge_ad (ge_L x m r r') 37, ge_cf (ge_L x m r r') C 37) H := by
  have e1 : ge_ad (ge_L x m r r') 37 = r 0 6 := rfl
  have e2 : ge_cf (ge_L x m r r') C 37 = .inr (1, [.ref (r 6 0), .int 0]) := rfl
  rw [e1, e2]
  exact hP 37 _ rfl
set_option maxHeartbeats 4000000 in
set_option maxRecDepth 100000 in
theorem ga_38 {D : va_G} {C : Nat → ClassId} {x m : Nat} {r r' : kk_S} {H : Heap} (hP : va_P D vwCl (ge_W C x m r r') H) : va_at D vwCl (ge_ad (ge_L x m r r') 38, ge_cf (ge_L x m r r') C 38) H := by
  have e1 : ge_ad (ge_L x m r r') 38 = r 6 0 := rfl
  have e2 : ge_cf (ge_L x m r r') C 38 = .inl (C 6, 40, .inl (ge_int 38)) := rfl
  rw [e1, e2]
  exact vat_i (f := fun _ => 0) (hP 38 _ rfl) (fun j _ => (ge_int_z (by decide)).symm)
set_option maxHeartbeats 4000000 in
set_option maxRecDepth 100000 in
theorem ga_39 {D : va_G} {C : Nat → ClassId} {x m : Nat} {r r' : kk_S} {H : Heap} (hP : va_P D vwCl (ge_W C x m r r') H) : va_at D vwCl (ge_ad (ge_L x m r r') 39, ge_cf (ge_L x m r r') C 39) H := by
  have e1 : ge_ad (ge_L x m r r') 39 = r 0 8 := rfl
  have e2 : ge_cf (ge_L x m r r') C 39 = .inr (0, [.ref (r 8 7), .int 0, .int 0, .int 0, .int 0, .int 0]) := rfl
  rw [e1, e2]
  exact hP 39 _ rfl
