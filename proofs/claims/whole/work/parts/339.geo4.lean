/-! every cell of the start, the rest -/
set_option maxHeartbeats 4000000 in
set_option maxRecDepth 100000 in
theorem ga_40 {D : va_G} {C : Nat → ClassId} {x m : Nat} {r r' : kk_S} {H : Heap} (hP : va_P D vwCl (ge_W C x m r r') H) : va_at D vwCl (ge_ad (ge_L x m r r') 40, ge_cf (ge_L x m r r') C 40) H := by
  have e1 : ge_ad (ge_L x m r r') 40 = r 8 7 := rfl
  have e2 : ge_cf (ge_L x m r r') C 40 = .inl (C 8, 7, .inr (.inr (.inr (.inr (fun i => some (ge_ad (ge_L x m r r') (ge_rt 40 i))))))) := rfl
  rw [e1, e2]
  refine vat_q (f := fun i => some (r 8 i)) (hP 40 _ rfl) (fun j hj => ?_)
  rcases (show j = 0 ∨ j = 1 ∨ j = 2 ∨ j = 3 ∨ j = 4 ∨ j = 5 ∨ j = 6 by omega) with rfl | rfl | rfl | rfl | rfl | rfl | rfl <;> rfl
set_option maxHeartbeats 4000000 in
set_option maxRecDepth 100000 in
theorem ga_41 {D : va_G} {C : Nat → ClassId} {x m : Nat} {r r' : kk_S} {H : Heap} (hP : va_P D vwCl (ge_W C x m r r') H) : va_at D vwCl (ge_ad (ge_L x m r r') 41, ge_cf (ge_L x m r r') C 41) H := by
  have e1 : ge_ad (ge_L x m r r') 41 = r 8 0 := rfl
  have e2 : ge_cf (ge_L x m r r') C 41 = .inr (2, [.int 0, .int 0, .int 0, .int 0, .int 0, .int 0]) := rfl
  rw [e1, e2]
  exact hP 41 _ rfl
set_option maxHeartbeats 4000000 in
set_option maxRecDepth 100000 in
theorem ga_42 {D : va_G} {C : Nat → ClassId} {x m : Nat} {r r' : kk_S} {H : Heap} (hP : va_P D vwCl (ge_W C x m r r') H) : va_at D vwCl (ge_ad (ge_L x m r r') 42, ge_cf (ge_L x m r r') C 42) H := by
  have e1 : ge_ad (ge_L x m r r') 42 = r 8 1 := rfl
  have e2 : ge_cf (ge_L x m r r') C 42 = .inr (2, [.int 0, .int 0, .int 0, .int 0, .int 0, .int 0]) := rfl
  rw [e1, e2]
  exact hP 42 _ rfl
set_option maxHeartbeats 4000000 in
set_option maxRecDepth 100000 in
theorem ga_43 {D : va_G} {C : Nat → ClassId} {x m : Nat} {r r' : kk_S} {H : Heap} (hP : va_P D vwCl (ge_W C x m r r') H) : va_at D vwCl (ge_ad (ge_L x m r r') 43, ge_cf (ge_L x m r r') C 43) H := by
  have e1 : ge_ad (ge_L x m r r') 43 = r 8 2 := rfl
  have e2 : ge_cf (ge_L x m r r') C 43 = .inr (2, [.int 0, .int 0, .int 0, .int 0, .int 0, .int 0]) := rfl
  rw [e1, e2]
  exact hP 43 _ rfl
set_option maxHeartbeats 4000000 in
set_option maxRecDepth 100000 in
theorem ga_44 {D : va_G} {C : Nat → ClassId} {x m : Nat} {r r' : kk_S} {H : Heap} (hP : va_P D vwCl (ge_W C x m r r') H) : va_at D vwCl (ge_ad (ge_L x m r r') 44, ge_cf (ge_L x m r r') C 44) H := by
  have e1 : ge_ad (ge_L x m r r') 44 = r 8 3 := rfl
  have e2 : ge_cf (ge_L x m r r') C 44 = .inr (2, [.int 0, .int 0, .int 0, .int 0, .int 0, .int 0]) := rfl
  rw [e1, e2]
  exact hP 44 _ rfl
set_option maxHeartbeats 4000000 in
set_option maxRecDepth 100000 in
theorem ga_45 {D : va_G} {C : Nat → ClassId} {x m : Nat} {r r' : kk_S} {H : Heap} (hP : va_P D vwCl (ge_W C x m r r') H) : va_at D vwCl (ge_ad (ge_L x m r r') 45, ge_cf (ge_L x m r r') C 45) H := by
  have e1 : ge_ad (ge_L x m r r') 45 = r 8 4 := rfl
  have e2 : ge_cf (ge_L x m r r') C 45 = .inr (2, [.int 0, .int 0, .int 0, .int 0, .int 0, .int 0]) := rfl
  rw [e1, e2]
  exact hP 45 _ rfl
set_option maxHeartbeats 4000000 in
set_option maxRecDepth 100000 in
theorem ga_46 {D : va_G} {C : Nat → ClassId} {x m : Nat} {r r' : kk_S} {H : Heap} (hP : va_P D vwCl (ge_W C x m r r') H) : va_at D vwCl (ge_ad (ge_L x m r r') 46, ge_cf (ge_L x m r r') C 46) H := by
  have e1 : ge_ad (ge_L x m r r') 46 = r 8 5 := rfl
  have e2 : ge_cf (ge_L x m r r') C 46 = .inr (2, [.int 0, .int 0, .int 0, .int 0, .int 0, .int 0]) := rfl
  rw [e1, e2]
  exact hP 46 _ rfl
set_option maxHeartbeats 4000000 in
set_option maxRecDepth 100000 in
theorem ga_47 {D : va_G} {C : Nat → ClassId} {x m : Nat} {r r' : kk_S} {H : Heap} (hP : va_P D vwCl (ge_W C x m r r') H) : va_at D vwCl (ge_ad (ge_L x m r r') 47, ge_cf (ge_L x m r r') C 47) H := by
  have e1 : ge_ad (ge_L x m r r') 47 = r 8 6 := rfl
  have e2 : ge_cf (ge_L x m r r') C 47 = .inr (2, [.int 0, .int 0, .int 0, .int 0, .int 0, .int 0]) := rfl
  rw [e1, e2]
  exact hP 47 _ rfl
set_option maxHeartbeats 4000000 in
set_option maxRecDepth 100000 in
theorem ga_48 {D : va_G} {C : Nat → ClassId} {x m : Nat} {r r' : kk_S} {H : Heap} (hP : va_P D vwCl (ge_W C x m r r') H) : va_at D vwCl (ge_ad (ge_L x m r r') 48, ge_cf (ge_L x m r r') C 48) H := by
  have e1 : ge_ad (ge_L x m r r') 48 = r 0 9 := rfl
  have e2 : ge_cf (ge_L x m r r') C 48 = .inr (0, [.ref (r 9 7), .int 0, .int 0, .int 0, .int 0, .int 0]) := rfl
  rw [e1, e2]
  exact hP 48 _ rfl
set_option maxHeartbeats 4000000 in
set_option maxRecDepth 100000 in
theorem ga_49 {D : va_G} {C : Nat → ClassId} {x m : Nat} {r r' : kk_S} {H : Heap} (hP : va_P D vwCl (ge_W C x m r r') H) : va_at D vwCl (ge_ad (ge_L x m r r') 49, ge_cf (ge_L x m r r') C 49) H := by
  have e1 : ge_ad (ge_L x m r r') 49 = r 9 7 := rfl
  have e2 : ge_cf (ge_L x m r r') C 49 = .inl (C 8, 7, .inr (.inr (.inr (.inr (fun i => some (ge_ad (ge_L x m r r') (ge_rt 49 i))))))) := rfl
  rw [e1, e2]
  refine vat_q (f := fun i => some (r 9 i)) (hP 49 _ rfl) (fun j hj => ?_)
  rcases (show j = 0 ∨ j = 1 ∨ j = 2 ∨ j = 3 ∨ j = 4 ∨ j = 5 ∨ j = 6 by omega) with rfl | rfl | rfl | rfl | rfl | rfl | rfl <;> rfl
set_option maxHeartbeats 4000000 in
set_option maxRecDepth 100000 in
theorem ga_50 {D : va_G} {C : Nat → ClassId} {x m : Nat} {r r' : kk_S} {H : Heap} (hP : va_P D vwCl (ge_W C x m r r') H) : va_at D vwCl (ge_ad (ge_L x m r r') 50, ge_cf (ge_L x m r r') C 50) H := by
  have e1 : ge_ad (ge_L x m r r') 50 = r 9 0 := rfl
  have e2 : ge_cf (ge_L x m r r') C 50 = .inr (2, [.int 0, .int 0, .int 0, .int 0, .int 0, .int 0]) := rfl
  rw [e1, e2]
  exact hP 50 _ rfl
set_option maxHeartbeats 4000000 in
set_option maxRecDepth 100000 in
theorem ga_51 {D : va_G} {C : Nat → ClassId} {x m : Nat} {r r' : kk_S} {H : Heap} (hP : va_P D vwCl (ge_W C x m r r') H) : va_at D vwCl (ge_ad (ge_L x m r r') 51, ge_cf (ge_L x m r r') C 51) H := by
  have e1 : ge_ad (ge_L x m r r') 51 = r 9 1 := rfl
  have e2 : ge_cf (ge_L x m r r') C 51 = .inr (2, [.int 0, .int 0, .int 0, .int 0, .int 0, .int 0]) := rfl
  rw [e1, e2]
  exact hP 51 _ rfl
set_option maxHeartbeats 4000000 in
set_option maxRecDepth 100000 in
theorem ga_52 {D : va_G} {C : Nat → ClassId} {x m : Nat} {r r' : kk_S} {H : Heap} (hP : va_P D vwCl (ge_W C x m r r') H) : va_at D vwCl (ge_ad (ge_L x m r r') 52, ge_cf (ge_L x m r r') C 52) H := by
  have e1 : ge_ad (ge_L x m r r') 52 = r 9 2 := rfl
  have e2 : ge_cf (ge_L x m r r') C 52 = .inr (2, [.int 0, .int 0, .int 0, .int 0, .int 0, .int 0]) := rfl
  rw [e1, e2]
  exact hP 52 _ rfl
set_option maxHeartbeats 4000000 in
set_option maxRecDepth 100000 in
theorem ga_53 {D : va_G} {C : Nat → ClassId} {x m : Nat} {r r' : kk_S} {H : Heap} (hP : va_P D vwCl (ge_W C x m r r') H) : va_at D vwCl (ge_ad (ge_L x m r r') 53, ge_cf (ge_L x m r r') C 53) H := by
  have e1 : ge_ad (ge_L x m r r') 53 = r 9 3 := rfl
  have e2 : ge_cf (ge_L x m r r') C 53 = .inr (2, [.int 0, .int 0, .int 0, .int 0, .int 0, .int 0]) := rfl
  rw [e1, e2]
  exact hP 53 _ rfl
set_option maxHeartbeats 4000000 in
set_option maxRecDepth 100000 in
theorem ga_54 {D : va_G} {C : Nat → ClassId} {x m : Nat} {r r' : kk_S} {H : Heap} (hP : va_P D vwCl (ge_W C x m r r') H) : va_at D vwCl (ge_ad (ge_L x m r r') 54, ge_cf (ge_L x m r r') C 54) H := by
  have e1 : ge_ad (ge_L x m r r') 54 = r 9 4 := rfl
  have e2 : ge_cf (ge_L x m r r') C 54 = .inr (2, [.int 0, .int 0, .int 0, .int 0, .int 0, .int 0]) := rfl
  rw [e1, e2]
  exact hP 54 _ rfl
set_option maxHeartbeats 4000000 in
set_option maxRecDepth 100000 in
theorem ga_55 {D : va_G} {C : Nat → ClassId} {x m : Nat} {r r' : kk_S} {H : Heap} (hP : va_P D vwCl (ge_W C x m r r') H) : va_at D vwCl (ge_ad (ge_L x m r r') 55, ge_cf (ge_L x m r r') C 55) H := by
  have e1 : ge_ad (ge_L x m r r') 55 = r 9 5 := rfl
  have e2 : ge_cf (ge_L x m r r') C 55 = .inr (2, [.int 0, .int 0, .int 0, .int 0, .int 0, .int 0]) := rfl
  rw [e1, e2]
  exact hP 55 _ rfl
set_option maxHeartbeats 4000000 in
set_option maxRecDepth 100000 in
theorem ga_56 {D : va_G} {C : Nat → ClassId} {x m : Nat} {r r' : kk_S} {H : Heap} (hP : va_P D vwCl (ge_W C x m r r') H) : va_at D vwCl (ge_ad (ge_L x m r r') 56, ge_cf (ge_L x m r r') C 56) H := by
  have e1 : ge_ad (ge_L x m r r') 56 = r 9 6 := rfl
  have e2 : ge_cf (ge_L x m r r') C 56 = .inr (2, [.int 0, .int 0, .int 0, .int 0, .int 0, .int 0]) := rfl
  rw [e1, e2]
  exact hP 56 _ rfl
set_option maxHeartbeats 4000000 in
set_option maxRecDepth 100000 in
theorem ga_57 {D : va_G} {C : Nat → ClassId} {x m : Nat} {r r' : kk_S} {H : Heap} (hP : va_P D vwCl (ge_W C x m r r') H) : va_at D vwCl (ge_ad (ge_L x m r r') 57, ge_cf (ge_L x m r r') C 57) H := by
  have e1 : ge_ad (ge_L x m r r') 57 = r 0 10 := rfl
  have e2 : ge_cf (ge_L x m r r') C 57 = .inl (C 6, 7, .inl (ge_int 57)) := rfl
  rw [e1, e2]
  exact vat_i (f := fun _ => 0) (hP 57 _ rfl) (fun j _ => (ge_int_z (by decide)).symm)
set_option maxHeartbeats 4000000 in
set_option maxRecDepth 100000 in
theorem ga_58 {D : va_G} {C : Nat → ClassId} {x m : Nat} {r r' : kk_S} {H : Heap} (hP : va_P D vwCl (ge_W C x m r r') H) : va_at D vwCl (ge_ad (ge_L x m r r') 58, ge_cf (ge_L x m r r') C 58) H := by
  have e1 : ge_ad (ge_L x m r r') 58 = r 0 11 := rfl
  have e2 : ge_cf (ge_L x m r r') C 58 = .inl (C 10, 6, .inr (.inr (.inr (.inr (fun i => some (ge_ad (ge_L x m r r') (ge_rt 58 i))))))) := rfl
  rw [e1, e2]
  refine vat_q (f := fun i => some (r 3 11 + i)) (hP 58 _ rfl) (fun j hj => ?_)
  rcases (show j = 0 ∨ j = 1 ∨ j = 2 ∨ j = 3 ∨ j = 4 ∨ j = 5 by omega) with rfl | rfl | rfl | rfl | rfl | rfl <;> rfl
set_option maxHeartbeats 4000000 in
set_option maxRecDepth 100000 in
theorem ga_59 {D : va_G} {C : Nat → ClassId} {x m : Nat} {r r' : kk_S} {H : Heap} (hP : va_P D vwCl (ge_W C x m r r') H) : va_at D vwCl (ge_ad (ge_L x m r r') 59, ge_cf (ge_L x m r r') C 59) H := by
  have e1 : ge_ad (ge_L x m r r') 59 = r 3 11 + 0 := rfl
  have e2 : ge_cf (ge_L x m r r') C 59 = .inl (C 6, 20, .inl (ge_int 59)) := rfl
  rw [e1, e2]
  exact vat_i (f := fun _ => 0) (hP 59 _ rfl) (fun j _ => (ge_int_z (by decide)).symm)
set_option maxHeartbeats 4000000 in
set_option maxRecDepth 100000 in
theorem ga_60 {D : va_G} {C : Nat → ClassId} {x m : Nat} {r r' : kk_S} {H : Heap} (hP : va_P D vwCl (ge_W C x m r r') H) : va_at D vwCl (ge_ad (ge_L x m r r') 60, ge_cf (ge_L x m r r') C 60) H := by
  have e1 : ge_ad (ge_L x m r r') 60 = r 3 11 + 1 := rfl
  have e2 : ge_cf (ge_L x m r r') C 60 = .inl (C 6, 20, .inl (ge_int 60)) := rfl
  rw [e1, e2]
  exact vat_i (f := fun _ => 0) (hP 60 _ rfl) (fun j _ => (ge_int_z (by decide)).symm)
set_option maxHeartbeats 4000000 in
set_option maxRecDepth 100000 in
theorem ga_61 {D : va_G} {C : Nat → ClassId} {x m : Nat} {r r' : kk_S} {H : Heap} (hP : va_P D vwCl (ge_W C x m r r') H) : va_at D vwCl (ge_ad (ge_L x m r r') 61, ge_cf (ge_L x m r r') C 61) H := by
  have e1 : ge_ad (ge_L x m r r') 61 = r 3 11 + 2 := rfl
  have e2 : ge_cf (ge_L x m r r') C 61 = .inl (C 6, 20, .inl (ge_int 61)) := rfl
  rw [e1, e2]
  exact vat_i (f := fun _ => 0) (hP 61 _ rfl) (fun j _ => (ge_int_z (by decide)).symm)
set_option maxHeartbeats 4000000 in
set_option maxRecDepth 100000 in
theorem ga_62 {D : va_G} {C : Nat → ClassId} {x m : Nat} {r r' : kk_S} {H : Heap} (hP : va_P D vwCl (ge_W C x m r r') H) : va_at D vwCl (ge_ad (ge_L x m r r') 62, ge_cf (ge_L x m r r') C 62) H := by
  have e1 : ge_ad (ge_L x m r r') 62 = r 3 11 + 3 := rfl
  have e2 : ge_cf (ge_L x m r r') C 62 = .inl (C 6, 20, .inl (ge_int 62)) := rfl
  rw [e1, e2]
  exact vat_i (f := fun _ => 0) (hP 62 _ rfl) (fun j _ => (ge_int_z (by decide)).symm)
set_option maxHeartbeats 4000000 in
set_option maxRecDepth 100000 in
theorem ga_63 {D : va_G} {C : Nat → ClassId} {x m : Nat} {r r' : kk_S} {H : Heap} (hP : va_P D vwCl (ge_W C x m r r') H) : va_at D vwCl (ge_ad (ge_L x m r r') 63, ge_cf (ge_L x m r r') C 63) H := by
  have e1 : ge_ad (ge_L x m r r') 63 = r 3 11 + 4 := rfl
  have e2 : ge_cf (ge_L x m r r') C 63 = .inl (C 6, 20, .inl (ge_int 63)) := rfl
  rw [e1, e2]
  exact vat_i (f := fun _ => 0) (hP 63 _ rfl) (fun j _ => (ge_int_z (by decide)).symm)
set_option maxHeartbeats 4000000 in
set_option maxRecDepth 100000 in
theorem ga_64 {D : va_G} {C : Nat → ClassId} {x m : Nat} {r r' : kk_S} {H : Heap} (hP : va_P D vwCl (ge_W C x m r r') H) : va_at D vwCl (ge_ad (ge_L x m r r') 64, ge_cf (ge_L x m r r') C 64) H := by
  have e1 : ge_ad (ge_L x m r r') 64 = r 3 11 + 5 := rfl
  have e2 : ge_cf (ge_L x m r r') C 64 = .inl (C 6, 20, .inl (ge_int 64)) := rfl
  rw [e1, e2]
  exact vat_i (f := fun _ => 0) (hP 64 _ rfl) (fun j _ => (ge_int_z (by decide)).symm)
set_option maxHeartbeats 4000000 in
set_option maxRecDepth 100000 in
theorem ga_65 {D : va_G} {C : Nat → ClassId} {x m : Nat} {r r' : kk_S} {H : Heap} (hP : va_P D vwCl (ge_W C x m r r') H) : va_at D vwCl (ge_ad (ge_L x m r r') 65, ge_cf (ge_L x m r r') C 65) H := by
  have e1 : ge_ad (ge_L x m r r') 65 = r 0 16 := rfl
  have e2 : ge_cf (ge_L x m r r') C 65 = .inl (C 6, 6, .inl (ge_int 65)) := rfl
  rw [e1, e2]
  exact vat_i (f := fun _ => 0) (hP 65 _ rfl) (fun j _ => (ge_int_z (by decide)).symm)
set_option maxHeartbeats 4000000 in
set_option maxRecDepth 100000 in
theorem ga_66 {D : va_G} {C : Nat → ClassId} {x m : Nat} {r r' : kk_S} {H : Heap} (hP : va_P D vwCl (ge_W C x m r r') H) : va_at D vwCl (ge_ad (ge_L x m r r') 66, ge_cf (ge_L x m r r') C 66) H := by
  have e1 : ge_ad (ge_L x m r r') 66 = r 2 0 := rfl
  have e2 : ge_cf (ge_L x m r r') C 66 = .inl (C 6, 40, .inl (ge_int 66)) := rfl
  rw [e1, e2]
  exact vat_i (f := fun _ => 0) (hP 66 _ rfl) (fun j _ => (ge_int_z (by decide)).symm)
set_option maxHeartbeats 4000000 in
set_option maxRecDepth 100000 in
theorem ga_67 {D : va_G} {C : Nat → ClassId} {x m : Nat} {r r' : kk_S} {H : Heap} (hP : va_P D vwCl (ge_W C x m r r') H) : va_at D vwCl (ge_ad (ge_L x m r r') 67, ge_cf (ge_L x m r r') C 67) H := by
  have e1 : ge_ad (ge_L x m r r') 67 = r 2 1 := rfl
  have e2 : ge_cf (ge_L x m r r') C 67 = .inl (C 6, 40, .inl (ge_int 67)) := rfl
  rw [e1, e2]
  exact vat_i (f := fun _ => 0) (hP 67 _ rfl) (fun j _ => (ge_int_z (by decide)).symm)
set_option maxHeartbeats 4000000 in
set_option maxRecDepth 100000 in
theorem ga_68 {D : va_G} {C : Nat → ClassId} {x m : Nat} {r r' : kk_S} {H : Heap} (hP : va_P D vwCl (ge_W C x m r r') H) : va_at D vwCl (ge_ad (ge_L x m r r') 68, ge_cf (ge_L x m r r') C 68) H := by
  have e1 : ge_ad (ge_L x m r r') 68 = r 2 2 := rfl
  have e2 : ge_cf (ge_L x m r r') C 68 = .inl (C 6, 40, .inl (ge_int 68)) := rfl
  rw [e1, e2]
  exact vat_i (f := fun _ => 0) (hP 68 _ rfl) (fun j _ => (ge_int_z (by decide)).symm)
set_option maxHeartbeats 4000000 in
set_option maxRecDepth 100000 in
theorem ga_69 {D : va_G} {C : Nat → ClassId} {x m : Nat} {r r' : kk_S} {H : Heap} (hP : va_P D vwCl (ge_W C x m r r') H) : va_at D vwCl (ge_ad (ge_L x m r r') 69, ge_cf (ge_L x m r r') C 69) H := by
  have e1 : ge_ad (ge_L x m r r') 69 = m := rfl
  have e2 : ge_cf (ge_L x m r r') C 69 = .inr (4, [.ref (r' 0 0), .ref (r' 0 1), .ref (r' 0 2), .ref (r' 0 3), .ref (r' 0 4), .ref (r' 0 5), .ref (r' 0 6), .ref (r' 0 7), .ref (r' 0 8), .ref (r' 0 9), .int 0, .ref (r' 0 11), .ref (r' 0 12), .ref (r' 0 13), .int 0, .long 0, .long 1, .int 0, .ref (r' 0 18), .ref (r' 0 19), .ref (r' 0 20), .ref (r' 0 21)]) := rfl
  rw [e1, e2]
  exact hP 69 _ rfl
set_option maxHeartbeats 4000000 in
set_option maxRecDepth 100000 in
theorem ga_70 {D : va_G} {C : Nat → ClassId} {x m : Nat} {r r' : kk_S} {H : Heap} (hP : va_P D vwCl (ge_W C x m r r') H) : va_at D vwCl (ge_ad (ge_L x m r r') 70, ge_cf (ge_L x m r r') C 70) H := by
  have e1 : ge_ad (ge_L x m r r') 70 = r' 0 0 := rfl
  have e2 : ge_cf (ge_L x m r r') C 70 = .inl (C 6, 6, .inl (ge_int 70)) := rfl
  rw [e1, e2]
  exact vat_i (f := fun j => if j < 6 then -1 else 0) (hP 70 _ rfl) (by decide +kernel)
set_option maxHeartbeats 4000000 in
set_option maxRecDepth 100000 in
theorem ga_71 {D : va_G} {C : Nat → ClassId} {x m : Nat} {r r' : kk_S} {H : Heap} (hP : va_P D vwCl (ge_W C x m r r') H) : va_at D vwCl (ge_ad (ge_L x m r r') 71, ge_cf (ge_L x m r r') C 71) H := by
  have e1 : ge_ad (ge_L x m r r') 71 = r' 0 3 := rfl
  have e2 : ge_cf (ge_L x m r r') C 71 = .inl (C 6, 4, .inl (ge_int 71)) := rfl
  rw [e1, e2]
  exact vat_i (f := fun j => if j < 4 then -1 else 0) (hP 71 _ rfl) (by decide +kernel)
set_option maxHeartbeats 4000000 in
set_option maxRecDepth 100000 in
theorem ga_72 {D : va_G} {C : Nat → ClassId} {x m : Nat} {r r' : kk_S} {H : Heap} (hP : va_P D vwCl (ge_W C x m r r') H) : va_at D vwCl (ge_ad (ge_L x m r r') 72, ge_cf (ge_L x m r r') C 72) H := by
  have e1 : ge_ad (ge_L x m r r') 72 = r' 0 13 := rfl
  have e2 : ge_cf (ge_L x m r r') C 72 = .inl (C 6, 3, .inl (ge_int 72)) := rfl
  rw [e1, e2]
  exact vat_i (f := fun j => if j < 3 then -1 else 0) (hP 72 _ rfl) (by decide +kernel)
set_option maxHeartbeats 4000000 in
set_option maxRecDepth 100000 in
theorem ga_73 {D : va_G} {C : Nat → ClassId} {x m : Nat} {r r' : kk_S} {H : Heap} (hP : va_P D vwCl (ge_W C x m r r') H) : va_at D vwCl (ge_ad (ge_L x m r r') 73, ge_cf (ge_L x m r r') C 73) H := by
  have e1 : ge_ad (ge_L x m r r') 73 = r' 0 1 := rfl
  have e2 : ge_cf (ge_L x m r r') C 73 = .inl (C 6, 240, .inl (ge_int 73)) := rfl
  rw [e1, e2]
  exact vat_i (f := fun _ => 0) (hP 73 _ rfl) (fun j _ => (ge_int_z (by decide)).symm)
set_option maxHeartbeats 4000000 in
set_option maxRecDepth 100000 in
theorem ga_74 {D : va_G} {C : Nat → ClassId} {x m : Nat} {r r' : kk_S} {H : Heap} (hP : va_P D vwCl (ge_W C x m r r') H) : va_at D vwCl (ge_ad (ge_L x m r r') 74, ge_cf (ge_L x m r r') C 74) H := by
  have e1 : ge_ad (ge_L x m r r') 74 = r' 0 2 := rfl
  have e2 : ge_cf (ge_L x m r r') C 74 = .inl (C 6, 40, .inl (ge_int 74)) := rfl
  rw [e1, e2]
  exact vat_i (f := fun _ => 0) (hP 74 _ rfl) (fun j _ => (ge_int_z (by decide)).symm)
set_option maxHeartbeats 4000000 in
set_option maxRecDepth 100000 in
theorem ga_75 {D : va_G} {C : Nat → ClassId} {x m : Nat} {r r' : kk_S} {H : Heap} (hP : va_P D vwCl (ge_W C x m r r') H) : va_at D vwCl (ge_ad (ge_L x m r r') 75, ge_cf (ge_L x m r r') C 75) H := by
  have e1 : ge_ad (ge_L x m r r') 75 = r' 0 4 := rfl
  have e2 : ge_cf (ge_L x m r r') C 75 = .inl (C 5, 240, .inl (ge_int 75)) := rfl
  rw [e1, e2]
  exact vat_i (f := fun _ => 0) (hP 75 _ rfl) (fun j _ => (ge_int_z (by decide)).symm)
set_option maxHeartbeats 4000000 in
set_option maxRecDepth 100000 in
theorem ga_76 {D : va_G} {C : Nat → ClassId} {x m : Nat} {r r' : kk_S} {H : Heap} (hP : va_P D vwCl (ge_W C x m r r') H) : va_at D vwCl (ge_ad (ge_L x m r r') 76, ge_cf (ge_L x m r r') C 76) H := by
  have e1 : ge_ad (ge_L x m r r') 76 = r' 0 5 := rfl
  have e2 : ge_cf (ge_L x m r r') C 76 = .inl (C 6, 48, .inl (ge_int 76)) := rfl
  rw [e1, e2]
  exact vat_i (f := fun _ => 0) (hP 76 _ rfl) (fun j _ => (ge_int_z (by decide)).symm)
set_option maxHeartbeats 4000000 in
set_option maxRecDepth 100000 in
theorem ga_77 {D : va_G} {C : Nat → ClassId} {x m : Nat} {r r' : kk_S} {H : Heap} (hP : va_P D vwCl (ge_W C x m r r') H) : va_at D vwCl (ge_ad (ge_L x m r r') 77, ge_cf (ge_L x m r r') C 77) H := by
  have e1 : ge_ad (ge_L x m r r') 77 = r' 0 6 := rfl
  have e2 : ge_cf (ge_L x m r r') C 77 = .inl (C 6, 48, .inl (ge_int 77)) := rfl
  rw [e1, e2]
  exact vat_i (f := fun _ => 0) (hP 77 _ rfl) (fun j _ => (ge_int_z (by decide)).symm)
set_option maxHeartbeats 4000000 in
set_option maxRecDepth 100000 in
theorem ga_78 {D : va_G} {C : Nat → ClassId} {x m : Nat} {r r' : kk_S} {H : Heap} (hP : va_P D vwCl (ge_W C x m r r') H) : va_at D vwCl (ge_ad (ge_L x m r r') 78, ge_cf (ge_L x m r r') C 78) H := by
  have e1 : ge_ad (ge_L x m r r') 78 = r' 0 7 := rfl
  have e2 : ge_cf (ge_L x m r r') C 78 = .inl (C 6, 48, .inl (ge_int 78)) := rfl
  rw [e1, e2]
  exact vat_i (f := fun _ => 0) (hP 78 _ rfl) (fun j _ => (ge_int_z (by decide)).symm)
set_option maxHeartbeats 4000000 in
set_option maxRecDepth 100000 in
theorem ga_79 {D : va_G} {C : Nat → ClassId} {x m : Nat} {r r' : kk_S} {H : Heap} (hP : va_P D vwCl (ge_W C x m r r') H) : va_at D vwCl (ge_ad (ge_L x m r r') 79, ge_cf (ge_L x m r r') C 79) H := by
  have e1 : ge_ad (ge_L x m r r') 79 = r' 0 8 := rfl
  have e2 : ge_cf (ge_L x m r r') C 79 = .inl (C 6, 48, .inl (ge_int 79)) := rfl
  rw [e1, e2]
  exact vat_i (f := fun _ => 0) (hP 79 _ rfl) (fun j _ => (ge_int_z (by decide)).symm)
set_option maxHeartbeats 4000000 in
set_option maxRecDepth 100000 in
theorem ga_80 {D : va_G} {C : Nat → ClassId} {x m : Nat} {r r' : kk_S} {H : Heap} (hP : va_P D vwCl (ge_W C x m r r') H) : va_at D vwCl (ge_ad (ge_L x m r r') 80, ge_cf (ge_L x m r r') C 80) H := by
  have e1 : ge_ad (ge_L x m r r') 80 = r' 0 9 := rfl
  have e2 : ge_cf (ge_L x m r r') C 80 = .inl (C 6, 1280, .inl (ge_int 80)) := rfl
  rw [e1, e2]
  exact vat_i (f := fun _ => 0) (hP 80 _ rfl) (fun j _ => (ge_int_z (by decide)).symm)
set_option maxHeartbeats 4000000 in
set_option maxRecDepth 100000 in
theorem ga_81 {D : va_G} {C : Nat → ClassId} {x m : Nat} {r r' : kk_S} {H : Heap} (hP : va_P D vwCl (ge_W C x m r r') H) : va_at D vwCl (ge_ad (ge_L x m r r') 81, ge_cf (ge_L x m r r') C 81) H := by
  have e1 : ge_ad (ge_L x m r r') 81 = r' 0 11 := rfl
  have e2 : ge_cf (ge_L x m r r') C 81 = .inl (C 6, 144, .inl (ge_int 81)) := rfl
  rw [e1, e2]
  exact vat_i (f := fun _ => 0) (hP 81 _ rfl) (fun j _ => (ge_int_z (by decide)).symm)
set_option maxHeartbeats 4000000 in
set_option maxRecDepth 100000 in
theorem ga_82 {D : va_G} {C : Nat → ClassId} {x m : Nat} {r r' : kk_S} {H : Heap} (hP : va_P D vwCl (ge_W C x m r r') H) : va_at D vwCl (ge_ad (ge_L x m r r') 82, ge_cf (ge_L x m r r') C 82) H := by
  have e1 : ge_ad (ge_L x m r r') 82 = r' 0 12 := rfl
  have e2 : ge_cf (ge_L x m r r') C 82 = .inl (C 6, 3840, .inl (ge_int 82)) := rfl
  rw [e1, e2]
  exact vat_i (f := fun _ => 0) (hP 82 _ rfl) (fun j _ => (ge_int_z (by decide)).symm)
set_option maxHeartbeats 4000000 in
set_option maxRecDepth 100000 in
theorem ga_83 {D : va_G} {C : Nat → ClassId} {x m : Nat} {r r' : kk_S} {H : Heap} (hP : va_P D vwCl (ge_W C x m r r') H) : va_at D vwCl (ge_ad (ge_L x m r r') 83, ge_cf (ge_L x m r r') C 83) H := by
  have e1 : ge_ad (ge_L x m r r') 83 = r' 0 18 := rfl
  have e2 : ge_cf (ge_L x m r r') C 83 = .inl (C 6, 6, .inl (ge_int 83)) := rfl
  rw [e1, e2]
  exact vat_i (f := fun _ => 0) (hP 83 _ rfl) (fun j _ => (ge_int_z (by decide)).symm)
set_option maxHeartbeats 4000000 in
set_option maxRecDepth 100000 in
theorem ga_84 {D : va_G} {C : Nat → ClassId} {x m : Nat} {r r' : kk_S} {H : Heap} (hP : va_P D vwCl (ge_W C x m r r') H) : va_at D vwCl (ge_ad (ge_L x m r r') 84, ge_cf (ge_L x m r r') C 84) H := by
  have e1 : ge_ad (ge_L x m r r') 84 = r' 0 19 := rfl
  have e2 : ge_cf (ge_L x m r r') C 84 = .inl (C 6, 7, .inl (ge_int 84)) := rfl
  rw [e1, e2]
  exact vat_i (f := fun _ => 0) (hP 84 _ rfl) (fun j _ => (ge_int_z (by decide)).symm)
set_option maxHeartbeats 4000000 in
set_option maxRecDepth 100000 in
theorem ga_85 {D : va_G} {C : Nat → ClassId} {x m : Nat} {r r' : kk_S} {H : Heap} (hP : va_P D vwCl (ge_W C x m r r') H) : va_at D vwCl (ge_ad (ge_L x m r r') 85, ge_cf (ge_L x m r r') C 85) H := by
  have e1 : ge_ad (ge_L x m r r') 85 = r' 0 20 := rfl
  have e2 : ge_cf (ge_L x m r r') C 85 = .inl (C 6, 8, .inl (ge_int 85)) := rfl
  rw [e1, e2]
  exact vat_i (f := fun _ => 0) (hP 85 _ rfl) (fun j _ => (ge_int_z (by decide)).symm)
set_option maxHeartbeats 4000000 in
set_option maxRecDepth 100000 in
theorem ga_86 {D : va_G} {C : Nat → ClassId} {x m : Nat} {r r' : kk_S} {H : Heap} (hP : va_P D vwCl (ge_W C x m r r') H) : va_at D vwCl (ge_ad (ge_L x m r r') 86, ge_cf (ge_L x m r r') C 86) H := by
  have e1 : ge_ad (ge_L x m r r') 86 = r' 0 21 := rfl
  have e2 : ge_cf (ge_L x m r r') C 86 = .inl (C 6, 126, .inl (ge_int 86)) := rfl
  rw [e1, e2]
  exact vat_i (f := fun _ => 0) (hP 86 _ rfl) (fun j _ => (ge_int_z (by decide)).symm)
set_option maxHeartbeats 4000000 in
set_option maxRecDepth 100000 in
theorem ge_at {D : va_G} {C : Nat → ClassId} {x m : Nat} {r r' : kk_S} {H : Heap} (hP : va_P D vwCl (kw3 C x r ++ kw4 C m r') H) : ∀ k, k < 87 → va_at D vwCl (ge_ad (ge_L x m r r') k, ge_cf (ge_L x m r r') C k) H := by
  rw [ge_W_eq] at hP
  exact ge_all (ga_0 hP) (ga_1 hP) (ga_2 hP) (ga_3 hP) (ga_4 hP) (ga_5 hP) (ga_6 hP) (ga_7 hP) (ga_8 hP) (ga_9 hP) (ga_10 hP) (ga_11 hP) (ga_12 hP) (ga_13 hP) (ga_14 hP) (ga_15 hP) (ga_16 hP) (ga_17 hP) (ga_18 hP) (ga_19 hP) (ga_20 hP) (ga_21 hP) (ga_22 hP) (ga_23 hP) (ga_24 hP) (ga_25 hP) (ga_26 hP) (ga_27 hP) (ga_28 hP) (ga_29 hP) (ga_30 hP) (ga_31 hP) (ga_32 hP) (ga_33 hP) (ga_34 hP) (ga_35 hP) (ga_36 hP) (ga_37 hP) (ga_38 hP) (ga_39 hP) (ga_40 hP) (ga_41 hP) (ga_42 hP) (ga_43 hP) (ga_44 hP) (ga_45 hP) (ga_46 hP) (ga_47 hP) (ga_48 hP) (ga_49 hP) (ga_50 hP) (ga_51 hP) (ga_52 hP) (ga_53 hP) (ga_54 hP) (ga_55 hP) (ga_56 hP) (ga_57 hP) (ga_58 hP) (ga_59 hP) (ga_60 hP) (ga_61 hP) (ga_62 hP) (ga_63 hP) (ga_64 hP) (ga_65 hP) (ga_66 hP) (ga_67 hP) (ga_68 hP) (ga_69 hP) (ga_70 hP) (ga_71 hP) (ga_72 hP) (ga_73 hP) (ga_74 hP) (ga_75 hP) (ga_76 hP) (ga_77 hP) (ga_78 hP) (ga_79 hP) (ga_80 hP) (ga_81 hP) (ga_82 hP) (ga_83 hP) (ga_84 hP) (ga_85 hP) (ga_86 hP)
