/-! every cell of the start is as the tables say -/
set_option maxHeartbeats 4000000 in
set_option maxRecDepth 100000 in
theorem ga_0 {D : va_G} {C : Nat → ClassId} {x m : Nat} {r r' : kk_S} {H : Heap} (hP : va_P D vwCl (kw3 C x r ++ kw4 C m r') H) : va_at D vwCl (ge_ad (ge_L x m r r') 0, ge_cf (ge_L x m r r') C 0) H := hP 0 _ rfl
set_option maxHeartbeats 4000000 in
set_option maxRecDepth 100000 in
theorem ga_1 {D : va_G} {C : Nat → ClassId} {x m : Nat} {r r' : kk_S} {H : Heap} (hP : va_P D vwCl (kw3 C x r ++ kw4 C m r') H) : va_at D vwCl (ge_ad (ge_L x m r r') 1, ge_cf (ge_L x m r r') C 1) H := vat_i (c := C 6) (n := 6) (f := fun j => if j < 6 then -1 else 0) (g := ge_int 1) (hP 1 _ rfl) (by decide +kernel)
set_option maxHeartbeats 4000000 in
set_option maxRecDepth 100000 in
theorem ga_2 {D : va_G} {C : Nat → ClassId} {x m : Nat} {r r' : kk_S} {H : Heap} (hP : va_P D vwCl (kw3 C x r ++ kw4 C m r') H) : va_at D vwCl (ge_ad (ge_L x m r r') 2, ge_cf (ge_L x m r r') C 2) H := vat_i (c := C 6) (n := 4) (f := fun j => if j < 4 then -1 else 0) (g := ge_int 2) (hP 2 _ rfl) (by decide +kernel)
set_option maxHeartbeats 4000000 in
set_option maxRecDepth 100000 in
theorem ga_3 {D : va_G} {C : Nat → ClassId} {x m : Nat} {r r' : kk_S} {H : Heap} (hP : va_P D vwCl (kw3 C x r ++ kw4 C m r') H) : va_at D vwCl (ge_ad (ge_L x m r r') 3, ge_cf (ge_L x m r r') C 3) H := vat_q (c := C 7) (n := 3) (f := fun i => some (r 1 i)) (g := fun i => some (ge_ad (ge_L x m r r') (ge_rt 3 i))) (hP 3 _ rfl) (fun j hj => by
  rcases (show j = 0 ∨ j = 1 ∨ j = 2 by omega) with rfl | rfl | rfl <;> rfl)
set_option maxHeartbeats 4000000 in
set_option maxRecDepth 100000 in
theorem ga_4 {D : va_G} {C : Nat → ClassId} {x m : Nat} {r r' : kk_S} {H : Heap} (hP : va_P D vwCl (kw3 C x r ++ kw4 C m r') H) : va_at D vwCl (ge_ad (ge_L x m r r') 4, ge_cf (ge_L x m r r') C 4) H := hP 4 _ rfl
set_option maxHeartbeats 4000000 in
set_option maxRecDepth 100000 in
theorem ga_5 {D : va_G} {C : Nat → ClassId} {x m : Nat} {r r' : kk_S} {H : Heap} (hP : va_P D vwCl (kw3 C x r ++ kw4 C m r') H) : va_at D vwCl (ge_ad (ge_L x m r r') 5, ge_cf (ge_L x m r r') C 5) H := hP 5 _ rfl
set_option maxHeartbeats 4000000 in
set_option maxRecDepth 100000 in
theorem ga_6 {D : va_G} {C : Nat → ClassId} {x m : Nat} {r r' : kk_S} {H : Heap} (hP : va_P D vwCl (kw3 C x r ++ kw4 C m r') H) : va_at D vwCl (ge_ad (ge_L x m r r') 6, ge_cf (ge_L x m r r') C 6) H := hP 6 _ rfl
set_option maxHeartbeats 4000000 in
set_option maxRecDepth 100000 in
theorem ga_7 {D : va_G} {C : Nat → ClassId} {x m : Nat} {r r' : kk_S} {H : Heap} (hP : va_P D vwCl (kw3 C x r ++ kw4 C m r') H) : va_at D vwCl (ge_ad (ge_L x m r r') 7, ge_cf (ge_L x m r r') C 7) H := vat_q (c := C 10) (n := 6) (f := fun i => some (r 3 0 + i)) (g := fun i => some (ge_ad (ge_L x m r r') (ge_rt 7 i))) (hP 7 _ rfl) (fun j hj => by
  rcases (show j = 0 ∨ j = 1 ∨ j = 2 ∨ j = 3 ∨ j = 4 ∨ j = 5 by omega) with rfl | rfl | rfl | rfl | rfl | rfl <;> rfl)
set_option maxHeartbeats 4000000 in
set_option maxRecDepth 100000 in
theorem ga_8 {D : va_G} {C : Nat → ClassId} {x m : Nat} {r r' : kk_S} {H : Heap} (hP : va_P D vwCl (kw3 C x r ++ kw4 C m r') H) : va_at D vwCl (ge_ad (ge_L x m r r') 8, ge_cf (ge_L x m r r') C 8) H := vat_i (c := C 6) (n := 40) (f := fun _ => 0) (g := ge_int 8) (hP 8 _ rfl) (by decide +kernel)
set_option maxHeartbeats 4000000 in
set_option maxRecDepth 100000 in
theorem ga_9 {D : va_G} {C : Nat → ClassId} {x m : Nat} {r r' : kk_S} {H : Heap} (hP : va_P D vwCl (kw3 C x r ++ kw4 C m r') H) : va_at D vwCl (ge_ad (ge_L x m r r') 9, ge_cf (ge_L x m r r') C 9) H := vat_i (c := C 6) (n := 40) (f := fun _ => 0) (g := ge_int 9) (hP 9 _ rfl) (by decide +kernel)
set_option maxHeartbeats 4000000 in
set_option maxRecDepth 100000 in
theorem ga_10 {D : va_G} {C : Nat → ClassId} {x m : Nat} {r r' : kk_S} {H : Heap} (hP : va_P D vwCl (kw3 C x r ++ kw4 C m r') H) : va_at D vwCl (ge_ad (ge_L x m r r') 10, ge_cf (ge_L x m r r') C 10) H := vat_i (c := C 6) (n := 40) (f := fun _ => 0) (g := ge_int 10) (hP 10 _ rfl) (by decide +kernel)
set_option maxHeartbeats 4000000 in
set_option maxRecDepth 100000 in
theorem ga_11 {D : va_G} {C : Nat → ClassId} {x m : Nat} {r r' : kk_S} {H : Heap} (hP : va_P D vwCl (kw3 C x r ++ kw4 C m r') H) : va_at D vwCl (ge_ad (ge_L x m r r') 11, ge_cf (ge_L x m r r') C 11) H := vat_i (c := C 6) (n := 40) (f := fun _ => 0) (g := ge_int 11) (hP 11 _ rfl) (by decide +kernel)
set_option maxHeartbeats 4000000 in
set_option maxRecDepth 100000 in
theorem ga_12 {D : va_G} {C : Nat → ClassId} {x m : Nat} {r r' : kk_S} {H : Heap} (hP : va_P D vwCl (kw3 C x r ++ kw4 C m r') H) : va_at D vwCl (ge_ad (ge_L x m r r') 12, ge_cf (ge_L x m r r') C 12) H := vat_i (c := C 6) (n := 40) (f := fun _ => 0) (g := ge_int 12) (hP 12 _ rfl) (by decide +kernel)
set_option maxHeartbeats 4000000 in
set_option maxRecDepth 100000 in
theorem ga_13 {D : va_G} {C : Nat → ClassId} {x m : Nat} {r r' : kk_S} {H : Heap} (hP : va_P D vwCl (kw3 C x r ++ kw4 C m r') H) : va_at D vwCl (ge_ad (ge_L x m r r') 13, ge_cf (ge_L x m r r') C 13) H := vat_i (c := C 6) (n := 40) (f := fun _ => 0) (g := ge_int 13) (hP 13 _ rfl) (by decide +kernel)
set_option maxHeartbeats 4000000 in
set_option maxRecDepth 100000 in
theorem ga_14 {D : va_G} {C : Nat → ClassId} {x m : Nat} {r r' : kk_S} {H : Heap} (hP : va_P D vwCl (kw3 C x r ++ kw4 C m r') H) : va_at D vwCl (ge_ad (ge_L x m r r') 14, ge_cf (ge_L x m r r') C 14) H := vat_q (c := C 9) (n := 4) (f := fun i => some (r 3 2 + i)) (g := fun i => some (ge_ad (ge_L x m r r') (ge_rt 14 i))) (hP 14 _ rfl) (fun j hj => by
  rcases (show j = 0 ∨ j = 1 ∨ j = 2 ∨ j = 3 by omega) with rfl | rfl | rfl | rfl <;> rfl)
set_option maxHeartbeats 4000000 in
set_option maxRecDepth 100000 in
theorem ga_15 {D : va_G} {C : Nat → ClassId} {x m : Nat} {r r' : kk_S} {H : Heap} (hP : va_P D vwCl (kw3 C x r ++ kw4 C m r') H) : va_at D vwCl (ge_ad (ge_L x m r r') 15, ge_cf (ge_L x m r r') C 15) H := vat_i (c := C 5) (n := 60) (f := fun _ => 0) (g := ge_int 15) (hP 15 _ rfl) (by decide +kernel)
set_option maxHeartbeats 4000000 in
set_option maxRecDepth 100000 in
theorem ga_16 {D : va_G} {C : Nat → ClassId} {x m : Nat} {r r' : kk_S} {H : Heap} (hP : va_P D vwCl (kw3 C x r ++ kw4 C m r') H) : va_at D vwCl (ge_ad (ge_L x m r r') 16, ge_cf (ge_L x m r r') C 16) H := vat_i (c := C 5) (n := 60) (f := fun _ => 0) (g := ge_int 16) (hP 16 _ rfl) (by decide +kernel)
set_option maxHeartbeats 4000000 in
set_option maxRecDepth 100000 in
theorem ga_17 {D : va_G} {C : Nat → ClassId} {x m : Nat} {r r' : kk_S} {H : Heap} (hP : va_P D vwCl (kw3 C x r ++ kw4 C m r') H) : va_at D vwCl (ge_ad (ge_L x m r r') 17, ge_cf (ge_L x m r r') C 17) H := vat_i (c := C 5) (n := 60) (f := fun _ => 0) (g := ge_int 17) (hP 17 _ rfl) (by decide +kernel)
set_option maxHeartbeats 4000000 in
set_option maxRecDepth 100000 in
theorem ga_18 {D : va_G} {C : Nat → ClassId} {x m : Nat} {r r' : kk_S} {H : Heap} (hP : va_P D vwCl (kw3 C x r ++ kw4 C m r') H) : va_at D vwCl (ge_ad (ge_L x m r r') 18, ge_cf (ge_L x m r r') C 18) H := vat_i (c := C 5) (n := 60) (f := fun _ => 0) (g := ge_int 18) (hP 18 _ rfl) (by decide +kernel)
set_option maxHeartbeats 4000000 in
set_option maxRecDepth 100000 in
theorem ga_19 {D : va_G} {C : Nat → ClassId} {x m : Nat} {r r' : kk_S} {H : Heap} (hP : va_P D vwCl (kw3 C x r ++ kw4 C m r') H) : va_at D vwCl (ge_ad (ge_L x m r r') 19, ge_cf (ge_L x m r r') C 19) H := hP 19 _ rfl
set_option maxHeartbeats 4000000 in
set_option maxRecDepth 100000 in
theorem ga_20 {D : va_G} {C : Nat → ClassId} {x m : Nat} {r r' : kk_S} {H : Heap} (hP : va_P D vwCl (kw3 C x r ++ kw4 C m r') H) : va_at D vwCl (ge_ad (ge_L x m r r') 20, ge_cf (ge_L x m r r') C 20) H := vat_q (c := C 8) (n := 7) (f := fun i => some (r 4 i)) (g := fun i => some (ge_ad (ge_L x m r r') (ge_rt 20 i))) (hP 20 _ rfl) (fun j hj => by
  rcases (show j = 0 ∨ j = 1 ∨ j = 2 ∨ j = 3 ∨ j = 4 ∨ j = 5 ∨ j = 6 by omega) with rfl | rfl | rfl | rfl | rfl | rfl | rfl <;> rfl)
set_option maxHeartbeats 4000000 in
set_option maxRecDepth 100000 in
theorem ga_21 {D : va_G} {C : Nat → ClassId} {x m : Nat} {r r' : kk_S} {H : Heap} (hP : va_P D vwCl (kw3 C x r ++ kw4 C m r') H) : va_at D vwCl (ge_ad (ge_L x m r r') 21, ge_cf (ge_L x m r r') C 21) H := hP 21 _ rfl
set_option maxHeartbeats 4000000 in
set_option maxRecDepth 100000 in
theorem ga_22 {D : va_G} {C : Nat → ClassId} {x m : Nat} {r r' : kk_S} {H : Heap} (hP : va_P D vwCl (kw3 C x r ++ kw4 C m r') H) : va_at D vwCl (ge_ad (ge_L x m r r') 22, ge_cf (ge_L x m r r') C 22) H := hP 22 _ rfl
set_option maxHeartbeats 4000000 in
set_option maxRecDepth 100000 in
theorem ga_23 {D : va_G} {C : Nat → ClassId} {x m : Nat} {r r' : kk_S} {H : Heap} (hP : va_P D vwCl (kw3 C x r ++ kw4 C m r') H) : va_at D vwCl (ge_ad (ge_L x m r r') 23, ge_cf (ge_L x m r r') C 23) H := hP 23 _ rfl
set_option maxHeartbeats 4000000 in
set_option maxRecDepth 100000 in
theorem ga_24 {D : va_G} {C : Nat → ClassId} {x m : Nat} {r r' : kk_S} {H : Heap} (hP : va_P D vwCl (kw3 C x r ++ kw4 C m r') H) : va_at D vwCl (ge_ad (ge_L x m r r') 24, ge_cf (ge_L x m r r') C 24) H := hP 24 _ rfl
set_option maxHeartbeats 4000000 in
set_option maxRecDepth 100000 in
theorem ga_25 {D : va_G} {C : Nat → ClassId} {x m : Nat} {r r' : kk_S} {H : Heap} (hP : va_P D vwCl (kw3 C x r ++ kw4 C m r') H) : va_at D vwCl (ge_ad (ge_L x m r r') 25, ge_cf (ge_L x m r r') C 25) H := hP 25 _ rfl
set_option maxHeartbeats 4000000 in
set_option maxRecDepth 100000 in
theorem ga_26 {D : va_G} {C : Nat → ClassId} {x m : Nat} {r r' : kk_S} {H : Heap} (hP : va_P D vwCl (kw3 C x r ++ kw4 C m r') H) : va_at D vwCl (ge_ad (ge_L x m r r') 26, ge_cf (ge_L x m r r') C 26) H := hP 26 _ rfl
set_option maxHeartbeats 4000000 in
set_option maxRecDepth 100000 in
theorem ga_27 {D : va_G} {C : Nat → ClassId} {x m : Nat} {r r' : kk_S} {H : Heap} (hP : va_P D vwCl (kw3 C x r ++ kw4 C m r') H) : va_at D vwCl (ge_ad (ge_L x m r r') 27, ge_cf (ge_L x m r r') C 27) H := hP 27 _ rfl
set_option maxHeartbeats 4000000 in
set_option maxRecDepth 100000 in
theorem ga_28 {D : va_G} {C : Nat → ClassId} {x m : Nat} {r r' : kk_S} {H : Heap} (hP : va_P D vwCl (kw3 C x r ++ kw4 C m r') H) : va_at D vwCl (ge_ad (ge_L x m r r') 28, ge_cf (ge_L x m r r') C 28) H := hP 28 _ rfl
set_option maxHeartbeats 4000000 in
set_option maxRecDepth 100000 in
theorem ga_29 {D : va_G} {C : Nat → ClassId} {x m : Nat} {r r' : kk_S} {H : Heap} (hP : va_P D vwCl (kw3 C x r ++ kw4 C m r') H) : va_at D vwCl (ge_ad (ge_L x m r r') 29, ge_cf (ge_L x m r r') C 29) H := vat_q (c := C 8) (n := 7) (f := fun i => some (r 5 i)) (g := fun i => some (ge_ad (ge_L x m r r') (ge_rt 29 i))) (hP 29 _ rfl) (fun j hj => by
  rcases (show j = 0 ∨ j = 1 ∨ j = 2 ∨ j = 3 ∨ j = 4 ∨ j = 5 ∨ j = 6 by omega) with rfl | rfl | rfl | rfl | rfl | rfl | rfl <;> rfl)
set_option maxHeartbeats 4000000 in
set_option maxRecDepth 100000 in
theorem ga_30 {D : va_G} {C : Nat → ClassId} {x m : Nat} {r r' : kk_S} {H : Heap} (hP : va_P D vwCl (kw3 C x r ++ kw4 C m r') H) : va_at D vwCl (ge_ad (ge_L x m r r') 30, ge_cf (ge_L x m r r') C 30) H := hP 30 _ rfl
set_option maxHeartbeats 4000000 in
set_option maxRecDepth 100000 in
theorem ga_31 {D : va_G} {C : Nat → ClassId} {x m : Nat} {r r' : kk_S} {H : Heap} (hP : va_P D vwCl (kw3 C x r ++ kw4 C m r') H) : va_at D vwCl (ge_ad (ge_L x m r r') 31, ge_cf (ge_L x m r r') C 31) H := hP 31 _ rfl
set_option maxHeartbeats 4000000 in
set_option maxRecDepth 100000 in
theorem ga_32 {D : va_G} {C : Nat → ClassId} {x m : Nat} {r r' : kk_S} {H : Heap} (hP : va_P D vwCl (kw3 C x r ++ kw4 C m r') H) : va_at D vwCl (ge_ad (ge_L x m r r') 32, ge_cf (ge_L x m r r') C 32) H := hP 32 _ rfl
set_option maxHeartbeats 4000000 in
set_option maxRecDepth 100000 in
theorem ga_33 {D : va_G} {C : Nat → ClassId} {x m : Nat} {r r' : kk_S} {H : Heap} (hP : va_P D vwCl (kw3 C x r ++ kw4 C m r') H) : va_at D vwCl (ge_ad (ge_L x m r r') 33, ge_cf (ge_L x m r r') C 33) H := hP 33 _ rfl
set_option maxHeartbeats 4000000 in
set_option maxRecDepth 100000 in
theorem ga_34 {D : va_G} {C : Nat → ClassId} {x m : Nat} {r r' : kk_S} {H : Heap} (hP : va_P D vwCl (kw3 C x r ++ kw4 C m r') H) : va_at D vwCl (ge_ad (ge_L x m r r') 34, ge_cf (ge_L x m r r') C 34) H := hP 34 _ rfl
set_option maxHeartbeats 4000000 in
set_option maxRecDepth 100000 in
theorem ga_35 {D : va_G} {C : Nat → ClassId} {x m : Nat} {r r' : kk_S} {H : Heap} (hP : va_P D vwCl (kw3 C x r ++ kw4 C m r') H) : va_at D vwCl (ge_ad (ge_L x m r r') 35, ge_cf (ge_L x m r r') C 35) H := hP 35 _ rfl
set_option maxHeartbeats 4000000 in
set_option maxRecDepth 100000 in
theorem ga_36 {D : va_G} {C : Nat → ClassId} {x m : Nat} {r r' : kk_S} {H : Heap} (hP : va_P D vwCl (kw3 C x r ++ kw4 C m r') H) : va_at D vwCl (ge_ad (ge_L x m r r') 36, ge_cf (ge_L x m r r') C 36) H := hP 36 _ rfl
set_option maxHeartbeats 4000000 in
set_option maxRecDepth 100000 in
theorem ga_37 {D : va_G} {C : Nat → ClassId} {x m : Nat} {r r' : kk_S} {H : Heap} (hP : va_P D vwCl (kw3 C x r ++ kw4 C m r') H) : va_at D vwCl (ge_ad (ge_L x m r r') 37, ge_cf (ge_L x m r r') C 37) H := hP 37 _ rfl
set_option maxHeartbeats 4000000 in
set_option maxRecDepth 100000 in
theorem ga_38 {D : va_G} {C : Nat → ClassId} {x m : Nat} {r r' : kk_S} {H : Heap} (hP : va_P D vwCl (kw3 C x r ++ kw4 C m r') H) : va_at D vwCl (ge_ad (ge_L x m r r') 38, ge_cf (ge_L x m r r') C 38) H := vat_i (c := C 6) (n := 40) (f := fun _ => 0) (g := ge_int 38) (hP 38 _ rfl) (by decide +kernel)
set_option maxHeartbeats 4000000 in
set_option maxRecDepth 100000 in
theorem ga_39 {D : va_G} {C : Nat → ClassId} {x m : Nat} {r r' : kk_S} {H : Heap} (hP : va_P D vwCl (kw3 C x r ++ kw4 C m r') H) : va_at D vwCl (ge_ad (ge_L x m r r') 39, ge_cf (ge_L x m r r') C 39) H := hP 39 _ rfl
set_option maxHeartbeats 4000000 in
set_option maxRecDepth 100000 in
theorem ga_40 {D : va_G} {C : Nat → ClassId} {x m : Nat} {r r' : kk_S} {H : Heap} (hP : va_P D vwCl (kw3 C x r ++ kw4 C m r') H) : va_at D vwCl (ge_ad (ge_L x m r r') 40, ge_cf (ge_L x m r r') C 40) H := vat_q (c := C 8) (n := 7) (f := fun i => some (r 8 i)) (g := fun i => some (ge_ad (ge_L x m r r') (ge_rt 40 i))) (hP 40 _ rfl) (fun j hj => by
  rcases (show j = 0 ∨ j = 1 ∨ j = 2 ∨ j = 3 ∨ j = 4 ∨ j = 5 ∨ j = 6 by omega) with rfl | rfl | rfl | rfl | rfl | rfl | rfl <;> rfl)
set_option maxHeartbeats 4000000 in
set_option maxRecDepth 100000 in
theorem ga_41 {D : va_G} {C : Nat → ClassId} {x m : Nat} {r r' : kk_S} {H : Heap} (hP : va_P D vwCl (kw3 C x r ++ kw4 C m r') H) : va_at D vwCl (ge_ad (ge_L x m r r') 41, ge_cf (ge_L x m r r') C 41) H := hP 41 _ rfl
set_option maxHeartbeats 4000000 in
set_option maxRecDepth 100000 in
theorem ga_42 {D : va_G} {C : Nat → ClassId} {x m : Nat} {r r' : kk_S} {H : Heap} (hP : va_P D vwCl (kw3 C x r ++ kw4 C m r') H) : va_at D vwCl (ge_ad (ge_L x m r r') 42, ge_cf (ge_L x m r r') C 42) H := hP 42 _ rfl
set_option maxHeartbeats 4000000 in
set_option maxRecDepth 100000 in
theorem ga_43 {D : va_G} {C : Nat → ClassId} {x m : Nat} {r r' : kk_S} {H : Heap} (hP : va_P D vwCl (kw3 C x r ++ kw4 C m r') H) : va_at D vwCl (ge_ad (ge_L x m r r') 43, ge_cf (ge_L x m r r') C 43) H := hP 43 _ rfl
set_option maxHeartbeats 4000000 in
set_option maxRecDepth 100000 in
theorem ga_44 {D : va_G} {C : Nat → ClassId} {x m : Nat} {r r' : kk_S} {H : Heap} (hP : va_P D vwCl (kw3 C x r ++ kw4 C m r') H) : va_at D vwCl (ge_ad (ge_L x m r r') 44, ge_cf (ge_L x m r r') C 44) H := hP 44 _ rfl
set_option maxHeartbeats 4000000 in
set_option maxRecDepth 100000 in
theorem ga_45 {D : va_G} {C : Nat → ClassId} {x m : Nat} {r r' : kk_S} {H : Heap} (hP : va_P D vwCl (kw3 C x r ++ kw4 C m r') H) : va_at D vwCl (ge_ad (ge_L x m r r') 45, ge_cf (ge_L x m r r') C 45) H := hP 45 _ rfl
set_option maxHeartbeats 4000000 in
set_option maxRecDepth 100000 in
theorem ga_46 {D : va_G} {C : Nat → ClassId} {x m : Nat} {r r' : kk_S} {H : Heap} (hP : va_P D vwCl (kw3 C x r ++ kw4 C m r') H) : va_at D vwCl (ge_ad (ge_L x m r r') 46, ge_cf (ge_L x m r r') C 46) H := hP 46 _ rfl
set_option maxHeartbeats 4000000 in
set_option maxRecDepth 100000 in
theorem ga_47 {D : va_G} {C : Nat → ClassId} {x m : Nat} {r r' : kk_S} {H : Heap} (hP : va_P D vwCl (kw3 C x r ++ kw4 C m r') H) : va_at D vwCl (ge_ad (ge_L x m r r') 47, ge_cf (ge_L x m r r') C 47) H := hP 47 _ rfl
set_option maxHeartbeats 4000000 in
set_option maxRecDepth 100000 in
theorem ga_48 {D : va_G} {C : Nat → ClassId} {x m : Nat} {r r' : kk_S} {H : Heap} (hP : va_P D vwCl (kw3 C x r ++ kw4 C m r') H) : va_at D vwCl (ge_ad (ge_L x m r r') 48, ge_cf (ge_L x m r r') C 48) H := hP 48 _ rfl
set_option maxHeartbeats 4000000 in
set_option maxRecDepth 100000 in
theorem ga_49 {D : va_G} {C : Nat → ClassId} {x m : Nat} {r r' : kk_S} {H : Heap} (hP : va_P D vwCl (kw3 C x r ++ kw4 C m r') H) : va_at D vwCl (ge_ad (ge_L x m r r') 49, ge_cf (ge_L x m r r') C 49) H := vat_q (c := C 8) (n := 7) (f := fun i => some (r 9 i)) (g := fun i => some (ge_ad (ge_L x m r r') (ge_rt 49 i))) (hP 49 _ rfl) (fun j hj => by
  rcases (show j = 0 ∨ j = 1 ∨ j = 2 ∨ j = 3 ∨ j = 4 ∨ j = 5 ∨ j = 6 by omega) with rfl | rfl | rfl | rfl | rfl | rfl | rfl <;> rfl)
set_option maxHeartbeats 4000000 in
set_option maxRecDepth 100000 in
theorem ga_50 {D : va_G} {C : Nat → ClassId} {x m : Nat} {r r' : kk_S} {H : Heap} (hP : va_P D vwCl (kw3 C x r ++ kw4 C m r') H) : va_at D vwCl (ge_ad (ge_L x m r r') 50, ge_cf (ge_L x m r r') C 50) H := hP 50 _ rfl
set_option maxHeartbeats 4000000 in
set_option maxRecDepth 100000 in
theorem ga_51 {D : va_G} {C : Nat → ClassId} {x m : Nat} {r r' : kk_S} {H : Heap} (hP : va_P D vwCl (kw3 C x r ++ kw4 C m r') H) : va_at D vwCl (ge_ad (ge_L x m r r') 51, ge_cf (ge_L x m r r') C 51) H := hP 51 _ rfl
set_option maxHeartbeats 4000000 in
set_option maxRecDepth 100000 in
theorem ga_52 {D : va_G} {C : Nat → ClassId} {x m : Nat} {r r' : kk_S} {H : Heap} (hP : va_P D vwCl (kw3 C x r ++ kw4 C m r') H) : va_at D vwCl (ge_ad (ge_L x m r r') 52, ge_cf (ge_L x m r r') C 52) H := hP 52 _ rfl
set_option maxHeartbeats 4000000 in
set_option maxRecDepth 100000 in
theorem ga_53 {D : va_G} {C : Nat → ClassId} {x m : Nat} {r r' : kk_S} {H : Heap} (hP : va_P D vwCl (kw3 C x r ++ kw4 C m r') H) : va_at D vwCl (ge_ad (ge_L x m r r') 53, ge_cf (ge_L x m r r') C 53) H := hP 53 _ rfl
set_option maxHeartbeats 4000000 in
set_option maxRecDepth 100000 in
theorem ga_54 {D : va_G} {C : Nat → ClassId} {x m : Nat} {r r' : kk_S} {H : Heap} (hP : va_P D vwCl (kw3 C x r ++ kw4 C m r') H) : va_at D vwCl (ge_ad (ge_L x m r r') 54, ge_cf (ge_L x m r r') C 54) H := hP 54 _ rfl
set_option maxHeartbeats 4000000 in
set_option maxRecDepth 100000 in
theorem ga_55 {D : va_G} {C : Nat → ClassId} {x m : Nat} {r r' : kk_S} {H : Heap} (hP : va_P D vwCl (kw3 C x r ++ kw4 C m r') H) : va_at D vwCl (ge_ad (ge_L x m r r') 55, ge_cf (ge_L x m r r') C 55) H := hP 55 _ rfl
set_option maxHeartbeats 4000000 in
set_option maxRecDepth 100000 in
theorem ga_56 {D : va_G} {C : Nat → ClassId} {x m : Nat} {r r' : kk_S} {H : Heap} (hP : va_P D vwCl (kw3 C x r ++ kw4 C m r') H) : va_at D vwCl (ge_ad (ge_L x m r r') 56, ge_cf (ge_L x m r r') C 56) H := hP 56 _ rfl
set_option maxHeartbeats 4000000 in
set_option maxRecDepth 100000 in
theorem ga_57 {D : va_G} {C : Nat → ClassId} {x m : Nat} {r r' : kk_S} {H : Heap} (hP : va_P D vwCl (kw3 C x r ++ kw4 C m r') H) : va_at D vwCl (ge_ad (ge_L x m r r') 57, ge_cf (ge_L x m r r') C 57) H := vat_i (c := C 6) (n := 7) (f := fun _ => 0) (g := ge_int 57) (hP 57 _ rfl) (by decide +kernel)
set_option maxHeartbeats 4000000 in
set_option maxRecDepth 100000 in
theorem ga_58 {D : va_G} {C : Nat → ClassId} {x m : Nat} {r r' : kk_S} {H : Heap} (hP : va_P D vwCl (kw3 C x r ++ kw4 C m r') H) : va_at D vwCl (ge_ad (ge_L x m r r') 58, ge_cf (ge_L x m r r') C 58) H := vat_q (c := C 10) (n := 6) (f := fun i => some (r 3 11 + i)) (g := fun i => some (ge_ad (ge_L x m r r') (ge_rt 58 i))) (hP 58 _ rfl) (fun j hj => by
  rcases (show j = 0 ∨ j = 1 ∨ j = 2 ∨ j = 3 ∨ j = 4 ∨ j = 5 by omega) with rfl | rfl | rfl | rfl | rfl | rfl <;> rfl)
set_option maxHeartbeats 4000000 in
set_option maxRecDepth 100000 in
theorem ga_59 {D : va_G} {C : Nat → ClassId} {x m : Nat} {r r' : kk_S} {H : Heap} (hP : va_P D vwCl (kw3 C x r ++ kw4 C m r') H) : va_at D vwCl (ge_ad (ge_L x m r r') 59, ge_cf (ge_L x m r r') C 59) H := vat_i (c := C 6) (n := 20) (f := fun _ => 0) (g := ge_int 59) (hP 59 _ rfl) (by decide +kernel)
set_option maxHeartbeats 4000000 in
set_option maxRecDepth 100000 in
theorem ga_60 {D : va_G} {C : Nat → ClassId} {x m : Nat} {r r' : kk_S} {H : Heap} (hP : va_P D vwCl (kw3 C x r ++ kw4 C m r') H) : va_at D vwCl (ge_ad (ge_L x m r r') 60, ge_cf (ge_L x m r r') C 60) H := vat_i (c := C 6) (n := 20) (f := fun _ => 0) (g := ge_int 60) (hP 60 _ rfl) (by decide +kernel)
set_option maxHeartbeats 4000000 in
set_option maxRecDepth 100000 in
theorem ga_61 {D : va_G} {C : Nat → ClassId} {x m : Nat} {r r' : kk_S} {H : Heap} (hP : va_P D vwCl (kw3 C x r ++ kw4 C m r') H) : va_at D vwCl (ge_ad (ge_L x m r r') 61, ge_cf (ge_L x m r r') C 61) H := vat_i (c := C 6) (n := 20) (f := fun _ => 0) (g := ge_int 61) (hP 61 _ rfl) (by decide +kernel)
set_option maxHeartbeats 4000000 in
set_option maxRecDepth 100000 in
theorem ga_62 {D : va_G} {C : Nat → ClassId} {x m : Nat} {r r' : kk_S} {H : Heap} (hP : va_P D vwCl (kw3 C x r ++ kw4 C m r') H) : va_at D vwCl (ge_ad (ge_L x m r r') 62, ge_cf (ge_L x m r r') C 62) H := vat_i (c := C 6) (n := 20) (f := fun _ => 0) (g := ge_int 62) (hP 62 _ rfl) (by decide +kernel)
set_option maxHeartbeats 4000000 in
set_option maxRecDepth 100000 in
theorem ga_63 {D : va_G} {C : Nat → ClassId} {x m : Nat} {r r' : kk_S} {H : Heap} (hP : va_P D vwCl (kw3 C x r ++ kw4 C m r') H) : va_at D vwCl (ge_ad (ge_L x m r r') 63, ge_cf (ge_L x m r r') C 63) H := vat_i (c := C 6) (n := 20) (f := fun _ => 0) (g := ge_int 63) (hP 63 _ rfl) (by decide +kernel)
set_option maxHeartbeats 4000000 in
set_option maxRecDepth 100000 in
theorem ga_64 {D : va_G} {C : Nat → ClassId} {x m : Nat} {r r' : kk_S} {H : Heap} (hP : va_P D vwCl (kw3 C x r ++ kw4 C m r') H) : va_at D vwCl (ge_ad (ge_L x m r r') 64, ge_cf (ge_L x m r r') C 64) H := vat_i (c := C 6) (n := 20) (f := fun _ => 0) (g := ge_int 64) (hP 64 _ rfl) (by decide +kernel)
set_option maxHeartbeats 4000000 in
set_option maxRecDepth 100000 in
theorem ga_65 {D : va_G} {C : Nat → ClassId} {x m : Nat} {r r' : kk_S} {H : Heap} (hP : va_P D vwCl (kw3 C x r ++ kw4 C m r') H) : va_at D vwCl (ge_ad (ge_L x m r r') 65, ge_cf (ge_L x m r r') C 65) H := vat_i (c := C 6) (n := 6) (f := fun _ => 0) (g := ge_int 65) (hP 65 _ rfl) (by decide +kernel)
set_option maxHeartbeats 4000000 in
set_option maxRecDepth 100000 in
theorem ga_66 {D : va_G} {C : Nat → ClassId} {x m : Nat} {r r' : kk_S} {H : Heap} (hP : va_P D vwCl (kw3 C x r ++ kw4 C m r') H) : va_at D vwCl (ge_ad (ge_L x m r r') 66, ge_cf (ge_L x m r r') C 66) H := vat_i (c := C 6) (n := 40) (f := fun _ => 0) (g := ge_int 66) (hP 66 _ rfl) (by decide +kernel)
set_option maxHeartbeats 4000000 in
set_option maxRecDepth 100000 in
theorem ga_67 {D : va_G} {C : Nat → ClassId} {x m : Nat} {r r' : kk_S} {H : Heap} (hP : va_P D vwCl (kw3 C x r ++ kw4 C m r') H) : va_at D vwCl (ge_ad (ge_L x m r r') 67, ge_cf (ge_L x m r r') C 67) H := vat_i (c := C 6) (n := 40) (f := fun _ => 0) (g := ge_int 67) (hP 67 _ rfl) (by decide +kernel)
set_option maxHeartbeats 4000000 in
set_option maxRecDepth 100000 in
theorem ga_68 {D : va_G} {C : Nat → ClassId} {x m : Nat} {r r' : kk_S} {H : Heap} (hP : va_P D vwCl (kw3 C x r ++ kw4 C m r') H) : va_at D vwCl (ge_ad (ge_L x m r r') 68, ge_cf (ge_L x m r r') C 68) H := vat_i (c := C 6) (n := 40) (f := fun _ => 0) (g := ge_int 68) (hP 68 _ rfl) (by decide +kernel)
set_option maxHeartbeats 4000000 in
set_option maxRecDepth 100000 in
theorem ga_69 {D : va_G} {C : Nat → ClassId} {x m : Nat} {r r' : kk_S} {H : Heap} (hP : va_P D vwCl (kw3 C x r ++ kw4 C m r') H) : va_at D vwCl (ge_ad (ge_L x m r r') 69, ge_cf (ge_L x m r r') C 69) H := hP 69 _ rfl
set_option maxHeartbeats 4000000 in
set_option maxRecDepth 100000 in
theorem ga_70 {D : va_G} {C : Nat → ClassId} {x m : Nat} {r r' : kk_S} {H : Heap} (hP : va_P D vwCl (kw3 C x r ++ kw4 C m r') H) : va_at D vwCl (ge_ad (ge_L x m r r') 70, ge_cf (ge_L x m r r') C 70) H := vat_i (c := C 6) (n := 6) (f := fun j => if j < 6 then -1 else 0) (g := ge_int 70) (hP 70 _ rfl) (by decide +kernel)
set_option maxHeartbeats 4000000 in
set_option maxRecDepth 100000 in
theorem ga_71 {D : va_G} {C : Nat → ClassId} {x m : Nat} {r r' : kk_S} {H : Heap} (hP : va_P D vwCl (kw3 C x r ++ kw4 C m r') H) : va_at D vwCl (ge_ad (ge_L x m r r') 71, ge_cf (ge_L x m r r') C 71) H := vat_i (c := C 6) (n := 4) (f := fun j => if j < 4 then -1 else 0) (g := ge_int 71) (hP 71 _ rfl) (by decide +kernel)
set_option maxHeartbeats 4000000 in
set_option maxRecDepth 100000 in
theorem ga_72 {D : va_G} {C : Nat → ClassId} {x m : Nat} {r r' : kk_S} {H : Heap} (hP : va_P D vwCl (kw3 C x r ++ kw4 C m r') H) : va_at D vwCl (ge_ad (ge_L x m r r') 72, ge_cf (ge_L x m r r') C 72) H := vat_i (c := C 6) (n := 3) (f := fun j => if j < 3 then -1 else 0) (g := ge_int 72) (hP 72 _ rfl) (by decide +kernel)
set_option maxHeartbeats 4000000 in
set_option maxRecDepth 100000 in
theorem ga_73 {D : va_G} {C : Nat → ClassId} {x m : Nat} {r r' : kk_S} {H : Heap} (hP : va_P D vwCl (kw3 C x r ++ kw4 C m r') H) : va_at D vwCl (ge_ad (ge_L x m r r') 73, ge_cf (ge_L x m r r') C 73) H := vat_i (c := C 6) (n := 240) (f := fun _ => 0) (g := ge_int 73) (hP 73 _ rfl) (by decide +kernel)
set_option maxHeartbeats 4000000 in
set_option maxRecDepth 100000 in
theorem ga_74 {D : va_G} {C : Nat → ClassId} {x m : Nat} {r r' : kk_S} {H : Heap} (hP : va_P D vwCl (kw3 C x r ++ kw4 C m r') H) : va_at D vwCl (ge_ad (ge_L x m r r') 74, ge_cf (ge_L x m r r') C 74) H := vat_i (c := C 6) (n := 40) (f := fun _ => 0) (g := ge_int 74) (hP 74 _ rfl) (by decide +kernel)
set_option maxHeartbeats 4000000 in
set_option maxRecDepth 100000 in
theorem ga_75 {D : va_G} {C : Nat → ClassId} {x m : Nat} {r r' : kk_S} {H : Heap} (hP : va_P D vwCl (kw3 C x r ++ kw4 C m r') H) : va_at D vwCl (ge_ad (ge_L x m r r') 75, ge_cf (ge_L x m r r') C 75) H := vat_i (c := C 5) (n := 240) (f := fun _ => 0) (g := ge_int 75) (hP 75 _ rfl) (by decide +kernel)
set_option maxHeartbeats 4000000 in
set_option maxRecDepth 100000 in
theorem ga_76 {D : va_G} {C : Nat → ClassId} {x m : Nat} {r r' : kk_S} {H : Heap} (hP : va_P D vwCl (kw3 C x r ++ kw4 C m r') H) : va_at D vwCl (ge_ad (ge_L x m r r') 76, ge_cf (ge_L x m r r') C 76) H := vat_i (c := C 6) (n := 48) (f := fun _ => 0) (g := ge_int 76) (hP 76 _ rfl) (by decide +kernel)
set_option maxHeartbeats 4000000 in
set_option maxRecDepth 100000 in
theorem ga_77 {D : va_G} {C : Nat → ClassId} {x m : Nat} {r r' : kk_S} {H : Heap} (hP : va_P D vwCl (kw3 C x r ++ kw4 C m r') H) : va_at D vwCl (ge_ad (ge_L x m r r') 77, ge_cf (ge_L x m r r') C 77) H := vat_i (c := C 6) (n := 48) (f := fun _ => 0) (g := ge_int 77) (hP 77 _ rfl) (by decide +kernel)
set_option maxHeartbeats 4000000 in
set_option maxRecDepth 100000 in
theorem ga_78 {D : va_G} {C : Nat → ClassId} {x m : Nat} {r r' : kk_S} {H : Heap} (hP : va_P D vwCl (kw3 C x r ++ kw4 C m r') H) : va_at D vwCl (ge_ad (ge_L x m r r') 78, ge_cf (ge_L x m r r') C 78) H := vat_i (c := C 6) (n := 48) (f := fun _ => 0) (g := ge_int 78) (hP 78 _ rfl) (by decide +kernel)
set_option maxHeartbeats 4000000 in
set_option maxRecDepth 100000 in
theorem ga_79 {D : va_G} {C : Nat → ClassId} {x m : Nat} {r r' : kk_S} {H : Heap} (hP : va_P D vwCl (kw3 C x r ++ kw4 C m r') H) : va_at D vwCl (ge_ad (ge_L x m r r') 79, ge_cf (ge_L x m r r') C 79) H := vat_i (c := C 6) (n := 48) (f := fun _ => 0) (g := ge_int 79) (hP 79 _ rfl) (by decide +kernel)
set_option maxHeartbeats 4000000 in
set_option maxRecDepth 100000 in
theorem ga_80 {D : va_G} {C : Nat → ClassId} {x m : Nat} {r r' : kk_S} {H : Heap} (hP : va_P D vwCl (kw3 C x r ++ kw4 C m r') H) : va_at D vwCl (ge_ad (ge_L x m r r') 80, ge_cf (ge_L x m r r') C 80) H := vat_i (c := C 6) (n := 1280) (f := fun _ => 0) (g := ge_int 80) (hP 80 _ rfl) (by decide +kernel)
set_option maxHeartbeats 4000000 in
set_option maxRecDepth 100000 in
theorem ga_81 {D : va_G} {C : Nat → ClassId} {x m : Nat} {r r' : kk_S} {H : Heap} (hP : va_P D vwCl (kw3 C x r ++ kw4 C m r') H) : va_at D vwCl (ge_ad (ge_L x m r r') 81, ge_cf (ge_L x m r r') C 81) H := vat_i (c := C 6) (n := 144) (f := fun _ => 0) (g := ge_int 81) (hP 81 _ rfl) (by decide +kernel)
set_option maxHeartbeats 4000000 in
set_option maxRecDepth 100000 in
theorem ga_82 {D : va_G} {C : Nat → ClassId} {x m : Nat} {r r' : kk_S} {H : Heap} (hP : va_P D vwCl (kw3 C x r ++ kw4 C m r') H) : va_at D vwCl (ge_ad (ge_L x m r r') 82, ge_cf (ge_L x m r r') C 82) H := vat_i (c := C 6) (n := 3840) (f := fun _ => 0) (g := ge_int 82) (hP 82 _ rfl) (by decide +kernel)
set_option maxHeartbeats 4000000 in
set_option maxRecDepth 100000 in
theorem ga_83 {D : va_G} {C : Nat → ClassId} {x m : Nat} {r r' : kk_S} {H : Heap} (hP : va_P D vwCl (kw3 C x r ++ kw4 C m r') H) : va_at D vwCl (ge_ad (ge_L x m r r') 83, ge_cf (ge_L x m r r') C 83) H := vat_i (c := C 6) (n := 6) (f := fun _ => 0) (g := ge_int 83) (hP 83 _ rfl) (by decide +kernel)
set_option maxHeartbeats 4000000 in
set_option maxRecDepth 100000 in
theorem ga_84 {D : va_G} {C : Nat → ClassId} {x m : Nat} {r r' : kk_S} {H : Heap} (hP : va_P D vwCl (kw3 C x r ++ kw4 C m r') H) : va_at D vwCl (ge_ad (ge_L x m r r') 84, ge_cf (ge_L x m r r') C 84) H := vat_i (c := C 6) (n := 7) (f := fun _ => 0) (g := ge_int 84) (hP 84 _ rfl) (by decide +kernel)
set_option maxHeartbeats 4000000 in
set_option maxRecDepth 100000 in
theorem ga_85 {D : va_G} {C : Nat → ClassId} {x m : Nat} {r r' : kk_S} {H : Heap} (hP : va_P D vwCl (kw3 C x r ++ kw4 C m r') H) : va_at D vwCl (ge_ad (ge_L x m r r') 85, ge_cf (ge_L x m r r') C 85) H := vat_i (c := C 6) (n := 8) (f := fun _ => 0) (g := ge_int 85) (hP 85 _ rfl) (by decide +kernel)
set_option maxHeartbeats 4000000 in
set_option maxRecDepth 100000 in
theorem ga_86 {D : va_G} {C : Nat → ClassId} {x m : Nat} {r r' : kk_S} {H : Heap} (hP : va_P D vwCl (kw3 C x r ++ kw4 C m r') H) : va_at D vwCl (ge_ad (ge_L x m r r') 86, ge_cf (ge_L x m r r') C 86) H := vat_i (c := C 6) (n := 126) (f := fun _ => 0) (g := ge_int 86) (hP 86 _ rfl) (by decide +kernel)
set_option maxHeartbeats 4000000 in
set_option maxRecDepth 100000 in
theorem ge_at {D : va_G} {C : Nat → ClassId} {x m : Nat} {r r' : kk_S} {H : Heap} (hP : va_P D vwCl (kw3 C x r ++ kw4 C m r') H) : ∀ k, k < 87 → va_at D vwCl (ge_ad (ge_L x m r r') k, ge_cf (ge_L x m r r') C k) H := by
  refine ge_all ?_ ?_ ?_ ?_ ?_ ?_ ?_ ?_ ?_ ?_ ?_ ?_ ?_ ?_ ?_ ?_ ?_ ?_ ?_ ?_ ?_ ?_ ?_ ?_ ?_ ?_ ?_ ?_ ?_ ?_ ?_ ?_ ?_ ?_ ?_ ?_ ?_ ?_ ?_ ?_ ?_ ?_ ?_ ?_ ?_ ?_ ?_ ?_ ?_ ?_ ?_ ?_ ?_ ?_ ?_ ?_ ?_ ?_ ?_ ?_ ?_ ?_ ?_ ?_ ?_ ?_ ?_ ?_ ?_ ?_ ?_ ?_ ?_ ?_ ?_ ?_ ?_ ?_ ?_ ?_ ?_ ?_ ?_ ?_ ?_ ?_ ?_
  · exact ga_0 hP
  · exact ga_1 hP
  · exact ga_2 hP
  · exact ga_3 hP
  · exact ga_4 hP
  · exact ga_5 hP
  · exact ga_6 hP
  · exact ga_7 hP
  · exact ga_8 hP
  · exact ga_9 hP
  · exact ga_10 hP
  · exact ga_11 hP
  · exact ga_12 hP
  · exact ga_13 hP
  · exact ga_14 hP
  · exact ga_15 hP
  · exact ga_16 hP
  · exact ga_17 hP
  · exact ga_18 hP
  · exact ga_19 hP
  · exact ga_20 hP
  · exact ga_21 hP
  · exact ga_22 hP
  · exact ga_23 hP
  · exact ga_24 hP
  · exact ga_25 hP
  · exact ga_26 hP
  · exact ga_27 hP
  · exact ga_28 hP
  · exact ga_29 hP
  · exact ga_30 hP
  · exact ga_31 hP
  · exact ga_32 hP
  · exact ga_33 hP
  · exact ga_34 hP
  · exact ga_35 hP
  · exact ga_36 hP
  · exact ga_37 hP
  · exact ga_38 hP
  · exact ga_39 hP
  · exact ga_40 hP
  · exact ga_41 hP
  · exact ga_42 hP
  · exact ga_43 hP
  · exact ga_44 hP
  · exact ga_45 hP
  · exact ga_46 hP
  · exact ga_47 hP
  · exact ga_48 hP
  · exact ga_49 hP
  · exact ga_50 hP
  · exact ga_51 hP
  · exact ga_52 hP
  · exact ga_53 hP
  · exact ga_54 hP
  · exact ga_55 hP
  · exact ga_56 hP
  · exact ga_57 hP
  · exact ga_58 hP
  · exact ga_59 hP
  · exact ga_60 hP
  · exact ga_61 hP
  · exact ga_62 hP
  · exact ga_63 hP
  · exact ga_64 hP
  · exact ga_65 hP
  · exact ga_66 hP
  · exact ga_67 hP
  · exact ga_68 hP
  · exact ga_69 hP
  · exact ga_70 hP
  · exact ga_71 hP
  · exact ga_72 hP
  · exact ga_73 hP
  · exact ga_74 hP
  · exact ga_75 hP
  · exact ga_76 hP
  · exact ga_77 hP
  · exact ga_78 hP
  · exact ga_79 hP
  · exact ga_80 hP
  · exact ga_81 hP
  · exact ga_82 hP
  · exact ga_83 hP
  · exact ga_84 hP
  · exact ga_85 hP
  · exact ga_86 hP
