/-! the constructor of the Model -/
theorem kf0 : (fun j : Nat => if j < 0 then (-1 : Int32) else 0) = fun _ => 0 := funext fun j => if_neg (Nat.not_lt_zero j)
theorem k_ws {E : mm_E} {D : va_G} {A : Nat → Prop} {nL : Nat} {Q : State → Prop} {kc kz : Nat} {ws ws' : va_W} {pc : Nat} {lv : List (Nat × Value)} {st : List Value} (h : ws = ws') (kk : kk_At E D A nL Q kc kz ws' pc lv st) : kk_At E D A nL Q kc kz ws pc lv st := by
  rw [h]
  exact kk
theorem dX4_init_0 : decode cX4_init 0 = .ok (.aload_n 0, 1) := by decide +kernel
theorem dX4_init_1 : decode cX4_init 1 = .ok (.invokespecial 1, 3) := by decide +kernel
theorem dX4_init_4 : decode cX4_init 4 = .ok (.aload_n 0, 1) := by decide +kernel
theorem dX4_init_5 : decode cX4_init 5 = .ok (.bipush 6, 2) := by decide +kernel
theorem dX4_init_7 : decode cX4_init 7 = .ok (.newarray .int, 2) := by decide +kernel
theorem dX4_init_9 : decode cX4_init 9 = .ok (.putfield 7, 3) := by decide +kernel
theorem dX4_init_12 : decode cX4_init 12 = .ok (.aload_n 0, 1) := by decide +kernel
theorem dX4_init_13 : decode cX4_init 13 = .ok (.sipush 240, 3) := by decide +kernel
theorem dX4_init_16 : decode cX4_init 16 = .ok (.newarray .int, 2) := by decide +kernel
theorem dX4_init_18 : decode cX4_init 18 = .ok (.putfield 13, 3) := by decide +kernel
theorem dX4_init_21 : decode cX4_init 21 = .ok (.aload_n 0, 1) := by decide +kernel
theorem dX4_init_22 : decode cX4_init 22 = .ok (.bipush 40, 2) := by decide +kernel
theorem dX4_init_24 : decode cX4_init 24 = .ok (.newarray .int, 2) := by decide +kernel
theorem dX4_init_26 : decode cX4_init 26 = .ok (.putfield 16, 3) := by decide +kernel
theorem dX4_init_29 : decode cX4_init 29 = .ok (.aload_n 0, 1) := by decide +kernel
theorem dX4_init_30 : decode cX4_init 30 = .ok (.iconst 4, 1) := by decide +kernel
theorem dX4_init_31 : decode cX4_init 31 = .ok (.newarray .int, 2) := by decide +kernel
theorem dX4_init_33 : decode cX4_init 33 = .ok (.putfield 19, 3) := by decide +kernel
theorem dX4_init_36 : decode cX4_init 36 = .ok (.aload_n 0, 1) := by decide +kernel
theorem dX4_init_37 : decode cX4_init 37 = .ok (.sipush 240, 3) := by decide +kernel
theorem dX4_init_40 : decode cX4_init 40 = .ok (.newarray .byte, 2) := by decide +kernel
theorem dX4_init_42 : decode cX4_init 42 = .ok (.putfield 22, 3) := by decide +kernel
theorem dX4_init_45 : decode cX4_init 45 = .ok (.aload_n 0, 1) := by decide +kernel
theorem dX4_init_46 : decode cX4_init 46 = .ok (.bipush 48, 2) := by decide +kernel
theorem dX4_init_48 : decode cX4_init 48 = .ok (.newarray .int, 2) := by decide +kernel
theorem dX4_init_50 : decode cX4_init 50 = .ok (.putfield 26, 3) := by decide +kernel
theorem dX4_init_53 : decode cX4_init 53 = .ok (.aload_n 0, 1) := by decide +kernel
theorem dX4_init_54 : decode cX4_init 54 = .ok (.bipush 48, 2) := by decide +kernel
theorem dX4_init_56 : decode cX4_init 56 = .ok (.newarray .int, 2) := by decide +kernel
theorem dX4_init_58 : decode cX4_init 58 = .ok (.putfield 29, 3) := by decide +kernel
theorem dX4_init_61 : decode cX4_init 61 = .ok (.aload_n 0, 1) := by decide +kernel
theorem dX4_init_62 : decode cX4_init 62 = .ok (.bipush 48, 2) := by decide +kernel
theorem dX4_init_64 : decode cX4_init 64 = .ok (.newarray .int, 2) := by decide +kernel
theorem dX4_init_66 : decode cX4_init 66 = .ok (.putfield 32, 3) := by decide +kernel
theorem dX4_init_69 : decode cX4_init 69 = .ok (.aload_n 0, 1) := by decide +kernel
theorem dX4_init_70 : decode cX4_init 70 = .ok (.bipush 48, 2) := by decide +kernel
theorem dX4_init_72 : decode cX4_init 72 = .ok (.newarray .int, 2) := by decide +kernel
theorem dX4_init_74 : decode cX4_init 74 = .ok (.putfield 35, 3) := by decide +kernel
theorem dX4_init_77 : decode cX4_init 77 = .ok (.aload_n 0, 1) := by decide +kernel
theorem dX4_init_78 : decode cX4_init 78 = .ok (.sipush 1280, 3) := by decide +kernel
theorem dX4_init_81 : decode cX4_init 81 = .ok (.newarray .int, 2) := by decide +kernel
theorem dX4_init_83 : decode cX4_init 83 = .ok (.putfield 38, 3) := by decide +kernel
theorem dX4_init_86 : decode cX4_init 86 = .ok (.aload_n 0, 1) := by decide +kernel
theorem dX4_init_87 : decode cX4_init 87 = .ok (.sipush 144, 3) := by decide +kernel
theorem dX4_init_90 : decode cX4_init 90 = .ok (.newarray .int, 2) := by decide +kernel
theorem dX4_init_92 : decode cX4_init 92 = .ok (.putfield 41, 3) := by decide +kernel
theorem dX4_init_95 : decode cX4_init 95 = .ok (.aload_n 0, 1) := by decide +kernel
theorem dX4_init_96 : decode cX4_init 96 = .ok (.sipush 3840, 3) := by decide +kernel
theorem dX4_init_99 : decode cX4_init 99 = .ok (.newarray .int, 2) := by decide +kernel
theorem dX4_init_101 : decode cX4_init 101 = .ok (.putfield 44, 3) := by decide +kernel
theorem dX4_init_104 : decode cX4_init 104 = .ok (.aload_n 0, 1) := by decide +kernel
theorem dX4_init_105 : decode cX4_init 105 = .ok (.iconst 3, 1) := by decide +kernel
theorem dX4_init_106 : decode cX4_init 106 = .ok (.newarray .int, 2) := by decide +kernel
theorem dX4_init_108 : decode cX4_init 108 = .ok (.putfield 47, 3) := by decide +kernel
theorem dX4_init_111 : decode cX4_init 111 = .ok (.aload_n 0, 1) := by decide +kernel
theorem dX4_init_112 : decode cX4_init 112 = .ok (.lconst 1, 1) := by decide +kernel
theorem dX4_init_113 : decode cX4_init 113 = .ok (.putfield 50, 3) := by decide +kernel
theorem dX4_init_116 : decode cX4_init 116 = .ok (.aload_n 0, 1) := by decide +kernel
theorem dX4_init_117 : decode cX4_init 117 = .ok (.bipush 6, 2) := by decide +kernel
theorem dX4_init_119 : decode cX4_init 119 = .ok (.newarray .int, 2) := by decide +kernel
theorem dX4_init_121 : decode cX4_init 121 = .ok (.putfield 54, 3) := by decide +kernel
theorem dX4_init_124 : decode cX4_init 124 = .ok (.aload_n 0, 1) := by decide +kernel
theorem dX4_init_125 : decode cX4_init 125 = .ok (.bipush 7, 2) := by decide +kernel
theorem dX4_init_127 : decode cX4_init 127 = .ok (.newarray .int, 2) := by decide +kernel
theorem dX4_init_129 : decode cX4_init 129 = .ok (.putfield 57, 3) := by decide +kernel
theorem dX4_init_132 : decode cX4_init 132 = .ok (.aload_n 0, 1) := by decide +kernel
theorem dX4_init_133 : decode cX4_init 133 = .ok (.bipush 8, 2) := by decide +kernel
theorem dX4_init_135 : decode cX4_init 135 = .ok (.newarray .int, 2) := by decide +kernel
theorem dX4_init_137 : decode cX4_init 137 = .ok (.putfield 60, 3) := by decide +kernel
theorem dX4_init_140 : decode cX4_init 140 = .ok (.aload_n 0, 1) := by decide +kernel
theorem dX4_init_141 : decode cX4_init 141 = .ok (.bipush 126, 2) := by decide +kernel
theorem dX4_init_143 : decode cX4_init 143 = .ok (.newarray .int, 2) := by decide +kernel
theorem dX4_init_145 : decode cX4_init 145 = .ok (.putfield 63, 3) := by decide +kernel
theorem dX4_init_148 : decode cX4_init 148 = .ok (.iconst 0, 1) := by decide +kernel
theorem dX4_init_149 : decode cX4_init 149 = .ok (.istore_n 1, 1) := by decide +kernel
theorem dX4_init_150 : decode cX4_init 150 = .ok (.iload_n 1, 1) := by decide +kernel
theorem dX4_init_151 : decode cX4_init 151 = .ok (.bipush 6, 2) := by decide +kernel
theorem dX4_init_153 : decode cX4_init 153 = .ok (.if_icmp .ge 16, 3) := by decide +kernel
theorem dX4_init_156 : decode cX4_init 156 = .ok (.aload_n 0, 1) := by decide +kernel
theorem dX4_init_157 : decode cX4_init 157 = .ok (.getfield 7, 3) := by decide +kernel
theorem dX4_init_160 : decode cX4_init 160 = .ok (.iload_n 1, 1) := by decide +kernel
theorem dX4_init_161 : decode cX4_init 161 = .ok (.iconst (-1), 1) := by decide +kernel
theorem dX4_init_162 : decode cX4_init 162 = .ok (.iastore, 1) := by decide +kernel
theorem dX4_init_163 : decode cX4_init 163 = .ok (.iinc 1 1, 3) := by decide +kernel
theorem dX4_init_166 : decode cX4_init 166 = .ok (.goto (-16), 3) := by decide +kernel
theorem dX4_init_169 : decode cX4_init 169 = .ok (.iconst 0, 1) := by decide +kernel
theorem dX4_init_170 : decode cX4_init 170 = .ok (.istore_n 1, 1) := by decide +kernel
theorem dX4_init_171 : decode cX4_init 171 = .ok (.iload_n 1, 1) := by decide +kernel
theorem dX4_init_172 : decode cX4_init 172 = .ok (.iconst 4, 1) := by decide +kernel
theorem dX4_init_173 : decode cX4_init 173 = .ok (.if_icmp .ge 16, 3) := by decide +kernel
theorem dX4_init_176 : decode cX4_init 176 = .ok (.aload_n 0, 1) := by decide +kernel
theorem dX4_init_177 : decode cX4_init 177 = .ok (.getfield 19, 3) := by decide +kernel
theorem dX4_init_180 : decode cX4_init 180 = .ok (.iload_n 1, 1) := by decide +kernel
theorem dX4_init_181 : decode cX4_init 181 = .ok (.iconst (-1), 1) := by decide +kernel
theorem dX4_init_182 : decode cX4_init 182 = .ok (.iastore, 1) := by decide +kernel
theorem dX4_init_183 : decode cX4_init 183 = .ok (.iinc 1 1, 3) := by decide +kernel
theorem dX4_init_186 : decode cX4_init 186 = .ok (.goto (-15), 3) := by decide +kernel
theorem dX4_init_189 : decode cX4_init 189 = .ok (.iconst 0, 1) := by decide +kernel
theorem dX4_init_190 : decode cX4_init 190 = .ok (.istore_n 1, 1) := by decide +kernel
theorem dX4_init_191 : decode cX4_init 191 = .ok (.iload_n 1, 1) := by decide +kernel
theorem dX4_init_192 : decode cX4_init 192 = .ok (.aload_n 0, 1) := by decide +kernel
theorem dX4_init_193 : decode cX4_init 193 = .ok (.getfield 47, 3) := by decide +kernel
theorem dX4_init_196 : decode cX4_init 196 = .ok (.arraylength, 1) := by decide +kernel
theorem dX4_init_197 : decode cX4_init 197 = .ok (.if_icmp .ge 16, 3) := by decide +kernel
theorem dX4_init_200 : decode cX4_init 200 = .ok (.aload_n 0, 1) := by decide +kernel
theorem dX4_init_201 : decode cX4_init 201 = .ok (.getfield 47, 3) := by decide +kernel
theorem dX4_init_204 : decode cX4_init 204 = .ok (.iload_n 1, 1) := by decide +kernel
theorem dX4_init_205 : decode cX4_init 205 = .ok (.iconst (-1), 1) := by decide +kernel
theorem dX4_init_206 : decode cX4_init 206 = .ok (.iastore, 1) := by decide +kernel
theorem dX4_init_207 : decode cX4_init 207 = .ok (.iinc 1 1, 3) := by decide +kernel
theorem dX4_init_210 : decode cX4_init 210 = .ok (.goto (-19), 3) := by decide +kernel
theorem dX4_init_213 : decode cX4_init 213 = .ok (.return_, 1) := by decide +kernel
def kw4 (C : Nat → ClassId) (m : Nat) (r : kk_S) : va_W := [(m, .inr (4, [.ref (r 0 0), .ref (r 0 1), .ref (r 0 2), .ref (r 0 3), .ref (r 0 4), .ref (r 0 5), .ref (r 0 6), .ref (r 0 7), .ref (r 0 8), .ref (r 0 9), .int 0, .ref (r 0 11), .ref (r 0 12), .ref (r 0 13), .int 0, .long 0, .long 1, .int 0, .ref (r 0 18), .ref (r 0 19), .ref (r 0 20), .ref (r 0 21)])), ((r 0 0), .inl (C 6, 6, .inl (fun j => if j < 6 then -1 else 0))), ((r 0 3), .inl (C 6, 4, .inl (fun j => if j < 4 then -1 else 0))), ((r 0 13), .inl (C 6, 3, .inl (fun j => if j < 3 then -1 else 0)))] ++ ((((((((((((([((r 0 1), .inl (C 6, 240, .inl (fun _ => 0)))] ++ [((r 0 2), .inl (C 6, 40, .inl (fun _ => 0)))]) ++ [((r 0 4), .inl (C 5, 240, .inl (fun _ => 0)))]) ++ [((r 0 5), .inl (C 6, 48, .inl (fun _ => 0)))]) ++ [((r 0 6), .inl (C 6, 48, .inl (fun _ => 0)))]) ++ [((r 0 7), .inl (C 6, 48, .inl (fun _ => 0)))]) ++ [((r 0 8), .inl (C 6, 48, .inl (fun _ => 0)))]) ++ [((r 0 9), .inl (C 6, 1280, .inl (fun _ => 0)))]) ++ [((r 0 11), .inl (C 6, 144, .inl (fun _ => 0)))]) ++ [((r 0 12), .inl (C 6, 3840, .inl (fun _ => 0)))]) ++ [((r 0 18), .inl (C 6, 6, .inl (fun _ => 0)))]) ++ [((r 0 19), .inl (C 6, 7, .inl (fun _ => 0)))]) ++ [((r 0 20), .inl (C 6, 8, .inl (fun _ => 0)))]) ++ [((r 0 21), .inl (C 6, 126, .inl (fun _ => 0)))])
abbrev rmX4_init : Room := { frames := 1, cells := 17, slots := 6136, locals := 12 }
theorem inX4_init : ∀ w ∈ u_ws RX4 TX4 22, w ∈ wsX4_init := by decide +kernel
set_option maxHeartbeats 4000000 in
set_option maxRecDepth 100000 in
theorem kM_X4 (l : Launch) (D : va_G) (C : Nat → ClassId) : kk_M l yX4_init wsX4_init rmX4_init D C (.inr (4, [.null, .null, .null, .null, .null, .null, .null, .null, .null, .null, .int 0, .null, .null, .null, .int 0, .long 0, .long 0, .int 0, .null, .null, .null, .null])) (kw4 C) 17 6136 := by
  refine kk_of (own := RX4) (by decide) rfl rfl rfl (by decide) (fun E m hE X hin hr => ?_)
  refine k_aload_n (pc := 0) X 0 0 dX4_init_0 rfl rfl ?_
  refine k_obj (pc := 1) X (List.mem_of_getElem? (i := 1) rfl) (List.mem_of_getElem? (i := 2) rfl) (List.mem_of_getElem? (i := 3) rfl) (Nat.le_of_ble_eq_true rfl) (Nat.le_of_ble_eq_true rfl) dX4_init_1 ?_
  refine k_aload_n (pc := 4) X 0 0 dX4_init_4 rfl rfl ?_
  refine k_bipush (pc := 5) X (6 : Int32) dX4_init_5 (by decide) ?_
  refine k_newi (pc := 7) X 6 (List.mem_of_getElem? (i := 4) rfl) (by decide) (by decide) (Nat.le_of_ble_eq_true rfl) (Nat.le_of_ble_eq_true rfl) (Nat.le_of_ble_eq_true rfl) dX4_init_7 (fun q0 => ?_)
  refine k_putF (pc := 9) X hin 0 0 (ws' := [(m, .inr (4, [.ref q0, .null, .null, .null, .null, .null, .null, .null, .null, .null, .int 0, .null, .null, .null, .int 0, .long 0, .long 0, .int 0, .null, .null, .null, .null])), (q0, .inl (C 6, 6, .inl (fun _ => 0)))]) rfl rfl inX4_init tyX4 tyX4_ok nmX4 (by decide) (List.mem_of_getElem? (i := 5) rfl) rfl rfl (ty := .array .int) (by decide +kernel) rfl rfl (Nat.le_of_ble_eq_true rfl) rfl dX4_init_9 ?_
  refine k_aload_n (pc := 12) X 0 0 dX4_init_12 rfl rfl ?_
  refine k_sipush (pc := 13) X (240 : Int32) dX4_init_13 (by decide) ?_
  refine k_newi (pc := 16) X 240 (List.mem_of_getElem? (i := 4) rfl) (by decide) (by decide) (Nat.le_of_ble_eq_true rfl) (Nat.le_of_ble_eq_true rfl) (Nat.le_of_ble_eq_true rfl) dX4_init_16 (fun q1 => ?_)
  generalize hF1 : ([(q1, .inl (C 6, 240, .inl (fun _ => 0)))] : va_W) = F1
  refine k_putF (pc := 18) X hin 0 1 (ws' := [(m, .inr (4, [.ref q0, .ref q1, .null, .null, .null, .null, .null, .null, .null, .null, .int 0, .null, .null, .null, .int 0, .long 0, .long 0, .int 0, .null, .null, .null, .null])), (q0, .inl (C 6, 6, .inl (fun _ => 0)))] ++ F1) rfl rfl inX4_init tyX4 tyX4_ok nmX4 (by decide) (List.mem_of_getElem? (i := 6) rfl) rfl rfl (ty := .array .int) (by decide +kernel) rfl rfl (Nat.le_of_ble_eq_true rfl) rfl dX4_init_18 ?_
  refine k_aload_n (pc := 21) X 0 0 dX4_init_21 rfl rfl ?_
  refine k_bipush (pc := 22) X (40 : Int32) dX4_init_22 (by decide) ?_
  refine k_newi (pc := 24) X 40 (List.mem_of_getElem? (i := 4) rfl) (by decide) (by decide) (Nat.le_of_ble_eq_true rfl) (Nat.le_of_ble_eq_true rfl) (Nat.le_of_ble_eq_true rfl) dX4_init_24 (fun q2 => ?_)
  refine k_layF (X0 := [(m, .inr (4, [.ref q0, .ref q1, .null, .null, .null, .null, .null, .null, .null, .null, .int 0, .null, .null, .null, .int 0, .long 0, .long 0, .int 0, .null, .null, .null, .null])), (q0, .inl (C 6, 6, .inl (fun _ => 0)))]) (F := F1) (b := [(q2, .inl (C 6, 40, .inl (fun _ => 0)))]) ?_
  generalize hF2 : F1 ++ [(q2, .inl (C 6, 40, .inl (fun _ => 0)))] = F2
  refine k_putF (pc := 26) X hin 0 2 (ws' := [(m, .inr (4, [.ref q0, .ref q1, .ref q2, .null, .null, .null, .null, .null, .null, .null, .int 0, .null, .null, .null, .int 0, .long 0, .long 0, .int 0, .null, .null, .null, .null])), (q0, .inl (C 6, 6, .inl (fun _ => 0)))] ++ F2) rfl rfl inX4_init tyX4 tyX4_ok nmX4 (by decide) (List.mem_of_getElem? (i := 7) rfl) rfl rfl (ty := .array .int) (by decide +kernel) rfl rfl (Nat.le_of_ble_eq_true rfl) rfl dX4_init_26 ?_
  refine k_aload_n (pc := 29) X 0 0 dX4_init_29 rfl rfl ?_
  refine k_iconst (pc := 30) X (4 : Int32) dX4_init_30 (by decide) ?_
  refine k_newi (pc := 31) X 4 (List.mem_of_getElem? (i := 4) rfl) (by decide) (by decide) (Nat.le_of_ble_eq_true rfl) (Nat.le_of_ble_eq_true rfl) (Nat.le_of_ble_eq_true rfl) dX4_init_31 (fun q3 => ?_)
  refine k_layX (X0 := [(m, .inr (4, [.ref q0, .ref q1, .ref q2, .null, .null, .null, .null, .null, .null, .null, .int 0, .null, .null, .null, .int 0, .long 0, .long 0, .int 0, .null, .null, .null, .null])), (q0, .inl (C 6, 6, .inl (fun _ => 0)))]) (F := F2) (a := [(q3, .inl (C 6, 4, .inl (fun _ => 0)))]) ?_
  refine k_putF (pc := 33) X hin 0 3 (ws' := [(m, .inr (4, [.ref q0, .ref q1, .ref q2, .ref q3, .null, .null, .null, .null, .null, .null, .int 0, .null, .null, .null, .int 0, .long 0, .long 0, .int 0, .null, .null, .null, .null])), (q0, .inl (C 6, 6, .inl (fun _ => 0))), (q3, .inl (C 6, 4, .inl (fun _ => 0)))] ++ F2) rfl rfl inX4_init tyX4 tyX4_ok nmX4 (by decide) (List.mem_of_getElem? (i := 8) rfl) rfl rfl (ty := .array .int) (by decide +kernel) rfl rfl (Nat.le_of_ble_eq_true rfl) rfl dX4_init_33 ?_
  refine k_aload_n (pc := 36) X 0 0 dX4_init_36 rfl rfl ?_
  refine k_sipush (pc := 37) X (240 : Int32) dX4_init_37 (by decide) ?_
  refine k_newb (pc := 40) X 240 (List.mem_of_getElem? (i := 9) rfl) (by decide) (by decide) (Nat.le_of_ble_eq_true rfl) (Nat.le_of_ble_eq_true rfl) (Nat.le_of_ble_eq_true rfl) dX4_init_40 (fun q4 => ?_)
  refine k_layF (X0 := [(m, .inr (4, [.ref q0, .ref q1, .ref q2, .ref q3, .null, .null, .null, .null, .null, .null, .int 0, .null, .null, .null, .int 0, .long 0, .long 0, .int 0, .null, .null, .null, .null])), (q0, .inl (C 6, 6, .inl (fun _ => 0))), (q3, .inl (C 6, 4, .inl (fun _ => 0)))]) (F := F2) (b := [(q4, .inl (C 5, 240, .inl (fun _ => 0)))]) ?_
  generalize hF3 : F2 ++ [(q4, .inl (C 5, 240, .inl (fun _ => 0)))] = F3
  refine k_putF (pc := 42) X hin 0 4 (ws' := [(m, .inr (4, [.ref q0, .ref q1, .ref q2, .ref q3, .ref q4, .null, .null, .null, .null, .null, .int 0, .null, .null, .null, .int 0, .long 0, .long 0, .int 0, .null, .null, .null, .null])), (q0, .inl (C 6, 6, .inl (fun _ => 0))), (q3, .inl (C 6, 4, .inl (fun _ => 0)))] ++ F3) rfl rfl inX4_init tyX4 tyX4_ok nmX4 (by decide) (List.mem_of_getElem? (i := 10) rfl) rfl rfl (ty := .array .byte) (by decide +kernel) rfl rfl (Nat.le_of_ble_eq_true rfl) rfl dX4_init_42 ?_
  refine k_aload_n (pc := 45) X 0 0 dX4_init_45 rfl rfl ?_
  refine k_bipush (pc := 46) X (48 : Int32) dX4_init_46 (by decide) ?_
  refine k_newi (pc := 48) X 48 (List.mem_of_getElem? (i := 4) rfl) (by decide) (by decide) (Nat.le_of_ble_eq_true rfl) (Nat.le_of_ble_eq_true rfl) (Nat.le_of_ble_eq_true rfl) dX4_init_48 (fun q5 => ?_)
  refine k_layF (X0 := [(m, .inr (4, [.ref q0, .ref q1, .ref q2, .ref q3, .ref q4, .null, .null, .null, .null, .null, .int 0, .null, .null, .null, .int 0, .long 0, .long 0, .int 0, .null, .null, .null, .null])), (q0, .inl (C 6, 6, .inl (fun _ => 0))), (q3, .inl (C 6, 4, .inl (fun _ => 0)))]) (F := F3) (b := [(q5, .inl (C 6, 48, .inl (fun _ => 0)))]) ?_
  generalize hF4 : F3 ++ [(q5, .inl (C 6, 48, .inl (fun _ => 0)))] = F4
  refine k_putF (pc := 50) X hin 0 5 (ws' := [(m, .inr (4, [.ref q0, .ref q1, .ref q2, .ref q3, .ref q4, .ref q5, .null, .null, .null, .null, .int 0, .null, .null, .null, .int 0, .long 0, .long 0, .int 0, .null, .null, .null, .null])), (q0, .inl (C 6, 6, .inl (fun _ => 0))), (q3, .inl (C 6, 4, .inl (fun _ => 0)))] ++ F4) rfl rfl inX4_init tyX4 tyX4_ok nmX4 (by decide) (List.mem_of_getElem? (i := 11) rfl) rfl rfl (ty := .array .int) (by decide +kernel) rfl rfl (Nat.le_of_ble_eq_true rfl) rfl dX4_init_50 ?_
  refine k_aload_n (pc := 53) X 0 0 dX4_init_53 rfl rfl ?_
  refine k_bipush (pc := 54) X (48 : Int32) dX4_init_54 (by decide) ?_
  refine k_newi (pc := 56) X 48 (List.mem_of_getElem? (i := 4) rfl) (by decide) (by decide) (Nat.le_of_ble_eq_true rfl) (Nat.le_of_ble_eq_true rfl) (Nat.le_of_ble_eq_true rfl) dX4_init_56 (fun q6 => ?_)
  refine k_layF (X0 := [(m, .inr (4, [.ref q0, .ref q1, .ref q2, .ref q3, .ref q4, .ref q5, .null, .null, .null, .null, .int 0, .null, .null, .null, .int 0, .long 0, .long 0, .int 0, .null, .null, .null, .null])), (q0, .inl (C 6, 6, .inl (fun _ => 0))), (q3, .inl (C 6, 4, .inl (fun _ => 0)))]) (F := F4) (b := [(q6, .inl (C 6, 48, .inl (fun _ => 0)))]) ?_
  generalize hF5 : F4 ++ [(q6, .inl (C 6, 48, .inl (fun _ => 0)))] = F5
  refine k_putF (pc := 58) X hin 0 6 (ws' := [(m, .inr (4, [.ref q0, .ref q1, .ref q2, .ref q3, .ref q4, .ref q5, .ref q6, .null, .null, .null, .int 0, .null, .null, .null, .int 0, .long 0, .long 0, .int 0, .null, .null, .null, .null])), (q0, .inl (C 6, 6, .inl (fun _ => 0))), (q3, .inl (C 6, 4, .inl (fun _ => 0)))] ++ F5) rfl rfl inX4_init tyX4 tyX4_ok nmX4 (by decide) (List.mem_of_getElem? (i := 12) rfl) rfl rfl (ty := .array .int) (by decide +kernel) rfl rfl (Nat.le_of_ble_eq_true rfl) rfl dX4_init_58 ?_
  refine k_aload_n (pc := 61) X 0 0 dX4_init_61 rfl rfl ?_
  refine k_bipush (pc := 62) X (48 : Int32) dX4_init_62 (by decide) ?_
  refine k_newi (pc := 64) X 48 (List.mem_of_getElem? (i := 4) rfl) (by decide) (by decide) (Nat.le_of_ble_eq_true rfl) (Nat.le_of_ble_eq_true rfl) (Nat.le_of_ble_eq_true rfl) dX4_init_64 (fun q7 => ?_)
  refine k_layF (X0 := [(m, .inr (4, [.ref q0, .ref q1, .ref q2, .ref q3, .ref q4, .ref q5, .ref q6, .null, .null, .null, .int 0, .null, .null, .null, .int 0, .long 0, .long 0, .int 0, .null, .null, .null, .null])), (q0, .inl (C 6, 6, .inl (fun _ => 0))), (q3, .inl (C 6, 4, .inl (fun _ => 0)))]) (F := F5) (b := [(q7, .inl (C 6, 48, .inl (fun _ => 0)))]) ?_
  generalize hF6 : F5 ++ [(q7, .inl (C 6, 48, .inl (fun _ => 0)))] = F6
  refine k_putF (pc := 66) X hin 0 7 (ws' := [(m, .inr (4, [.ref q0, .ref q1, .ref q2, .ref q3, .ref q4, .ref q5, .ref q6, .ref q7, .null, .null, .int 0, .null, .null, .null, .int 0, .long 0, .long 0, .int 0, .null, .null, .null, .null])), (q0, .inl (C 6, 6, .inl (fun _ => 0))), (q3, .inl (C 6, 4, .inl (fun _ => 0)))] ++ F6) rfl rfl inX4_init tyX4 tyX4_ok nmX4 (by decide) (List.mem_of_getElem? (i := 13) rfl) rfl rfl (ty := .array .int) (by decide +kernel) rfl rfl (Nat.le_of_ble_eq_true rfl) rfl dX4_init_66 ?_
  refine k_aload_n (pc := 69) X 0 0 dX4_init_69 rfl rfl ?_
  refine k_bipush (pc := 70) X (48 : Int32) dX4_init_70 (by decide) ?_
  refine k_newi (pc := 72) X 48 (List.mem_of_getElem? (i := 4) rfl) (by decide) (by decide) (Nat.le_of_ble_eq_true rfl) (Nat.le_of_ble_eq_true rfl) (Nat.le_of_ble_eq_true rfl) dX4_init_72 (fun q8 => ?_)
  refine k_layF (X0 := [(m, .inr (4, [.ref q0, .ref q1, .ref q2, .ref q3, .ref q4, .ref q5, .ref q6, .ref q7, .null, .null, .int 0, .null, .null, .null, .int 0, .long 0, .long 0, .int 0, .null, .null, .null, .null])), (q0, .inl (C 6, 6, .inl (fun _ => 0))), (q3, .inl (C 6, 4, .inl (fun _ => 0)))]) (F := F6) (b := [(q8, .inl (C 6, 48, .inl (fun _ => 0)))]) ?_
  generalize hF7 : F6 ++ [(q8, .inl (C 6, 48, .inl (fun _ => 0)))] = F7
  refine k_putF (pc := 74) X hin 0 8 (ws' := [(m, .inr (4, [.ref q0, .ref q1, .ref q2, .ref q3, .ref q4, .ref q5, .ref q6, .ref q7, .ref q8, .null, .int 0, .null, .null, .null, .int 0, .long 0, .long 0, .int 0, .null, .null, .null, .null])), (q0, .inl (C 6, 6, .inl (fun _ => 0))), (q3, .inl (C 6, 4, .inl (fun _ => 0)))] ++ F7) rfl rfl inX4_init tyX4 tyX4_ok nmX4 (by decide) (List.mem_of_getElem? (i := 14) rfl) rfl rfl (ty := .array .int) (by decide +kernel) rfl rfl (Nat.le_of_ble_eq_true rfl) rfl dX4_init_74 ?_
  refine k_aload_n (pc := 77) X 0 0 dX4_init_77 rfl rfl ?_
  refine k_sipush (pc := 78) X (1280 : Int32) dX4_init_78 (by decide) ?_
  refine k_newi (pc := 81) X 1280 (List.mem_of_getElem? (i := 4) rfl) (by decide) (by decide) (Nat.le_of_ble_eq_true rfl) (Nat.le_of_ble_eq_true rfl) (Nat.le_of_ble_eq_true rfl) dX4_init_81 (fun q9 => ?_)
  refine k_layF (X0 := [(m, .inr (4, [.ref q0, .ref q1, .ref q2, .ref q3, .ref q4, .ref q5, .ref q6, .ref q7, .ref q8, .null, .int 0, .null, .null, .null, .int 0, .long 0, .long 0, .int 0, .null, .null, .null, .null])), (q0, .inl (C 6, 6, .inl (fun _ => 0))), (q3, .inl (C 6, 4, .inl (fun _ => 0)))]) (F := F7) (b := [(q9, .inl (C 6, 1280, .inl (fun _ => 0)))]) ?_
  generalize hF8 : F7 ++ [(q9, .inl (C 6, 1280, .inl (fun _ => 0)))] = F8
  refine k_putF (pc := 83) X hin 0 9 (ws' := [(m, .inr (4, [.ref q0, .ref q1, .ref q2, .ref q3, .ref q4, .ref q5, .ref q6, .ref q7, .ref q8, .ref q9, .int 0, .null, .null, .null, .int 0, .long 0, .long 0, .int 0, .null, .null, .null, .null])), (q0, .inl (C 6, 6, .inl (fun _ => 0))), (q3, .inl (C 6, 4, .inl (fun _ => 0)))] ++ F8) rfl rfl inX4_init tyX4 tyX4_ok nmX4 (by decide) (List.mem_of_getElem? (i := 15) rfl) rfl rfl (ty := .array .int) (by decide +kernel) rfl rfl (Nat.le_of_ble_eq_true rfl) rfl dX4_init_83 ?_
  refine k_aload_n (pc := 86) X 0 0 dX4_init_86 rfl rfl ?_
  refine k_sipush (pc := 87) X (144 : Int32) dX4_init_87 (by decide) ?_
  refine k_newi (pc := 90) X 144 (List.mem_of_getElem? (i := 4) rfl) (by decide) (by decide) (Nat.le_of_ble_eq_true rfl) (Nat.le_of_ble_eq_true rfl) (Nat.le_of_ble_eq_true rfl) dX4_init_90 (fun q11 => ?_)
  refine k_layF (X0 := [(m, .inr (4, [.ref q0, .ref q1, .ref q2, .ref q3, .ref q4, .ref q5, .ref q6, .ref q7, .ref q8, .ref q9, .int 0, .null, .null, .null, .int 0, .long 0, .long 0, .int 0, .null, .null, .null, .null])), (q0, .inl (C 6, 6, .inl (fun _ => 0))), (q3, .inl (C 6, 4, .inl (fun _ => 0)))]) (F := F8) (b := [(q11, .inl (C 6, 144, .inl (fun _ => 0)))]) ?_
  generalize hF9 : F8 ++ [(q11, .inl (C 6, 144, .inl (fun _ => 0)))] = F9
  refine k_putF (pc := 92) X hin 0 11 (ws' := [(m, .inr (4, [.ref q0, .ref q1, .ref q2, .ref q3, .ref q4, .ref q5, .ref q6, .ref q7, .ref q8, .ref q9, .int 0, .ref q11, .null, .null, .int 0, .long 0, .long 0, .int 0, .null, .null, .null, .null])), (q0, .inl (C 6, 6, .inl (fun _ => 0))), (q3, .inl (C 6, 4, .inl (fun _ => 0)))] ++ F9) rfl rfl inX4_init tyX4 tyX4_ok nmX4 (by decide) (List.mem_of_getElem? (i := 16) rfl) rfl rfl (ty := .array .int) (by decide +kernel) rfl rfl (Nat.le_of_ble_eq_true rfl) rfl dX4_init_92 ?_
  refine k_aload_n (pc := 95) X 0 0 dX4_init_95 rfl rfl ?_
  refine k_sipush (pc := 96) X (3840 : Int32) dX4_init_96 (by decide) ?_
  refine k_newi (pc := 99) X 3840 (List.mem_of_getElem? (i := 4) rfl) (by decide) (by decide) (Nat.le_of_ble_eq_true rfl) (Nat.le_of_ble_eq_true rfl) (Nat.le_of_ble_eq_true rfl) dX4_init_99 (fun q12 => ?_)
  refine k_layF (X0 := [(m, .inr (4, [.ref q0, .ref q1, .ref q2, .ref q3, .ref q4, .ref q5, .ref q6, .ref q7, .ref q8, .ref q9, .int 0, .ref q11, .null, .null, .int 0, .long 0, .long 0, .int 0, .null, .null, .null, .null])), (q0, .inl (C 6, 6, .inl (fun _ => 0))), (q3, .inl (C 6, 4, .inl (fun _ => 0)))]) (F := F9) (b := [(q12, .inl (C 6, 3840, .inl (fun _ => 0)))]) ?_
  generalize hF10 : F9 ++ [(q12, .inl (C 6, 3840, .inl (fun _ => 0)))] = F10
  refine k_putF (pc := 101) X hin 0 12 (ws' := [(m, .inr (4, [.ref q0, .ref q1, .ref q2, .ref q3, .ref q4, .ref q5, .ref q6, .ref q7, .ref q8, .ref q9, .int 0, .ref q11, .ref q12, .null, .int 0, .long 0, .long 0, .int 0, .null, .null, .null, .null])), (q0, .inl (C 6, 6, .inl (fun _ => 0))), (q3, .inl (C 6, 4, .inl (fun _ => 0)))] ++ F10) rfl rfl inX4_init tyX4 tyX4_ok nmX4 (by decide) (List.mem_of_getElem? (i := 17) rfl) rfl rfl (ty := .array .int) (by decide +kernel) rfl rfl (Nat.le_of_ble_eq_true rfl) rfl dX4_init_101 ?_
  refine k_aload_n (pc := 104) X 0 0 dX4_init_104 rfl rfl ?_
  refine k_iconst (pc := 105) X (3 : Int32) dX4_init_105 (by decide) ?_
  refine k_newi (pc := 106) X 3 (List.mem_of_getElem? (i := 4) rfl) (by decide) (by decide) (Nat.le_of_ble_eq_true rfl) (Nat.le_of_ble_eq_true rfl) (Nat.le_of_ble_eq_true rfl) dX4_init_106 (fun q13 => ?_)
  refine k_layX (X0 := [(m, .inr (4, [.ref q0, .ref q1, .ref q2, .ref q3, .ref q4, .ref q5, .ref q6, .ref q7, .ref q8, .ref q9, .int 0, .ref q11, .ref q12, .null, .int 0, .long 0, .long 0, .int 0, .null, .null, .null, .null])), (q0, .inl (C 6, 6, .inl (fun _ => 0))), (q3, .inl (C 6, 4, .inl (fun _ => 0)))]) (F := F10) (a := [(q13, .inl (C 6, 3, .inl (fun _ => 0)))]) ?_
  refine k_putF (pc := 108) X hin 0 13 (ws' := [(m, .inr (4, [.ref q0, .ref q1, .ref q2, .ref q3, .ref q4, .ref q5, .ref q6, .ref q7, .ref q8, .ref q9, .int 0, .ref q11, .ref q12, .ref q13, .int 0, .long 0, .long 0, .int 0, .null, .null, .null, .null])), (q0, .inl (C 6, 6, .inl (fun _ => 0))), (q3, .inl (C 6, 4, .inl (fun _ => 0))), (q13, .inl (C 6, 3, .inl (fun _ => 0)))] ++ F10) rfl rfl inX4_init tyX4 tyX4_ok nmX4 (by decide) (List.mem_of_getElem? (i := 18) rfl) rfl rfl (ty := .array .int) (by decide +kernel) rfl rfl (Nat.le_of_ble_eq_true rfl) rfl dX4_init_108 ?_
  refine k_aload_n (pc := 111) X 0 0 dX4_init_111 rfl rfl ?_
  refine k_lconst (pc := 112) X (1 : Int64) dX4_init_112 rfl ?_
  refine k_put (pc := 113) X 0 16 (ws' := [(m, .inr (4, [.ref q0, .ref q1, .ref q2, .ref q3, .ref q4, .ref q5, .ref q6, .ref q7, .ref q8, .ref q9, .int 0, .ref q11, .ref q12, .ref q13, .int 0, .long 0, .long 1, .int 0, .null, .null, .null, .null])), (q0, .inl (C 6, 6, .inl (fun _ => 0))), (q3, .inl (C 6, 4, .inl (fun _ => 0))), (q13, .inl (C 6, 3, .inl (fun _ => 0)))] ++ F10) rfl rfl inX4_init tyX4 tyX4_ok nmX4 (by decide) (List.mem_of_getElem? (i := 19) rfl) rfl (ty := .long) (by decide +kernel) rfl rfl (Nat.le_of_ble_eq_true rfl) rfl dX4_init_113 ?_
  refine k_aload_n (pc := 116) X 0 0 dX4_init_116 rfl rfl ?_
  refine k_bipush (pc := 117) X (6 : Int32) dX4_init_117 (by decide) ?_
  refine k_newi (pc := 119) X 6 (List.mem_of_getElem? (i := 4) rfl) (by decide) (by decide) (Nat.le_of_ble_eq_true rfl) (Nat.le_of_ble_eq_true rfl) (Nat.le_of_ble_eq_true rfl) dX4_init_119 (fun q18 => ?_)
  refine k_layF (X0 := [(m, .inr (4, [.ref q0, .ref q1, .ref q2, .ref q3, .ref q4, .ref q5, .ref q6, .ref q7, .ref q8, .ref q9, .int 0, .ref q11, .ref q12, .ref q13, .int 0, .long 0, .long 1, .int 0, .null, .null, .null, .null])), (q0, .inl (C 6, 6, .inl (fun _ => 0))), (q3, .inl (C 6, 4, .inl (fun _ => 0))), (q13, .inl (C 6, 3, .inl (fun _ => 0)))]) (F := F10) (b := [(q18, .inl (C 6, 6, .inl (fun _ => 0)))]) ?_
  generalize hF11 : F10 ++ [(q18, .inl (C 6, 6, .inl (fun _ => 0)))] = F11
  refine k_putF (pc := 121) X hin 0 18 (ws' := [(m, .inr (4, [.ref q0, .ref q1, .ref q2, .ref q3, .ref q4, .ref q5, .ref q6, .ref q7, .ref q8, .ref q9, .int 0, .ref q11, .ref q12, .ref q13, .int 0, .long 0, .long 1, .int 0, .ref q18, .null, .null, .null])), (q0, .inl (C 6, 6, .inl (fun _ => 0))), (q3, .inl (C 6, 4, .inl (fun _ => 0))), (q13, .inl (C 6, 3, .inl (fun _ => 0)))] ++ F11) rfl rfl inX4_init tyX4 tyX4_ok nmX4 (by decide) (List.mem_of_getElem? (i := 20) rfl) rfl rfl (ty := .array .int) (by decide +kernel) rfl rfl (Nat.le_of_ble_eq_true rfl) rfl dX4_init_121 ?_
  refine k_aload_n (pc := 124) X 0 0 dX4_init_124 rfl rfl ?_
  refine k_bipush (pc := 125) X (7 : Int32) dX4_init_125 (by decide) ?_
  refine k_newi (pc := 127) X 7 (List.mem_of_getElem? (i := 4) rfl) (by decide) (by decide) (Nat.le_of_ble_eq_true rfl) (Nat.le_of_ble_eq_true rfl) (Nat.le_of_ble_eq_true rfl) dX4_init_127 (fun q19 => ?_)
  refine k_layF (X0 := [(m, .inr (4, [.ref q0, .ref q1, .ref q2, .ref q3, .ref q4, .ref q5, .ref q6, .ref q7, .ref q8, .ref q9, .int 0, .ref q11, .ref q12, .ref q13, .int 0, .long 0, .long 1, .int 0, .ref q18, .null, .null, .null])), (q0, .inl (C 6, 6, .inl (fun _ => 0))), (q3, .inl (C 6, 4, .inl (fun _ => 0))), (q13, .inl (C 6, 3, .inl (fun _ => 0)))]) (F := F11) (b := [(q19, .inl (C 6, 7, .inl (fun _ => 0)))]) ?_
  generalize hF12 : F11 ++ [(q19, .inl (C 6, 7, .inl (fun _ => 0)))] = F12
  refine k_putF (pc := 129) X hin 0 19 (ws' := [(m, .inr (4, [.ref q0, .ref q1, .ref q2, .ref q3, .ref q4, .ref q5, .ref q6, .ref q7, .ref q8, .ref q9, .int 0, .ref q11, .ref q12, .ref q13, .int 0, .long 0, .long 1, .int 0, .ref q18, .ref q19, .null, .null])), (q0, .inl (C 6, 6, .inl (fun _ => 0))), (q3, .inl (C 6, 4, .inl (fun _ => 0))), (q13, .inl (C 6, 3, .inl (fun _ => 0)))] ++ F12) rfl rfl inX4_init tyX4 tyX4_ok nmX4 (by decide) (List.mem_of_getElem? (i := 21) rfl) rfl rfl (ty := .array .int) (by decide +kernel) rfl rfl (Nat.le_of_ble_eq_true rfl) rfl dX4_init_129 ?_
  refine k_aload_n (pc := 132) X 0 0 dX4_init_132 rfl rfl ?_
  refine k_bipush (pc := 133) X (8 : Int32) dX4_init_133 (by decide) ?_
  refine k_newi (pc := 135) X 8 (List.mem_of_getElem? (i := 4) rfl) (by decide) (by decide) (Nat.le_of_ble_eq_true rfl) (Nat.le_of_ble_eq_true rfl) (Nat.le_of_ble_eq_true rfl) dX4_init_135 (fun q20 => ?_)
  refine k_layF (X0 := [(m, .inr (4, [.ref q0, .ref q1, .ref q2, .ref q3, .ref q4, .ref q5, .ref q6, .ref q7, .ref q8, .ref q9, .int 0, .ref q11, .ref q12, .ref q13, .int 0, .long 0, .long 1, .int 0, .ref q18, .ref q19, .null, .null])), (q0, .inl (C 6, 6, .inl (fun _ => 0))), (q3, .inl (C 6, 4, .inl (fun _ => 0))), (q13, .inl (C 6, 3, .inl (fun _ => 0)))]) (F := F12) (b := [(q20, .inl (C 6, 8, .inl (fun _ => 0)))]) ?_
  generalize hF13 : F12 ++ [(q20, .inl (C 6, 8, .inl (fun _ => 0)))] = F13
  refine k_putF (pc := 137) X hin 0 20 (ws' := [(m, .inr (4, [.ref q0, .ref q1, .ref q2, .ref q3, .ref q4, .ref q5, .ref q6, .ref q7, .ref q8, .ref q9, .int 0, .ref q11, .ref q12, .ref q13, .int 0, .long 0, .long 1, .int 0, .ref q18, .ref q19, .ref q20, .null])), (q0, .inl (C 6, 6, .inl (fun _ => 0))), (q3, .inl (C 6, 4, .inl (fun _ => 0))), (q13, .inl (C 6, 3, .inl (fun _ => 0)))] ++ F13) rfl rfl inX4_init tyX4 tyX4_ok nmX4 (by decide) (List.mem_of_getElem? (i := 22) rfl) rfl rfl (ty := .array .int) (by decide +kernel) rfl rfl (Nat.le_of_ble_eq_true rfl) rfl dX4_init_137 ?_
  refine k_aload_n (pc := 140) X 0 0 dX4_init_140 rfl rfl ?_
  refine k_bipush (pc := 141) X (126 : Int32) dX4_init_141 (by decide) ?_
  refine k_newi (pc := 143) X 126 (List.mem_of_getElem? (i := 4) rfl) (by decide) (by decide) (Nat.le_of_ble_eq_true rfl) (Nat.le_of_ble_eq_true rfl) (Nat.le_of_ble_eq_true rfl) dX4_init_143 (fun q21 => ?_)
  refine k_layF (X0 := [(m, .inr (4, [.ref q0, .ref q1, .ref q2, .ref q3, .ref q4, .ref q5, .ref q6, .ref q7, .ref q8, .ref q9, .int 0, .ref q11, .ref q12, .ref q13, .int 0, .long 0, .long 1, .int 0, .ref q18, .ref q19, .ref q20, .null])), (q0, .inl (C 6, 6, .inl (fun _ => 0))), (q3, .inl (C 6, 4, .inl (fun _ => 0))), (q13, .inl (C 6, 3, .inl (fun _ => 0)))]) (F := F13) (b := [(q21, .inl (C 6, 126, .inl (fun _ => 0)))]) ?_
  generalize hF14 : F13 ++ [(q21, .inl (C 6, 126, .inl (fun _ => 0)))] = F14
  refine k_putF (pc := 145) X hin 0 21 (ws' := [(m, .inr (4, [.ref q0, .ref q1, .ref q2, .ref q3, .ref q4, .ref q5, .ref q6, .ref q7, .ref q8, .ref q9, .int 0, .ref q11, .ref q12, .ref q13, .int 0, .long 0, .long 1, .int 0, .ref q18, .ref q19, .ref q20, .ref q21])), (q0, .inl (C 6, 6, .inl (fun _ => 0))), (q3, .inl (C 6, 4, .inl (fun _ => 0))), (q13, .inl (C 6, 3, .inl (fun _ => 0)))] ++ F14) rfl rfl inX4_init tyX4 tyX4_ok nmX4 (by decide) (List.mem_of_getElem? (i := 23) rfl) rfl rfl (ty := .array .int) (by decide +kernel) rfl rfl (Nat.le_of_ble_eq_true rfl) rfl dX4_init_145 ?_
  refine k_iconst (pc := 148) X (nI 0) dX4_init_148 (by decide) ?_
  refine k_istore_n (pc := 149) X 1 [(1, .int (nI 0)), (0, .ref m)] dX4_init_149 rfl (by decide) rfl ?_
  refine k_ws (ws' := [(m, .inr (4, [.ref q0, .ref q1, .ref q2, .ref q3, .ref q4, .ref q5, .ref q6, .ref q7, .ref q8, .ref q9, .int 0, .ref q11, .ref q12, .ref q13, .int 0, .long 0, .long 1, .int 0, .ref q18, .ref q19, .ref q20, .ref q21])), (q0, .inl (C 6, 6, .inl (fun j => if j < 0 then -1 else 0))), (q3, .inl (C 6, 4, .inl (fun _ => 0))), (q13, .inl (C 6, 3, .inl (fun _ => 0)))] ++ F14) (by rw [kf0]) ?_
  refine k_fill X (fun f => [(m, .inr (4, [.ref q0, .ref q1, .ref q2, .ref q3, .ref q4, .ref q5, .ref q6, .ref q7, .ref q8, .ref q9, .int 0, .ref q11, .ref q12, .ref q13, .int 0, .long 0, .long 1, .int 0, .ref q18, .ref q19, .ref q20, .ref q21])), (q0, .inl (C 6, 6, .inl (f))), (q3, .inl (C 6, 4, .inl (fun _ => 0))), (q13, .inl (C 6, 3, .inl (fun _ => 0)))] ++ F14) 1 0 150 153 169 (by decide) (fun _ => rfl) (fun _ => rfl) (fun _ _ => rfl) rfl inX4_init (by decide) (List.mem_of_getElem? (i := 5) rfl) rfl (fun f k hk => ?_) dX4_init_153 (by decide) dX4_init_156 dX4_init_157 dX4_init_160 dX4_init_161 dX4_init_162 dX4_init_163 dX4_init_166 (by decide) ?_ 6 0 rfl
  · refine k_iload_n (pc := 150) X 1 0 dX4_init_150 rfl rfl ?_
    exact k_bipush (pc := 151) X (nI 6) dX4_init_151 (by decide) hk
  refine k_iconst (pc := 169) X (nI 0) dX4_init_169 (by decide) ?_
  refine k_istore_n (pc := 170) X 1 [(1, .int (nI 0)), (0, .ref m)] dX4_init_170 rfl (by decide) rfl ?_
  refine k_ws (ws' := [(m, .inr (4, [.ref q0, .ref q1, .ref q2, .ref q3, .ref q4, .ref q5, .ref q6, .ref q7, .ref q8, .ref q9, .int 0, .ref q11, .ref q12, .ref q13, .int 0, .long 0, .long 1, .int 0, .ref q18, .ref q19, .ref q20, .ref q21])), (q0, .inl (C 6, 6, .inl (fun j => if j < 6 then -1 else 0))), (q3, .inl (C 6, 4, .inl (fun j => if j < 0 then -1 else 0))), (q13, .inl (C 6, 3, .inl (fun _ => 0)))] ++ F14) (by rw [kf0]) ?_
  refine k_fill X (fun f => [(m, .inr (4, [.ref q0, .ref q1, .ref q2, .ref q3, .ref q4, .ref q5, .ref q6, .ref q7, .ref q8, .ref q9, .int 0, .ref q11, .ref q12, .ref q13, .int 0, .long 0, .long 1, .int 0, .ref q18, .ref q19, .ref q20, .ref q21])), (q0, .inl (C 6, 6, .inl (fun j => if j < 6 then -1 else 0))), (q3, .inl (C 6, 4, .inl (f))), (q13, .inl (C 6, 3, .inl (fun _ => 0)))] ++ F14) 2 3 171 173 189 (by decide) (fun _ => rfl) (fun _ => rfl) (fun _ _ => rfl) rfl inX4_init (by decide) (List.mem_of_getElem? (i := 8) rfl) rfl (fun f k hk => ?_) dX4_init_173 (by decide) dX4_init_176 dX4_init_177 dX4_init_180 dX4_init_181 dX4_init_182 dX4_init_183 dX4_init_186 (by decide) ?_ 4 0 rfl
  · refine k_iload_n (pc := 171) X 1 0 dX4_init_171 rfl rfl ?_
    exact k_iconst (pc := 172) X (nI 4) dX4_init_172 (by decide) hk
  refine k_iconst (pc := 189) X (nI 0) dX4_init_189 (by decide) ?_
  refine k_istore_n (pc := 190) X 1 [(1, .int (nI 0)), (0, .ref m)] dX4_init_190 rfl (by decide) rfl ?_
  refine k_ws (ws' := [(m, .inr (4, [.ref q0, .ref q1, .ref q2, .ref q3, .ref q4, .ref q5, .ref q6, .ref q7, .ref q8, .ref q9, .int 0, .ref q11, .ref q12, .ref q13, .int 0, .long 0, .long 1, .int 0, .ref q18, .ref q19, .ref q20, .ref q21])), (q0, .inl (C 6, 6, .inl (fun j => if j < 6 then -1 else 0))), (q3, .inl (C 6, 4, .inl (fun j => if j < 4 then -1 else 0))), (q13, .inl (C 6, 3, .inl (fun j => if j < 0 then -1 else 0)))] ++ F14) (by rw [kf0]) ?_
  refine k_fill X (fun f => [(m, .inr (4, [.ref q0, .ref q1, .ref q2, .ref q3, .ref q4, .ref q5, .ref q6, .ref q7, .ref q8, .ref q9, .int 0, .ref q11, .ref q12, .ref q13, .int 0, .long 0, .long 1, .int 0, .ref q18, .ref q19, .ref q20, .ref q21])), (q0, .inl (C 6, 6, .inl (fun j => if j < 6 then -1 else 0))), (q3, .inl (C 6, 4, .inl (fun j => if j < 4 then -1 else 0))), (q13, .inl (C 6, 3, .inl (f)))] ++ F14) 3 13 191 197 213 (by decide) (fun _ => rfl) (fun _ => rfl) (fun _ _ => rfl) rfl inX4_init (by decide) (List.mem_of_getElem? (i := 18) rfl) rfl (fun f k hk => ?_) dX4_init_197 (by decide) dX4_init_200 dX4_init_201 dX4_init_204 dX4_init_205 dX4_init_206 dX4_init_207 dX4_init_210 (by decide) ?_ 3 0 rfl
  · refine k_iload_n (pc := 191) X 1 0 dX4_init_191 rfl rfl ?_
    refine k_aload_n (pc := 192) X 0 1 dX4_init_192 rfl rfl ?_
    refine k_get (pc := 193) X 0 13 (.ref q13) rfl rfl inX4_init (by decide) (List.mem_of_getElem? (i := 18) rfl) rfl dX4_init_193 ?_
    exact k_alen (pc := 196) X 3 (nI 3) rfl rfl dX4_init_196 hk
  subst hF14
  subst hF13
  subst hF12
  subst hF11
  subst hF10
  subst hF9
  subst hF8
  subst hF7
  subst hF6
  subst hF5
  subst hF4
  subst hF3
  subst hF2
  subst hF1
  exact k_vret (pc := 213) X hr (wf := kw4 C m) (fun _ i => [q0, q1, q2, q3, q4, q5, q6, q7, q8, q9, 0, q11, q12, q13, 0, 0, 0, 0, q18, q19, q20, q21].getD i 0) rfl dX4_init_213
