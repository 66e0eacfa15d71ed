/-! the constructor of AirTalkers -/
set_option maxRecDepth 20000 in
theorem ggX3_init_X0_init : GoodIn wsX3_init wsX0_init := goodIn_r _ [34, 35, 2, 3, 36, 37, 38, 39, 40, 41, 42, 43, 44, 45, 46, 47, 70, 71, 72, 73, 74, 75, 78, 79, 80, 81, 82, 83] (by decide +kernel) (by decide +kernel)
set_option maxRecDepth 20000 in
theorem gX3_init_X0_init : GoodIn wsX3_init (wsX0_init) := ggX3_init_X0_init
set_option maxRecDepth 20000 in
theorem ggX3_init_X1_init : GoodIn wsX3_init wsX1_init := goodIn_r _ [49, 50, 2, 3, 5, 51, 52, 76, 77] (by decide +kernel) (by decide +kernel)
set_option maxRecDepth 20000 in
theorem gX3_init_X1_init_n38 : GoodIn wsX3_init (wsX1_init) := ggX3_init_X1_init
theorem dX3_init_0 : decode cX3_init 0 = .ok (.aload_n 0, 1) := by decide +kernel
theorem dX3_init_1 : decode cX3_init 1 = .ok (.invokespecial 1, 3) := by decide +kernel
theorem dX3_init_4 : decode cX3_init 4 = .ok (.aload_n 0, 1) := by decide +kernel
theorem dX3_init_5 : decode cX3_init 5 = .ok (.bipush 6, 2) := by decide +kernel
theorem dX3_init_7 : decode cX3_init 7 = .ok (.bipush 40, 2) := by decide +kernel
theorem dX3_init_9 : decode cX3_init 9 = .ok (.multianewarray 9 2, 4) := by decide +kernel
theorem dX3_init_13 : decode cX3_init 13 = .ok (.putfield 11, 3) := by decide +kernel
theorem dX3_init_16 : decode cX3_init 16 = .ok (.aload_n 0, 1) := by decide +kernel
theorem dX3_init_17 : decode cX3_init 17 = .ok (.bipush 6, 2) := by decide +kernel
theorem dX3_init_19 : decode cX3_init 19 = .ok (.newarray .int, 2) := by decide +kernel
theorem dX3_init_21 : decode cX3_init 21 = .ok (.putfield 14, 3) := by decide +kernel
theorem dX3_init_24 : decode cX3_init 24 = .ok (.aload_n 0, 1) := by decide +kernel
theorem dX3_init_25 : decode cX3_init 25 = .ok (.iconst 4, 1) := by decide +kernel
theorem dX3_init_26 : decode cX3_init 26 = .ok (.bipush 60, 2) := by decide +kernel
theorem dX3_init_28 : decode cX3_init 28 = .ok (.multianewarray 18 2, 4) := by decide +kernel
theorem dX3_init_32 : decode cX3_init 32 = .ok (.putfield 20, 3) := by decide +kernel
theorem dX3_init_35 : decode cX3_init 35 = .ok (.aload_n 0, 1) := by decide +kernel
theorem dX3_init_36 : decode cX3_init 36 = .ok (.iconst 4, 1) := by decide +kernel
theorem dX3_init_37 : decode cX3_init 37 = .ok (.newarray .int, 2) := by decide +kernel
theorem dX3_init_39 : decode cX3_init 39 = .ok (.putfield 23, 3) := by decide +kernel
theorem dX3_init_42 : decode cX3_init 42 = .ok (.aload_n 0, 1) := by decide +kernel
theorem dX3_init_43 : decode cX3_init 43 = .ok (.new 26, 3) := by decide +kernel
theorem dX3_init_46 : decode cX3_init 46 = .ok (.dup, 1) := by decide +kernel
theorem dX3_init_47 : decode cX3_init 47 = .ok (.invokespecial 28, 3) := by decide +kernel
theorem dX3_init_50 : decode cX3_init 50 = .ok (.putfield 29, 3) := by decide +kernel
theorem dX3_init_53 : decode cX3_init 53 = .ok (.aload_n 0, 1) := by decide +kernel
theorem dX3_init_54 : decode cX3_init 54 = .ok (.new 26, 3) := by decide +kernel
theorem dX3_init_57 : decode cX3_init 57 = .ok (.dup, 1) := by decide +kernel
theorem dX3_init_58 : decode cX3_init 58 = .ok (.invokespecial 28, 3) := by decide +kernel
theorem dX3_init_61 : decode cX3_init 61 = .ok (.putfield 33, 3) := by decide +kernel
theorem dX3_init_64 : decode cX3_init 64 = .ok (.aload_n 0, 1) := by decide +kernel
theorem dX3_init_65 : decode cX3_init 65 = .ok (.new 36, 3) := by decide +kernel
theorem dX3_init_68 : decode cX3_init 68 = .ok (.dup, 1) := by decide +kernel
theorem dX3_init_69 : decode cX3_init 69 = .ok (.invokespecial 38, 3) := by decide +kernel
theorem dX3_init_72 : decode cX3_init 72 = .ok (.putfield 39, 3) := by decide +kernel
theorem dX3_init_75 : decode cX3_init 75 = .ok (.aload_n 0, 1) := by decide +kernel
theorem dX3_init_76 : decode cX3_init 76 = .ok (.iconst 3, 1) := by decide +kernel
theorem dX3_init_77 : decode cX3_init 77 = .ok (.anewarray 36, 3) := by decide +kernel
theorem dX3_init_80 : decode cX3_init 80 = .ok (.putfield 43, 3) := by decide +kernel
theorem dX3_init_83 : decode cX3_init 83 = .ok (.aload_n 0, 1) := by decide +kernel
theorem dX3_init_84 : decode cX3_init 84 = .ok (.new 26, 3) := by decide +kernel
theorem dX3_init_87 : decode cX3_init 87 = .ok (.dup, 1) := by decide +kernel
theorem dX3_init_88 : decode cX3_init 88 = .ok (.invokespecial 28, 3) := by decide +kernel
theorem dX3_init_91 : decode cX3_init 91 = .ok (.putfield 47, 3) := by decide +kernel
theorem dX3_init_94 : decode cX3_init 94 = .ok (.aload_n 0, 1) := by decide +kernel
theorem dX3_init_95 : decode cX3_init 95 = .ok (.new 26, 3) := by decide +kernel
theorem dX3_init_98 : decode cX3_init 98 = .ok (.dup, 1) := by decide +kernel
theorem dX3_init_99 : decode cX3_init 99 = .ok (.invokespecial 28, 3) := by decide +kernel
theorem dX3_init_102 : decode cX3_init 102 = .ok (.putfield 50, 3) := by decide +kernel
theorem dX3_init_105 : decode cX3_init 105 = .ok (.aload_n 0, 1) := by decide +kernel
theorem dX3_init_106 : decode cX3_init 106 = .ok (.bipush 7, 2) := by decide +kernel
theorem dX3_init_108 : decode cX3_init 108 = .ok (.newarray .int, 2) := by decide +kernel
theorem dX3_init_110 : decode cX3_init 110 = .ok (.putfield 53, 3) := by decide +kernel
theorem dX3_init_113 : decode cX3_init 113 = .ok (.aload_n 0, 1) := by decide +kernel
theorem dX3_init_114 : decode cX3_init 114 = .ok (.bipush 6, 2) := by decide +kernel
theorem dX3_init_116 : decode cX3_init 116 = .ok (.bipush 20, 2) := by decide +kernel
theorem dX3_init_118 : decode cX3_init 118 = .ok (.multianewarray 9 2, 4) := by decide +kernel
theorem dX3_init_122 : decode cX3_init 122 = .ok (.putfield 56, 3) := by decide +kernel
theorem dX3_init_125 : decode cX3_init 125 = .ok (.aload_n 0, 1) := by decide +kernel
theorem dX3_init_126 : decode cX3_init 126 = .ok (.iconst 0, 1) := by decide +kernel
theorem dX3_init_127 : decode cX3_init 127 = .ok (.putfield 59, 3) := by decide +kernel
theorem dX3_init_130 : decode cX3_init 130 = .ok (.aload_n 0, 1) := by decide +kernel
theorem dX3_init_131 : decode cX3_init 131 = .ok (.lconst 0, 1) := by decide +kernel
theorem dX3_init_132 : decode cX3_init 132 = .ok (.putfield 63, 3) := by decide +kernel
theorem dX3_init_135 : decode cX3_init 135 = .ok (.aload_n 0, 1) := by decide +kernel
theorem dX3_init_136 : decode cX3_init 136 = .ok (.lconst 1, 1) := by decide +kernel
theorem dX3_init_137 : decode cX3_init 137 = .ok (.putfield 67, 3) := by decide +kernel
theorem dX3_init_140 : decode cX3_init 140 = .ok (.aload_n 0, 1) := by decide +kernel
theorem dX3_init_141 : decode cX3_init 141 = .ok (.iconst 0, 1) := by decide +kernel
theorem dX3_init_142 : decode cX3_init 142 = .ok (.putfield 70, 3) := by decide +kernel
theorem dX3_init_145 : decode cX3_init 145 = .ok (.aload_n 0, 1) := by decide +kernel
theorem dX3_init_146 : decode cX3_init 146 = .ok (.bipush 6, 2) := by decide +kernel
theorem dX3_init_148 : decode cX3_init 148 = .ok (.newarray .int, 2) := by decide +kernel
theorem dX3_init_150 : decode cX3_init 150 = .ok (.putfield 73, 3) := by decide +kernel
theorem dX3_init_153 : decode cX3_init 153 = .ok (.iconst 0, 1) := by decide +kernel
theorem dX3_init_154 : decode cX3_init 154 = .ok (.istore_n 1, 1) := by decide +kernel
theorem dX3_init_155 : decode cX3_init 155 = .ok (.iload_n 1, 1) := by decide +kernel
theorem dX3_init_156 : decode cX3_init 156 = .ok (.bipush 6, 2) := by decide +kernel
theorem dX3_init_158 : decode cX3_init 158 = .ok (.if_icmp .ge 16, 3) := by decide +kernel
theorem dX3_init_161 : decode cX3_init 161 = .ok (.aload_n 0, 1) := by decide +kernel
theorem dX3_init_162 : decode cX3_init 162 = .ok (.getfield 14, 3) := by decide +kernel
theorem dX3_init_165 : decode cX3_init 165 = .ok (.iload_n 1, 1) := by decide +kernel
theorem dX3_init_166 : decode cX3_init 166 = .ok (.iconst (-1), 1) := by decide +kernel
theorem dX3_init_167 : decode cX3_init 167 = .ok (.iastore, 1) := by decide +kernel
theorem dX3_init_168 : decode cX3_init 168 = .ok (.iinc 1 1, 3) := by decide +kernel
theorem dX3_init_171 : decode cX3_init 171 = .ok (.goto (-16), 3) := by decide +kernel
theorem dX3_init_174 : decode cX3_init 174 = .ok (.iconst 0, 1) := by decide +kernel
theorem dX3_init_175 : decode cX3_init 175 = .ok (.istore_n 1, 1) := by decide +kernel
theorem dX3_init_176 : decode cX3_init 176 = .ok (.iload_n 1, 1) := by decide +kernel
theorem dX3_init_177 : decode cX3_init 177 = .ok (.iconst 4, 1) := by decide +kernel
theorem dX3_init_178 : decode cX3_init 178 = .ok (.if_icmp .ge 16, 3) := by decide +kernel
theorem dX3_init_181 : decode cX3_init 181 = .ok (.aload_n 0, 1) := by decide +kernel
theorem dX3_init_182 : decode cX3_init 182 = .ok (.getfield 23, 3) := by decide +kernel
theorem dX3_init_185 : decode cX3_init 185 = .ok (.iload_n 1, 1) := by decide +kernel
theorem dX3_init_186 : decode cX3_init 186 = .ok (.iconst (-1), 1) := by decide +kernel
theorem dX3_init_187 : decode cX3_init 187 = .ok (.iastore, 1) := by decide +kernel
theorem dX3_init_188 : decode cX3_init 188 = .ok (.iinc 1 1, 3) := by decide +kernel
theorem dX3_init_191 : decode cX3_init 191 = .ok (.goto (-15), 3) := by decide +kernel
theorem dX3_init_194 : decode cX3_init 194 = .ok (.iconst 0, 1) := by decide +kernel
theorem dX3_init_195 : decode cX3_init 195 = .ok (.istore_n 1, 1) := by decide +kernel
theorem dX3_init_196 : decode cX3_init 196 = .ok (.iload_n 1, 1) := by decide +kernel
theorem dX3_init_197 : decode cX3_init 197 = .ok (.iconst 3, 1) := by decide +kernel
theorem dX3_init_198 : decode cX3_init 198 = .ok (.if_icmp .ge 32, 3) := by decide +kernel
theorem dX3_init_201 : decode cX3_init 201 = .ok (.aload_n 0, 1) := by decide +kernel
theorem dX3_init_202 : decode cX3_init 202 = .ok (.getfield 43, 3) := by decide +kernel
theorem dX3_init_205 : decode cX3_init 205 = .ok (.iload_n 1, 1) := by decide +kernel
theorem dX3_init_206 : decode cX3_init 206 = .ok (.new 36, 3) := by decide +kernel
theorem dX3_init_209 : decode cX3_init 209 = .ok (.dup, 1) := by decide +kernel
theorem dX3_init_210 : decode cX3_init 210 = .ok (.invokespecial 38, 3) := by decide +kernel
theorem dX3_init_213 : decode cX3_init 213 = .ok (.aastore, 1) := by decide +kernel
theorem dX3_init_214 : decode cX3_init 214 = .ok (.aload_n 0, 1) := by decide +kernel
theorem dX3_init_215 : decode cX3_init 215 = .ok (.getfield 43, 3) := by decide +kernel
theorem dX3_init_218 : decode cX3_init 218 = .ok (.iload_n 1, 1) := by decide +kernel
theorem dX3_init_219 : decode cX3_init 219 = .ok (.aaload, 1) := by decide +kernel
theorem dX3_init_220 : decode cX3_init 220 = .ok (.iconst (-1), 1) := by decide +kernel
theorem dX3_init_221 : decode cX3_init 221 = .ok (.putfield 76, 3) := by decide +kernel
theorem dX3_init_224 : decode cX3_init 224 = .ok (.iinc 1 1, 3) := by decide +kernel
theorem dX3_init_227 : decode cX3_init 227 = .ok (.goto (-31), 3) := by decide +kernel
theorem dX3_init_230 : decode cX3_init 230 = .ok (.return_, 1) := by decide +kernel
def kk_mtx (cO cI : ClassId) (N K q h : Nat) : va_W := (q, .inl (cO, N, .inr (.inr (.inr (.inr (fun i => some (h + i))))))) :: kk_rows cI N K h
def kw3 (C : Nat → ClassId) (x : Nat) (r : kk_S) : va_W := [(x, .inr (3, [.ref (r 0 0), .ref (r 0 1), .ref (r 0 2), .ref (r 0 3), .ref (r 0 4), .ref (r 0 5), .ref (r 0 6), .ref (r 0 7), .ref (r 0 8), .ref (r 0 9), .ref (r 0 10), .ref (r 0 11), .int 0, .long 0, .long 1, .int 0, .ref (r 0 16)])), ((r 0 1), .inl (C 6, 6, .inl (fun j => if j < 6 then -1 else 0))), ((r 0 3), .inl (C 6, 4, .inl (fun j => if j < 4 then -1 else 0))), ((r 0 7), .inl (C 7, 3, .inr (.inr (.inr (.inr (fun i => some (r 1 i))))))), ((r 1 0), .inr (1, [.ref ((r 2 0)), .int (-1)])), ((r 1 1), .inr (1, [.ref ((r 2 1)), .int (-1)])), ((r 1 2), .inr (1, [.ref ((r 2 2)), .int (-1)]))] ++ ((((((((((((kk_mtx (C 10) (C 6) 6 40 (r 0 0) (r 3 0) ++ kk_mtx (C 9) (C 5) 4 60 (r 0 2) (r 3 2)) ++ kw0 C (r 0 4) (fun _ => r 4)) ++ kw0 C (r 0 5) (fun _ => r 5)) ++ kw1 C (r 0 6) (fun _ => r 6)) ++ kw0 C (r 0 8) (fun _ => r 8)) ++ kw0 C (r 0 9) (fun _ => r 9)) ++ [((r 0 10), .inl (C 6, 7, .inl (fun _ => 0)))]) ++ kk_mtx (C 10) (C 6) 6 20 (r 0 11) (r 3 11)) ++ [((r 0 16), .inl (C 6, 6, .inl (fun _ => 0)))]) ++ [((r 2 0), .inl (C 6, 40, .inl (fun _ => 0)))]) ++ [((r 2 1), .inl (C 6, 40, .inl (fun _ => 0)))]) ++ [((r 2 2), .inl (C 6, 40, .inl (fun _ => 0)))])
theorem inX3_init3 : ∀ w ∈ u_ws RX3 TX3 17, w ∈ wsX3_init := by decide +kernel
theorem inX3_init0 : ∀ w ∈ u_ws RX0 TX0 6, w ∈ wsX3_init := by decide +kernel
theorem inX3_init1 : ∀ w ∈ u_ws RX1 TX1 2, w ∈ wsX3_init := by decide +kernel
abbrev rmX3_init : Room := { frames := 3, cells := 68, slots := 1030, locals := 80 }
set_option maxHeartbeats 4000000 in
set_option maxRecDepth 100000 in
theorem kM_X3 (l : Launch) (D : va_G) (C : Nat → ClassId) : kk_M l yX3_init wsX3_init rmX3_init D C (.inr (3, [.null, .null, .null, .null, .null, .null, .null, .null, .null, .null, .null, .null, .int 0, .long 0, .long 0, .int 0, .null])) (kw3 C) 68 1030 := by
  refine kk_of (own := RX3) (by decide) rfl rfl rfl (by decide) (fun E x hE X hin hr => ?_)
  refine k_aload_n (pc := 0) X 0 0 dX3_init_0 rfl rfl ?_
  refine k_obj (pc := 1) X (List.mem_of_getElem? (i := 1) rfl) (List.mem_of_getElem? (i := 2) rfl) (List.mem_of_getElem? (i := 3) rfl) (Nat.le_of_ble_eq_true rfl) (Nat.le_of_ble_eq_true rfl) dX3_init_1 ?_
  refine k_aload_n (pc := 4) X 0 0 dX3_init_4 rfl rfl ?_
  refine k_bipush (pc := 5) X (6 : Int32) dX3_init_5 (by decide) ?_
  refine k_bipush (pc := 7) X (40 : Int32) dX3_init_7 (by decide) ?_
  refine k_mna (pc := 9) X 6 40 X.tt.2.1 (nm := "[[I") (by decide) (List.mem_of_getElem? (i := 4) rfl) rfl rfl (by decide) (by decide) (by decide) (by decide) (Nat.le_of_ble_eq_true rfl) (Nat.le_of_ble_eq_true rfl) (Nat.le_of_ble_eq_true rfl) (Nat.le_of_ble_eq_true rfl) (Nat.le_of_ble_eq_true rfl) dX3_init_9 (fun q0 h0 => ?_)
  generalize hF1 : (((q0, .inl (C 10, 6, .inr (.inr (.inr (.inr (fun i => some (h0 + i))))))) :: kk_rows (C 6) 6 40 h0) : va_W) = F1
  refine k_putF (pc := 13) X hin 0 0 (ws' := [(x, .inr (3, [.ref q0, .null, .null, .null, .null, .null, .null, .null, .null, .null, .null, .null, .int 0, .long 0, .long 0, .int 0, .null]))] ++ F1) rfl rfl inX3_init3 tyX3 tyX3_ok nmX3 (by decide) (List.mem_of_getElem? (i := 6) rfl) rfl rfl (ty := .array (.array .int)) (by decide +kernel) rfl rfl (Nat.le_of_ble_eq_true rfl) rfl dX3_init_13 ?_
  refine k_aload_n (pc := 16) X 0 0 dX3_init_16 rfl rfl ?_
  refine k_bipush (pc := 17) X (6 : Int32) dX3_init_17 (by decide) ?_
  refine k_newi (pc := 19) X 6 (List.mem_of_getElem? (i := 5) rfl) (by decide) (by decide) (Nat.le_of_ble_eq_true rfl) (Nat.le_of_ble_eq_true rfl) (Nat.le_of_ble_eq_true rfl) dX3_init_19 (fun q1 => ?_)
  refine k_layX (X0 := [(x, .inr (3, [.ref q0, .null, .null, .null, .null, .null, .null, .null, .null, .null, .null, .null, .int 0, .long 0, .long 0, .int 0, .null]))]) (F := F1) (a := [(q1, .inl (C 6, 6, .inl (fun _ => 0)))]) ?_
  refine k_putF (pc := 21) X hin 0 1 (ws' := [(x, .inr (3, [.ref q0, .ref q1, .null, .null, .null, .null, .null, .null, .null, .null, .null, .null, .int 0, .long 0, .long 0, .int 0, .null])), (q1, .inl (C 6, 6, .inl (fun _ => 0)))] ++ F1) rfl rfl inX3_init3 tyX3 tyX3_ok nmX3 (by decide) (List.mem_of_getElem? (i := 7) rfl) rfl rfl (ty := .array .int) (by decide +kernel) rfl rfl (Nat.le_of_ble_eq_true rfl) rfl dX3_init_21 ?_
  refine k_aload_n (pc := 24) X 0 0 dX3_init_24 rfl rfl ?_
  refine k_iconst (pc := 25) X (4 : Int32) dX3_init_25 (by decide) ?_
  refine k_bipush (pc := 26) X (60 : Int32) dX3_init_26 (by decide) ?_
  refine k_mna (pc := 28) X 4 60 X.tt.2.2.1 (nm := "[[B") (by decide) (List.mem_of_getElem? (i := 8) rfl) rfl rfl (by decide) (by decide) (by decide) (by decide) (Nat.le_of_ble_eq_true rfl) (Nat.le_of_ble_eq_true rfl) (Nat.le_of_ble_eq_true rfl) (Nat.le_of_ble_eq_true rfl) (Nat.le_of_ble_eq_true rfl) dX3_init_28 (fun q2 h2 => ?_)
  refine k_layF (X0 := [(x, .inr (3, [.ref q0, .ref q1, .null, .null, .null, .null, .null, .null, .null, .null, .null, .null, .int 0, .long 0, .long 0, .int 0, .null])), (q1, .inl (C 6, 6, .inl (fun _ => 0)))]) (F := F1) (b := ((q2, .inl (C 9, 4, .inr (.inr (.inr (.inr (fun i => some (h2 + i))))))) :: kk_rows (C 5) 4 60 h2)) ?_
  generalize hF2 : F1 ++ ((q2, .inl (C 9, 4, .inr (.inr (.inr (.inr (fun i => some (h2 + i))))))) :: kk_rows (C 5) 4 60 h2) = F2
  refine k_putF (pc := 32) X hin 0 2 (ws' := [(x, .inr (3, [.ref q0, .ref q1, .ref q2, .null, .null, .null, .null, .null, .null, .null, .null, .null, .int 0, .long 0, .long 0, .int 0, .null])), (q1, .inl (C 6, 6, .inl (fun _ => 0)))] ++ F2) rfl rfl inX3_init3 tyX3 tyX3_ok nmX3 (by decide) (List.mem_of_getElem? (i := 10) rfl) rfl rfl (ty := .array (.array .byte)) (by decide +kernel) rfl rfl (Nat.le_of_ble_eq_true rfl) rfl dX3_init_32 ?_
  refine k_aload_n (pc := 35) X 0 0 dX3_init_35 rfl rfl ?_
  refine k_iconst (pc := 36) X (4 : Int32) dX3_init_36 (by decide) ?_
  refine k_newi (pc := 37) X 4 (List.mem_of_getElem? (i := 5) rfl) (by decide) (by decide) (Nat.le_of_ble_eq_true rfl) (Nat.le_of_ble_eq_true rfl) (Nat.le_of_ble_eq_true rfl) dX3_init_37 (fun q3 => ?_)
  refine k_layX (X0 := [(x, .inr (3, [.ref q0, .ref q1, .ref q2, .null, .null, .null, .null, .null, .null, .null, .null, .null, .int 0, .long 0, .long 0, .int 0, .null])), (q1, .inl (C 6, 6, .inl (fun _ => 0)))]) (F := F2) (a := [(q3, .inl (C 6, 4, .inl (fun _ => 0)))]) ?_
  refine k_putF (pc := 39) X hin 0 3 (ws' := [(x, .inr (3, [.ref q0, .ref q1, .ref q2, .ref q3, .null, .null, .null, .null, .null, .null, .null, .null, .int 0, .long 0, .long 0, .int 0, .null])), (q1, .inl (C 6, 6, .inl (fun _ => 0))), (q3, .inl (C 6, 4, .inl (fun _ => 0)))] ++ F2) rfl rfl inX3_init3 tyX3 tyX3_ok nmX3 (by decide) (List.mem_of_getElem? (i := 11) rfl) rfl rfl (ty := .array .int) (by decide +kernel) rfl rfl (Nat.le_of_ble_eq_true rfl) rfl dX3_init_39 ?_
  refine k_aload_n (pc := 42) X 0 0 dX3_init_42 rfl rfl ?_
  refine k_make (pc := 43) X (kM_X0 _ D C) rfl inX3_init0 tyX0 tyX0_ok (by decide +kernel) (List.mem_of_getElem? (i := 12) rfl) (List.mem_of_getElem? (i := 13) rfl) (List.mem_of_getElem? (i := 14) rfl) (List.mem_of_getElem? (i := 32) rfl) (List.mem_of_getElem? (i := 33) rfl) gX3_init_X0_init rfl ⟨rfl, rfl⟩ rfl rfl (by decide +kernel) ⟨(Nat.le_of_ble_eq_true rfl), (Nat.le_of_ble_eq_true rfl)⟩ (Nat.le_of_ble_eq_true rfl) (Nat.le_of_ble_eq_true rfl) (fun _ => (Nat.le_of_ble_eq_true rfl)) dX3_init_43 dX3_init_46 dX3_init_47 (fun q4 r4 => ?_)
  refine k_layF (X0 := [(x, .inr (3, [.ref q0, .ref q1, .ref q2, .ref q3, .null, .null, .null, .null, .null, .null, .null, .null, .int 0, .long 0, .long 0, .int 0, .null])), (q1, .inl (C 6, 6, .inl (fun _ => 0))), (q3, .inl (C 6, 4, .inl (fun _ => 0)))]) (F := F2) (b := kw0 C q4 r4) ?_
  generalize hF3 : F2 ++ kw0 C q4 r4 = F3
  refine k_putF (pc := 50) X hin 0 4 (ws' := [(x, .inr (3, [.ref q0, .ref q1, .ref q2, .ref q3, .ref q4, .null, .null, .null, .null, .null, .null, .null, .int 0, .long 0, .long 0, .int 0, .null])), (q1, .inl (C 6, 6, .inl (fun _ => 0))), (q3, .inl (C 6, 4, .inl (fun _ => 0)))] ++ F3) rfl rfl inX3_init3 tyX3 tyX3_ok nmX3 (by decide) (List.mem_of_getElem? (i := 15) rfl) rfl rfl (ty := .object "AirTalkers$Air") (by decide +kernel) rfl rfl (Nat.le_of_ble_eq_true rfl) rfl dX3_init_50 ?_
  refine k_aload_n (pc := 53) X 0 0 dX3_init_53 rfl rfl ?_
  refine k_make (pc := 54) X (kM_X0 _ D C) rfl inX3_init0 tyX0 tyX0_ok (by decide +kernel) (List.mem_of_getElem? (i := 12) rfl) (List.mem_of_getElem? (i := 13) rfl) (List.mem_of_getElem? (i := 14) rfl) (List.mem_of_getElem? (i := 32) rfl) (List.mem_of_getElem? (i := 33) rfl) gX3_init_X0_init rfl ⟨rfl, rfl⟩ rfl rfl (by decide +kernel) ⟨(Nat.le_of_ble_eq_true rfl), (Nat.le_of_ble_eq_true rfl)⟩ (Nat.le_of_ble_eq_true rfl) (Nat.le_of_ble_eq_true rfl) (fun _ => (Nat.le_of_ble_eq_true rfl)) dX3_init_54 dX3_init_57 dX3_init_58 (fun q5 r5 => ?_)
  refine k_layF (X0 := [(x, .inr (3, [.ref q0, .ref q1, .ref q2, .ref q3, .ref q4, .null, .null, .null, .null, .null, .null, .null, .int 0, .long 0, .long 0, .int 0, .null])), (q1, .inl (C 6, 6, .inl (fun _ => 0))), (q3, .inl (C 6, 4, .inl (fun _ => 0)))]) (F := F3) (b := kw0 C q5 r5) ?_
  generalize hF4 : F3 ++ kw0 C q5 r5 = F4
  refine k_putF (pc := 61) X hin 0 5 (ws' := [(x, .inr (3, [.ref q0, .ref q1, .ref q2, .ref q3, .ref q4, .ref q5, .null, .null, .null, .null, .null, .null, .int 0, .long 0, .long 0, .int 0, .null])), (q1, .inl (C 6, 6, .inl (fun _ => 0))), (q3, .inl (C 6, 4, .inl (fun _ => 0)))] ++ F4) rfl rfl inX3_init3 tyX3 tyX3_ok nmX3 (by decide) (List.mem_of_getElem? (i := 16) rfl) rfl rfl (ty := .object "AirTalkers$Air") (by decide +kernel) rfl rfl (Nat.le_of_ble_eq_true rfl) rfl dX3_init_61 ?_
  refine k_aload_n (pc := 64) X 0 0 dX3_init_64 rfl rfl ?_
  refine k_makeN (pc := 65) X (kM_X1 _ D C) rfl inX3_init1 tyX1 tyX1_ok (by decide +kernel) (List.mem_of_getElem? (i := 17) rfl) (List.mem_of_getElem? (i := 18) rfl) (List.mem_of_getElem? (i := 19) rfl) X.tt.2.2.2.2.2.2 (List.mem_of_getElem? (i := 48) rfl) gX3_init_X1_init_n38 rfl ⟨rfl, rfl⟩ rfl rfl (by decide +kernel) ⟨(Nat.le_of_ble_eq_true rfl), (Nat.le_of_ble_eq_true rfl)⟩ (Nat.le_of_ble_eq_true rfl) (Nat.le_of_ble_eq_true rfl) (fun _ => (Nat.le_of_ble_eq_true rfl)) dX3_init_65 dX3_init_68 dX3_init_69 (fun q6 r6 => ?_)
  refine k_layF (X0 := [(x, .inr (3, [.ref q0, .ref q1, .ref q2, .ref q3, .ref q4, .ref q5, .null, .null, .null, .null, .null, .null, .int 0, .long 0, .long 0, .int 0, .null])), (q1, .inl (C 6, 6, .inl (fun _ => 0))), (q3, .inl (C 6, 4, .inl (fun _ => 0)))]) (F := F4) (b := kw1 C q6 r6) ?_
  generalize hF5 : F4 ++ kw1 C q6 r6 = F5
  refine k_putF (pc := 72) X hin 0 6 (ws' := [(x, .inr (3, [.ref q0, .ref q1, .ref q2, .ref q3, .ref q4, .ref q5, .ref q6, .null, .null, .null, .null, .null, .int 0, .long 0, .long 0, .int 0, .null])), (q1, .inl (C 6, 6, .inl (fun _ => 0))), (q3, .inl (C 6, 4, .inl (fun _ => 0)))] ++ F5) rfl rfl inX3_init3 tyX3 tyX3_ok nmX3 (by decide) (List.mem_of_getElem? (i := 20) rfl) rfl rfl (ty := .object "AirTalkers$Deeds") (by decide +kernel) rfl rfl (Nat.le_of_ble_eq_true rfl) rfl dX3_init_72 ?_
  refine k_aload_n (pc := 75) X 0 0 dX3_init_75 rfl rfl ?_
  refine k_iconst (pc := 76) X (3 : Int32) dX3_init_76 (by decide) ?_
  refine k_newq (pc := 77) X 3 2 rfl X.tt.2.2.2.2.1 (List.mem_of_getElem? (i := 17) rfl) (by decide) (by decide) (Nat.le_of_ble_eq_true rfl) (Nat.le_of_ble_eq_true rfl) (Nat.le_of_ble_eq_true rfl) dX3_init_77 (fun q7 => ?_)
  refine k_layX (X0 := [(x, .inr (3, [.ref q0, .ref q1, .ref q2, .ref q3, .ref q4, .ref q5, .ref q6, .null, .null, .null, .null, .null, .int 0, .long 0, .long 0, .int 0, .null])), (q1, .inl (C 6, 6, .inl (fun _ => 0))), (q3, .inl (C 6, 4, .inl (fun _ => 0)))]) (F := F5) (a := [(q7, .inl (C 7, 3, .inr (.inr (.inr (.inr (fun _ => none))))))]) ?_
  refine k_putF (pc := 80) X hin 0 7 (ws' := [(x, .inr (3, [.ref q0, .ref q1, .ref q2, .ref q3, .ref q4, .ref q5, .ref q6, .ref q7, .null, .null, .null, .null, .int 0, .long 0, .long 0, .int 0, .null])), (q1, .inl (C 6, 6, .inl (fun _ => 0))), (q3, .inl (C 6, 4, .inl (fun _ => 0))), (q7, .inl (C 7, 3, .inr (.inr (.inr (.inr (fun _ => none))))))] ++ F5) rfl rfl inX3_init3 tyX3 tyX3_ok nmX3 (by decide) (List.mem_of_getElem? (i := 21) rfl) rfl rfl (ty := .array (.object "AirTalkers$Deeds")) (by decide +kernel) rfl rfl (Nat.le_of_ble_eq_true rfl) rfl dX3_init_80 ?_
  refine k_aload_n (pc := 83) X 0 0 dX3_init_83 rfl rfl ?_
  refine k_make (pc := 84) X (kM_X0 _ D C) rfl inX3_init0 tyX0 tyX0_ok (by decide +kernel) (List.mem_of_getElem? (i := 12) rfl) (List.mem_of_getElem? (i := 13) rfl) (List.mem_of_getElem? (i := 14) rfl) (List.mem_of_getElem? (i := 32) rfl) (List.mem_of_getElem? (i := 33) rfl) gX3_init_X0_init rfl ⟨rfl, rfl⟩ rfl rfl (by decide +kernel) ⟨(Nat.le_of_ble_eq_true rfl), (Nat.le_of_ble_eq_true rfl)⟩ (Nat.le_of_ble_eq_true rfl) (Nat.le_of_ble_eq_true rfl) (fun _ => (Nat.le_of_ble_eq_true rfl)) dX3_init_84 dX3_init_87 dX3_init_88 (fun q8 r8 => ?_)
  refine k_layF (X0 := [(x, .inr (3, [.ref q0, .ref q1, .ref q2, .ref q3, .ref q4, .ref q5, .ref q6, .ref q7, .null, .null, .null, .null, .int 0, .long 0, .long 0, .int 0, .null])), (q1, .inl (C 6, 6, .inl (fun _ => 0))), (q3, .inl (C 6, 4, .inl (fun _ => 0))), (q7, .inl (C 7, 3, .inr (.inr (.inr (.inr (fun _ => none))))))]) (F := F5) (b := kw0 C q8 r8) ?_
  generalize hF6 : F5 ++ kw0 C q8 r8 = F6
  refine k_putF (pc := 91) X hin 0 8 (ws' := [(x, .inr (3, [.ref q0, .ref q1, .ref q2, .ref q3, .ref q4, .ref q5, .ref q6, .ref q7, .ref q8, .null, .null, .null, .int 0, .long 0, .long 0, .int 0, .null])), (q1, .inl (C 6, 6, .inl (fun _ => 0))), (q3, .inl (C 6, 4, .inl (fun _ => 0))), (q7, .inl (C 7, 3, .inr (.inr (.inr (.inr (fun _ => none))))))] ++ F6) rfl rfl inX3_init3 tyX3 tyX3_ok nmX3 (by decide) (List.mem_of_getElem? (i := 22) rfl) rfl rfl (ty := .object "AirTalkers$Air") (by decide +kernel) rfl rfl (Nat.le_of_ble_eq_true rfl) rfl dX3_init_91 ?_
  refine k_aload_n (pc := 94) X 0 0 dX3_init_94 rfl rfl ?_
  refine k_make (pc := 95) X (kM_X0 _ D C) rfl inX3_init0 tyX0 tyX0_ok (by decide +kernel) (List.mem_of_getElem? (i := 12) rfl) (List.mem_of_getElem? (i := 13) rfl) (List.mem_of_getElem? (i := 14) rfl) (List.mem_of_getElem? (i := 32) rfl) (List.mem_of_getElem? (i := 33) rfl) gX3_init_X0_init rfl ⟨rfl, rfl⟩ rfl rfl (by decide +kernel) ⟨(Nat.le_of_ble_eq_true rfl), (Nat.le_of_ble_eq_true rfl)⟩ (Nat.le_of_ble_eq_true rfl) (Nat.le_of_ble_eq_true rfl) (fun _ => (Nat.le_of_ble_eq_true rfl)) dX3_init_95 dX3_init_98 dX3_init_99 (fun q9 r9 => ?_)
  refine k_layF (X0 := [(x, .inr (3, [.ref q0, .ref q1, .ref q2, .ref q3, .ref q4, .ref q5, .ref q6, .ref q7, .ref q8, .null, .null, .null, .int 0, .long 0, .long 0, .int 0, .null])), (q1, .inl (C 6, 6, .inl (fun _ => 0))), (q3, .inl (C 6, 4, .inl (fun _ => 0))), (q7, .inl (C 7, 3, .inr (.inr (.inr (.inr (fun _ => none))))))]) (F := F6) (b := kw0 C q9 r9) ?_
  generalize hF7 : F6 ++ kw0 C q9 r9 = F7
  refine k_putF (pc := 102) X hin 0 9 (ws' := [(x, .inr (3, [.ref q0, .ref q1, .ref q2, .ref q3, .ref q4, .ref q5, .ref q6, .ref q7, .ref q8, .ref q9, .null, .null, .int 0, .long 0, .long 0, .int 0, .null])), (q1, .inl (C 6, 6, .inl (fun _ => 0))), (q3, .inl (C 6, 4, .inl (fun _ => 0))), (q7, .inl (C 7, 3, .inr (.inr (.inr (.inr (fun _ => none))))))] ++ F7) rfl rfl inX3_init3 tyX3 tyX3_ok nmX3 (by decide) (List.mem_of_getElem? (i := 23) rfl) rfl rfl (ty := .object "AirTalkers$Air") (by decide +kernel) rfl rfl (Nat.le_of_ble_eq_true rfl) rfl dX3_init_102 ?_
  refine k_aload_n (pc := 105) X 0 0 dX3_init_105 rfl rfl ?_
  refine k_bipush (pc := 106) X (7 : Int32) dX3_init_106 (by decide) ?_
  refine k_newi (pc := 108) X 7 (List.mem_of_getElem? (i := 5) rfl) (by decide) (by decide) (Nat.le_of_ble_eq_true rfl) (Nat.le_of_ble_eq_true rfl) (Nat.le_of_ble_eq_true rfl) dX3_init_108 (fun q10 => ?_)
  refine k_layF (X0 := [(x, .inr (3, [.ref q0, .ref q1, .ref q2, .ref q3, .ref q4, .ref q5, .ref q6, .ref q7, .ref q8, .ref q9, .null, .null, .int 0, .long 0, .long 0, .int 0, .null])), (q1, .inl (C 6, 6, .inl (fun _ => 0))), (q3, .inl (C 6, 4, .inl (fun _ => 0))), (q7, .inl (C 7, 3, .inr (.inr (.inr (.inr (fun _ => none))))))]) (F := F7) (b := [(q10, .inl (C 6, 7, .inl (fun _ => 0)))]) ?_
  generalize hF8 : F7 ++ [(q10, .inl (C 6, 7, .inl (fun _ => 0)))] = F8
  refine k_putF (pc := 110) X hin 0 10 (ws' := [(x, .inr (3, [.ref q0, .ref q1, .ref q2, .ref q3, .ref q4, .ref q5, .ref q6, .ref q7, .ref q8, .ref q9, .ref q10, .null, .int 0, .long 0, .long 0, .int 0, .null])), (q1, .inl (C 6, 6, .inl (fun _ => 0))), (q3, .inl (C 6, 4, .inl (fun _ => 0))), (q7, .inl (C 7, 3, .inr (.inr (.inr (.inr (fun _ => none))))))] ++ F8) rfl rfl inX3_init3 tyX3 tyX3_ok nmX3 (by decide) (List.mem_of_getElem? (i := 24) rfl) rfl rfl (ty := .array .int) (by decide +kernel) rfl rfl (Nat.le_of_ble_eq_true rfl) rfl dX3_init_110 ?_
  refine k_aload_n (pc := 113) X 0 0 dX3_init_113 rfl rfl ?_
  refine k_bipush (pc := 114) X (6 : Int32) dX3_init_114 (by decide) ?_
  refine k_bipush (pc := 116) X (20 : Int32) dX3_init_116 (by decide) ?_
  refine k_mna (pc := 118) X 6 20 X.tt.2.1 (nm := "[[I") (by decide) (List.mem_of_getElem? (i := 4) rfl) rfl rfl (by decide) (by decide) (by decide) (by decide) (Nat.le_of_ble_eq_true rfl) (Nat.le_of_ble_eq_true rfl) (Nat.le_of_ble_eq_true rfl) (Nat.le_of_ble_eq_true rfl) (Nat.le_of_ble_eq_true rfl) dX3_init_118 (fun q11 h11 => ?_)
  refine k_layF (X0 := [(x, .inr (3, [.ref q0, .ref q1, .ref q2, .ref q3, .ref q4, .ref q5, .ref q6, .ref q7, .ref q8, .ref q9, .ref q10, .null, .int 0, .long 0, .long 0, .int 0, .null])), (q1, .inl (C 6, 6, .inl (fun _ => 0))), (q3, .inl (C 6, 4, .inl (fun _ => 0))), (q7, .inl (C 7, 3, .inr (.inr (.inr (.inr (fun _ => none))))))]) (F := F8) (b := ((q11, .inl (C 10, 6, .inr (.inr (.inr (.inr (fun i => some (h11 + i))))))) :: kk_rows (C 6) 6 20 h11)) ?_
  generalize hF9 : F8 ++ ((q11, .inl (C 10, 6, .inr (.inr (.inr (.inr (fun i => some (h11 + i))))))) :: kk_rows (C 6) 6 20 h11) = F9
  refine k_putF (pc := 122) X hin 0 11 (ws' := [(x, .inr (3, [.ref q0, .ref q1, .ref q2, .ref q3, .ref q4, .ref q5, .ref q6, .ref q7, .ref q8, .ref q9, .ref q10, .ref q11, .int 0, .long 0, .long 0, .int 0, .null])), (q1, .inl (C 6, 6, .inl (fun _ => 0))), (q3, .inl (C 6, 4, .inl (fun _ => 0))), (q7, .inl (C 7, 3, .inr (.inr (.inr (.inr (fun _ => none))))))] ++ F9) rfl rfl inX3_init3 tyX3 tyX3_ok nmX3 (by decide) (List.mem_of_getElem? (i := 25) rfl) rfl rfl (ty := .array (.array .int)) (by decide +kernel) rfl rfl (Nat.le_of_ble_eq_true rfl) rfl dX3_init_122 ?_
  refine k_aload_n (pc := 125) X 0 0 dX3_init_125 rfl rfl ?_
  refine k_iconst (pc := 126) X (0 : Int32) dX3_init_126 ic_0 ?_
  refine k_put (pc := 127) X 0 12 (ws' := [(x, .inr (3, [.ref q0, .ref q1, .ref q2, .ref q3, .ref q4, .ref q5, .ref q6, .ref q7, .ref q8, .ref q9, .ref q10, .ref q11, .int 0, .long 0, .long 0, .int 0, .null])), (q1, .inl (C 6, 6, .inl (fun _ => 0))), (q3, .inl (C 6, 4, .inl (fun _ => 0))), (q7, .inl (C 7, 3, .inr (.inr (.inr (.inr (fun _ => none))))))] ++ F9) rfl rfl inX3_init3 tyX3 tyX3_ok nmX3 (by decide) (List.mem_of_getElem? (i := 26) rfl) rfl (ty := .int) (by decide +kernel) rfl rfl (Nat.le_of_ble_eq_true rfl) rfl dX3_init_127 ?_
  refine k_aload_n (pc := 130) X 0 0 dX3_init_130 rfl rfl ?_
  refine k_lconst (pc := 131) X (0 : Int64) dX3_init_131 rfl ?_
  refine k_put (pc := 132) X 0 13 (ws' := [(x, .inr (3, [.ref q0, .ref q1, .ref q2, .ref q3, .ref q4, .ref q5, .ref q6, .ref q7, .ref q8, .ref q9, .ref q10, .ref q11, .int 0, .long 0, .long 0, .int 0, .null])), (q1, .inl (C 6, 6, .inl (fun _ => 0))), (q3, .inl (C 6, 4, .inl (fun _ => 0))), (q7, .inl (C 7, 3, .inr (.inr (.inr (.inr (fun _ => none))))))] ++ F9) rfl rfl inX3_init3 tyX3 tyX3_ok nmX3 (by decide) (List.mem_of_getElem? (i := 27) rfl) rfl (ty := .long) (by decide +kernel) rfl rfl (Nat.le_of_ble_eq_true rfl) rfl dX3_init_132 ?_
  refine k_aload_n (pc := 135) X 0 0 dX3_init_135 rfl rfl ?_
  refine k_lconst (pc := 136) X (1 : Int64) dX3_init_136 rfl ?_
  refine k_put (pc := 137) X 0 14 (ws' := [(x, .inr (3, [.ref q0, .ref q1, .ref q2, .ref q3, .ref q4, .ref q5, .ref q6, .ref q7, .ref q8, .ref q9, .ref q10, .ref q11, .int 0, .long 0, .long 1, .int 0, .null])), (q1, .inl (C 6, 6, .inl (fun _ => 0))), (q3, .inl (C 6, 4, .inl (fun _ => 0))), (q7, .inl (C 7, 3, .inr (.inr (.inr (.inr (fun _ => none))))))] ++ F9) rfl rfl inX3_init3 tyX3 tyX3_ok nmX3 (by decide) (List.mem_of_getElem? (i := 28) rfl) rfl (ty := .long) (by decide +kernel) rfl rfl (Nat.le_of_ble_eq_true rfl) rfl dX3_init_137 ?_
  refine k_aload_n (pc := 140) X 0 0 dX3_init_140 rfl rfl ?_
  refine k_iconst (pc := 141) X (0 : Int32) dX3_init_141 ic_0 ?_
  refine k_put (pc := 142) X 0 15 (ws' := [(x, .inr (3, [.ref q0, .ref q1, .ref q2, .ref q3, .ref q4, .ref q5, .ref q6, .ref q7, .ref q8, .ref q9, .ref q10, .ref q11, .int 0, .long 0, .long 1, .int 0, .null])), (q1, .inl (C 6, 6, .inl (fun _ => 0))), (q3, .inl (C 6, 4, .inl (fun _ => 0))), (q7, .inl (C 7, 3, .inr (.inr (.inr (.inr (fun _ => none))))))] ++ F9) rfl rfl inX3_init3 tyX3 tyX3_ok nmX3 (by decide) (List.mem_of_getElem? (i := 29) rfl) rfl (ty := .int) (by decide +kernel) rfl rfl (Nat.le_of_ble_eq_true rfl) rfl dX3_init_142 ?_
  refine k_aload_n (pc := 145) X 0 0 dX3_init_145 rfl rfl ?_
  refine k_bipush (pc := 146) X (6 : Int32) dX3_init_146 (by decide) ?_
  refine k_newi (pc := 148) X 6 (List.mem_of_getElem? (i := 5) rfl) (by decide) (by decide) (Nat.le_of_ble_eq_true rfl) (Nat.le_of_ble_eq_true rfl) (Nat.le_of_ble_eq_true rfl) dX3_init_148 (fun q16 => ?_)
  refine k_layF (X0 := [(x, .inr (3, [.ref q0, .ref q1, .ref q2, .ref q3, .ref q4, .ref q5, .ref q6, .ref q7, .ref q8, .ref q9, .ref q10, .ref q11, .int 0, .long 0, .long 1, .int 0, .null])), (q1, .inl (C 6, 6, .inl (fun _ => 0))), (q3, .inl (C 6, 4, .inl (fun _ => 0))), (q7, .inl (C 7, 3, .inr (.inr (.inr (.inr (fun _ => none))))))]) (F := F9) (b := [(q16, .inl (C 6, 6, .inl (fun _ => 0)))]) ?_
  generalize hF10 : F9 ++ [(q16, .inl (C 6, 6, .inl (fun _ => 0)))] = F10
  refine k_putF (pc := 150) X hin 0 16 (ws' := [(x, .inr (3, [.ref q0, .ref q1, .ref q2, .ref q3, .ref q4, .ref q5, .ref q6, .ref q7, .ref q8, .ref q9, .ref q10, .ref q11, .int 0, .long 0, .long 1, .int 0, .ref q16])), (q1, .inl (C 6, 6, .inl (fun _ => 0))), (q3, .inl (C 6, 4, .inl (fun _ => 0))), (q7, .inl (C 7, 3, .inr (.inr (.inr (.inr (fun _ => none))))))] ++ F10) rfl rfl inX3_init3 tyX3 tyX3_ok nmX3 (by decide) (List.mem_of_getElem? (i := 30) rfl) rfl rfl (ty := .array .int) (by decide +kernel) rfl rfl (Nat.le_of_ble_eq_true rfl) rfl dX3_init_150 ?_
  refine k_iconst (pc := 153) X (nI 0) dX3_init_153 (by decide) ?_
  refine k_istore_n (pc := 154) X 1 [(1, .int (nI 0)), (0, .ref x)] dX3_init_154 rfl (by decide) rfl ?_
  refine k_ws (ws' := [(x, .inr (3, [.ref q0, .ref q1, .ref q2, .ref q3, .ref q4, .ref q5, .ref q6, .ref q7, .ref q8, .ref q9, .ref q10, .ref q11, .int 0, .long 0, .long 1, .int 0, .ref q16])), (q1, .inl (C 6, 6, .inl (fun j => if j < 0 then -1 else 0))), (q3, .inl (C 6, 4, .inl (fun _ => 0))), (q7, .inl (C 7, 3, .inr (.inr (.inr (.inr (fun _ => none))))))] ++ F10) (by rw [kf0]) ?_
  refine k_fill X (fun f => [(x, .inr (3, [.ref q0, .ref q1, .ref q2, .ref q3, .ref q4, .ref q5, .ref q6, .ref q7, .ref q8, .ref q9, .ref q10, .ref q11, .int 0, .long 0, .long 1, .int 0, .ref q16])), (q1, .inl (C 6, 6, .inl (f))), (q3, .inl (C 6, 4, .inl (fun _ => 0))), (q7, .inl (C 7, 3, .inr (.inr (.inr (.inr (fun _ => none))))))] ++ F10) 1 1 155 158 174 (by decide) (fun _ => rfl) (fun _ => rfl) (fun _ _ => rfl) rfl inX3_init3 (by decide) (List.mem_of_getElem? (i := 7) rfl) rfl (fun f k hk => ?_) dX3_init_158 (by decide) dX3_init_161 dX3_init_162 dX3_init_165 dX3_init_166 dX3_init_167 dX3_init_168 dX3_init_171 (by decide) ?_ 6 0 rfl
  · refine k_iload_n (pc := 155) X 1 0 dX3_init_155 rfl rfl ?_
    exact k_bipush (pc := 156) X (nI 6) dX3_init_156 (by decide) hk
  refine k_iconst (pc := 174) X (nI 0) dX3_init_174 (by decide) ?_
  refine k_istore_n (pc := 175) X 1 [(1, .int (nI 0)), (0, .ref x)] dX3_init_175 rfl (by decide) rfl ?_
  refine k_ws (ws' := [(x, .inr (3, [.ref q0, .ref q1, .ref q2, .ref q3, .ref q4, .ref q5, .ref q6, .ref q7, .ref q8, .ref q9, .ref q10, .ref q11, .int 0, .long 0, .long 1, .int 0, .ref q16])), (q1, .inl (C 6, 6, .inl (fun j => if j < 6 then -1 else 0))), (q3, .inl (C 6, 4, .inl (fun j => if j < 0 then -1 else 0))), (q7, .inl (C 7, 3, .inr (.inr (.inr (.inr (fun _ => none))))))] ++ F10) (by rw [kf0]) ?_
  refine k_fill X (fun f => [(x, .inr (3, [.ref q0, .ref q1, .ref q2, .ref q3, .ref q4, .ref q5, .ref q6, .ref q7, .ref q8, .ref q9, .ref q10, .ref q11, .int 0, .long 0, .long 1, .int 0, .ref q16])), (q1, .inl (C 6, 6, .inl (fun j => if j < 6 then -1 else 0))), (q3, .inl (C 6, 4, .inl (f))), (q7, .inl (C 7, 3, .inr (.inr (.inr (.inr (fun _ => none))))))] ++ F10) 2 3 176 178 194 (by decide) (fun _ => rfl) (fun _ => rfl) (fun _ _ => rfl) rfl inX3_init3 (by decide) (List.mem_of_getElem? (i := 11) rfl) rfl (fun f k hk => ?_) dX3_init_178 (by decide) dX3_init_181 dX3_init_182 dX3_init_185 dX3_init_186 dX3_init_187 dX3_init_188 dX3_init_191 (by decide) ?_ 4 0 rfl
  · refine k_iload_n (pc := 176) X 1 0 dX3_init_176 rfl rfl ?_
    exact k_iconst (pc := 177) X (nI 4) dX3_init_177 (by decide) hk
  refine k_iconst (pc := 194) X (nI 0) dX3_init_194 (by decide) ?_
  refine k_istore_n (pc := 195) X 1 [(1, .int (nI 0)), (0, .ref x)] dX3_init_195 rfl (by decide) rfl ?_
  refine k_iload_n (pc := 196) X 1 0 dX3_init_196 rfl rfl ?_
  refine k_iconst (pc := 197) X (3 : Int32) dX3_init_197 ic_3 ?_
  refine k_in (pc := 198) X (by decide) 230 dX3_init_198 (by decide) ?_
  refine k_aload_n (pc := 201) X 0 1 dX3_init_201 rfl rfl ?_
  refine k_get (pc := 202) X 0 7 (.ref q7) rfl rfl inX3_init3 (by decide) (List.mem_of_getElem? (i := 21) rfl) rfl dX3_init_202 ?_
  refine k_iload_n (pc := 205) X 1 0 dX3_init_205 rfl rfl ?_
  refine k_makeN (pc := 206) X (kM_X1 _ D C) rfl inX3_init1 tyX1 tyX1_ok (by decide +kernel) (List.mem_of_getElem? (i := 17) rfl) (List.mem_of_getElem? (i := 18) rfl) (List.mem_of_getElem? (i := 19) rfl) X.tt.2.2.2.2.2.2 (List.mem_of_getElem? (i := 48) rfl) gX3_init_X1_init_n38 rfl ⟨rfl, rfl⟩ rfl rfl (by decide +kernel) ⟨(Nat.le_of_ble_eq_true rfl), (Nat.le_of_ble_eq_true rfl)⟩ (Nat.le_of_ble_eq_true rfl) (Nat.le_of_ble_eq_true rfl) (fun _ => (Nat.le_of_ble_eq_true rfl)) dX3_init_206 dX3_init_209 dX3_init_210 (fun k0 s0 => ?_)
  refine k_lay (X0 := [(x, .inr (3, [.ref q0, .ref q1, .ref q2, .ref q3, .ref q4, .ref q5, .ref q6, .ref q7, .ref q8, .ref q9, .ref q10, .ref q11, .int 0, .long 0, .long 1, .int 0, .ref q16])), (q1, .inl (C 6, 6, .inl (fun j => if j < 6 then -1 else 0))), (q3, .inl (C 6, 4, .inl (fun j => if j < 4 then -1 else 0))), (q7, .inl (C 7, 3, .inr (.inr (.inr (.inr (fun _ => none))))))]) (F := F10) (a := [(k0, .inr (1, [.ref (s0 0 0), .int 0]))]) (b := [(s0 0 0, .inl (C 6, 40, .inl (fun _ => 0)))]) ?_
  generalize hF11 : F10 ++ [(s0 0 0, .inl (C 6, 40, .inl (fun _ => 0)))] = F11
  refine k_astq (pc := 213) X 3 2 4 0 (ws' := [(x, .inr (3, [.ref q0, .ref q1, .ref q2, .ref q3, .ref q4, .ref q5, .ref q6, .ref q7, .ref q8, .ref q9, .ref q10, .ref q11, .int 0, .long 0, .long 1, .int 0, .ref q16])), (q1, .inl (C 6, 6, .inl (fun j => if j < 6 then -1 else 0))), (q3, .inl (C 6, 4, .inl (fun j => if j < 4 then -1 else 0))), (q7, .inl (C 7, 3, .inr (.inr (.inr (.inr (va_up (fun _ => none) 0 (some k0))))))), (k0, .inr (1, [.ref (s0 0 0), .int (0)]))] ++ F11) rfl rfl rfl rfl (vp_in_nI (by decide) (by decide)) (nI_clamp (by decide)) rfl dX3_init_213 ?_
  refine k_aload_n (pc := 214) X 0 1 dX3_init_214 rfl rfl ?_
  refine k_get (pc := 215) X 0 7 (.ref q7) rfl rfl inX3_init3 (by decide) (List.mem_of_getElem? (i := 21) rfl) rfl dX3_init_215 ?_
  refine k_iload_n (pc := 218) X 1 0 dX3_init_218 rfl rfl ?_
  refine k_aldq (pc := 219) X 3 2 0 k0 rfl rfl (vp_in_nI (by decide) (by decide)) (nI_clamp (by decide)) rfl dX3_init_219 ?_
  refine k_iconst (pc := 220) X (-1 : Int32) dX3_init_220 ic_m1 ?_
  refine k_put (pc := 221) X 4 1 (ws' := [(x, .inr (3, [.ref q0, .ref q1, .ref q2, .ref q3, .ref q4, .ref q5, .ref q6, .ref q7, .ref q8, .ref q9, .ref q10, .ref q11, .int 0, .long 0, .long 1, .int 0, .ref q16])), (q1, .inl (C 6, 6, .inl (fun j => if j < 6 then -1 else 0))), (q3, .inl (C 6, 4, .inl (fun j => if j < 4 then -1 else 0))), (q7, .inl (C 7, 3, .inr (.inr (.inr (.inr (va_up (fun _ => none) 0 (some k0))))))), (k0, .inr (1, [.ref (s0 0 0), .int (-1)]))] ++ F11) rfl rfl inX3_init1 tyX1 tyX1_ok nmX1 (by decide) (List.mem_of_getElem? (i := 31) rfl) rfl (ty := .int) (by decide +kernel) rfl rfl (Nat.le_of_ble_eq_true rfl) rfl dX3_init_221 ?_
  refine k_iinc (pc := 224) X 1 0 (nI 1) [(1, .int (nI 1)), (0, .ref x)] dX3_init_224 rfl (by decide) (by decide) rfl ?_
  refine k_goto (pc := 227) X 196 dX3_init_227 (by decide) ?_
  refine k_iload_n (pc := 196) X 1 0 dX3_init_196 rfl rfl ?_
  refine k_iconst (pc := 197) X (3 : Int32) dX3_init_197 ic_3 ?_
  refine k_in (pc := 198) X (by decide) 230 dX3_init_198 (by decide) ?_
  refine k_aload_n (pc := 201) X 0 1 dX3_init_201 rfl rfl ?_
  refine k_get (pc := 202) X 0 7 (.ref q7) rfl rfl inX3_init3 (by decide) (List.mem_of_getElem? (i := 21) rfl) rfl dX3_init_202 ?_
  refine k_iload_n (pc := 205) X 1 0 dX3_init_205 rfl rfl ?_
  refine k_makeN (pc := 206) X (kM_X1 _ D C) rfl inX3_init1 tyX1 tyX1_ok (by decide +kernel) (List.mem_of_getElem? (i := 17) rfl) (List.mem_of_getElem? (i := 18) rfl) (List.mem_of_getElem? (i := 19) rfl) X.tt.2.2.2.2.2.2 (List.mem_of_getElem? (i := 48) rfl) gX3_init_X1_init_n38 rfl ⟨rfl, rfl⟩ rfl rfl (by decide +kernel) ⟨(Nat.le_of_ble_eq_true rfl), (Nat.le_of_ble_eq_true rfl)⟩ (Nat.le_of_ble_eq_true rfl) (Nat.le_of_ble_eq_true rfl) (fun _ => (Nat.le_of_ble_eq_true rfl)) dX3_init_206 dX3_init_209 dX3_init_210 (fun k1 s1 => ?_)
  refine k_lay (X0 := [(x, .inr (3, [.ref q0, .ref q1, .ref q2, .ref q3, .ref q4, .ref q5, .ref q6, .ref q7, .ref q8, .ref q9, .ref q10, .ref q11, .int 0, .long 0, .long 1, .int 0, .ref q16])), (q1, .inl (C 6, 6, .inl (fun j => if j < 6 then -1 else 0))), (q3, .inl (C 6, 4, .inl (fun j => if j < 4 then -1 else 0))), (q7, .inl (C 7, 3, .inr (.inr (.inr (.inr (va_up (fun _ => none) 0 (some k0))))))), (k0, .inr (1, [.ref (s0 0 0), .int (-1)]))]) (F := F11) (a := [(k1, .inr (1, [.ref (s1 0 0), .int 0]))]) (b := [(s1 0 0, .inl (C 6, 40, .inl (fun _ => 0)))]) ?_
  generalize hF12 : F11 ++ [(s1 0 0, .inl (C 6, 40, .inl (fun _ => 0)))] = F12
  refine k_astq (pc := 213) X 3 2 5 1 (ws' := [(x, .inr (3, [.ref q0, .ref q1, .ref q2, .ref q3, .ref q4, .ref q5, .ref q6, .ref q7, .ref q8, .ref q9, .ref q10, .ref q11, .int 0, .long 0, .long 1, .int 0, .ref q16])), (q1, .inl (C 6, 6, .inl (fun j => if j < 6 then -1 else 0))), (q3, .inl (C 6, 4, .inl (fun j => if j < 4 then -1 else 0))), (q7, .inl (C 7, 3, .inr (.inr (.inr (.inr (va_up (va_up (fun _ => none) 0 (some k0)) 1 (some k1))))))), (k0, .inr (1, [.ref (s0 0 0), .int (-1)])), (k1, .inr (1, [.ref (s1 0 0), .int (0)]))] ++ F12) rfl rfl rfl rfl (vp_in_nI (by decide) (by decide)) (nI_clamp (by decide)) rfl dX3_init_213 ?_
  refine k_aload_n (pc := 214) X 0 1 dX3_init_214 rfl rfl ?_
  refine k_get (pc := 215) X 0 7 (.ref q7) rfl rfl inX3_init3 (by decide) (List.mem_of_getElem? (i := 21) rfl) rfl dX3_init_215 ?_
  refine k_iload_n (pc := 218) X 1 0 dX3_init_218 rfl rfl ?_
  refine k_aldq (pc := 219) X 3 2 1 k1 rfl rfl (vp_in_nI (by decide) (by decide)) (nI_clamp (by decide)) rfl dX3_init_219 ?_
  refine k_iconst (pc := 220) X (-1 : Int32) dX3_init_220 ic_m1 ?_
  refine k_put (pc := 221) X 5 1 (ws' := [(x, .inr (3, [.ref q0, .ref q1, .ref q2, .ref q3, .ref q4, .ref q5, .ref q6, .ref q7, .ref q8, .ref q9, .ref q10, .ref q11, .int 0, .long 0, .long 1, .int 0, .ref q16])), (q1, .inl (C 6, 6, .inl (fun j => if j < 6 then -1 else 0))), (q3, .inl (C 6, 4, .inl (fun j => if j < 4 then -1 else 0))), (q7, .inl (C 7, 3, .inr (.inr (.inr (.inr (va_up (va_up (fun _ => none) 0 (some k0)) 1 (some k1))))))), (k0, .inr (1, [.ref (s0 0 0), .int (-1)])), (k1, .inr (1, [.ref (s1 0 0), .int (-1)]))] ++ F12) rfl rfl inX3_init1 tyX1 tyX1_ok nmX1 (by decide) (List.mem_of_getElem? (i := 31) rfl) rfl (ty := .int) (by decide +kernel) rfl rfl (Nat.le_of_ble_eq_true rfl) rfl dX3_init_221 ?_
  refine k_iinc (pc := 224) X 1 0 (nI 2) [(1, .int (nI 2)), (0, .ref x)] dX3_init_224 rfl (by decide) (by decide) rfl ?_
  refine k_goto (pc := 227) X 196 dX3_init_227 (by decide) ?_
  refine k_iload_n (pc := 196) X 1 0 dX3_init_196 rfl rfl ?_
  refine k_iconst (pc := 197) X (3 : Int32) dX3_init_197 ic_3 ?_
  refine k_in (pc := 198) X (by decide) 230 dX3_init_198 (by decide) ?_
  refine k_aload_n (pc := 201) X 0 1 dX3_init_201 rfl rfl ?_
  refine k_get (pc := 202) X 0 7 (.ref q7) rfl rfl inX3_init3 (by decide) (List.mem_of_getElem? (i := 21) rfl) rfl dX3_init_202 ?_
  refine k_iload_n (pc := 205) X 1 0 dX3_init_205 rfl rfl ?_
  refine k_makeN (pc := 206) X (kM_X1 _ D C) rfl inX3_init1 tyX1 tyX1_ok (by decide +kernel) (List.mem_of_getElem? (i := 17) rfl) (List.mem_of_getElem? (i := 18) rfl) (List.mem_of_getElem? (i := 19) rfl) X.tt.2.2.2.2.2.2 (List.mem_of_getElem? (i := 48) rfl) gX3_init_X1_init_n38 rfl ⟨rfl, rfl⟩ rfl rfl (by decide +kernel) ⟨(Nat.le_of_ble_eq_true rfl), (Nat.le_of_ble_eq_true rfl)⟩ (Nat.le_of_ble_eq_true rfl) (Nat.le_of_ble_eq_true rfl) (fun _ => (Nat.le_of_ble_eq_true rfl)) dX3_init_206 dX3_init_209 dX3_init_210 (fun k2 s2 => ?_)
  refine k_lay (X0 := [(x, .inr (3, [.ref q0, .ref q1, .ref q2, .ref q3, .ref q4, .ref q5, .ref q6, .ref q7, .ref q8, .ref q9, .ref q10, .ref q11, .int 0, .long 0, .long 1, .int 0, .ref q16])), (q1, .inl (C 6, 6, .inl (fun j => if j < 6 then -1 else 0))), (q3, .inl (C 6, 4, .inl (fun j => if j < 4 then -1 else 0))), (q7, .inl (C 7, 3, .inr (.inr (.inr (.inr (va_up (va_up (fun _ => none) 0 (some k0)) 1 (some k1))))))), (k0, .inr (1, [.ref (s0 0 0), .int (-1)])), (k1, .inr (1, [.ref (s1 0 0), .int (-1)]))]) (F := F12) (a := [(k2, .inr (1, [.ref (s2 0 0), .int 0]))]) (b := [(s2 0 0, .inl (C 6, 40, .inl (fun _ => 0)))]) ?_
  generalize hF13 : F12 ++ [(s2 0 0, .inl (C 6, 40, .inl (fun _ => 0)))] = F13
  refine k_astq (pc := 213) X 3 2 6 2 (ws' := [(x, .inr (3, [.ref q0, .ref q1, .ref q2, .ref q3, .ref q4, .ref q5, .ref q6, .ref q7, .ref q8, .ref q9, .ref q10, .ref q11, .int 0, .long 0, .long 1, .int 0, .ref q16])), (q1, .inl (C 6, 6, .inl (fun j => if j < 6 then -1 else 0))), (q3, .inl (C 6, 4, .inl (fun j => if j < 4 then -1 else 0))), (q7, .inl (C 7, 3, .inr (.inr (.inr (.inr (va_up (va_up (va_up (fun _ => none) 0 (some k0)) 1 (some k1)) 2 (some k2))))))), (k0, .inr (1, [.ref (s0 0 0), .int (-1)])), (k1, .inr (1, [.ref (s1 0 0), .int (-1)])), (k2, .inr (1, [.ref (s2 0 0), .int (0)]))] ++ F13) rfl rfl rfl rfl (vp_in_nI (by decide) (by decide)) (nI_clamp (by decide)) rfl dX3_init_213 ?_
  refine k_aload_n (pc := 214) X 0 1 dX3_init_214 rfl rfl ?_
  refine k_get (pc := 215) X 0 7 (.ref q7) rfl rfl inX3_init3 (by decide) (List.mem_of_getElem? (i := 21) rfl) rfl dX3_init_215 ?_
  refine k_iload_n (pc := 218) X 1 0 dX3_init_218 rfl rfl ?_
  refine k_aldq (pc := 219) X 3 2 2 k2 rfl rfl (vp_in_nI (by decide) (by decide)) (nI_clamp (by decide)) rfl dX3_init_219 ?_
  refine k_iconst (pc := 220) X (-1 : Int32) dX3_init_220 ic_m1 ?_
  refine k_put (pc := 221) X 6 1 (ws' := [(x, .inr (3, [.ref q0, .ref q1, .ref q2, .ref q3, .ref q4, .ref q5, .ref q6, .ref q7, .ref q8, .ref q9, .ref q10, .ref q11, .int 0, .long 0, .long 1, .int 0, .ref q16])), (q1, .inl (C 6, 6, .inl (fun j => if j < 6 then -1 else 0))), (q3, .inl (C 6, 4, .inl (fun j => if j < 4 then -1 else 0))), (q7, .inl (C 7, 3, .inr (.inr (.inr (.inr (va_up (va_up (va_up (fun _ => none) 0 (some k0)) 1 (some k1)) 2 (some k2))))))), (k0, .inr (1, [.ref (s0 0 0), .int (-1)])), (k1, .inr (1, [.ref (s1 0 0), .int (-1)])), (k2, .inr (1, [.ref (s2 0 0), .int (-1)]))] ++ F13) rfl rfl inX3_init1 tyX1 tyX1_ok nmX1 (by decide) (List.mem_of_getElem? (i := 31) rfl) rfl (ty := .int) (by decide +kernel) rfl rfl (Nat.le_of_ble_eq_true rfl) rfl dX3_init_221 ?_
  refine k_iinc (pc := 224) X 1 0 (nI 3) [(1, .int (nI 3)), (0, .ref x)] dX3_init_224 rfl (by decide) (by decide) rfl ?_
  refine k_goto (pc := 227) X 196 dX3_init_227 (by decide) ?_
  refine k_iload_n (pc := 196) X 1 0 dX3_init_196 rfl rfl ?_
  refine k_iconst (pc := 197) X (3 : Int32) dX3_init_197 ic_3 ?_
  refine k_out (pc := 198) X (by decide) 230 dX3_init_198 (by decide) ?_
  refine k_fix 3 (fun i => some ([k0, k1, k2].getD i 0)) (ws' := [(x, .inr (3, [.ref q0, .ref q1, .ref q2, .ref q3, .ref q4, .ref q5, .ref q6, .ref q7, .ref q8, .ref q9, .ref q10, .ref q11, .int 0, .long 0, .long 1, .int 0, .ref q16])), (q1, .inl (C 6, 6, .inl (fun j => if j < 6 then -1 else 0))), (q3, .inl (C 6, 4, .inl (fun j => if j < 4 then -1 else 0))), (q7, .inl (C 7, 3, .inr (.inr (.inr (.inr (fun i => some ([k0, k1, k2].getD i 0))))))), (k0, .inr (1, [.ref (s0 0 0), .int (-1)])), (k1, .inr (1, [.ref (s1 0 0), .int (-1)])), (k2, .inr (1, [.ref (s2 0 0), .int (-1)]))] ++ F13) rfl (fun i hi => ?_) rfl ?_
  · rcases (show i = 0 ∨ i = 1 ∨ i = 2 by omega) with rfl | rfl | rfl <;> rfl
  subst hF13
  subst hF12
  subst hF11
  subst hF10
  subst hF9
  subst hF8
  subst hF7
  subst hF6
  subst hF5
  subst hF4
  subst hF3
  subst hF2
  subst hF1
  exact k_vret (pc := 230) X hr (wf := kw3 C x) (fun c i => match c with | 0 => [q0, q1, q2, q3, q4, q5, q6, q7, q8, q9, q10, q11, 0, 0, 0, 0, q16].getD i 0 | 1 => [k0, k1, k2].getD i 0 | 2 => [s0 0 0, s1 0 0, s2 0 0].getD i 0 | 3 => [h0, 0, h2, 0, 0, 0, 0, 0, 0, 0, 0, h11].getD i 0 | 4 => r4 0 i | 5 => r5 0 i | 6 => r6 0 i | 8 => r8 0 i | _ => r9 0 i) rfl dX3_init_230
