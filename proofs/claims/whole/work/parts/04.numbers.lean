/-! numbers, switches, references that lead where they should -/
theorem ic_m1 : Int32.ofInt (-1) = (-1 : Int32) := by decide
theorem ic_0 : Int32.ofInt (0) = (0 : Int32) := by decide
theorem ic_1 : Int32.ofInt (1) = (1 : Int32) := by decide
theorem ic_2 : Int32.ofInt (2) = (2 : Int32) := by decide
theorem ic_3 : Int32.ofInt (3) = (3 : Int32) := by decide
theorem ic_4 : Int32.ofInt (4) = (4 : Int32) := by decide
theorem ic_5 : Int32.ofInt (5) = (5 : Int32) := by decide
theorem ib_m9 : (Int8.ofInt (-9)).toInt32 = (-9 : Int32) := by decide
theorem ib_m6 : (Int8.ofInt (-6)).toInt32 = (-6 : Int32) := by decide
theorem ib_m4 : (Int8.ofInt (-4)).toInt32 = (-4 : Int32) := by decide
theorem ib_m3 : (Int8.ofInt (-3)).toInt32 = (-3 : Int32) := by decide
theorem ib_m2 : (Int8.ofInt (-2)).toInt32 = (-2 : Int32) := by decide
theorem ib_6 : (Int8.ofInt (6)).toInt32 = (6 : Int32) := by decide
theorem ib_7 : (Int8.ofInt (7)).toInt32 = (7 : Int32) := by decide
theorem ib_8 : (Int8.ofInt (8)).toInt32 = (8 : Int32) := by decide
theorem ib_9 : (Int8.ofInt (9)).toInt32 = (9 : Int32) := by decide
theorem ib_10 : (Int8.ofInt (10)).toInt32 = (10 : Int32) := by decide
theorem ib_11 : (Int8.ofInt (11)).toInt32 = (11 : Int32) := by decide
theorem ib_12 : (Int8.ofInt (12)).toInt32 = (12 : Int32) := by decide
theorem ib_16 : (Int8.ofInt (16)).toInt32 = (16 : Int32) := by decide
theorem ib_18 : (Int8.ofInt (18)).toInt32 = (18 : Int32) := by decide
theorem ib_20 : (Int8.ofInt (20)).toInt32 = (20 : Int32) := by decide
theorem ib_21 : (Int8.ofInt (21)).toInt32 = (21 : Int32) := by decide
theorem ib_25 : (Int8.ofInt (25)).toInt32 = (25 : Int32) := by decide
theorem ib_30 : (Int8.ofInt (30)).toInt32 = (30 : Int32) := by decide
theorem ib_32 : (Int8.ofInt (32)).toInt32 = (32 : Int32) := by decide
theorem ib_33 : (Int8.ofInt (33)).toInt32 = (33 : Int32) := by decide
theorem ib_40 : (Int8.ofInt (40)).toInt32 = (40 : Int32) := by decide
theorem ib_47 : (Int8.ofInt (47)).toInt32 = (47 : Int32) := by decide
theorem ib_48 : (Int8.ofInt (48)).toInt32 = (48 : Int32) := by decide
theorem ib_49 : (Int8.ofInt (49)).toInt32 = (49 : Int32) := by decide
theorem ib_57 : (Int8.ofInt (57)).toInt32 = (57 : Int32) := by decide
theorem ib_60 : (Int8.ofInt (60)).toInt32 = (60 : Int32) := by decide
theorem ib_63 : (Int8.ofInt (63)).toInt32 = (63 : Int32) := by decide
theorem ib_64 : (Int8.ofInt (64)).toInt32 = (64 : Int32) := by decide
theorem ib_99 : (Int8.ofInt (99)).toInt32 = (99 : Int32) := by decide
theorem ib_100 : (Int8.ofInt (100)).toInt32 = (100 : Int32) := by decide
theorem ib_108 : (Int8.ofInt (108)).toInt32 = (108 : Int32) := by decide
theorem ib_111 : (Int8.ofInt (111)).toInt32 = (111 : Int32) := by decide
theorem ib_112 : (Int8.ofInt (112)).toInt32 = (112 : Int32) := by decide
theorem ib_115 : (Int8.ofInt (115)).toInt32 = (115 : Int32) := by decide
theorem ib_121 : (Int8.ofInt (121)).toInt32 = (121 : Int32) := by decide
theorem is_m1000 : (Int16.ofInt (-1000)).toInt32 = (-1000 : Int32) := by decide
theorem is_199 : (Int16.ofInt (199)).toInt32 = (199 : Int32) := by decide
theorem is_200 : (Int16.ofInt (200)).toInt32 = (200 : Int32) := by decide
theorem is_201 : (Int16.ofInt (201)).toInt32 = (201 : Int32) := by decide
theorem is_999 : (Int16.ofInt (999)).toInt32 = (999 : Int32) := by decide
theorem is_1000 : (Int16.ofInt (1000)).toInt32 = (1000 : Int32) := by decide
theorem ii_1 (x : Int32) : x + Int32.ofInt (1) = x + 1 := rfl
theorem ii_4 (x : Int32) : x + Int32.ofInt (4) = x + 4 := rfl
theorem ii_6 (x : Int32) : x + Int32.ofInt (6) = x + 6 := rfl
theorem sw_0_5 {x : Int32} (c0 : ¬ x = 0) (c1 : ¬ x = 1) (c2 : ¬ x = 2) (c3 : ¬ x = 3) (c4 : ¬ x = 4) (c5 : ¬ x = 5) : x.toInt < 0 ∨ 5 < x.toInt := by
  have h0 := lv_neT c0 (a := 0) (by decide)
  have h1 := lv_neT c1 (a := 1) (by decide)
  have h2 := lv_neT c2 (a := 2) (by decide)
  have h3 := lv_neT c3 (a := 3) (by decide)
  have h4 := lv_neT c4 (a := 4) (by decide)
  have h5 := lv_neT c5 (a := 5) (by decide)
  omega
theorem sw_0_10 {x : Int32} (c0 : ¬ x = 0) (c1 : ¬ x = 1) (c2 : ¬ x = 2) (c3 : ¬ x = 3) (c4 : ¬ x = 4) (c5 : ¬ x = 5) (c6 : ¬ x = 6) (c7 : ¬ x = 7) (c8 : ¬ x = 8) (c9 : ¬ x = 9) (c10 : ¬ x = 10) : x.toInt < 0 ∨ 10 < x.toInt := by
  have h0 := lv_neT c0 (a := 0) (by decide)
  have h1 := lv_neT c1 (a := 1) (by decide)
  have h2 := lv_neT c2 (a := 2) (by decide)
  have h3 := lv_neT c3 (a := 3) (by decide)
  have h4 := lv_neT c4 (a := 4) (by decide)
  have h5 := lv_neT c5 (a := 5) (by decide)
  have h6 := lv_neT c6 (a := 6) (by decide)
  have h7 := lv_neT c7 (a := 7) (by decide)
  have h8 := lv_neT c8 (a := 8) (by decide)
  have h9 := lv_neT c9 (a := 9) (by decide)
  have h10 := lv_neT c10 (a := 10) (by decide)
  omega
theorem sw_0_11 {x : Int32} (c0 : ¬ x = 0) (c1 : ¬ x = 1) (c2 : ¬ x = 2) (c3 : ¬ x = 3) (c4 : ¬ x = 4) (c5 : ¬ x = 5) (c6 : ¬ x = 6) (c7 : ¬ x = 7) (c8 : ¬ x = 8) (c9 : ¬ x = 9) (c10 : ¬ x = 10) (c11 : ¬ x = 11) : x.toInt < 0 ∨ 11 < x.toInt := by
  have h0 := lv_neT c0 (a := 0) (by decide)
  have h1 := lv_neT c1 (a := 1) (by decide)
  have h2 := lv_neT c2 (a := 2) (by decide)
  have h3 := lv_neT c3 (a := 3) (by decide)
  have h4 := lv_neT c4 (a := 4) (by decide)
  have h5 := lv_neT c5 (a := 5) (by decide)
  have h6 := lv_neT c6 (a := 6) (by decide)
  have h7 := lv_neT c7 (a := 7) (by decide)
  have h8 := lv_neT c8 (a := 8) (by decide)
  have h9 := lv_neT c9 (a := 9) (by decide)
  have h10 := lv_neT c10 (a := 10) (by decide)
  have h11 := lv_neT c11 (a := 11) (by decide)
  omega
theorem sw_1_4 {x : Int32} (c0 : ¬ x = 1) (c1 : ¬ x = 2) (c2 : ¬ x = 3) (c3 : ¬ x = 4) : x.toInt < 1 ∨ 4 < x.toInt := by
  have h0 := lv_neT c0 (a := 1) (by decide)
  have h1 := lv_neT c1 (a := 2) (by decide)
  have h2 := lv_neT c2 (a := 3) (by decide)
  have h3 := lv_neT c3 (a := 4) (by decide)
  omega
theorem sw_0_39 {x : Int32} (c0 : ¬ x = 0) (c1 : ¬ x = 1) (c2 : ¬ x = 2) (c3 : ¬ x = 3) (c4 : ¬ x = 4) (c5 : ¬ x = 5) (c6 : ¬ x = 6) (c7 : ¬ x = 7) (c8 : ¬ x = 8) (c9 : ¬ x = 9) (c10 : ¬ x = 10) (c11 : ¬ x = 11) (c12 : ¬ x = 12) (c13 : ¬ x = 13) (c14 : ¬ x = 14) (c15 : ¬ x = 15) (c16 : ¬ x = 16) (c17 : ¬ x = 17) (c18 : ¬ x = 18) (c19 : ¬ x = 19) (c20 : ¬ x = 20) (c21 : ¬ x = 21) (c22 : ¬ x = 22) (c23 : ¬ x = 23) (c24 : ¬ x = 24) (c25 : ¬ x = 25) (c26 : ¬ x = 26) (c27 : ¬ x = 27) (c28 : ¬ x = 28) (c29 : ¬ x = 29) (c30 : ¬ x = 30) (c31 : ¬ x = 31) (c32 : ¬ x = 32) (c33 : ¬ x = 33) (c34 : ¬ x = 34) (c35 : ¬ x = 35) (c36 : ¬ x = 36) (c37 : ¬ x = 37) (c38 : ¬ x = 38) (c39 : ¬ x = 39) : x.toInt < 0 ∨ 39 < x.toInt := by
  have h0 := lv_neT c0 (a := 0) (by decide)
  have h1 := lv_neT c1 (a := 1) (by decide)
  have h2 := lv_neT c2 (a := 2) (by decide)
  have h3 := lv_neT c3 (a := 3) (by decide)
  have h4 := lv_neT c4 (a := 4) (by decide)
  have h5 := lv_neT c5 (a := 5) (by decide)
  have h6 := lv_neT c6 (a := 6) (by decide)
  have h7 := lv_neT c7 (a := 7) (by decide)
  have h8 := lv_neT c8 (a := 8) (by decide)
  have h9 := lv_neT c9 (a := 9) (by decide)
  have h10 := lv_neT c10 (a := 10) (by decide)
  have h11 := lv_neT c11 (a := 11) (by decide)
  have h12 := lv_neT c12 (a := 12) (by decide)
  have h13 := lv_neT c13 (a := 13) (by decide)
  have h14 := lv_neT c14 (a := 14) (by decide)
  have h15 := lv_neT c15 (a := 15) (by decide)
  have h16 := lv_neT c16 (a := 16) (by decide)
  have h17 := lv_neT c17 (a := 17) (by decide)
  have h18 := lv_neT c18 (a := 18) (by decide)
  have h19 := lv_neT c19 (a := 19) (by decide)
  have h20 := lv_neT c20 (a := 20) (by decide)
  have h21 := lv_neT c21 (a := 21) (by decide)
  have h22 := lv_neT c22 (a := 22) (by decide)
  have h23 := lv_neT c23 (a := 23) (by decide)
  have h24 := lv_neT c24 (a := 24) (by decide)
  have h25 := lv_neT c25 (a := 25) (by decide)
  have h26 := lv_neT c26 (a := 26) (by decide)
  have h27 := lv_neT c27 (a := 27) (by decide)
  have h28 := lv_neT c28 (a := 28) (by decide)
  have h29 := lv_neT c29 (a := 29) (by decide)
  have h30 := lv_neT c30 (a := 30) (by decide)
  have h31 := lv_neT c31 (a := 31) (by decide)
  have h32 := lv_neT c32 (a := 32) (by decide)
  have h33 := lv_neT c33 (a := 33) (by decide)
  have h34 := lv_neT c34 (a := 34) (by decide)
  have h35 := lv_neT c35 (a := 35) (by decide)
  have h36 := lv_neT c36 (a := 36) (by decide)
  have h37 := lv_neT c37 (a := 37) (by decide)
  have h38 := lv_neT c38 (a := 38) (by decide)
  have h39 := lv_neT c39 (a := 39) (by decide)
  omega
theorem wf_0_0 {G : mm_G} {a : Nat} (w : mm_WF G) (h : mm_Is G 0 a) : mm_Is G 8 (mm_R G a 0) := w.1 a h
theorem wf_1_0 {G : mm_G} {a : Nat} (w : mm_WF G) (h : mm_Is G 1 a) : mm_Is G 6 (mm_R G a 0) := w.2.1 a h
theorem wf_3_0 {G : mm_G} {a : Nat} (w : mm_WF G) (h : mm_Is G 3 a) : mm_Is G 10 (mm_R G a 0) := (w.2.2.1 a h).1
theorem wf_3_1 {G : mm_G} {a : Nat} (w : mm_WF G) (h : mm_Is G 3 a) : mm_Is G 6 (mm_R G a 1) := (w.2.2.1 a h).2.1
theorem wf_3_2 {G : mm_G} {a : Nat} (w : mm_WF G) (h : mm_Is G 3 a) : mm_Is G 9 (mm_R G a 2) := (w.2.2.1 a h).2.2.1
theorem wf_3_3 {G : mm_G} {a : Nat} (w : mm_WF G) (h : mm_Is G 3 a) : mm_Is G 6 (mm_R G a 3) := (w.2.2.1 a h).2.2.2.1
theorem wf_3_4 {G : mm_G} {a : Nat} (w : mm_WF G) (h : mm_Is G 3 a) : mm_Is G 0 (mm_R G a 4) := (w.2.2.1 a h).2.2.2.2.1
theorem wf_3_5 {G : mm_G} {a : Nat} (w : mm_WF G) (h : mm_Is G 3 a) : mm_Is G 0 (mm_R G a 5) := (w.2.2.1 a h).2.2.2.2.2.1
theorem wf_3_6 {G : mm_G} {a : Nat} (w : mm_WF G) (h : mm_Is G 3 a) : mm_Is G 1 (mm_R G a 6) := (w.2.2.1 a h).2.2.2.2.2.2.1
theorem wf_3_7 {G : mm_G} {a : Nat} (w : mm_WF G) (h : mm_Is G 3 a) : mm_Is G 7 (mm_R G a 7) := (w.2.2.1 a h).2.2.2.2.2.2.2.1
theorem wf_3_8 {G : mm_G} {a : Nat} (w : mm_WF G) (h : mm_Is G 3 a) : mm_Is G 0 (mm_R G a 8) := (w.2.2.1 a h).2.2.2.2.2.2.2.2.1
theorem wf_3_9 {G : mm_G} {a : Nat} (w : mm_WF G) (h : mm_Is G 3 a) : mm_Is G 0 (mm_R G a 9) := (w.2.2.1 a h).2.2.2.2.2.2.2.2.2.1
theorem wf_3_10 {G : mm_G} {a : Nat} (w : mm_WF G) (h : mm_Is G 3 a) : mm_Is G 6 (mm_R G a 10) := (w.2.2.1 a h).2.2.2.2.2.2.2.2.2.2.1
theorem wf_3_11 {G : mm_G} {a : Nat} (w : mm_WF G) (h : mm_Is G 3 a) : mm_Is G 10 (mm_R G a 11) := (w.2.2.1 a h).2.2.2.2.2.2.2.2.2.2.2.1
theorem wf_3_16 {G : mm_G} {a : Nat} (w : mm_WF G) (h : mm_Is G 3 a) : mm_Is G 6 (mm_R G a 16) := (w.2.2.1 a h).2.2.2.2.2.2.2.2.2.2.2.2
theorem wf_4_0 {G : mm_G} {a : Nat} (w : mm_WF G) (h : mm_Is G 4 a) : mm_Is G 6 (mm_R G a 0) := (w.2.2.2.1 a h).1
theorem wf_4_1 {G : mm_G} {a : Nat} (w : mm_WF G) (h : mm_Is G 4 a) : mm_Is G 6 (mm_R G a 1) := (w.2.2.2.1 a h).2.1
theorem wf_4_2 {G : mm_G} {a : Nat} (w : mm_WF G) (h : mm_Is G 4 a) : mm_Is G 6 (mm_R G a 2) := (w.2.2.2.1 a h).2.2.1
theorem wf_4_3 {G : mm_G} {a : Nat} (w : mm_WF G) (h : mm_Is G 4 a) : mm_Is G 6 (mm_R G a 3) := (w.2.2.2.1 a h).2.2.2.1
theorem wf_4_4 {G : mm_G} {a : Nat} (w : mm_WF G) (h : mm_Is G 4 a) : mm_Is G 5 (mm_R G a 4) := (w.2.2.2.1 a h).2.2.2.2.1
theorem wf_4_5 {G : mm_G} {a : Nat} (w : mm_WF G) (h : mm_Is G 4 a) : mm_Is G 6 (mm_R G a 5) := (w.2.2.2.1 a h).2.2.2.2.2.1
theorem wf_4_6 {G : mm_G} {a : Nat} (w : mm_WF G) (h : mm_Is G 4 a) : mm_Is G 6 (mm_R G a 6) := (w.2.2.2.1 a h).2.2.2.2.2.2.1
theorem wf_4_7 {G : mm_G} {a : Nat} (w : mm_WF G) (h : mm_Is G 4 a) : mm_Is G 6 (mm_R G a 7) := (w.2.2.2.1 a h).2.2.2.2.2.2.2.1
theorem wf_4_8 {G : mm_G} {a : Nat} (w : mm_WF G) (h : mm_Is G 4 a) : mm_Is G 6 (mm_R G a 8) := (w.2.2.2.1 a h).2.2.2.2.2.2.2.2.1
theorem wf_4_9 {G : mm_G} {a : Nat} (w : mm_WF G) (h : mm_Is G 4 a) : mm_Is G 6 (mm_R G a 9) := (w.2.2.2.1 a h).2.2.2.2.2.2.2.2.2.1
theorem wf_4_11 {G : mm_G} {a : Nat} (w : mm_WF G) (h : mm_Is G 4 a) : mm_Is G 6 (mm_R G a 11) := (w.2.2.2.1 a h).2.2.2.2.2.2.2.2.2.2.1
theorem wf_4_12 {G : mm_G} {a : Nat} (w : mm_WF G) (h : mm_Is G 4 a) : mm_Is G 6 (mm_R G a 12) := (w.2.2.2.1 a h).2.2.2.2.2.2.2.2.2.2.2.1
theorem wf_4_13 {G : mm_G} {a : Nat} (w : mm_WF G) (h : mm_Is G 4 a) : mm_Is G 6 (mm_R G a 13) := (w.2.2.2.1 a h).2.2.2.2.2.2.2.2.2.2.2.2.1
theorem wf_4_18 {G : mm_G} {a : Nat} (w : mm_WF G) (h : mm_Is G 4 a) : mm_Is G 6 (mm_R G a 18) := (w.2.2.2.1 a h).2.2.2.2.2.2.2.2.2.2.2.2.2.1
theorem wf_4_19 {G : mm_G} {a : Nat} (w : mm_WF G) (h : mm_Is G 4 a) : mm_Is G 6 (mm_R G a 19) := (w.2.2.2.1 a h).2.2.2.2.2.2.2.2.2.2.2.2.2.2.1
theorem wf_4_20 {G : mm_G} {a : Nat} (w : mm_WF G) (h : mm_Is G 4 a) : mm_Is G 6 (mm_R G a 20) := (w.2.2.2.1 a h).2.2.2.2.2.2.2.2.2.2.2.2.2.2.2.1
theorem wf_4_21 {G : mm_G} {a : Nat} (w : mm_WF G) (h : mm_Is G 4 a) : mm_Is G 6 (mm_R G a 21) := (w.2.2.2.1 a h).2.2.2.2.2.2.2.2.2.2.2.2.2.2.2.2
theorem wf_7 {G : mm_G} {a : Nat} {i : Int32} (w : mm_WF G) (h : mm_Is G 7 a) (hi : ¬ (i < 0 ∨ mm_N G a ≤ i.toNatClampNeg)) : mm_Is G 1 (mm_R G a i.toNatClampNeg) := (w.2.2.2.2.1) a _ h (Nat.not_le.mp fun q => hi (Or.inr q))
theorem wf_8 {G : mm_G} {a : Nat} {i : Int32} (w : mm_WF G) (h : mm_Is G 8 a) (hi : ¬ (i < 0 ∨ mm_N G a ≤ i.toNatClampNeg)) : mm_Is G 2 (mm_R G a i.toNatClampNeg) := (w.2.2.2.2.2.1) a _ h (Nat.not_le.mp fun q => hi (Or.inr q))
theorem wf_9 {G : mm_G} {a : Nat} {i : Int32} (w : mm_WF G) (h : mm_Is G 9 a) (hi : ¬ (i < 0 ∨ mm_N G a ≤ i.toNatClampNeg)) : mm_Is G 5 (mm_R G a i.toNatClampNeg) := (w.2.2.2.2.2.2.1) a _ h (Nat.not_le.mp fun q => hi (Or.inr q))
theorem wf_10 {G : mm_G} {a : Nat} {i : Int32} (w : mm_WF G) (h : mm_Is G 10 a) (hi : ¬ (i < 0 ∨ mm_N G a ≤ i.toNatClampNeg)) : mm_Is G 6 (mm_R G a i.toNatClampNeg) := (w.2.2.2.2.2.2.2) a _ h (Nat.not_le.mp fun q => hi (Or.inr q))
