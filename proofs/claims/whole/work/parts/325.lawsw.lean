/-! the law's loop -/
theorem lw_sw {v : Int32} (h : ∀ c : Nat, c < 40 → ¬ v = nI c) : v.toInt < 0 ∨ 39 < v.toInt := by
  rcases Int.lt_or_le v.toInt 0 with h0 | h0
  · exact Or.inl h0
  · rcases Int.lt_or_le 39 v.toInt with h1 | h1
    · exact Or.inr h1
    · exfalso
      refine h v.toInt.toNat (by omega) ?_
      apply Int32.toInt_inj.mp
      rw [nI_toInt (by omega)]
      omega
section LP
variable {E : mm_E} {G : mm_G} {Q : State → Prop} {x m b L k : Nat} {cd : Nat → Nat} {xs : Nat → Int32} {σ : mm_M} {Y : Ps}
set_option maxHeartbeats 4000000 in
set_option maxRecDepth 100000 in
theorem lc_all (X : mm_Cx E G cL_law 4 RL wsL_law room_1 ret) (gx : gX G x cd) (gm : gM G m cd) (hX : va_X b L xs (eS E) (eS E).heap) (hbl : b < (eS E).heap.size) (hbL : b ∉ mm_L G) (hL : L ≤ 3072) (hk6 : k + 6 ≤ L) (ok : okP Y) (hc : CR G x σ Y) (hm : MR G m σ Y) (hk : ∀ σ' Y', okP Y' → CR G x σ' Y' → MR G m σ' Y' → mm_At E G 4 Q σ' 1261 [(3, .int (nI k)), (2, .ref m), (1, .ref x), (0, .ref b)] []) (v : Int32) : mm_At E G 4 Q σ 33 [(3, .int (nI k)), (2, .ref m), (1, .ref x), (0, .ref b)] [.int v] := by
  by_cases h0 : v = nI 0
  · exact at_swIn (pc := 33) X 208 dL_law_33 (by rw [h0]; decide) (by rw [h0]; decide) (by rw [h0]; rfl) (by decide) (lc_0 X gx gm hX hbl hbL hL hk6 ok hc hm hk)
  by_cases h1 : v = nI 1
  · exact at_swIn (pc := 33) X 241 dL_law_33 (by rw [h1]; decide) (by rw [h1]; decide) (by rw [h1]; rfl) (by decide) (lc_1 X gx gm hX hbl hbL hL hk6 ok hc hm hk)
  by_cases h2 : v = nI 2
  · exact at_swIn (pc := 33) X 284 dL_law_33 (by rw [h2]; decide) (by rw [h2]; decide) (by rw [h2]; rfl) (by decide) (lc_2 X gx gm hX hbl hbL hL hk6 ok hc hm hk)
  by_cases h3 : v = nI 3
  · exact at_swIn (pc := 33) X 317 dL_law_33 (by rw [h3]; decide) (by rw [h3]; decide) (by rw [h3]; rfl) (by decide) (lc_3 X gx gm hX hbl hbL hL hk6 ok hc hm hk)
  by_cases h4 : v = nI 4
  · exact at_swIn (pc := 33) X 340 dL_law_33 (by rw [h4]; decide) (by rw [h4]; decide) (by rw [h4]; rfl) (by decide) (lc_4 X gx gm hX hbl hbL hL hk6 ok hc hm hk)
  by_cases h5 : v = nI 5
  · exact at_swIn (pc := 33) X 403 dL_law_33 (by rw [h5]; decide) (by rw [h5]; decide) (by rw [h5]; rfl) (by decide) (lc_5 X gx gm hX hbl hbL hL hk6 ok hc hm hk)
  by_cases h6 : v = nI 6
  · exact at_swIn (pc := 33) X 426 dL_law_33 (by rw [h6]; decide) (by rw [h6]; decide) (by rw [h6]; rfl) (by decide) (lc_6 X gx gm hX hbl hbL hL hk6 ok hc hm hk)
  by_cases h7 : v = nI 7
  · exact at_swIn (pc := 33) X 459 dL_law_33 (by rw [h7]; decide) (by rw [h7]; decide) (by rw [h7]; rfl) (by decide) (lc_7 X gx gm hX hbl hbL hL hk6 ok hc hm hk)
  by_cases h8 : v = nI 8
  · exact at_swIn (pc := 33) X 502 dL_law_33 (by rw [h8]; decide) (by rw [h8]; decide) (by rw [h8]; rfl) (by decide) (lc_8 X gx gm hX hbl hbL hL hk6 ok hc hm hk)
  by_cases h9 : v = nI 9
  · exact at_swIn (pc := 33) X 525 dL_law_33 (by rw [h9]; decide) (by rw [h9]; decide) (by rw [h9]; rfl) (by decide) (lc_9 X gx gm hX hbl hbL hL hk6 ok hc hm hk)
  by_cases h10 : v = nI 10
  · exact at_swIn (pc := 33) X 548 dL_law_33 (by rw [h10]; decide) (by rw [h10]; decide) (by rw [h10]; rfl) (by decide) (lc_10 X gx gm hX hbl hbL hL hk6 ok hc hm hk)
  by_cases h11 : v = nI 11
  · exact at_swIn (pc := 33) X 581 dL_law_33 (by rw [h11]; decide) (by rw [h11]; decide) (by rw [h11]; rfl) (by decide) (lc_11 X gx gm hX hbl hbL hL hk6 ok hc hm hk)
  by_cases h12 : v = nI 12
  · exact at_swIn (pc := 33) X 614 dL_law_33 (by rw [h12]; decide) (by rw [h12]; decide) (by rw [h12]; rfl) (by decide) (lc_12 X gx gm hX hbl hbL hL hk6 ok hc hm hk)
  by_cases h13 : v = nI 13
  · exact at_swIn (pc := 33) X 627 dL_law_33 (by rw [h13]; decide) (by rw [h13]; decide) (by rw [h13]; rfl) (by decide) (lc_13 X gx gm hX hbl hbL hL hk6 ok hc hm hk)
  by_cases h14 : v = nI 14
  · exact at_swIn (pc := 33) X 660 dL_law_33 (by rw [h14]; decide) (by rw [h14]; decide) (by rw [h14]; rfl) (by decide) (lc_14 X gx gm hX hbl hbL hL hk6 ok hc hm hk)
  by_cases h15 : v = nI 15
  · exact at_swIn (pc := 33) X 683 dL_law_33 (by rw [h15]; decide) (by rw [h15]; decide) (by rw [h15]; rfl) (by decide) (lc_15 X gx gm hX hbl hbL hL hk6 ok hc hm hk)
  by_cases h16 : v = nI 16
  · exact at_swIn (pc := 33) X 716 dL_law_33 (by rw [h16]; decide) (by rw [h16]; decide) (by rw [h16]; rfl) (by decide) (lc_16 X gx gm hX hbl hbL hL hk6 ok hc hm hk)
  by_cases h17 : v = nI 17
  · exact at_swIn (pc := 33) X 739 dL_law_33 (by rw [h17]; decide) (by rw [h17]; decide) (by rw [h17]; rfl) (by decide) (lc_17 X gx gm hX hbl hbL hL hk6 ok hc hm hk)
  by_cases h18 : v = nI 18
  · exact at_swIn (pc := 33) X 762 dL_law_33 (by rw [h18]; decide) (by rw [h18]; decide) (by rw [h18]; rfl) (by decide) (lc_18 X gx gm hX hbl hbL hL hk6 ok hc hm hk)
  by_cases h19 : v = nI 19
  · exact at_swIn (pc := 33) X 785 dL_law_33 (by rw [h19]; decide) (by rw [h19]; decide) (by rw [h19]; rfl) (by decide) (lc_19 X gx gm hX hbl hbL hL hk6 ok hc hm hk)
  by_cases h20 : v = nI 20
  · exact at_swIn (pc := 33) X 798 dL_law_33 (by rw [h20]; decide) (by rw [h20]; decide) (by rw [h20]; rfl) (by decide) (lc_20 X gx gm hX hbl hbL hL hk6 ok hc hm hk)
  by_cases h21 : v = nI 21
  · exact at_swIn (pc := 33) X 831 dL_law_33 (by rw [h21]; decide) (by rw [h21]; decide) (by rw [h21]; rfl) (by decide) (lc_21 X gx gm hX hbl hbL hL hk6 ok hc hm hk)
  by_cases h22 : v = nI 22
  · exact at_swIn (pc := 33) X 844 dL_law_33 (by rw [h22]; decide) (by rw [h22]; decide) (by rw [h22]; rfl) (by decide) (lc_22 X gx gm hX hbl hbL hL hk6 ok hc hm hk)
  by_cases h23 : v = nI 23
  · exact at_swIn (pc := 33) X 857 dL_law_33 (by rw [h23]; decide) (by rw [h23]; decide) (by rw [h23]; rfl) (by decide) (lc_23 X gx gm hX hbl hbL hL hk6 ok hc hm hk)
  by_cases h24 : v = nI 24
  · exact at_swIn (pc := 33) X 880 dL_law_33 (by rw [h24]; decide) (by rw [h24]; decide) (by rw [h24]; rfl) (by decide) (lc_24 X gx gm hX hbl hbL hL hk6 ok hc hm hk)
  by_cases h25 : v = nI 25
  · exact at_swIn (pc := 33) X 903 dL_law_33 (by rw [h25]; decide) (by rw [h25]; decide) (by rw [h25]; rfl) (by decide) (lc_25 X gx gm hX hbl hbL hL hk6 ok hc hm hk)
  by_cases h26 : v = nI 26
  · exact at_swIn (pc := 33) X 926 dL_law_33 (by rw [h26]; decide) (by rw [h26]; decide) (by rw [h26]; rfl) (by decide) (lc_26 X gx gm hX hbl hbL hL hk6 ok hc hm hk)
  by_cases h27 : v = nI 27
  · exact at_swIn (pc := 33) X 959 dL_law_33 (by rw [h27]; decide) (by rw [h27]; decide) (by rw [h27]; rfl) (by decide) (lc_27 X gx gm hX hbl hbL hL hk6 ok hc hm hk)
  by_cases h28 : v = nI 28
  · exact at_swIn (pc := 33) X 992 dL_law_33 (by rw [h28]; decide) (by rw [h28]; decide) (by rw [h28]; rfl) (by decide) (lc_28 X gx gm hX hbl hbL hL hk6 ok hc hm hk)
  by_cases h29 : v = nI 29
  · exact at_swIn (pc := 33) X 1025 dL_law_33 (by rw [h29]; decide) (by rw [h29]; decide) (by rw [h29]; rfl) (by decide) (lc_29 X gx gm hX hbl hbL hL hk6 ok hc hm hk)
  by_cases h30 : v = nI 30
  · exact at_swIn (pc := 33) X 1048 dL_law_33 (by rw [h30]; decide) (by rw [h30]; decide) (by rw [h30]; rfl) (by decide) (lc_30 X gx gm hX hbl hbL hL hk6 ok hc hm hk)
  by_cases h31 : v = nI 31
  · exact at_swIn (pc := 33) X 1081 dL_law_33 (by rw [h31]; decide) (by rw [h31]; decide) (by rw [h31]; rfl) (by decide) (lc_31 X gx gm hX hbl hbL hL hk6 ok hc hm hk)
  by_cases h32 : v = nI 32
  · exact at_swIn (pc := 33) X 1114 dL_law_33 (by rw [h32]; decide) (by rw [h32]; decide) (by rw [h32]; rfl) (by decide) (lc_32 X gx gm hX hbl hbL hL hk6 ok hc hm hk)
  by_cases h33 : v = nI 33
  · exact at_swIn (pc := 33) X 1147 dL_law_33 (by rw [h33]; decide) (by rw [h33]; decide) (by rw [h33]; rfl) (by decide) (lc_33 X gx gm hX hbl hbL hL hk6 ok hc hm hk)
  by_cases h34 : v = nI 34
  · exact at_swIn (pc := 33) X 1160 dL_law_33 (by rw [h34]; decide) (by rw [h34]; decide) (by rw [h34]; rfl) (by decide) (lc_34 X gx gm hX hbl hbL hL hk6 ok hc hm hk)
  by_cases h35 : v = nI 35
  · exact at_swIn (pc := 33) X 1174 dL_law_33 (by rw [h35]; decide) (by rw [h35]; decide) (by rw [h35]; rfl) (by decide) (lc_35 X gx gm hX hbl hbL hL hk6 ok hc hm hk)
  by_cases h36 : v = nI 36
  · exact at_swIn (pc := 33) X 1188 dL_law_33 (by rw [h36]; decide) (by rw [h36]; decide) (by rw [h36]; rfl) (by decide) (lc_36 X gx gm hX hbl hbL hL hk6 ok hc hm hk)
  by_cases h37 : v = nI 37
  · exact at_swIn (pc := 33) X 1211 dL_law_33 (by rw [h37]; decide) (by rw [h37]; decide) (by rw [h37]; rfl) (by decide) (lc_37 X gx gm hX hbl hbL hL hk6 ok hc hm hk)
  by_cases h38 : v = nI 38
  · exact at_swIn (pc := 33) X 1224 dL_law_33 (by rw [h38]; decide) (by rw [h38]; decide) (by rw [h38]; rfl) (by decide) (lc_38 X gx gm hX hbl hbL hL hk6 ok hc hm hk)
  by_cases h39 : v = nI 39
  · exact at_swIn (pc := 33) X 1247 dL_law_33 (by rw [h39]; decide) (by rw [h39]; decide) (by rw [h39]; rfl) (by decide) (lc_39 X gx gm hX hbl hbL hL hk6 ok hc hm hk)
  refine at_swOut (pc := 33) X 1261 dL_law_33 (lw_sw (fun c hcc e => ?_)) (by decide) (hk σ Y ok hc hm)
  rcases (show c = 0 ∨ c = 1 ∨ c = 2 ∨ c = 3 ∨ c = 4 ∨ c = 5 ∨ c = 6 ∨ c = 7 ∨ c = 8 ∨ c = 9 ∨ c = 10 ∨ c = 11 ∨ c = 12 ∨ c = 13 ∨ c = 14 ∨ c = 15 ∨ c = 16 ∨ c = 17 ∨ c = 18 ∨ c = 19 ∨ c = 20 ∨ c = 21 ∨ c = 22 ∨ c = 23 ∨ c = 24 ∨ c = 25 ∨ c = 26 ∨ c = 27 ∨ c = 28 ∨ c = 29 ∨ c = 30 ∨ c = 31 ∨ c = 32 ∨ c = 33 ∨ c = 34 ∨ c = 35 ∨ c = 36 ∨ c = 37 ∨ c = 38 ∨ c = 39 by omega) with rfl | rfl | rfl | rfl | rfl | rfl | rfl | rfl | rfl | rfl | rfl | rfl | rfl | rfl | rfl | rfl | rfl | rfl | rfl | rfl | rfl | rfl | rfl | rfl | rfl | rfl | rfl | rfl | rfl | rfl | rfl | rfl | rfl | rfl | rfl | rfl | rfl | rfl | rfl | rfl
  · exact h0 e
  · exact h1 e
  · exact h2 e
  · exact h3 e
  · exact h4 e
  · exact h5 e
  · exact h6 e
  · exact h7 e
  · exact h8 e
  · exact h9 e
  · exact h10 e
  · exact h11 e
  · exact h12 e
  · exact h13 e
  · exact h14 e
  · exact h15 e
  · exact h16 e
  · exact h17 e
  · exact h18 e
  · exact h19 e
  · exact h20 e
  · exact h21 e
  · exact h22 e
  · exact h23 e
  · exact h24 e
  · exact h25 e
  · exact h26 e
  · exact h27 e
  · exact h28 e
  · exact h29 e
  · exact h30 e
  · exact h31 e
  · exact h32 e
  · exact h33 e
  · exact h34 e
  · exact h35 e
  · exact h36 e
  · exact h37 e
  · exact h38 e
  · exact h39 e
end LP
