/-! THE LAW, from its entry: two objects are made, then its loop. -/
theorem lm_0 : Cond.classLink RL 7 RX3 ∈ wsL_law := List.mem_of_getElem? (i := 0) (by decide +kernel)
theorem lm_1 : Cond.instantiable RX3 17 ∈ wsL_law := List.mem_of_getElem? (i := 1) (by decide +kernel)
theorem lm_2 : Cond.initialized RX3 ∈ wsL_law := List.mem_of_getElem? (i := 2) (by decide +kernel)
theorem lm_3 : Cond.classLink RL 10 RX4 ∈ wsL_law := List.mem_of_getElem? (i := 3) (by decide +kernel)
theorem lm_4 : Cond.instantiable RX4 22 ∈ wsL_law := List.mem_of_getElem? (i := 4) (by decide +kernel)
theorem lm_5 : Cond.initialized RX4 ∈ wsL_law := List.mem_of_getElem? (i := 5) (by decide +kernel)
theorem lm_6 : Cond.methodLink RL 9 yX3_init ∈ wsL_law := List.mem_of_getElem? (i := 6) (by decide +kernel)
theorem lm_7 : Cond.instanceMethod yX3_init ∈ wsL_law := List.mem_of_getElem? (i := 7) (by decide +kernel)
theorem lm_61 : Cond.methodLink RL 12 yX4_init ∈ wsL_law := List.mem_of_getElem? (i := 61) (by decide +kernel)
theorem lm_62 : Cond.instanceMethod yX4_init ∈ wsL_law := List.mem_of_getElem? (i := 62) (by decide +kernel)
theorem lm_fs3 : ∀ j, j < 17 → defaultValue (tyX3 j) = vp_V [.null, .null, .null, .null, .null, .null, .null, .null, .null, .null, .null, .null, .int 0, .long 0, .long 0, .int 0, .null] j := by decide +kernel
theorem lm_fs4 : ∀ j, j < 22 → defaultValue (tyX4 j) = vp_V [.null, .null, .null, .null, .null, .null, .null, .null, .null, .null, .int 0, .null, .null, .null, .int 0, .long 0, .long 0, .int 0, .null, .null, .null, .null] j := by decide +kernel
set_option maxHeartbeats 4000000 in
set_option maxRecDepth 100000 in
theorem whole_start {p : Program} {e : Env} {s : State} {m : MethodId} {below : List Frame} {meth : Method} {c : Code} (l : Launch) (hflags : l.flags = flags0) {b L : Nat} {xs : Nat → Int32} (hL : L ≤ 3072) (C0 : lw_At p s m meth c b L xs) : W p l e room_1 s m #[Value.ref b] below meth c s.heap [] 0 0 (lw_Z below #[Value.ref b] s) (entryFrame m ([Value.ref b] : List Value).toArray 4) := by
  obtain ⟨hx, hb, hr, hml, hown, hts, hX, hbl, hlocks, hgv⟩ := id C0
  obtain ⟨D, C, hKT⟩ := lt_T hts
  obtain ⟨T, hSt⟩ := lt_St hts hgv
  have hws : ∀ w ∈ wsL_law, w.before #[Value.ref b] s = true := fun w hw => hts w (wsL_law_in w hw)
  have X : kk_Cx (p, l, e, room_1, s, m, #[Value.ref b], below, meth, c, 0, 0) D C (fun q => s.heap.size ≤ q) cL_law 4 RL wsL_law room_1 := ⟨hx, hb, hml, hown, hws, hKT, hlocks, rfl, fun _ h => h⟩
  have hl : lv_has _ 4 [(0, .ref b)] := lv_entry ([.ref b]) (n := 4) (Nat.le_of_ble_eq_true rfl)
  rw [lg_entry_eq]
  have K : kk_At (p, l, e, room_1, s, m, #[Value.ref b], below, meth, c, 0, 0) D (fun q => s.heap.size ≤ q) 4 (lw_Z below #[Value.ref b] s) 0 0 [] 0 [(0, .ref b)] [] := by
    refine k_make (pc := 0) X (kM_X3 _ D C) rfl inlX3 tyX3 tyX3_ok lm_fs3 lm_0 lm_1 lm_2 lm_6 lm_7 gL_law_X3_init rfl ⟨rfl, rfl⟩ rfl rfl (by decide +kernel) ⟨(Nat.le_of_ble_eq_true rfl), (Nat.le_of_ble_eq_true rfl)⟩ (Nat.le_of_ble_eq_true rfl) (Nat.le_of_ble_eq_true rfl) (fun _ => (Nat.le_of_ble_eq_true rfl)) dL_law_0 dL_law_3 dL_law_4 (fun x r => ?_)
    refine k_astore_n (pc := 7) X 1 [(1, .ref x), (0, .ref b)] dL_law_7 rfl (by decide) rfl ?_
    refine k_make (pc := 8) X (kM_X4 _ D C) rfl inlX4 tyX4 tyX4_ok lm_fs4 lm_3 lm_4 lm_5 lm_61 lm_62 gL_law_X4_init rfl ⟨rfl, rfl⟩ rfl rfl (by decide +kernel) ⟨(Nat.le_of_ble_eq_true rfl), (Nat.le_of_ble_eq_true rfl)⟩ (Nat.le_of_ble_eq_true rfl) (Nat.le_of_ble_eq_true rfl) (fun _ => (Nat.le_of_ble_eq_true rfl)) dL_law_8 dL_law_11 dL_law_12 (fun y r' => ?_)
    refine k_astore_n (pc := 15) X 2 [(2, .ref y), (1, .ref x), (0, .ref b)] dL_law_15 rfl (by decide) rfl ?_
    refine k_iconst (pc := 16) X (nI 0) dL_law_16 (by decide) ?_
    refine k_istore_n (pc := 17) X 3 [(3, .int (nI 0)), (2, .ref y), (1, .ref x), (0, .ref b)] dL_law_17 rfl (by decide) rfl ?_
    show kk_At (p, l, e, room_1, s, m, #[Value.ref b], below, meth, c, 0, 0) D (fun q => s.heap.size ≤ q) 4 (lw_Z below #[Value.ref b] s) 87 7205 (kw3 C x r ++ kw4 C y r') 18 [(3, .int (nI 0)), (2, .ref y), (1, .ref x), (0, .ref b)] []
    refine ge_go (T := T) (fun hn hLs => ?_)
    have hXc : mm_Cx (p, l, e, room_1, s, m, #[Value.ref b], below, meth, c, 87, 7205) (ge_G (ge_L x y r r') D C T) cL_law 4 RL wsL_law room_1 ret := ⟨hx, hb, hml, hown, hws, hKT.1, hSt _ D C hLs, ge_WF hn ge_len, hlocks, rfl, hr, Nat.le_of_ble_eq_true rfl, Nat.le_of_ble_eq_true rfl⟩
    exact law_loop (cd := ge_cd (ge_L x y r r')) hXc hLs (Nat.le_of_ble_eq_true rfl) (Nat.le_of_ble_eq_true rfl) (ge_X hn ge_len) (ge_M hn ge_len) hX hbl (fun h => absurd (hLs b h) (Nat.not_le.mpr hbl)) hL (L + 1) 0 (ge_s (ge_L x y r r')) Y_0 (by omega) (by omega) Y_0_ok (ge_CR hn ge_len) (ge_MR hn ge_len)
  exact K s.heap [] _ (fun k q h => by simp at h) ⟨fun i j p q h => by simp at h, fun k q h => by simp at h⟩ va_S.rf hl
