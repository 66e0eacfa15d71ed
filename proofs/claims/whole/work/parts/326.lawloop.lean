section LL
variable {G : mm_G} {x m b L : Nat} {cd : Nat → Nat} {xs : Nat → Int32}
set_option maxHeartbeats 4000000 in
set_option maxRecDepth 100000 in
theorem law_loop {p : Program} {l : Launch} {e : Env} {s : State} {mi : MethodId} {below : List Frame} {meth : Method} {c : Code} {kc kz : Nat} (X : mm_Cx (p, l, e, room_1, s, mi, #[Value.ref b], below, meth, c, kc, kz) G cL_law 4 RL wsL_law room_1 ret) (hLs : ∀ a, a ∈ mm_L G → s.heap.size ≤ a) (hkc : kc ≤ 600000) (hkz : kz ≤ 7302250) (gx : gX G x cd) (gm : gM G m cd) (hX : va_X b L xs s s.heap) (hbl : b < s.heap.size) (hbL : b ∉ mm_L G) (hL : L ≤ 3072) : ∀ (r k : Nat) (σ : mm_M) (Y : Ps), L < k + r → k ≤ L + 6 → okP Y → CR G x σ Y → MR G m σ Y → mm_At (p, l, e, room_1, s, mi, #[Value.ref b], below, meth, c, kc, kz) G 4 (lw_Z below #[Value.ref b] s) σ 18 [(3, .int (nI k)), (2, .ref m), (1, .ref x), (0, .ref b)] [] := by
  intro r
  induction r with
  | zero =>
    intro k σ Y h1 h2 ok hc hm
    refine at_iload_n (pc := 18) X 3 0 dL_law_18 rfl rfl ?_
    refine at_aload_n (pc := 19) X 0 3 dL_law_19 rfl rfl ?_
    refine at_slen (pc := 20) X hX hbl hbL dL_law_20 ?_
    refine at_bipush (pc := 21) X (6 : Int32) dL_law_21 ib_6 ?_
    refine at_isub (pc := 23) X dL_law_23 ?_
    refine at_icmp_gt (pc := 24) X 1267 dL_law_24 (by decide) (fun c => ?_) (fun c => absurd (lw_gt hL (by omega) (by omega)) c)
    refine at_iconst (pc := 1267) X (1 : Int32) dL_law_1267 ic_1 ?_
    exact at_lawret (pc := 1268) X hLs hkc hkz dL_law_1268
  | succ r ih =>
    intro k σ Y h1 h2 ok hc hm
    refine at_iload_n (pc := 18) X 3 0 dL_law_18 rfl rfl ?_
    refine at_aload_n (pc := 19) X 0 3 dL_law_19 rfl rfl ?_
    refine at_slen (pc := 20) X hX hbl hbL dL_law_20 ?_
    refine at_bipush (pc := 21) X (6 : Int32) dL_law_21 ib_6 ?_
    refine at_isub (pc := 23) X dL_law_23 ?_
    refine at_icmp_gt (pc := 24) X 1267 dL_law_24 (by decide) (fun c => ?_) (fun c => ?_)
    · refine at_iconst (pc := 1267) X (1 : Int32) dL_law_1267 ic_1 ?_
      exact at_lawret (pc := 1268) X hLs hkc hkz dL_law_1268
    · have hk6 : k + 6 ≤ L := by
        rcases Nat.lt_or_ge L (k + 6) with q | q
        · exact absurd (lw_gt hL q (by omega)) c
        · exact q
      refine at_aload_n (pc := 27) X 0 3 dL_law_27 rfl rfl ?_
      refine at_iload_n (pc := 28) X 3 0 dL_law_28 rfl rfl ?_
      refine at_sld (pc := 29) X hX hbl hbL (vp_in_nI (by omega) (by omega)) dL_law_29 ?_
      refine at_bipush (pc := 30) X (63 : Int32) dL_law_30 ib_63 ?_
      refine at_iand (pc := 32) X dL_law_32 ?_
      refine lc_all X gx gm hX hbl hbL hL hk6 ok hc hm (fun σ' Y' ok' hc' hm' => ?_) _
      refine at_iinc (pc := 1261) X 3 0 (nI (k + 6)) [(3, .int (nI (k + 6))), (2, .ref m), (1, .ref x), (0, .ref b)] dL_law_1261 rfl (by rw [show Int32.ofInt 6 = nI 6 from rfl, nI_add]) (by decide) rfl ?_
      refine at_goto (pc := 1264) X 18 dL_law_1264 (by decide) ?_
      exact ih (k + 6) σ' Y' (by omega) (by omega) ok' hc' hm'
end LL
