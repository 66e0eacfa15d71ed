/-! count, digest -/
def cthr (f : Nat → Int32) : Nat → Int32
  | 0 => 0
  | k + 1 => if f k = -1 then cthr f k else cthr f k + 1
theorem cthr_s (f : Nat → Int32) (k : Nat) : cthr f (k + 1) = if f k = -1 then cthr f k else cthr f k + 1 := rfl
def kz (Y : Ps) (k : Nat) : Int32 := match p_K Y k with
  | none => -1
  | some L => nI L.length
def ckd (A : ab_A) (j : Int32) : Nat → Int32
  | 0 => 0
  | i + 1 => if ab_is (s_kd (a_st A i)) j = true then ckd A j i + 1 else ckd A j i
theorem ckd_s (A : ab_A) (j : Int32) (i : Nat) : ckd A j (i + 1) = if ab_is (s_kd (a_st A i)) j = true then ckd A j i + 1 else ckd A j i := rfl
def ct (Y : Ps) (w : Nat) : Int32 := if w = 0 then nI (a_n (p_A Y)) else if w = 1 then a_sl (p_A Y) else if w = 2 then nI (p_D Y).length else if w = 3 then ab_let (p_A Y) 0 (a_n (p_A Y)) else if w = 4 then a_hd (p_A Y) else if w = 5 then a_ls (p_A Y) else if w = 6 then a_tk (p_A Y) else if w = 7 then cthr (p_rs Y) 6 else if w = 8 then cthr (p_ts Y) 4 else if w = 9 then cthr (kz Y) 3 else if w = 10 then ckd (p_A Y) 1 (a_n (p_A Y)) else ckd (p_A Y) 2 (a_n (p_A Y))
section CO
variable {G : mm_G} {x m : Nat} {cd : Nat → Nat} {Y : Ps}
theorem cx_there {a n : Nat} {f : Nat → Int32} {σ : mm_M} (hN : mm_N G a = n) (hn : n < 100) (hv : ∀ k, k < n → σ.1 a k = f k) : fX3_countThere G a σ = some (cthr f n, σ) := by
  have hfor := mm_for (f := fX3_countThere_s G a) (fun k => (cthr f k, a, nI n, nI k, σ)) n (fun k hk => by
    show fX3_countThere_b10 G a (cthr f k) a (nI n) (nI k) σ = _
    unfold fX3_countThere_b10
    rw [if_pos (nI_lt hk (by omega)), hN, nI_clamp (by omega : k < 2 ^ 31), if_neg (ck_n hk (by omega)), hv k hk, nI_1, cthr_s])
  unfold fX3_countThere fX3_countThere_b0
  rw [mm_run_go, hN]
  show mm_lim _ (cthr f 0, a, nI n, nI 0, σ) = _
  rw [hfor]
  refine mm_lim_ret ?_
  show fX3_countThere_b10 G a (cthr f n) a (nI n) (nI n) σ = _
  unfold fX3_countThere_b10
  rw [if_neg Int32.lt_irrefl]
theorem cx_kz (gx : gX G x cd) {σ : mm_M} (hc : CR G x σ Y) {k : Nat} (hk : k < 3) : σ.1 (mm_R G (mm_R G x 7) k) 1 = kz Y k := by
  have h := hc.2.2.2.2.2.1 k hk
  unfold kz
  cases hK : p_K Y k with
  | none => rw [hK] at h; exact h
  | some L => rw [hK] at h; exact h.1
theorem ml_kz {σ : mm_M} (hc : MR G m σ Y) {k : Nat} (hk : k < 3) : σ.1 (mm_R G m 13) k = kz Y k := by
  have h := hc.2.2.2.2.1 k hk
  unfold kz
  cases hK : p_K Y k with
  | none => rw [hK] at h; exact h
  | some L => rw [hK] at h; exact h.1
theorem kz_n (ok : okP Y) {k : Nat} (hk : k < 3) : kz Y k = -1 ∨ ∃ n, n ≤ 40 ∧ kz Y k = nI n := by
  unfold kz
  cases hK : p_K Y k with
  | none => exact Or.inl rfl
  | some L => exact Or.inr ⟨L.length, (ok.2.2.2.2.1 k hk L hK).1, rfl⟩
theorem cx_ckept (gx : gX G x cd) {σ : mm_M} (hc : CR G x σ Y) : fX3_countKept G x σ = some (cthr (kz Y) 3, σ) := by
  obtain ⟨-, -, -, -, -, -, -, -, -, ⟨eN7, e7⟩, -⟩ := id gx
  have hfor := mm_for (f := fX3_countKept_s G x) (fun k => (cthr (kz Y) k, nI k, σ)) 3 (fun k hk => by
    show fX3_countKept_b4 G x (cthr (kz Y) k) (nI k) σ = _
    unfold fX3_countKept_b4
    rw [if_pos (show nI k < (3 : Int32) from nI_lt hk (by decide)), eN7, nI_clamp (by omega : k < 2 ^ 31), if_neg (ck_n hk (by omega)), cx_kz gx hc hk, nI_1, cthr_s])
  unfold fX3_countKept fX3_countKept_b0
  rw [mm_run_go]
  show mm_lim _ (cthr (kz Y) 0, nI 0, σ) = _
  rw [hfor]
  refine mm_lim_ret ?_
  show fX3_countKept_b4 G x (cthr (kz Y) 3) (nI 3) σ = _
  unfold fX3_countKept_b4
  rw [if_neg (show ¬ nI 3 < (3 : Int32) by decide)]
theorem cx_ckd (gx : gX G x cd) (ok : okP Y) {j : Nat} (h1 : 1 ≤ j) (h5 : j ≤ 5) {σ : mm_M} (hc : CR G x σ Y) : fX0_countOf G (mm_R G x 5) (nI j) σ = some (ckd (p_A Y) (nI j) (a_n (p_A Y)), σ) := by
  have h7 := (okP_n ok).2
  have hfor := mm_for (f := fX0_countOf_s G (mm_R G x 5) (nI j)) (fun i => (ckd (p_A Y) (nI j) i, nI i, σ)) (a_n (p_A Y)) (fun i hi => by
    obtain ⟨kk, b1, e⟩ := cx_kd ok hi hc
    have ekd : s_kd (a_st (p_A Y) i) = nI kk := by rw [← hc.2.2.1.2.2.2.2.2 i hi]; exact e
    show fX0_countOf_b4 G (mm_R G x 5) (nI j) _ (nI i) σ = _
    unfold fX0_countOf_b4
    rw [hc.2.2.1.1, if_pos (nI_lt hi (by omega)), (gX_ga5 gx).1, nI_clamp (by omega : i < 2 ^ 31), if_neg (ck_n (by omega) (by omega))]
    show (fX2_isOf G (sa G (mm_R G x 5) i) (nI j) σ).bind _ = _
    rw [cs_isOf G b1 e h1 h5, Option.bind_some, nI_1, ckd_s, ekd]
    cases ab_is (nI kk) (nI j) <;> rfl)
  unfold fX0_countOf fX0_countOf_b0
  rw [mm_run_go]
  show mm_lim _ (ckd (p_A Y) (nI j) 0, nI 0, σ) = _
  rw [hfor]
  refine mm_lim_ret ?_
  show fX0_countOf_b4 G (mm_R G x 5) (nI j) _ (nI (a_n (p_A Y))) σ = _
  unfold fX0_countOf_b4
  rw [hc.2.2.1.1, if_neg Int32.lt_irrefl]
theorem ml_ckd (gm : gM G m cd) (ok : okP Y) {j : Int32} (hj : ¬ j = 0) {σ : mm_M} (hc : MR G m σ Y) : fX4_ofKind G m j σ = some (ckd (p_A Y) j (a_n (p_A Y)), σ) := by
  have h7 := (okP_n ok).2
  obtain ⟨n57, M5, M7, q7⟩ := gM_57 gm
  have hfor := mm_for (f := fX4_ofKind_s G m j) (fun i => (ckd (p_A Y) j i, nI i, σ)) (a_n (p_A Y)) (fun i hi => by
    have e33 : σ.1 (mm_R G m 5) (33 + i) = s_kd (a_st (p_A Y) i) := congrArg (fun s : ab_S => s_kd s) (hc.2.2.1.2.2.2.2.2.2 i hi)
    show fX4_ofKind_b4 G m j _ (nI i) σ = _
    unfold fX4_ofKind_b4 fX4_ofKind_b37
    rw [M5, tc32, if_neg kc32, hc.2.2.1.1, if_pos (nI_lt hi (by omega)), ad33, nI_clamp (by omega : 33 + i < 2 ^ 31), if_neg (kcn (by omega)), e33, ml_is G _ _ hj, Option.bind_some, nI_1, ckd_s]
    cases ab_is (s_kd (a_st (p_A Y) i)) j with
    | true => rfl
    | false =>
      show some (Sum.inr (ckd (p_A Y) j i + 0, nI (i + 1), σ)) = _
      rw [Int32.add_zero]; rfl)
  unfold fX4_ofKind fX4_ofKind_b0
  rw [mm_run_go]
  show mm_lim _ (ckd (p_A Y) j 0, nI 0, σ) = _
  rw [hfor]
  refine mm_lim_ret ?_
  show fX4_ofKind_b4 G m j _ (nI (a_n (p_A Y))) σ = _
  unfold fX4_ofKind_b4
  rw [M5, tc32, if_neg kc32, hc.2.2.1.1, if_neg Int32.lt_irrefl]
theorem ne_w {w j : Nat} (hw : w < 100) (hj : j < 100) (h : ¬ w = j) : ¬ nI w = nI j := fun q => h ((nI_eq (by omega) (by omega)).mp q)
theorem cx_counted (gx : gX G x cd) (ok : okP Y) {w : Nat} (hw : w < 12) {σ : mm_M} (hc : CR G x σ Y) : fX3_counted G x (nI w) σ = some (ct Y w, σ) := by
  obtain ⟨t, ht, et, ho, hlt⟩ := okP_A ok
  obtain ⟨-, -, ⟨N0, -⟩, ⟨N1, -⟩, -, ⟨N3, -⟩, -⟩ := id gx
  rcases (show w = 0 ∨ w = 1 ∨ w = 2 ∨ w = 3 ∨ w = 4 ∨ w = 5 ∨ w = 6 ∨ w = 7 ∨ w = 8 ∨ w = 9 ∨ w = 10 ∨ w = 11 by omega) with rfl | rfl | rfl | rfl | rfl | rfl | rfl | rfl | rfl | rfl | rfl | rfl
  · show some (σ.1 (mm_R G x 5) 1, σ) = some (nI (a_n (p_A Y)), σ)
    rw [hc.2.2.1.1]
  · show some (σ.1 (mm_R G x 5) 2, σ) = some (a_sl (p_A Y), σ)
    rw [hc.2.2.1.2.1]
  · show some (σ.1 (mm_R G x 6) 1, σ) = some (nI (p_D Y).length, σ)
    rw [hc.2.2.2.2.1.1]
  · show (fX0_lettersBut G (mm_R G x 5) 0 σ).bind (fun q => some (q.1, q.2)) = some (ab_let (p_A Y) 0 (a_n (p_A Y)), σ)
    rw [be, ca_letters 0 (gX_ga5 gx) hc.2.2.1 ho]
  · show some (σ.1 (mm_R G x 5) 3, σ) = some (a_hd (p_A Y), σ)
    rw [hc.2.2.1.2.2.1]
  · show some (σ.1 (mm_R G x 5) 4, σ) = some (a_ls (p_A Y), σ)
    rw [hc.2.2.1.2.2.2.1]
  · show some (if σ.1 (mm_R G x 5) 5 = 0 then 0 else 1, σ) = some (a_tk (p_A Y), σ)
    rw [hc.2.2.1.2.2.2.2.1]
    rcases ho.2.2.1 with h | h
    · rw [h]; rfl
    · rw [h]; rfl
  · show (fX3_countThere G (mm_R G x 1) σ).bind (fun q => some (q.1, q.2)) = some (cthr (p_rs Y) 6, σ)
    rw [be, cx_there N1 (by decide) (fun k hk => (hc.1 k hk).1)]
  · show (fX3_countThere G (mm_R G x 3) σ).bind (fun q => some (q.1, q.2)) = some (cthr (p_ts Y) 4, σ)
    rw [be, cx_there N3 (by decide) (fun k hk => (hc.2.1 k hk).1)]
  · show (fX3_countKept G x σ).bind (fun q => some (q.1, q.2)) = some (cthr (kz Y) 3, σ)
    rw [be, cx_ckept gx hc]
  · show (fX0_countOf G (mm_R G x 5) (nI 1) σ).bind (fun q => some (q.1, q.2)) = some (ckd (p_A Y) (nI 1) (a_n (p_A Y)), σ)
    rw [be, cx_ckd gx ok (by decide) (by decide) hc]
  · show (fX0_countOf G (mm_R G x 5) (nI 2) σ).bind (fun q => some (q.1, q.2)) = some (ckd (p_A Y) (nI 2) (a_n (p_A Y)), σ)
    rw [be, cx_ckd gx ok (by decide) (by decide) hc]
theorem neg_c {s : Int32} (h : s = -1 ∨ ∃ n, n ≤ 60 ∧ s = nI n) : (s < 0 ↔ s = -1) := by
  rcases h with h | ⟨n, hn, h⟩
  · rw [h]; decide
  · rw [h]
    exact ⟨fun q => absurd q (nI_pos (by omega)), fun q => absurd q (nI_ne1 (by omega))⟩
theorem add_c {s a : Int32} (h : s = -1 ∨ ∃ n, n ≤ 60 ∧ s = nI n) : a + (if s < 0 then (0 : Int32) else 1) = if s = -1 then a else a + 1 := by
  by_cases c : s = -1
  · rw [if_pos c, if_pos ((neg_c h).mpr c), Int32.add_zero]
  · rw [if_neg c, if_neg (fun q => c ((neg_c h).mp q))]
theorem ml_count (gm : gM G m cd) (ok : okP Y) {w : Nat} (hw : w < 12) {σ : mm_M} (hc : MR G m σ Y) : fX4_count G m (nI w) σ = some (ct Y w, σ) := by
  obtain ⟨t, ht, et, ho, hlt⟩ := okP_A ok
  obtain ⟨n57, M5, M7, q7⟩ := gM_57 gm
  obtain ⟨-, e0, ⟨c0, N0⟩, -, -, ⟨c3, N3⟩, -, -, -, -, -, -, -, -, ⟨c13, N13⟩, -⟩ := id gm
  have r60 : ∀ k, k < 6 → p_rs Y k = -1 ∨ ∃ n, n ≤ 60 ∧ p_rs Y k = nI n := fun k hk => (ok.1 k hk).elim Or.inl (fun ⟨n, h1, h2⟩ => Or.inr ⟨n, by omega, h2⟩)
  have t60 : ∀ k, k < 4 → p_ts Y k = -1 ∨ ∃ n, n ≤ 60 ∧ p_ts Y k = nI n := fun k hk => ok.2.1 k hk
  have k60 : ∀ k, k < 3 → kz Y k = -1 ∨ ∃ n, n ≤ 60 ∧ kz Y k = nI n := fun k hk => (kz_n ok hk).elim Or.inl (fun ⟨n, h1, h2⟩ => Or.inr ⟨n, by omega, h2⟩)
  have rd : ∀ v, fX4_count_b0 G m (nI w) σ = some (.inl (v, σ)) → fX4_count G m (nI w) σ = some (v, σ) := fun v e => by
    unfold fX4_count
    rw [e]; rfl
  rcases (show w = 0 ∨ w = 1 ∨ w = 2 ∨ w = 3 ∨ w = 4 ∨ w = 5 ∨ w = 6 ∨ w = 7 ∨ w = 8 ∨ w = 9 ∨ w = 10 ∨ w = 11 by omega) with rfl | rfl | rfl | rfl | rfl | rfl | rfl | rfl | rfl | rfl | rfl | rfl
  · refine rd _ ?_
    show (if (32 : Int32) < 0 ∨ mm_N G (mm_R G m 5) ≤ (32 : Int32).toNatClampNeg then none else some (Sum.inl (σ.1 (mm_R G m 5) (32 : Int32).toNatClampNeg, σ))) = some (Sum.inl (nI (a_n (p_A Y)), σ))
    rw [M5, tc32, if_neg kc32, hc.2.2.1.1]
  · refine rd _ ?_
    show (if (0 : Int32) < 0 ∨ mm_N G (mm_R G m 5) ≤ (0 : Int32).toNatClampNeg then none else some (Sum.inl (σ.1 (mm_R G m 5) (0 : Int32).toNatClampNeg, σ))) = some (Sum.inl (a_sl (p_A Y), σ))
    rw [M5, tc0, if_neg kc0, hc.2.2.1.2.1]
  · refine rd _ ?_
    show some (Sum.inl (σ.1 m 10, σ)) = some (Sum.inl (nI (p_D Y).length, σ))
    rw [hc.2.2.2.1.1]
  · refine rd _ ?_
    show (fX4_lettersOf G (mm_R G m 5) σ).bind (fun q => some (Sum.inl (q.1, q.2))) = some (Sum.inl (ab_let (p_A Y) 0 (a_n (p_A Y)), σ))
    rw [ml_letters M5 ho.1 hc.2.2.1]; rfl
  · refine rd _ ?_
    show (if (2 : Int32) < 0 ∨ mm_N G (mm_R G m 5) ≤ (2 : Int32).toNatClampNeg then none else some (Sum.inl (σ.1 (mm_R G m 5) (2 : Int32).toNatClampNeg, σ))) = some (Sum.inl (a_hd (p_A Y), σ))
    rw [M5, tc2, if_neg kc2, hc.2.2.1.2.2.2.1]
  · refine rd _ ?_
    show (if (3 : Int32) < 0 ∨ mm_N G (mm_R G m 5) ≤ (3 : Int32).toNatClampNeg then none else some (Sum.inl (σ.1 (mm_R G m 5) (3 : Int32).toNatClampNeg, σ))) = some (Sum.inl (a_ls (p_A Y), σ))
    rw [M5, tc3, if_neg kc3, hc.2.2.1.2.2.2.2.1]
  · refine rd _ ?_
    show (if (1 : Int32) < 0 ∨ mm_N G (mm_R G m 5) ≤ (1 : Int32).toNatClampNeg then none else some (Sum.inl (σ.1 (mm_R G m 5) (1 : Int32).toNatClampNeg, σ))) = some (Sum.inl (a_tk (p_A Y), σ))
    rw [M5, tc1, if_neg kc1, hc.2.2.1.2.2.1]
  · have hfor := mm_for (f := fX4_count_s G m (nI 7)) (fun k => Sum.inl (cthr (p_rs Y) k, nI k, σ)) 6 (fun k hk => by
      show fX4_count_b115 G m (nI 7) (cthr (p_rs Y) k) (nI k) σ = _
      unfold fX4_count_b115 fX4_count_b136
      rw [if_pos (show nI k < (6 : Int32) from nI_lt hk (by decide)), N0, nI_clamp (by omega : k < 2 ^ 31), if_neg (ck_n hk (by omega)), (hc.1 k hk).1, add_c (r60 k hk), nI_1, cthr_s])
    unfold fX4_count
    rw [show fX4_count_b0 G m (nI 7) σ = some (.inr (.inl (cthr (p_rs Y) 0, nI 0, σ))) from rfl, mm_run_go, hfor]
    refine mm_lim_ret ?_
    show fX4_count_b115 G m (nI 7) (cthr (p_rs Y) 6) (nI 6) σ = _
    unfold fX4_count_b115
    rw [if_neg (show ¬ nI 6 < (6 : Int32) by decide)]
    rfl
  · have hfor := mm_for (f := fX4_count_s G m (nI 8)) (fun k => Sum.inr (Sum.inl (cthr (p_ts Y) k, nI k, σ))) 4 (fun k hk => by
      show fX4_count_b148 G m (nI 8) (cthr (p_ts Y) k) (nI k) σ = _
      unfold fX4_count_b148 fX4_count_b168
      rw [if_pos (show nI k < (4 : Int32) from nI_lt hk (by decide)), N3, nI_clamp (by omega : k < 2 ^ 31), if_neg (ck_n hk (by omega)), (hc.2.1 k hk).1, add_c (t60 k hk), nI_1, cthr_s])
    unfold fX4_count
    rw [show fX4_count_b0 G m (nI 8) σ = some (.inr (.inr (.inl (cthr (p_ts Y) 0, nI 0, σ)))) from rfl, mm_run_go, hfor]
    refine mm_lim_ret ?_
    show fX4_count_b148 G m (nI 8) (cthr (p_ts Y) 4) (nI 4) σ = _
    unfold fX4_count_b148
    rw [if_neg (show ¬ nI 4 < (4 : Int32) by decide)]
    rfl
  · have hfor := mm_for (f := fX4_count_s G m (nI 9)) (fun k => Sum.inr (Sum.inr (cthr (kz Y) k, nI k, σ))) 3 (fun k hk => by
      show fX4_count_b180 G m (nI 9) (cthr (kz Y) k) (nI k) σ = _
      unfold fX4_count_b180 fX4_count_b204
      rw [N13, if_pos (show nI k < Int32.ofNat 3 from nI_lt hk (by decide)), nI_clamp (by omega : k < 2 ^ 31), if_neg (ck_n hk (by omega)), ml_kz hc hk, add_c (k60 k hk), nI_1, cthr_s])
    unfold fX4_count
    rw [show fX4_count_b0 G m (nI 9) σ = some (.inr (.inr (.inr (cthr (kz Y) 0, nI 0, σ)))) from rfl, mm_run_go, hfor]
    refine mm_lim_ret ?_
    show fX4_count_b180 G m (nI 9) (cthr (kz Y) 3) (nI 3) σ = _
    unfold fX4_count_b180
    rw [N13, if_neg (show ¬ nI 3 < Int32.ofNat 3 by decide)]
    rfl
  · refine rd _ ?_
    show (fX4_ofKind G m 1 σ).bind (fun q => some (Sum.inl (q.1, q.2))) = some (Sum.inl (ckd (p_A Y) 1 (a_n (p_A Y)), σ))
    rw [ml_ckd gm ok (by decide) hc]; rfl
  · refine rd _ ?_
    show (fX4_ofKind G m 2 σ).bind (fun q => some (Sum.inl (q.1, q.2))) = some (Sum.inl (ckd (p_A Y) 2 (a_n (p_A Y)), σ))
    rw [ml_ckd gm ok (by decide) hc]; rfl
theorem J_count (gx : gX G x cd) (gm : gM G m cd) (ok : okP Y) (v : Int32) : Jc G x m cd (fX3_count G x v) (fX4_count G m v) Y := by
  rcases pk_ix v (n := 12) (by omega) with hi | hi | ⟨w, hw, rfl⟩
  · refine J_same (-1) ok (fun σ hc => by unfold fX3_count; rw [if_pos hi]) (fun σ hc => ?_)
    have hne : ∀ j : Nat, j < 12 → ¬ v = nI j := fun j hj e => by
      rw [e] at hi
      exact nI_pos (by omega) hi
    unfold fX4_count fX4_count_b0
    rw [if_neg (show ¬ v = 0 from hne 0 (by decide)), if_neg (show ¬ v = 1 from hne 1 (by decide)), if_neg (show ¬ v = 2 from hne 2 (by decide)), if_neg (show ¬ v = 3 from hne 3 (by decide)), if_neg (show ¬ v = 4 from hne 4 (by decide)), if_neg (show ¬ v = 5 from hne 5 (by decide)), if_neg (show ¬ v = 6 from hne 6 (by decide)), if_neg (show ¬ v = 7 from hne 7 (by decide)), if_neg (show ¬ v = 8 from hne 8 (by decide)), if_neg (show ¬ v = 9 from hne 9 (by decide)), if_neg (show ¬ v = 10 from hne 10 (by decide)), if_neg (show ¬ v = 11 from hne 11 (by decide))]
    rfl
  · have h0 : ¬ v < 0 := fun q => by
      have := Int32.lt_of_le_of_lt hi q
      exact absurd this (by decide)
    refine J_same (-1) ok (fun σ hc => by unfold fX3_count; rw [if_neg h0, if_neg (show ¬ v < (12 : Int32) from Int32.not_lt.mpr hi)]) (fun σ hc => ?_)
    have hne : ∀ j : Nat, j < 12 → ¬ v = nI j := fun j hj e => by
      rw [e] at hi
      exact nI_ge hj (by decide) hi
    unfold fX4_count fX4_count_b0
    rw [if_neg (show ¬ v = 0 from hne 0 (by decide)), if_neg (show ¬ v = 1 from hne 1 (by decide)), if_neg (show ¬ v = 2 from hne 2 (by decide)), if_neg (show ¬ v = 3 from hne 3 (by decide)), if_neg (show ¬ v = 4 from hne 4 (by decide)), if_neg (show ¬ v = 5 from hne 5 (by decide)), if_neg (show ¬ v = 6 from hne 6 (by decide)), if_neg (show ¬ v = 7 from hne 7 (by decide)), if_neg (show ¬ v = 8 from hne 8 (by decide)), if_neg (show ¬ v = 9 from hne 9 (by decide)), if_neg (show ¬ v = 10 from hne 10 (by decide)), if_neg (show ¬ v = 11 from hne 11 (by decide))]
    rfl
  · refine J_same (ct Y w) ok (fun σ hc => ?_) (fun σ hc => ml_count gm ok hw hc)
    unfold fX3_count
    rw [if_neg (nI_pos (by omega)), if_pos (show nI w < (12 : Int32) from nI_lt hw (by decide)), be, cx_counted gx ok hw hc]
/-! digest -/
def hh (h : Int64) (v : Int32) : Int64 := (31 : Int64) * h + v.toInt64
def dgf (f : Nat → Int32) (h : Int64) : Nat → Int64
  | 0 => h
  | k + 1 => hh (dgf f h k) (f k)
def dgr (sz : Nat → Int32) (f : Nat → Nat → Int32) (h : Int64) : Nat → Int64
  | 0 => h
  | r + 1 => dgf (f r) (hh (dgr sz f h r) (sz r)) (sz r).toNatClampNeg
def dgs (A : ab_A) (h : Int64) : Nat → Int64
  | 0 => h
  | i + 1 => dgf (fun w => s_tell (a_st A i) (a_tk A) (nI w)) (dgs A h i) 7
def dig (Y : Ps) : Int64 := dgr (p_ts Y) (p_tv Y) (dgr (p_rs Y) (p_rv Y) (dgf (kz Y) (dgs (p_A Y) (dgf (ct Y) 17 12) (a_n (p_A Y))) 3) 6) 4
abbrev T2 : Type := Int64 × Int32 × mm_M
abbrev T3 : Type := Int64 × Int32 × Int32 × mm_M
abbrev TS : Type := T2 ⊕ (T2 ⊕ (T3 ⊕ (T2 ⊕ (T2 ⊕ (T3 ⊕ (T2 ⊕ T3))))))
theorem dg_run {s : TS → Option ((Int64 × mm_M) ⊕ TS)} {σ : mm_M} (ok : okP Y)
    (hA : ∀ h k, k < 12 → s (.inl (h, nI k, σ)) = some (.inr (.inl (hh h (ct Y k), nI (k + 1), σ)))) (hA' : ∀ h, s (.inl (h, nI 12, σ)) = some (.inr (.inr (.inl (h, nI 0, σ)))))
    (hB : ∀ h i, i < a_n (p_A Y) → s (.inr (.inl (h, nI i, σ))) = some (.inr (.inr (.inr (.inl (h, nI i, nI 0, σ)))))) (hB' : ∀ h, s (.inr (.inl (h, nI (a_n (p_A Y)), σ))) = some (.inr (.inr (.inr (.inr (.inl (h, nI 0, σ)))))))
    (hC : ∀ h i w, i < a_n (p_A Y) → w < 7 → s (.inr (.inr (.inl (h, nI i, nI w, σ)))) = some (.inr (.inr (.inr (.inl (hh h (s_tell (a_st (p_A Y) i) (a_tk (p_A Y)) (nI w)), nI i, nI (w + 1), σ)))))) (hC' : ∀ h i, i < a_n (p_A Y) → s (.inr (.inr (.inl (h, nI i, nI 7, σ)))) = some (.inr (.inr (.inl (h, nI (i + 1), σ)))))
    (hD : ∀ h k, k < 3 → s (.inr (.inr (.inr (.inl (h, nI k, σ))))) = some (.inr (.inr (.inr (.inr (.inl (hh h (kz Y k), nI (k + 1), σ))))))) (hD' : ∀ h, s (.inr (.inr (.inr (.inl (h, nI 3, σ))))) = some (.inr (.inr (.inr (.inr (.inr (.inl (h, nI 0, σ))))))))
    (hE : ∀ h r, r < 6 → s (.inr (.inr (.inr (.inr (.inl (h, nI r, σ)))))) = some (.inr (.inr (.inr (.inr (.inr (.inr (.inl (hh h (p_rs Y r), nI r, nI 0, σ))))))))) (hE' : ∀ h, s (.inr (.inr (.inr (.inr (.inl (h, nI 6, σ)))))) = some (.inr (.inr (.inr (.inr (.inr (.inr (.inr (.inl (h, nI 0, σ))))))))))
    (hF : ∀ h r i, r < 6 → nI i < p_rs Y r → i < 40 → s (.inr (.inr (.inr (.inr (.inr (.inl (h, nI r, nI i, σ))))))) = some (.inr (.inr (.inr (.inr (.inr (.inr (.inl (hh h (p_rv Y r i), nI r, nI (i + 1), σ))))))))) (hF' : ∀ h r i, r < 6 → i ≤ 40 → ¬ nI i < p_rs Y r → s (.inr (.inr (.inr (.inr (.inr (.inl (h, nI r, nI i, σ))))))) = some (.inr (.inr (.inr (.inr (.inr (.inl (h, nI (r + 1), σ))))))))
    (hG : ∀ h r, r < 4 → s (.inr (.inr (.inr (.inr (.inr (.inr (.inl (h, nI r, σ)))))))) = some (.inr (.inr (.inr (.inr (.inr (.inr (.inr (.inr (hh h (p_ts Y r), nI r, nI 0, σ)))))))))) (hG' : ∀ h, s (.inr (.inr (.inr (.inr (.inr (.inr (.inl (h, nI 4, σ)))))))) = some (.inl (h, σ)))
    (hH : ∀ h r i, r < 4 → nI i < p_ts Y r → i < 60 → s (.inr (.inr (.inr (.inr (.inr (.inr (.inr (h, nI r, nI i, σ)))))))) = some (.inr (.inr (.inr (.inr (.inr (.inr (.inr (.inr (hh h (p_tv Y r i), nI r, nI (i + 1), σ)))))))))) (hH' : ∀ h r i, r < 4 → i ≤ 60 → ¬ nI i < p_ts Y r → s (.inr (.inr (.inr (.inr (.inr (.inr (.inr (h, nI r, nI i, σ)))))))) = some (.inr (.inr (.inr (.inr (.inr (.inr (.inr (.inl (h, nI (r + 1), σ)))))))))) :
    mm_lim s (.inl (17, nI 0, σ)) = some (dig Y, σ) := by
  have a1 := mm_for (f := s) (fun k => Sum.inl (dgf (ct Y) 17 k, nI k, σ)) 12 (fun k hk => hA _ k hk)
  have b1 := mm_for (f := s) (fun k => Sum.inr (Sum.inr (Sum.inr (Sum.inl (dgf (kz Y) (dgs (p_A Y) (dgf (ct Y) 17 12) (a_n (p_A Y))) k, nI k, σ))))) 3 (fun k hk => hD _ k hk)
  obtain ⟨st, l1, rfl⟩ := mm_loop (f := s) (fun i st => st = Sum.inr (Sum.inl (dgs (p_A Y) (dgf (ct Y) 17 12) i, nI i, σ))) (a_n (p_A Y)) (fun i st hi hI => by
    subst hI
    refine ⟨_, ?_, rfl⟩
    rw [mm_lim_go (hB _ i hi)]
    show mm_lim s (Sum.inr (Sum.inr (Sum.inl (dgf (fun w => s_tell (a_st (p_A Y) i) (a_tk (p_A Y)) (nI w)) (dgs (p_A Y) (dgf (ct Y) 17 12) i) 0, nI i, nI 0, σ)))) = _
    rw [mm_for (f := s) (fun w => Sum.inr (Sum.inr (Sum.inl (dgf (fun w => s_tell (a_st (p_A Y) i) (a_tk (p_A Y)) (nI w)) (dgs (p_A Y) (dgf (ct Y) 17 12) i) w, nI i, nI w, σ)))) 7 (fun w hw => hC _ i w hi hw)]
    exact mm_lim_go (hC' _ i hi)) (Sum.inr (Sum.inl (dgs (p_A Y) (dgf (ct Y) 17 12) 0, nI 0, σ))) rfl
  obtain ⟨st, l2, rfl⟩ := mm_loop (f := s) (fun r st => st = Sum.inr (Sum.inr (Sum.inr (Sum.inr (Sum.inl (dgr (p_rs Y) (p_rv Y) (dgf (kz Y) (dgs (p_A Y) (dgf (ct Y) 17 12) (a_n (p_A Y))) 3) r, nI r, σ)))))) 6 (fun r st hr hI => by
    subst hI
    generalize hh0 : dgr (p_rs Y) (p_rv Y) (dgf (kz Y) (dgs (p_A Y) (dgf (ct Y) 17 12) (a_n (p_A Y))) 3) r = h0
    refine ⟨_, ?_, rfl⟩
    have e : dgr (p_rs Y) (p_rv Y) (dgf (kz Y) (dgs (p_A Y) (dgf (ct Y) 17 12) (a_n (p_A Y))) 3) (r + 1) = dgf (p_rv Y r) (hh h0 (p_rs Y r)) (p_rs Y r).toNatClampNeg := by rw [← hh0]; rfl
    rw [e, mm_lim_go (hE _ r hr)]
    show mm_lim s (Sum.inr (Sum.inr (Sum.inr (Sum.inr (Sum.inr (Sum.inl (dgf (p_rv Y r) (hh h0 (p_rs Y r)) 0, nI r, nI 0, σ))))))) = _
    rcases ok.1 r hr with q | ⟨n, hn, q⟩
    · rw [q, show ((-1 : Int32)).toNatClampNeg = 0 from by decide]
      exact mm_lim_go (hF' _ r 0 hr (by omega) (by rw [q]; decide))
    · have ec : (p_rs Y r).toNatClampNeg = n := by rw [q, nI_clamp (by omega)]
      rw [ec, mm_for (f := s) (fun i => Sum.inr (Sum.inr (Sum.inr (Sum.inr (Sum.inr (Sum.inl (dgf (p_rv Y r) (hh h0 (p_rs Y r)) i, nI r, nI i, σ))))))) n (fun i hi => hF _ r i hr (by rw [q]; exact nI_lt hi (by omega)) (by omega))]
      exact mm_lim_go (hF' _ r n hr hn (by rw [q]; exact Int32.lt_irrefl))) (Sum.inr (Sum.inr (Sum.inr (Sum.inr (Sum.inl (dgr (p_rs Y) (p_rv Y) (dgf (kz Y) (dgs (p_A Y) (dgf (ct Y) 17 12) (a_n (p_A Y))) 3) 0, nI 0, σ)))))) rfl
  obtain ⟨st, l3, rfl⟩ := mm_loop (f := s) (fun r st => st = Sum.inr (Sum.inr (Sum.inr (Sum.inr (Sum.inr (Sum.inr (Sum.inl (dgr (p_ts Y) (p_tv Y) (dgr (p_rs Y) (p_rv Y) (dgf (kz Y) (dgs (p_A Y) (dgf (ct Y) 17 12) (a_n (p_A Y))) 3) 6) r, nI r, σ)))))))) 4 (fun r st hr hI => by
    subst hI
    generalize hh0 : dgr (p_ts Y) (p_tv Y) (dgr (p_rs Y) (p_rv Y) (dgf (kz Y) (dgs (p_A Y) (dgf (ct Y) 17 12) (a_n (p_A Y))) 3) 6) r = h0
    refine ⟨_, ?_, rfl⟩
    have e : dgr (p_ts Y) (p_tv Y) (dgr (p_rs Y) (p_rv Y) (dgf (kz Y) (dgs (p_A Y) (dgf (ct Y) 17 12) (a_n (p_A Y))) 3) 6) (r + 1) = dgf (p_tv Y r) (hh h0 (p_ts Y r)) (p_ts Y r).toNatClampNeg := by rw [← hh0]; rfl
    rw [e, mm_lim_go (hG _ r hr)]
    show mm_lim s (Sum.inr (Sum.inr (Sum.inr (Sum.inr (Sum.inr (Sum.inr (Sum.inr (dgf (p_tv Y r) (hh h0 (p_ts Y r)) 0, nI r, nI 0, σ)))))))) = _
    rcases ok.2.1 r hr with q | ⟨n, hn, q⟩
    · rw [q, show ((-1 : Int32)).toNatClampNeg = 0 from by decide]
      exact mm_lim_go (hH' _ r 0 hr (by omega) (by rw [q]; decide))
    · have ec : (p_ts Y r).toNatClampNeg = n := by rw [q, nI_clamp (by omega)]
      rw [ec, mm_for (f := s) (fun i => Sum.inr (Sum.inr (Sum.inr (Sum.inr (Sum.inr (Sum.inr (Sum.inr (dgf (p_tv Y r) (hh h0 (p_ts Y r)) i, nI r, nI i, σ)))))))) n (fun i hi => hH _ r i hr (by rw [q]; exact nI_lt hi (by omega)) (by omega))]
      exact mm_lim_go (hH' _ r n hr hn (by rw [q]; exact Int32.lt_irrefl))) (Sum.inr (Sum.inr (Sum.inr (Sum.inr (Sum.inr (Sum.inr (Sum.inl (dgr (p_ts Y) (p_tv Y) (dgr (p_rs Y) (p_rv Y) (dgf (kz Y) (dgs (p_A Y) (dgf (ct Y) 17 12) (a_n (p_A Y))) 3) 6) 0, nI 0, σ)))))))) rfl
  refine a1.trans ((mm_lim_go (hA' _)).trans (l1.trans ((mm_lim_go (hB' _)).trans (b1.trans ((mm_lim_go (hD' _)).trans (l2.trans ((mm_lim_go (hE' _)).trans (l3.trans (mm_lim_ret (hG' _))))))))))
theorem J_digest (gx : gX G x cd) (gm : gM G m cd) (ok : okP Y) : Jc G x m cd (fX3_digest G x) (fX4_digest G m) Y := by
  have h7 := (okP_n ok).2
  refine J_same (dig Y) ok (fun σ hc => ?_) (fun σ hc => ?_)
  · obtain ⟨-, -, ⟨N0, e0⟩, ⟨N1, -⟩, ⟨N2, e2⟩, ⟨N3, -⟩, -, -, -, ⟨eN7, e7⟩, -⟩ := id gx
    unfold fX3_digest fX3_digest_b0
    rw [mm_run_go]
    refine dg_run ok (fun h k hk => ?_) (fun h => ?_) (fun h i hi => ?_) (fun h => ?_) (fun h i w hi hw => ?_) (fun h i hi => ?_) (fun h k hk => ?_) (fun h => ?_) (fun h r hr => ?_) (fun h => ?_) (fun h r i hr hi h40 => ?_) (fun h r i hr h40 hi => ?_) (fun h r hr => ?_) (fun h => ?_) (fun h r i hr hi h40 => ?_) (fun h r i hr h40 hi => ?_)
    · show fX3_digest_b6 G x h (nI k) σ = _
      unfold fX3_digest_b6
      rw [if_pos (show nI k < (12 : Int32) from nI_lt hk (by decide)), cx_counted gx ok hk hc, nI_1]
      rfl
    · show fX3_digest_b6 G x h (nI 12) σ = _
      unfold fX3_digest_b6
      rw [if_neg (show ¬ nI 12 < (12 : Int32) by decide)]
      rfl
    · show fX3_digest_b33 G x h (nI i) σ = _
      unfold fX3_digest_b33
      rw [hc.2.2.1.1, if_pos (nI_lt hi (by omega))]
      rfl
    · show fX3_digest_b33 G x h (nI (a_n (p_A Y))) σ = _
      unfold fX3_digest_b33
      rw [hc.2.2.1.1, if_neg Int32.lt_irrefl]
      rfl
    · show fX3_digest_b47 G x h (nI i) (nI w) σ = _
      unfold fX3_digest_b47
      rw [if_pos (show nI w < (7 : Int32) from nI_lt hw (by decide)), (gX_ga5 gx).1, nI_clamp (by omega : i < 2 ^ 31), if_neg (ck_n (by omega) (by omega)), nI_1]
      show (fX2_told G (sa G (mm_R G x 5) i) (nI w) (σ.1 (mm_R G x 5) 5) σ).bind _ = _
      rw [cx_tell gx ok hi (nI w) hc]
      rfl
    · show fX3_digest_b47 G x h (nI i) (nI 7) σ = _
      unfold fX3_digest_b47
      rw [if_neg (show ¬ nI 7 < (7 : Int32) by decide), nI_1]
    · show fX3_digest_b97 G x h (nI k) σ = _
      unfold fX3_digest_b97
      rw [if_pos (show nI k < (3 : Int32) from nI_lt hk (by decide)), eN7, nI_clamp (by omega : k < 2 ^ 31), if_neg (ck_n hk (by omega)), cx_kz gx hc hk, nI_1]
      rfl
    · show fX3_digest_b97 G x h (nI 3) σ = _
      unfold fX3_digest_b97
      rw [if_neg (show ¬ nI 3 < (3 : Int32) by decide)]
      rfl
    · show fX3_digest_b127 G x h (nI r) σ = _
      unfold fX3_digest_b127
      rw [if_pos (show nI r < (6 : Int32) from nI_lt hr (by decide)), N1, nI_clamp (by omega : r < 2 ^ 31), if_neg (ck_n hr (by omega)), (hc.1 r hr).1]
      rfl
    · show fX3_digest_b127 G x h (nI 6) σ = _
      unfold fX3_digest_b127
      rw [if_neg (show ¬ nI 6 < (6 : Int32) by decide)]
      rfl
    · show fX3_digest_b150 G x h (nI r) (nI i) σ = _
      unfold fX3_digest_b150
      rw [N1, nI_clamp (by omega : r < 2 ^ 31), if_neg (ck_n hr (by omega)), (hc.1 r hr).1, if_pos hi, N0, if_neg (ck_n hr (by omega)), (e0 r hr).2, nI_clamp (by omega : i < 2 ^ 31), if_neg (ck_n h40 (by omega)), (hc.1 r hr).2 i hi h40, nI_1]
      rfl
    · show fX3_digest_b150 G x h (nI r) (nI i) σ = _
      unfold fX3_digest_b150
      rw [N1, nI_clamp (by omega : r < 2 ^ 31), if_neg (ck_n hr (by omega)), (hc.1 r hr).1, if_neg hi, nI_1]
    · show fX3_digest_b192 G x h (nI r) σ = _
      unfold fX3_digest_b192
      rw [if_pos (show nI r < (4 : Int32) from nI_lt hr (by decide)), N3, nI_clamp (by omega : r < 2 ^ 31), if_neg (ck_n hr (by omega)), (hc.2.1 r hr).1]
      rfl
    · show fX3_digest_b192 G x h (nI 4) σ = _
      unfold fX3_digest_b192
      rw [if_neg (show ¬ nI 4 < (4 : Int32) by decide)]
    · show fX3_digest_b214 G x h (nI r) (nI i) σ = _
      unfold fX3_digest_b214
      rw [N3, nI_clamp (by omega : r < 2 ^ 31), if_neg (ck_n hr (by omega)), (hc.2.1 r hr).1, if_pos hi, N2, if_neg (ck_n hr (by omega)), (e2 r hr).2, nI_clamp (by omega : i < 2 ^ 31), if_neg (ck_n h40 (by omega)), (hc.2.1 r hr).2 i hi h40, nI_1]
      rfl
    · show fX3_digest_b214 G x h (nI r) (nI i) σ = _
      unfold fX3_digest_b214
      rw [N3, nI_clamp (by omega : r < 2 ^ 31), if_neg (ck_n hr (by omega)), (hc.2.1 r hr).1, if_neg hi, nI_1]
  · obtain ⟨n57, M5, M7, q7⟩ := gM_57 gm
    obtain ⟨-, e0, ⟨c0, N0⟩, ⟨c1, N1⟩, -, ⟨c3, N3⟩, ⟨c4, N4⟩, -, -, -, -, -, -, -, ⟨c13, N13⟩, -⟩ := id gm
    unfold fX4_digest fX4_digest_b0
    rw [mm_run_go]
    refine dg_run ok (fun h k hk => ?_) (fun h => ?_) (fun h i hi => ?_) (fun h => ?_) (fun h i w hi hw => ?_) (fun h i hi => ?_) (fun h k hk => ?_) (fun h => ?_) (fun h r hr => ?_) (fun h => ?_) (fun h r i hr hi h40 => ?_) (fun h r i hr h40 hi => ?_) (fun h r hr => ?_) (fun h => ?_) (fun h r i hr hi h40 => ?_) (fun h r i hr h40 hi => ?_)
    · show fX4_digest_b6 G m h (nI k) σ = _
      unfold fX4_digest_b6
      rw [if_pos (show nI k < (12 : Int32) from nI_lt hk (by decide)), ml_count gm ok hk hc, nI_1]
      rfl
    · show fX4_digest_b6 G m h (nI 12) σ = _
      unfold fX4_digest_b6
      rw [if_neg (show ¬ nI 12 < (12 : Int32) by decide)]
      rfl
    · show fX4_digest_b33 G m h (nI i) σ = _
      unfold fX4_digest_b33
      rw [M5, tc32, if_neg kc32, hc.2.2.1.1, if_pos (nI_lt hi (by omega))]
      rfl
    · show fX4_digest_b33 G m h (nI (a_n (p_A Y))) σ = _
      unfold fX4_digest_b33
      rw [M5, tc32, if_neg kc32, hc.2.2.1.1, if_neg Int32.lt_irrefl]
      rfl
    · show fX4_digest_b47 G m h (nI i) (nI w) σ = _
      unfold fX4_digest_b47
      rw [if_pos (show nI w < (7 : Int32) from nI_lt hw (by decide)), ml_tell gm ok hi (nI w) hc, nI_1]
      rfl
    · show fX4_digest_b47 G m h (nI i) (nI 7) σ = _
      unfold fX4_digest_b47
      rw [if_neg (show ¬ nI 7 < (7 : Int32) by decide), nI_1]
    · show fX4_digest_b83 G m h (nI k) σ = _
      unfold fX4_digest_b83
      rw [N13, if_pos (show nI k < Int32.ofNat 3 from nI_lt hk (by decide)), nI_clamp (by omega : k < 2 ^ 31), if_neg (ck_n hk (by omega)), ml_kz hc hk, nI_1]
      rfl
    · show fX4_digest_b83 G m h (nI 3) σ = _
      unfold fX4_digest_b83
      rw [N13, if_neg (show ¬ nI 3 < Int32.ofNat 3 by decide)]
      rfl
    · show fX4_digest_b114 G m h (nI r) σ = _
      unfold fX4_digest_b114
      rw [if_pos (show nI r < (6 : Int32) from nI_lt hr (by decide)), N0, nI_clamp (by omega : r < 2 ^ 31), if_neg (ck_n hr (by omega)), (hc.1 r hr).1]
      rfl
    · show fX4_digest_b114 G m h (nI 6) σ = _
      unfold fX4_digest_b114
      rw [if_neg (show ¬ nI 6 < (6 : Int32) by decide)]
      rfl
    · show fX4_digest_b137 G m h (nI r) (nI i) σ = _
      unfold fX4_digest_b137
      rw [N0, nI_clamp (by omega : r < 2 ^ 31), if_neg (ck_n hr (by omega)), (hc.1 r hr).1, if_pos hi, N1, if_neg (ck40 hr h40), cl40 hr h40, (hc.1 r hr).2 i hi h40, nI_1]
      rfl
    · show fX4_digest_b137 G m h (nI r) (nI i) σ = _
      unfold fX4_digest_b137
      rw [N0, nI_clamp (by omega : r < 2 ^ 31), if_neg (ck_n hr (by omega)), (hc.1 r hr).1, if_neg hi, nI_1]
    · show fX4_digest_b182 G m h (nI r) σ = _
      unfold fX4_digest_b182
      rw [if_pos (show nI r < (4 : Int32) from nI_lt hr (by decide)), N3, nI_clamp (by omega : r < 2 ^ 31), if_neg (ck_n hr (by omega)), (hc.2.1 r hr).1]
      rfl
    · show fX4_digest_b182 G m h (nI 4) σ = _
      unfold fX4_digest_b182
      rw [if_neg (show ¬ nI 4 < (4 : Int32) by decide)]
    · show fX4_digest_b204 G m h (nI r) (nI i) σ = _
      unfold fX4_digest_b204
      rw [N3, nI_clamp (by omega : r < 2 ^ 31), if_neg (ck_n hr (by omega)), (hc.2.1 r hr).1, if_pos hi, N4, if_neg (ck60 hr h40), cl60 hr h40, (hc.2.1 r hr).2 i hi h40, nI_1]
      rfl
    · show fX4_digest_b204 G m h (nI r) (nI i) σ = _
      unfold fX4_digest_b204
      rw [N3, nI_clamp (by omega : r < 2 ^ 31), if_neg (ck_n hr (by omega)), (hc.2.1 r hr).1, if_neg hi, nI_1]
end CO
