/-! test, on the model's side, and both -/
section TM
variable {G : mm_G} {x m : Nat} {cd : Nat → Nat} {Y : Ps}
theorem gM_t (gm : gM G m cd) : mm_N G (mm_R G m 20) = 8 ∧ mm_N G (mm_R G m 21) = 126 ∧ mm_R G m 20 ≠ mm_R G m 7 ∧ mm_R G m 21 ≠ mm_R G m 7 ∧ mm_R G m 20 ≠ mm_R G m 21 ∧ mm_R G m 5 ≠ mm_R G m 21 ∧ qY cd (mm_R G m 20) ∧ qY cd (mm_R G m 21) := by
  obtain ⟨-, e0, -, -, -, -, -, ⟨m5, -⟩, -, ⟨m7, -⟩, -, -, -, -, -, -, -, ⟨m20, N20⟩, ⟨m21, N21⟩⟩ := id gm
  refine ⟨N20, N21, fun e => by rw [e] at m20; omega, fun e => by rw [e] at m21; omega, fun e => by rw [e] at m20; omega, fun e => by rw [e] at m5; omega, ?_, ?_⟩
  · unfold qY; omega
  · unfold qY; omega
theorem ix21 {k s : Nat} (hk : k < 6) (hs : s < 21) : (21 : Int32) * nI k + nI s = nI (21 * k + s) ∧ 21 * k + s < 126 := by
  refine ⟨by rw [show (21 : Int32) = nI 21 from rfl, pk_mul, nI_add], by omega⟩
/-- the model notes how many talk, kind after kind -/
theorem ml_note (gm : gM G m cd) (ok : okP Y) {i : Nat} (x2 fit : Int32) (hi : i < a_n (p_A Y)) {σ : mm_M} (r5 : rM σ (mm_R G m 5) (p_A Y) 0) : ∃ σ', mm_lim (fX4_test_s G m (nI i) x2) (Sum.inl (fit, nI 0, σ)) = mm_lim (fX4_test_s G m (nI i) x2) (Sum.inr (Sum.inr (Sum.inl (fit, -9, 99, nI 1, σ')))) ∧ (∀ k, k < 6 → ∀ s, s < 20 → σ'.1 (mm_R G m 21) (21 * k + (s + 1)) = nI (wN (p_A Y) i s k)) ∧ mm_sm (qY cd) σ σ' := by
  obtain ⟨t, ht, et, ho, hlt⟩ := okP_A ok
  have hn7 := ho.1
  obtain ⟨n57, M5, M7, q7⟩ := gM_57 gm
  obtain ⟨N20, N21, n207, n217, n2021, n521, q20, q21⟩ := gM_t gm
  obtain ⟨s, l1, σ1, rfl, v1, r51, m1⟩ := mm_loop (f := fX4_test_s G m (nI i) x2) (fun k s => ∃ σ', s = Sum.inl (fit, nI k, σ') ∧ (∀ q, q < k → ∀ s, s < 20 → σ'.1 (mm_R G m 21) (21 * q + (s + 1)) = nI (wN (p_A Y) i s q)) ∧ rM σ' (mm_R G m 5) (p_A Y) 0 ∧ mm_sm (qY cd) σ σ') 6 (fun k s hk hI => by
    obtain ⟨σ1, rfl, v1, r51, m1⟩ := hI
    obtain ⟨σ2, f2, r2, m2⟩ := ml_aside gm ok r51
    have m3 : mm_sm (fun b => b = mm_R G m 7 ∨ b = mm_R G m 21) σ1 (mm_up σ2 (mm_R G m 7) (33 + i) (nI k)) := mm_sm_up (mm_sm_mono m2 (fun b hb => Or.inl hb)) (Or.inl rfl)
    have v3 : (mm_up σ2 (mm_R G m 7) (33 + i) (nI k)).1 (mm_R G m 21) = σ1.1 (mm_R G m 21) := by rw [mm_ga n217, m2.1 _ n217]
    have r3 := ml_kset (k := k) hn7 hi r2
    have ho3 := ab_set_ok (i := i) ho (s_kind_ok (ho.2.2.2 i hi) (show k ≤ 5 by omega))
    obtain ⟨s, l4, σ4, rfl, v4, w4, r4, m4⟩ := mm_loop (f := fX4_test_s G m (nI i) x2) (fun q s => ∃ σ', s = Sum.inr (Sum.inl (fit, nI k, nI (q + 1), σ')) ∧ (∀ s, s < q → σ'.1 (mm_R G m 21) (21 * k + (s + 1)) = nI (wN (p_A Y) i s k)) ∧ (∀ p, p < k → ∀ s, s < 20 → σ'.1 (mm_R G m 21) (21 * p + (s + 1)) = nI (wN (p_A Y) i s p)) ∧ rM σ' (mm_R G m 7) (ab_it (ab_set (p_A Y) i (s_kind (a_st (p_A Y) i) (nI k))) 0 q) 0 ∧ mm_sm (fun b => b = mm_R G m 7 ∨ b = mm_R G m 21) σ1 σ') 20 (fun q s hq hI => by
      obtain ⟨σ4, rfl, v4, w4, r4, m4⟩ := hI
      have hoq := ab_it_ok 0 ho3 q (by omega)
      obtain ⟨σ5, f5, r5', m5⟩ := ml_goes M7 r4 hoq (by omega)
      obtain ⟨i1, i2⟩ := ix21 (s := q + 1) hk (by omega)
      refine ⟨Sum.inr (Sum.inl (fit, nI k, nI (q + 1 + 1), mm_up σ5 (mm_R G m 21) (21 * k + (q + 1)) (nI (wN (p_A Y) i q k)))), mm_lim_go ?_, _, rfl, fun s hs => ?_, fun p hp s hs => ?_, rM_sm (mm_sm_up (S := fun b => b = mm_R G m 21) (mm_sm_rf _ _) rfl) (Ne.symm n217) hoq.1 r5', mm_sm_up (mm_sm_tr m4 (mm_sm_mono m5 (fun b hb => Or.inl hb))) (Or.inr rfl)⟩
      · show fX4_test_b78 G m (nI i) x2 fit (nI k) (nI (q + 1)) σ4 = _
        unfold fX4_test_b78
        rw [if_pos (show nI (q + 1) < (21 : Int32) from nI_lt (show q + 1 < 21 by omega) (by decide)), f5, Option.bind_some, ml_ones, Option.bind_some, i1, N21, nI_clamp (by omega : 21 * k + (q + 1) < 2 ^ 31), if_neg (ck_n (by omega) (by omega)), nI_1]
        show some (Sum.inr (Sum.inr (Sum.inl (fit, nI k, nI (q + 1 + 1), mm_up σ5 (mm_R G m 21) (21 * k + (q + 1)) (ab_ones (ab_who (ab_it (ab_set (p_A Y) i (s_kind (a_st (p_A Y) i) (nI k))) 0 q) 0)))))) = _
        rw [(wN_e (p_A Y) i q k).1]
      · by_cases e : s = q
        · subst e; exact mm_gs ..
        · rw [mm_gk (by omega), m5.1 _ n217]; exact v4 s (by omega)
      · rw [mm_gk (by omega), m5.1 _ n217]; exact w4 p hp s hs) (Sum.inr (Sum.inl (fit, nI k, nI 1, mm_up σ2 (mm_R G m 7) (33 + i) (nI k)))) ⟨_, rfl, fun s hs => absurd hs (Nat.not_lt_zero s), fun p hp s hs => by rw [v3]; exact v1 p hp s hs, r3, m3⟩
    refine ⟨Sum.inl (fit, nI (k + 1), σ4), ?_, σ4, rfl, fun q hq s hs => ?_, rM_sm m4 (fun hor => by
      rcases hor with z | z
      · exact n57 z
      · exact n521 z) hn7 r51, mm_sm_tr m1 (mm_sm_mono m4 (fun b hb => by
      rcases hb with z | z
      · rw [z]; exact q7
      · rw [z]; exact q21))⟩
    · rw [mm_lim_go (show fX4_test_s G m (nI i) x2 (Sum.inl (fit, nI k, σ1)) = some (.inr (.inr (.inl (fit, nI k, nI 1, mm_up σ2 (mm_R G m 7) (33 + i) (nI k))))) from by
        show fX4_test_b47 G m (nI i) x2 fit (nI k) σ1 = _
        unfold fX4_test_b47
        rw [if_neg (show ¬ (5 : Int32) < nI k from nI_nlt (show k ≤ 5 by omega) (by decide)), f2, Option.bind_some, ad33, M7, nI_clamp (by omega : 33 + i < 2 ^ 31), if_neg (kcn (by omega))]
        rfl), l4]
      refine mm_lim_go ?_
      show fX4_test_b78 G m (nI i) x2 fit (nI k) (nI 21) σ4 = _
      unfold fX4_test_b78
      rw [if_neg (show ¬ nI 21 < (21 : Int32) by decide), nI_1]
    · by_cases e : q = k
      · subst e; exact v4 s hs
      · exact w4 q (by omega) s hs) (Sum.inl (fit, nI 0, σ)) ⟨σ, rfl, fun q hq => absurd hq (Nat.not_lt_zero q), r5, mm_sm_rf _ _⟩
  refine ⟨σ1, ?_, fun k hk s hs => v1 k hk s hs, m1⟩
  rw [l1]
  refine mm_lim_go ?_
  show fX4_test_b47 G m (nI i) x2 fit (nI 6) σ1 = _
  unfold fX4_test_b47
  rw [if_pos (show (5 : Int32) < nI 6 by decide)]
  rfl
/-- the model's worst part of a slot -/
theorem ml_part (gm : gM G m cd) {fit x1 x2 b l : Int32} {w : Nat → Nat} {s : Nat} (hs : s < 20) (hw : ∀ k, w k ≤ 7) {σ : mm_M} (hf : ¬ fit = 0) (hv : ∀ k, k < 6 → σ.1 (mm_R G m 21) (21 * k + (s + 1)) = nI (w k)) : ∃ σ', mm_lim (fX4_test_s G m x1 x2) (Sum.inr (Sum.inr (Sum.inl (fit, b, l, nI (s + 1), σ)))) = mm_lim (fX4_test_s G m x1 x2) (Sum.inr (Sum.inr (Sum.inl (fit, (if nI (hp (fun k => bt fit k) w 6) < l then nI (s + 1) else b), (if nI (hp (fun k => bt fit k) w 6) < l then nI (hp (fun k => bt fit k) w 6) else l), nI (s + 1 + 1), σ')))) ∧ mm_sm (fun q => q = mm_R G m 20) σ σ' := by
  obtain ⟨N20, N21, n207, n217, n2021, n521, q20, q21⟩ := gM_t gm
  obtain ⟨st, l1, σ1, rfl, z1, m1⟩ := mm_loop (f := fX4_test_s G m x1 x2) (fun c st => ∃ σ', st = Sum.inr (Sum.inr (Sum.inr (Sum.inl (fit, b, l, nI (s + 1), nI c, σ')))) ∧ (∀ q, q < c → σ'.1 (mm_R G m 20) q = 0) ∧ mm_sm (fun q => q = mm_R G m 20) σ σ') 8 (fun c st hc hI => by
    obtain ⟨σ1, rfl, z1, m1⟩ := hI
    refine ⟨Sum.inr (Sum.inr (Sum.inr (Sum.inl (fit, b, l, nI (s + 1), nI (c + 1), mm_up σ1 (mm_R G m 20) c 0)))), mm_lim_go ?_, _, rfl, fun q hq => ?_, mm_sm_up m1 rfl⟩
    · show fX4_test_b146 G m x1 x2 fit b l (nI (s + 1)) (nI c) σ1 = _
      unfold fX4_test_b146
      rw [if_pos (show nI c < (8 : Int32) from nI_lt hc (by decide)), N20, nI_clamp (by omega : c < 2 ^ 31), if_neg (ck_n hc (by omega)), nI_1]
    · by_cases e : q = c
      · subst e; exact mm_gs ..
      · rw [mm_gk e]; exact z1 q (by omega)) (Sum.inr (Sum.inr (Sum.inr (Sum.inl (fit, b, l, nI (s + 1), nI 0, σ))))) ⟨σ, rfl, fun q hq => absurd hq (Nat.not_lt_zero q), mm_sm_rf _ _⟩
  obtain ⟨st, l2, σ2, rfl, z2, m2⟩ := mm_loop (f := fX4_test_s G m x1 x2) (fun k st => ∃ σ', st = Sum.inr (Sum.inr (Sum.inr (Sum.inr (fit, b, l, nI (s + 1), nI (hp (fun k => bt fit k) w k), nI k, σ')))) ∧ (∀ c, c < 8 → σ'.1 (mm_R G m 20) c = nI (cn (fun k => bt fit k) w k c)) ∧ mm_sm (fun q => q = mm_R G m 20) σ σ') 6 (fun k st hk hI => by
    obtain ⟨σ2, rfl, z2, m2⟩ := hI
    obtain ⟨i1, i2⟩ := ix21 (s := s + 1) hk (by omega)
    have hwk := hw k
    have hcn := cn_le (fun k => bt fit k) w (w k) k
    have hcn1 := cn_le (fun k => bt fit k) w (w k) (k + 1)
    have hhp := hp_6 (fun k => bt fit k) w k (by omega)
    have ecn : cn (fun k => bt fit k) w (k + 1) (w k) = cn (fun k => bt fit k) w k (w k) + if bt fit k = true then 1 else 0 := by
      rw [cn_s]
      by_cases hb : bt fit k = true
      · rw [if_pos hb, if_pos ⟨hb, rfl⟩]
      · rw [if_neg hb, if_neg (fun q => hb q.1)]
    refine ⟨Sum.inr (Sum.inr (Sum.inr (Sum.inr (fit, b, l, nI (s + 1), nI (hp (fun k => bt fit k) w (k + 1)), nI (k + 1), mm_up σ2 (mm_R G m 20) (w k) (nI (cn (fun k => bt fit k) w (k + 1) (w k))))))), mm_lim_go ?_, _, rfl, fun c hc => ?_, mm_sm_up m2 rfl⟩
    · show fX4_test_b173 G m x1 x2 fit b l (nI (s + 1)) (nI (hp (fun k => bt fit k) w k)) (nI k) σ2 = _
      have e1 : nI (cn (fun k => bt fit k) w k (w k)) + (if (if bt fit k = true then (1 : Int32) else 0) = 0 then 0 else 1) = nI (cn (fun k => bt fit k) w (k + 1) (w k)) := by
        rw [ecn]
        by_cases hb : bt fit k = true
        · rw [if_pos hb, if_pos hb, if_neg (by decide), nI_1]
        · rw [if_neg hb, if_neg hb, if_pos rfl, Int32.add_zero]; rfl
      unfold fX4_test_b173
      rw [if_neg (show ¬ (5 : Int32) < nI k from nI_nlt (show k ≤ 5 by omega) (by decide)), i1, N21, nI_clamp (by omega : 21 * k + (s + 1) < 2 ^ 31), if_neg (ck_n (by omega) (by omega)), m2.1 _ (Ne.symm n2021), hv k hk, N20, nI_clamp (by omega : w k < 2 ^ 31), if_neg (ck_n (by omega) (by omega)), ml_has G fit (by omega), Option.bind_some, z2 (w k) (by omega)]
      unfold fX4_test_b217
      rw [N20, nI_clamp (by omega : w k < 2 ^ 31), if_neg (ck_n (show w k < 8 by omega) (show w k < 2 ^ 31 by omega)), if_neg (ck_n (show w k < 8 by omega) (show w k < 2 ^ 31 by omega)), if_neg (ck_n (show w k < 8 by omega) (show w k < 2 ^ 31 by omega))]
      show (if nI (hp (fun k => bt fit k) w k) < (mm_up σ2 (mm_R G m 20) (w k) (nI (cn (fun k => bt fit k) w k (w k)) + (if (if bt fit k = true then (1 : Int32) else 0) = 0 then 0 else 1))).1 (mm_R G m 20) (w k) then some (Sum.inr (Sum.inr (Sum.inr (Sum.inr (Sum.inr (fit, b, l, nI (s + 1), (mm_up σ2 (mm_R G m 20) (w k) (nI (cn (fun k => bt fit k) w k (w k)) + (if (if bt fit k = true then (1 : Int32) else 0) = 0 then 0 else 1))).1 (mm_R G m 20) (w k), nI k + 1, mm_up σ2 (mm_R G m 20) (w k) (nI (cn (fun k => bt fit k) w k (w k)) + (if (if bt fit k = true then (1 : Int32) else 0) = 0 then 0 else 1)))))))) else some (Sum.inr (Sum.inr (Sum.inr (Sum.inr (Sum.inr (fit, b, l, nI (s + 1), nI (hp (fun k => bt fit k) w k), nI k + 1, mm_up σ2 (mm_R G m 20) (w k) (nI (cn (fun k => bt fit k) w k (w k)) + (if (if bt fit k = true then (1 : Int32) else 0) = 0 then 0 else 1))))))))) = _
      rw [e1, mm_gs, nI_1, hp_s]
      by_cases c : hp (fun k => bt fit k) w k < cn (fun k => bt fit k) w (k + 1) (w k)
      · rw [if_pos (nI_lt c (by omega)), Nat.max_eq_right (by omega)]
      · rw [if_neg (nI_nlt (by omega) (by omega)), Nat.max_eq_left (by omega)]
    · by_cases e : c = w k
      · rw [e, mm_gs]
      · rw [mm_gk e, z2 c hc, cn_s, if_neg (fun q => e q.2.symm)]; rfl) (Sum.inr (Sum.inr (Sum.inr (Sum.inr (fit, b, l, nI (s + 1), nI 0, nI 0, σ1))))) ⟨σ1, rfl, fun c hc => z1 c hc, m1⟩
  refine ⟨σ2, ?_, m2⟩
  rw [mm_lim_go (show fX4_test_s G m x1 x2 (Sum.inr (Sum.inr (Sum.inl (fit, b, l, nI (s + 1), σ)))) = some (.inr (.inr (.inr (.inr (.inl (fit, b, l, nI (s + 1), nI 0, σ)))))) from by
    show fX4_test_b131 G m x1 x2 fit b l (nI (s + 1)) σ = _
    unfold fX4_test_b131
    rw [if_pos (show nI (s + 1) < (21 : Int32) from nI_lt (show s + 1 < 21 by omega) (by decide)), if_neg hf]
    rfl), l1, mm_lim_go (show fX4_test_s G m x1 x2 (Sum.inr (Sum.inr (Sum.inr (Sum.inl (fit, b, l, nI (s + 1), nI 8, σ1))))) = some (.inr (.inr (.inr (.inr (.inr (fit, b, l, nI (s + 1), nI 0, nI 0, σ1)))))) from by
    show fX4_test_b146 G m x1 x2 fit b l (nI (s + 1)) (nI 8) σ1 = _
    unfold fX4_test_b146
    rw [if_neg (show ¬ nI 8 < (8 : Int32) by decide)]
    rfl), l2]
  refine mm_lim_go ?_
  show fX4_test_b173 G m x1 x2 fit b l (nI (s + 1)) (nI (hp (fun k => bt fit k) w 6)) (nI 6) σ2 = _
  unfold fX4_test_b173 fX4_test_b265
  rw [if_pos (show (5 : Int32) < nI 6 by decide), nI_1]
theorem J_test (gx : gX G x cd) (gm : gM G m cd) (ok : okP Y) (i r : Int32) : Jc G x m cd (fX3_test G x i r) (fX4_test G m i r) Y := by
  obtain ⟨n57, M5, M7, q7⟩ := gM_57 gm
  obtain ⟨N20, N21, n207, n217, n2021, n521, q20, q21⟩ := gM_t gm
  refine J_watch gx gm ok i r (fun σ v σ' e hv => ?_) (fun σ e => ?_) (fun σ e1 e2 => ?_) (fun σ k σ' e1 e2 e3 hk e4 => ?_) (fun k j n ei hk er hj es h1 hn hval gc gmm => ?_)
  · unfold fX3_test fX3_test_b0
    rw [e, Option.bind_some, if_neg (show ¬ (v, σ').1 = 0 from hv)]; rfl
  · unfold fX4_test fX4_test_b0
    rw [e]; rfl
  · unfold fX4_test fX4_test_b0
    rw [e1, Option.bind_some, if_neg (n01 σ), e2]; rfl
  · unfold fX4_test fX4_test_b0
    rw [e1, Option.bind_some, if_neg (n01 σ), e2, Option.bind_some, if_neg (n01 σ), e3, Option.bind_some, if_neg (show ¬ (k, σ).1 = 0 from hk), bel e4]
    rfl
  · subst ei
    subst er
    generalize hfit : kf (p_A Y) k (fun q => s_kind (a_st (p_A Y) k) (nI q)) (p_rv Y j) n 6 = fit
    have hcx : ∀ σ, CR G x σ Y → ∃ σ1, fX3_test_b0 G x (nI k) (nI j) σ = (if fit = 0 then some (.inl (-9, σ1)) else (fX3_watch G x (nI k) fit σ1).bind (fun q33 => some (.inr (fit, 0, 7, 0, q33)))) ∧ mm_sm (ic G (mm_R G x 8)) σ σ1 := by
      intro σ hc
      obtain ⟨σ1, f1, m1⟩ := cx_kinds gx ok hk hj hn es hc
      refine ⟨σ1, ?_, m1⟩
      unfold fX3_test_b0
      rw [gc σ hc, Option.bind_some, if_pos (show ((0 : Int32), σ).1 = 0 from rfl)]
      show (fX3_kindsThatFit G x (nI k) (nI j) σ).bind _ = _
      rw [f1, hfit]
      rfl
    have hmx : ∀ σ, MR G m σ Y → ∃ σ2, fX4_test G m (nI k) (nI j) σ = mm_lim (fX4_test_s G m (nI k) (nI j)) (Sum.inr (Sum.inr (Sum.inl (fit, -9, 99, nI 1, σ2)))) ∧ (∀ q, q < 6 → ∀ s, s < 20 → σ2.1 (mm_R G m 21) (21 * q + (s + 1)) = nI (wN (p_A Y) k s q)) ∧ mm_sm (qY cd) σ σ2 := by
      intro σ hc
      obtain ⟨g1, g2, g3⟩ := gmm σ hc
      obtain ⟨σ1, f1, m1⟩ := ml_kinds gm ok hk hj hn es hc
      obtain ⟨σ2, l2, v2, m2⟩ := ml_note gm ok (nI j) fit hk (m5_sm gm ok m1 hc.2.2.1)
      refine ⟨σ2, ?_, v2, mm_sm_tr (mm_sm_mono m1 (fun b q => by rw [q]; exact q7)) m2⟩
      unfold fX4_test fX4_test_b0
      rw [g1, Option.bind_some, if_neg (n01 σ), g2, Option.bind_some, if_neg (n01 σ), g3, Option.bind_some, if_pos (show ((0 : Int32), σ).1 = 0 from rfl)]
      show mm_run ((fX4_fitting G m 33 5 (nI k) (nI j) σ).bind _) _ = _
      rw [f1, Option.bind_some, mm_run_go, hfit]
      exact l2
    by_cases hz : fit = 0
    · refine J_try gx gm ok (-9) (fun σ hc => ?_) (fun σ hc => ?_)
      · obtain ⟨σ1, f1, m1⟩ := hcx σ hc
        refine ⟨σ1, ?_, mm_sm_mono m1 (ic8_q gx)⟩
        unfold fX3_test
        rw [f1, if_pos hz]; rfl
      · obtain ⟨σ2, f2, v2, m2⟩ := hmx σ hc
        refine ⟨σ2, ?_, m2⟩
        rw [f2]
        refine mm_lim_ret ?_
        show fX4_test_b131 G m (nI k) (nI j) fit (-9) 99 (nI 1) σ2 = _
        unfold fX4_test_b131 fX4_test_b289 fX4_test_b306
        rw [if_pos (show nI 1 < (21 : Int32) by decide), if_pos hz, if_pos rfl, mm_up_id]
    · have hp0 : ∀ s, gp (fun q => bt fit q) (wN (p_A Y) k s) 6 ≤ 6 := fun s => gp_6 _ _ 6
      have l7 : nI (gp (fun q => bt fit q) (wN (p_A Y) k 0) 6) < 7 := nI_lt (b := 7) (by have := hp0 0; omega) (by decide)
      have l99 : nI (gp (fun q => bt fit q) (wN (p_A Y) k 0) 6) < 99 := nI_lt (b := 99) (by have := hp0 0; omega) (by decide)
      have etb : tb (fun s => gp (fun q => bt fit q) (wN (p_A Y) k s) 6) (-9) 99 20 = tb (fun s => gp (fun q => bt fit q) (wN (p_A Y) k s) 6) 0 7 20 := tb_eq (p := fun s => gp (fun q => bt fit q) (wN (p_A Y) k s) 6) (b0 := -9) (b1 := 0) (l0 := 99) (l1 := 7) l99 l7 19
      obtain ⟨kb, hkb, ekb⟩ := tb_ne (p := fun s => gp (fun q => bt fit q) (wN (p_A Y) k s) 6) (b0 := 0) l7 19 (by decide)
      have hw7 : ∀ s q, wN (p_A Y) k s q ≤ 7 := fun s q => (wN_e _ _ _ _).2
      refine J_tryt gx gm ok (tb (fun s => gp (fun q => bt fit q) (wN (p_A Y) k s) 6) 0 7 20).1 (tb (fun s => gp (fun q => bt fit q) (wN (p_A Y) k s) 6) 0 7 20).2 (fun σ hc => ?_) (fun σ hc => ?_)
      · obtain ⟨σ1, f1, m1⟩ := hcx σ hc
        obtain ⟨σ2, f2, v2, m2⟩ := cx_watch gx ok fit hk (x5_sm gx ok m1 hc.2.2.1)
        refine ⟨σ2, ?_, mm_sm_tr (mm_sm_mono m1 (ic8_q gx)) m2⟩
        have hfor := mm_for (f := fX3_test_s G x (nI k) (nI j)) (fun s => (fit, (tb (fun s => gp (fun q => bt fit q) (wN (p_A Y) k s) 6) 0 7 s).1, (tb (fun s => gp (fun q => bt fit q) (wN (p_A Y) k s) 6) 0 7 s).2, nI s, σ2)) 20 (fun s hs => by
          show fX3_test_b46 G x (nI k) (nI j) fit _ _ (nI s) σ2 = _
          unfold fX3_test_b46
          rw [if_pos (show nI s < (20 : Int32) from nI_lt hs (by decide)), cx_part gx hs (hw7 s) (fun q hq hb => v2 q hq hb s hs), Option.bind_some, nI_1, tb_s]
          show some (Sum.inr (fit, (if nI (gp (fun q => bt fit q) (wN (p_A Y) k s) 6) < (tb (fun s => gp (fun q => bt fit q) (wN (p_A Y) k s) 6) 0 7 s).2 then nI (s + 1) else (tb (fun s => gp (fun q => bt fit q) (wN (p_A Y) k s) 6) 0 7 s).1), (if nI (gp (fun q => bt fit q) (wN (p_A Y) k s) 6) < (tb (fun s => gp (fun q => bt fit q) (wN (p_A Y) k s) 6) 0 7 s).2 then nI (gp (fun q => bt fit q) (wN (p_A Y) k s) 6) else (tb (fun s => gp (fun q => bt fit q) (wN (p_A Y) k s) 6) 0 7 s).2), nI (s + 1), σ2)) = _
          by_cases c : nI (gp (fun q => bt fit q) (wN (p_A Y) k s) 6) < (tb (fun s => gp (fun q => bt fit q) (wN (p_A Y) k s) 6) 0 7 s).2
          · rw [if_pos c, if_pos c, if_pos c]
          · rw [if_neg c, if_neg c, if_neg c])
        unfold fX3_test
        rw [f1, if_neg hz, f2, Option.bind_some, mm_run_go]
        show mm_lim _ (fit, (tb (fun s => gp (fun q => bt fit q) (wN (p_A Y) k s) 6) 0 7 0).1, (tb (fun s => gp (fun q => bt fit q) (wN (p_A Y) k s) 6) 0 7 0).2, nI 0, σ2) = _
        rw [hfor]
        refine mm_lim_ret ?_
        show fX3_test_b46 G x (nI k) (nI j) fit _ _ (nI 20) σ2 = _
        unfold fX3_test_b46
        rw [if_neg (show ¬ nI 20 < (20 : Int32) by decide)]
      · obtain ⟨σ2, f2, v2, m2⟩ := hmx σ hc
        obtain ⟨st, l3, σ3, rfl, m3⟩ := mm_loop (f := fX4_test_s G m (nI k) (nI j)) (fun s st => ∃ σ', st = Sum.inr (Sum.inr (Sum.inl (fit, (tb (fun s => gp (fun q => bt fit q) (wN (p_A Y) k s) 6) (-9) 99 s).1, (tb (fun s => gp (fun q => bt fit q) (wN (p_A Y) k s) 6) (-9) 99 s).2, nI (s + 1), σ'))) ∧ mm_sm (fun q => q = mm_R G m 20) σ2 σ') 20 (fun s st hs hI => by
          obtain ⟨σ3, rfl, m3⟩ := hI
          obtain ⟨σ4, l4, m4⟩ := ml_part gm (x1 := nI k) (x2 := nI j) (b := (tb (fun s => gp (fun q => bt fit q) (wN (p_A Y) k s) 6) (-9) 99 s).1) (l := (tb (fun s => gp (fun q => bt fit q) (wN (p_A Y) k s) 6) (-9) 99 s).2) hs (hw7 s) (σ := σ3) hz (fun q hq => by rw [m3.1 _ (Ne.symm n2021)]; exact v2 q hq s hs)
          refine ⟨Sum.inr (Sum.inr (Sum.inl (fit, (tb (fun s => gp (fun q => bt fit q) (wN (p_A Y) k s) 6) (-9) 99 (s + 1)).1, (tb (fun s => gp (fun q => bt fit q) (wN (p_A Y) k s) 6) (-9) 99 (s + 1)).2, nI (s + 1 + 1), σ4))), ?_, σ4, rfl, mm_sm_tr m3 m4⟩
          rw [l4, ← gp_hp, tb_s]
          by_cases c : nI (gp (fun q => bt fit q) (wN (p_A Y) k s) 6) < (tb (fun s => gp (fun q => bt fit q) (wN (p_A Y) k s) 6) (-9) 99 s).2
          · rw [if_pos c, if_pos c, if_pos c]
          · rw [if_neg c, if_neg c, if_neg c]) (Sum.inr (Sum.inr (Sum.inl (fit, -9, 99, nI 1, σ2)))) ⟨σ2, rfl, mm_sm_rf _ _⟩
        refine ⟨σ3, ?_, mm_sm_tr m2 (mm_sm_mono m3 (fun b q => by rw [q]; exact q20))⟩
        rw [f2, l3, etb]
        refine mm_lim_ret ?_
        show fX4_test_b131 G m (nI k) (nI j) fit _ _ (nI 21) σ3 = _
        unfold fX4_test_b131 fX4_test_b289 fX4_test_b306
        rw [if_neg (show ¬ nI 21 < (21 : Int32) by decide), if_neg (show ¬ (tb (fun s => gp (fun q => bt fit q) (wN (p_A Y) k s) 6) 0 7 20).1 = -9 from fun q => by
          rw [ekb] at q
          have h1 : ¬ nI kb < 0 := nI_pos (by omega)
          rw [q] at h1
          exact h1 (by decide))]
end TM
