/-! odds, mid -/
def vl (od : Bool) (A : ab_A) (n : Nat) (z : Int32) : Nat := if od then (if ab_let (ab_it A z n) z (a_n A) = 0 then 1 else 0) else hvN A n z
theorem vl_le {A : ab_A} (hn : a_n A ≤ 7) (od : Bool) (z : Int32) {n : Nat} (h : n ≤ 40) : vl od A n z ≤ 280 := by
  unfold vl
  cases od
  · exact (hvN_e hn z h).2
  · show (if ab_let (ab_it A z n) z (a_n A) = 0 then 1 else 0) ≤ 280
    split <;> omega
section OD
variable {G : mm_G} {x m : Nat} {cd : Nat → Nat} {Y : Ps}
theorem p12 {p : Nat} (hp : p ≤ 12) : ((12 : Int32) - nI p).toInt64 = lN (12 - p) ∧ (nI p).toInt64 = lN p := by
  refine ⟨?_, nI_l (by omega)⟩
  rw [show (12 : Int32) = nI 12 from rfl, pk_sub hp, nI_l (by omega)]
theorem cx_weight {p n : Nat} (z : Int32) (hp : p ≤ 12) (hn : n ≤ 7) {σ : mm_M} (h5 : σ.1 (mm_R G x 5) 1 = nI n) : fX3_weightOf G x z (nI p) σ = some (lN (wq p z n), σ) := by
  obtain ⟨e12, ep⟩ := p12 hp
  have hfor := mm_for (f := fX3_weightOf_s G x z (nI p)) (fun i => (lN (wq p z i), nI i, σ)) n (fun i hi => by
    show fX3_weightOf_b5 G x z (nI p) (lN (wq p z i)) (nI i) σ = _
    unfold fX3_weightOf_b5 fX3_weightOf_b37
    rw [h5, if_pos (nI_lt hi (by omega)), e12, ep, nI_1, wq_s, ← lN_mul]
    by_cases hb : bt z i = true
    · rw [if_neg (show ¬ (z >>> (nI i &&& 31)) &&& 1 = 0 by rw [b_ask0 z (by omega), hb]; decide), if_pos hb]
    · rw [if_pos ((b_ask0 z (by omega)).mpr (by simpa using hb)), if_neg hb])
  unfold fX3_weightOf fX3_weightOf_b0
  rw [mm_run_go]
  show mm_lim _ (lN (wq p z 0), nI 0, σ) = _
  rw [hfor]
  refine mm_lim_ret ?_
  show fX3_weightOf_b5 G x z (nI p) (lN (wq p z n)) (nI n) σ = _
  unfold fX3_weightOf_b5
  rw [h5, if_neg Int32.lt_irrefl]
theorem cx_mean (gx : gX G x cd) (ok : okP Y) {n p : Nat} (od : Bool) (hn : n ≤ 40) (hp : p ≤ 12) (hz : ¬ a_n (p_A Y) = 0) (σ : mm_M) (hc : CR G x σ Y) : ∃ σ', fX3_tellMean G x (nI n) (nI p) (if od then 1 else 0) σ = some (1, mm_upL (mm_upL σ' x 13 (lN (sm p (a_n (p_A Y)) (fun k => vl od (p_A Y) n (nI k)) (2 ^ a_n (p_A Y))) / lN (Nat.gcd (sm p (a_n (p_A Y)) (fun k => vl od (p_A Y) n (nI k)) (2 ^ a_n (p_A Y))) (12 ^ a_n (p_A Y))))) x 14 (lN (12 ^ a_n (p_A Y)) / lN (Nat.gcd (sm p (a_n (p_A Y)) (fun k => vl od (p_A Y) n (nI k)) (2 ^ a_n (p_A Y))) (12 ^ a_n (p_A Y))))) ∧ mm_sm (qX cd) σ σ' := by
  obtain ⟨t, ht, et, ho, hlt⟩ := okP_A ok
  have h7 := ho.1
  obtain ⟨e2, h128⟩ := sets_n h7
  have hset : ∀ σ', mm_sm (ic G (mm_R G x 8)) σ σ' → fX0_sets G (mm_R G x 5) σ' = some (nI (2 ^ a_n (p_A Y)), σ') := fun σ' s => by
    unfold fX0_sets
    rw [(x5_sm gx ok s hc.2.2.1).1, e2]
  obtain ⟨s, l1, σ1, rfl, m1⟩ := mm_loop (f := fX3_tellMean_s G x (nI n) (nI p) (if od then 1 else 0)) (fun k s => ∃ σ', s = (lN (sm p (a_n (p_A Y)) (fun k => vl od (p_A Y) n (nI k)) k), lN (tw p (a_n (p_A Y)) k), nI k, σ') ∧ mm_sm (ic G (mm_R G x 8)) σ σ') (2 ^ a_n (p_A Y)) (fun k s hk hI => by
    obtain ⟨σ1, rfl, m1⟩ := hI
    have hw := wq_b hp (nI k) h7
    have r5 := x5_sm gx ok m1 hc.2.2.1
    have etw : lN (tw p (a_n (p_A Y)) k) + lN (wq p (nI k) (a_n (p_A Y))) = lN (tw p (a_n (p_A Y)) (k + 1)) := lN_add _ _
    by_cases h0 : wq p (nI k) (a_n (p_A Y)) = 0
    · refine ⟨_, mm_lim_go (s' := (lN (sm p (a_n (p_A Y)) (fun k => vl od (p_A Y) n (nI k)) (k + 1)), lN (tw p (a_n (p_A Y)) (k + 1)), nI (k + 1), σ1)) ?_, σ1, rfl, m1⟩
      show fX3_tellMean_b44 G x (nI n) (nI p) _ _ _ (nI k) σ1 = _
      unfold fX3_tellMean_b44
      rw [hset σ1 m1, Option.bind_some, if_pos (show nI k < (nI (2 ^ a_n (p_A Y)), σ1).1 from nI_lt hk (by omega))]
      show (fX3_weightOf G x (nI k) (nI p) σ1).bind _ = _
      rw [cx_weight (nI k) hp h7 r5.1, Option.bind_some, etw, if_pos ((lg_cmp_eq _ _).mpr (by rw [h0]; rfl)), nI_1]
      have es : sm p (a_n (p_A Y)) (fun k => vl od (p_A Y) n (nI k)) (k + 1) = sm p (a_n (p_A Y)) (fun k => vl od (p_A Y) n (nI k)) k := by
        show sm p (a_n (p_A Y)) (fun k => vl od (p_A Y) n (nI k)) k + wq p (nI k) (a_n (p_A Y)) * _ = _
        rw [h0, Nat.zero_mul, Nat.add_zero]
      rw [es]
    · obtain ⟨σ2, B, f2, r2, nB, lB, oB, m2⟩ := cx_hAside gx ok (n := n) (nI k) (by omega) ht ho r5
      have elet : ab_let B (nI k) (a_n B) = ab_let (ab_it (p_A Y) (nI k) n) (nI k) (a_n (p_A Y)) := by rw [nB]; exact let_c _ (fun i _ => lB i)
      refine ⟨_, mm_lim_go (s' := (lN (sm p (a_n (p_A Y)) (fun k => vl od (p_A Y) n (nI k)) (k + 1)), lN (tw p (a_n (p_A Y)) (k + 1)), nI (k + 1), σ2)) ?_, σ2, rfl, mm_sm_tr m1 m2⟩
      show fX3_tellMean_b44 G x (nI n) (nI p) _ _ _ (nI k) σ1 = _
      unfold fX3_tellMean_b44
      rw [hset σ1 m1, Option.bind_some, if_pos (show nI k < (nI (2 ^ a_n (p_A Y)), σ1).1 from nI_lt hk (by omega))]
      show (fX3_weightOf G x (nI k) (nI p) σ1).bind _ = _
      rw [cx_weight (nI k) hp h7 r5.1, Option.bind_some, etw, if_neg (fun q => lN0 (by omega) (by omega) ((lg_cmp_eq _ _).mp q))]
      show (fX3_heardAside G x (nI n) (nI k) σ1).bind _ = _
      rw [f2, Option.bind_some]
      show (fX0_lettersBut G (mm_R G x 8) (nI k) σ2).bind _ = _
      rw [ca_letters (nI k) (gX_ga8 gx) r2 oB, Option.bind_some, elet]
      unfold fX3_tellMean_b108 fX3_tellMean_b125
      rw [nI_1]
      have ev : (if (if od then (1 : Int32) else 0) = 0 then a_hd (ab_it (p_A Y) (nI k) n) - a_hd (p_A Y) else (if ab_let (ab_it (p_A Y) (nI k) n) (nI k) (a_n (p_A Y)) = 0 then (1 : Int32) else 0)).toInt64 = lN (vl od (p_A Y) n (nI k)) := by
        have hle := vl_le h7 od (nI k) hn
        rw [← nI_l (by omega)]
        congr 1
        unfold vl
        cases od
        · show hv (p_A Y) n (nI k) = nI (hvN (p_A Y) n (nI k))
          exact (hvN_e h7 (nI k) hn).1
        · show (if ab_let (ab_it (p_A Y) (nI k) n) (nI k) (a_n (p_A Y)) = 0 then (1 : Int32) else 0) = nI (if ab_let (ab_it (p_A Y) (nI k) n) (nI k) (a_n (p_A Y)) = 0 then 1 else 0)
          split <;> rfl
      show some (Sum.inr (lN (sm p (a_n (p_A Y)) (fun k => vl od (p_A Y) n (nI k)) k) + lN (wq p (nI k) (a_n (p_A Y))) * (if (if od then (1 : Int32) else 0) = 0 then a_hd (ab_it (p_A Y) (nI k) n) - a_hd (p_A Y) else (if ab_let (ab_it (p_A Y) (nI k) n) (nI k) (a_n (p_A Y)) = 0 then (1 : Int32) else 0)).toInt64, lN (tw p (a_n (p_A Y)) (k + 1)), nI (k + 1), σ2)) = _
      rw [ev, lN_mul, lN_add]
      rfl) (lN 0, lN 0, nI 0, σ) ⟨σ, rfl, mm_sm_rf _ _⟩
  have htw := tw_12 (a_n (p_A Y)) (by omega) p (by omega)
  have hsm := sm_le hp h7 (v := fun k => vl od (p_A Y) n (nI k)) (fun k => vl_le h7 od (nI k) hn) (2 ^ a_n (p_A Y))
  have h12 : 12 ^ a_n (p_A Y) ≤ 35831808 := Nat.le_trans (Nat.pow_le_pow_right (by decide) h7) (by decide)
  have h120 : 0 < 12 ^ a_n (p_A Y) := Nat.pow_pos (by decide)
  have hsm2 : sm p (a_n (p_A Y)) (fun k => vl od (p_A Y) n (nI k)) (2 ^ a_n (p_A Y)) < 2 ^ 60 := by
    have : 2 ^ a_n (p_A Y) * (35831808 * 280) ≤ 128 * (35831808 * 280) := Nat.mul_le_mul_right _ h128
    omega
  refine ⟨σ1, ?_, mm_sm_mono m1 (ic8_q gx)⟩
  unfold fX3_tellMean
  rw [show fX3_tellMean_b0 G x (nI n) (nI p) (if od then 1 else 0) σ = some (.inr (lN 0, lN 0, nI 0, σ)) from by
    unfold fX3_tellMean_b0
    rw [if_neg (nI_pos (by omega)), if_neg (show ¬ (40 : Int32) < nI n from nI_nlt (show n ≤ 40 from hn) (by decide)), if_neg (nI_pos (by omega)), if_neg (show ¬ (12 : Int32) < nI p from nI_nlt (show p ≤ 12 from hp) (by decide)), if_neg (show ¬ σ.1 (mm_R G x 5) 1 = 0 by rw [hc.2.2.1.1]; exact nI_ne0 (by omega) (by omega))]
    rfl, mm_run_go, l1]
  refine mm_lim_ret ?_
  show fX3_tellMean_b44 G x (nI n) (nI p) _ _ _ (nI (2 ^ a_n (p_A Y))) σ1 = _
  unfold fX3_tellMean_b44
  rw [hset σ1 m1, Option.bind_some, if_neg (show ¬ nI (2 ^ a_n (p_A Y)) < (nI (2 ^ a_n (p_A Y)), σ1).1 from Int32.lt_irrefl)]
  show (fX3_tellRatio G x (lN (sm p (a_n (p_A Y)) (fun k => vl od (p_A Y) n (nI k)) (2 ^ a_n (p_A Y)))) (lN (tw p (a_n (p_A Y)) (2 ^ a_n (p_A Y)))) σ1).bind _ = _
  rw [htw, cx_ratio hsm2 h120 h12]
  rfl
theorem az_s {A : ab_A} {z : Int32} {i : Nat} {σ : mm_M} {c : Nat} (hn : a_n A ≤ 7) (hi : i < a_n A) (hr : rM σ c (az A z i) z) : rM (mm_up σ c (11 + i) (if bt z i = true then 0 else σ.1 c (11 + i))) c (az A z (i + 1)) z := by
  have hst : a_st (az A z i) i = a_st A i := by
    show (if i < i ∧ bt z i = true then _ else _) = _
    rw [if_neg (fun q => Nat.lt_irrefl i q.1)]
  have e := hr.2.2.2.2.2.2 i hi
  rw [hst] at e
  have h := ml_set (A := az A z i) (s := if bt z i = true then s_zero (a_st A i) else a_st A i) (σ' := mm_up σ c (11 + i) (if bt z i = true then 0 else σ.1 c (11 + i))) hn hi hr (by
    rw [← e]
    unfold ms
    rw [mm_gk (show 33 + i ≠ 11 + i by omega), mm_gk (show 4 + i ≠ 11 + i by omega), mm_gk (show 40 + i ≠ 11 + i by omega), mm_gk (show 18 + i ≠ 11 + i by omega), mm_gk (show 25 + i ≠ 11 + i by omega), mm_gs]
    by_cases hb : bt z i = true
    · rw [if_pos hb, if_pos hb]; rfl
    · rw [if_neg hb, if_neg hb]) (fun j _ h11 _ _ _ _ => mm_gk h11)
  refine ⟨h.1, h.2.1, h.2.2.1, h.2.2.2.1, h.2.2.2.2.1, h.2.2.2.2.2.1, fun j hj => ?_⟩
  rw [h.2.2.2.2.2.2 j hj]
  show (if j = i then (if bt z i = true then s_zero (a_st A i) else a_st A i) else (if j < i ∧ bt z j = true then s_zero (a_st A j) else a_st A j)) = if j < i + 1 ∧ bt z j = true then s_zero (a_st A j) else a_st A j
  by_cases e : j = i
  · subst e
    rw [if_pos rfl]
    by_cases hb : bt z j = true
    · rw [if_pos hb, if_pos ⟨Nat.lt_succ_self j, hb⟩]
    · rw [if_neg hb, if_neg (fun q => hb q.2)]
  · rw [if_neg e]
    have : (j < i + 1) ↔ (j < i) := by omega
    simp only [this]
theorem ml_chances (gm : gM G m cd) (ok : okP Y) {n p : Nat} (od : Bool) (hn : n ≤ 40) (hp : p ≤ 12) (hz : ¬ a_n (p_A Y) = 0) (σ : mm_M) (hc : MR G m σ Y) : ∃ σ', fX4_chances G m (nI n) (nI p) (if od then 0 else 1) σ = some (mm_upL (mm_upL σ' m 15 (lN (sm p (a_n (p_A Y)) (fun k => vl od (p_A Y) n (nI k)) (2 ^ a_n (p_A Y))) / lN (Nat.gcd (sm p (a_n (p_A Y)) (fun k => vl od (p_A Y) n (nI k)) (2 ^ a_n (p_A Y))) (12 ^ a_n (p_A Y))))) m 16 (lN (12 ^ a_n (p_A Y)) / lN (Nat.gcd (sm p (a_n (p_A Y)) (fun k => vl od (p_A Y) n (nI k)) (2 ^ a_n (p_A Y))) (12 ^ a_n (p_A Y))))) ∧ mm_sm (qY cd) σ σ' := by
  obtain ⟨t, ht, et, ho, hlt⟩ := okP_A ok
  have h7 := ho.1
  obtain ⟨n57, M5, M7, q7⟩ := gM_57 gm
  obtain ⟨e2, h128⟩ := sets_n h7
  obtain ⟨e12, ep⟩ := p12 hp
  have h5 : ∀ σ', mm_sm (fun b => b = mm_R G m 7) σ σ' → rM σ' (mm_R G m 5) (p_A Y) 0 := fun σ' s => m5_sm gm ok s hc.2.2.1
  have hfor := mm_for (f := fX4_chances_s G m (nI n) (nI p) (if od then 0 else 1)) (fun k => Sum.inl (lN 0, lN (12 ^ k), nI k, σ)) (a_n (p_A Y)) (fun k hk => by
    show fX4_chances_b9 G m (nI n) (nI p) (if od then 0 else 1) (lN 0) (lN (12 ^ k)) (nI k) σ = _
    unfold fX4_chances_b9
    rw [M5, tc32, if_neg kc32, hc.2.2.1.1, if_pos (nI_lt hk (by omega)), nI_1, show (12 : Int64) = lN 12 from rfl, lN_mul, Nat.pow_succ])
  obtain ⟨s, l1, σ1, rfl, m1⟩ := mm_loop (f := fX4_chances_s G m (nI n) (nI p) (if od then 0 else 1)) (fun k s => ∃ σ', s = Sum.inr (Sum.inl (lN (sm p (a_n (p_A Y)) (fun k => vl od (p_A Y) n (nI k)) k), lN (12 ^ a_n (p_A Y)), nI k, σ')) ∧ mm_sm (fun b => b = mm_R G m 7) σ σ') (2 ^ a_n (p_A Y)) (fun k s hk hI => by
    obtain ⟨σ1, rfl, m1⟩ := hI
    have r51 := h5 σ1 m1
    obtain ⟨σ2, f2, r2, m2⟩ := ml_aside gm ok r51
    have r3 : rM (mm_up σ2 (mm_R G m 7) 47 (nI k)) (mm_R G m 7) (az (p_A Y) (nI k) 0) (nI k) := by
      have h := rM_z (z := nI k) h7 r2
      refine ⟨h.1, h.2.1, h.2.2.1, h.2.2.2.1, h.2.2.2.2.1, h.2.2.2.2.2.1, fun i hi => ?_⟩
      rw [h.2.2.2.2.2.2 i hi]
      show _ = if i < 0 ∧ bt (nI k) i = true then s_zero (a_st (p_A Y) i) else a_st (p_A Y) i
      rw [if_neg (fun q => Nat.not_lt_zero i q.1)]
    have m3 : mm_sm (fun b => b = mm_R G m 7) σ (mm_up σ2 (mm_R G m 7) 47 (nI k)) := mm_sm_tr m1 (mm_sm_up m2 rfl)
    generalize hSk : lN (sm p (a_n (p_A Y)) (fun k => vl od (p_A Y) n (nI k)) k) = S
    obtain ⟨s, l4, σ4, rfl, r4, m4⟩ := mm_loop (f := fX4_chances_s G m (nI n) (nI p) (if od then 0 else 1)) (fun i s => ∃ σ', s = Sum.inr (Sum.inr (Sum.inl (S, lN (12 ^ a_n (p_A Y)), nI k, lN (wq p (nI k) i), nI i, σ'))) ∧ rM σ' (mm_R G m 7) (az (p_A Y) (nI k) i) (nI k) ∧ mm_sm (fun b => b = mm_R G m 7) σ σ') (a_n (p_A Y)) (fun i s hi hI => by
      obtain ⟨σ4, rfl, r4, m4⟩ := hI
      refine ⟨_, mm_lim_go (s' := Sum.inr (Sum.inr (Sum.inl (S, lN (12 ^ a_n (p_A Y)), nI k, lN (wq p (nI k) (i + 1)), nI (i + 1), mm_up σ4 (mm_R G m 7) (11 + i) (if bt (nI k) i = true then 0 else σ4.1 (mm_R G m 7) (11 + i)))))) ?_, _, rfl, az_s h7 hi r4, mm_sm_up m4 rfl⟩
      show fX4_chances_b78 G m (nI n) (nI p) (if od then 0 else 1) S _ (nI k) (lN (wq p (nI k) i)) (nI i) σ4 = _
      unfold fX4_chances_b78
      rw [M5, tc32, if_neg kc32, (h5 σ4 m4).1, if_pos (nI_lt hi (by omega)), ml_has G (nI k) (by omega), Option.bind_some]
      unfold fX4_chances_b112
      rw [ml_has G (nI k) (by omega), Option.bind_some]
      unfold fX4_chances_b148
      rw [ad11, M7, nI_clamp (by omega : 11 + i < 2 ^ 31), if_neg (kcn (by omega)), if_neg (kcn (by omega)), if_neg (kcn (by omega)), e12, ep, nI_1, wq_s, ← lN_mul]
      by_cases hb : bt (nI k) i = true
      · rw [if_pos hb, if_pos hb, if_pos hb]; rfl
      · rw [if_neg hb, if_neg hb, if_neg hb]; rfl) (Sum.inr (Sum.inr (Sum.inl (S, lN (12 ^ a_n (p_A Y)), nI k, lN (wq p (nI k) 0), nI 0, mm_up σ2 (mm_R G m 7) 47 (nI k))))) ⟨_, rfl, r3, m3⟩
    obtain ⟨s, l6, σ6, rfl, r6, m6⟩ := mm_loop (f := fX4_chances_s G m (nI n) (nI p) (if od then 0 else 1)) (fun q s => ∃ σ', s = Sum.inr (Sum.inr (Sum.inr (S, lN (12 ^ a_n (p_A Y)), nI k, lN (wq p (nI k) (a_n (p_A Y))), nI q, σ'))) ∧ rM σ' (mm_R G m 7) (ab_it (az (p_A Y) (nI k) (a_n (p_A Y))) (nI k) q) (nI k) ∧ mm_sm (fun b => b = mm_R G m 7) σ σ') n (fun q s hq hI => by
      obtain ⟨σ6, rfl, r6, m6⟩ := hI
      obtain ⟨σ7, f7, r7, m7⟩ := ml_goes M7 r6 (ab_it_ok (nI k) (az_ok (nI k) (a_n (p_A Y)) ho) q (by omega)) (by omega)
      refine ⟨_, mm_lim_go (s' := Sum.inr (Sum.inr (Sum.inr (S, lN (12 ^ a_n (p_A Y)), nI k, lN (wq p (nI k) (a_n (p_A Y))), nI (q + 1), σ7)))) ?_, σ7, rfl, r7, mm_sm_tr m6 m7⟩
      show fX4_chances_b158 G m (nI n) (nI p) (if od then 0 else 1) S _ (nI k) _ (nI q) σ6 = _
      unfold fX4_chances_b158
      rw [if_pos (nI_lt hq (by omega)), f7, nI_1]
      rfl) (Sum.inr (Sum.inr (Sum.inr (S, lN (12 ^ a_n (p_A Y)), nI k, lN (wq p (nI k) (a_n (p_A Y))), nI 0, σ4)))) ⟨σ4, rfl, r4, m4⟩
    have r56 := h5 σ6 m6
    refine ⟨Sum.inr (Sum.inl (lN (sm p (a_n (p_A Y)) (fun k => vl od (p_A Y) n (nI k)) (k + 1)), lN (12 ^ a_n (p_A Y)), nI (k + 1), σ6)), ?_, σ6, rfl, m6⟩
    rw [mm_lim_go (show fX4_chances_s G m (nI n) (nI p) (if od then 0 else 1) (Sum.inr (Sum.inl (S, lN (12 ^ a_n (p_A Y)), nI k, σ1))) = some (.inr (.inr (.inr (.inl (S, lN (12 ^ a_n (p_A Y)), nI k, lN (wq p (nI k) 0), nI 0, mm_up σ2 (mm_R G m 7) 47 (nI k)))))) from by
      show fX4_chances_b38 G m (nI n) (nI p) (if od then 0 else 1) S _ (nI k) σ1 = _
      unfold fX4_chances_b38
      rw [M5, tc32, if_neg kc32, r51.1, e2, if_pos (nI_lt hk (by omega)), f2, Option.bind_some, M7, tc47, if_neg kc47]
      rfl), l4, mm_lim_go (show fX4_chances_s G m (nI n) (nI p) (if od then 0 else 1) (Sum.inr (Sum.inr (Sum.inl (S, lN (12 ^ a_n (p_A Y)), nI k, lN (wq p (nI k) (a_n (p_A Y))), nI (a_n (p_A Y)), σ4)))) = some (.inr (.inr (.inr (.inr (S, lN (12 ^ a_n (p_A Y)), nI k, lN (wq p (nI k) (a_n (p_A Y))), nI 0, σ4))))) from by
      show fX4_chances_b78 G m (nI n) (nI p) (if od then 0 else 1) S _ (nI k) _ (nI (a_n (p_A Y))) σ4 = _
      unfold fX4_chances_b78
      rw [M5, tc32, if_neg kc32, (h5 σ4 m4).1, if_neg Int32.lt_irrefl]
      rfl), l6]
    refine mm_lim_go ?_
    have hni : a_n (ab_it (az (p_A Y) (nI k) (a_n (p_A Y))) (nI k) n) = a_n (p_A Y) := ab_it_n _ _ _
    have hlet : ab_let (ab_it (az (p_A Y) (nI k) (a_n (p_A Y))) (nI k) n) 0 (a_n (ab_it (az (p_A Y) (nI k) (a_n (p_A Y))) (nI k) n)) = ab_let (ab_it (p_A Y) (nI k) n) (nI k) (a_n (p_A Y)) := by
      rw [hni]; exact let_az h7 (nI k) n
    have hhd : a_hd (ab_it (az (p_A Y) (nI k) (a_n (p_A Y))) (nI k) n) = a_hd (ab_it (p_A Y) (nI k) n) := congrArg (fun q => q.2.1) (eqz_it h7 (az_eqz (p_A Y) (nI k) (a_n (p_A Y))) n).2.1.symm
    have esm : lN (sm p (a_n (p_A Y)) (fun k => vl od (p_A Y) n (nI k)) (k + 1)) = S + lN (wq p (nI k) (a_n (p_A Y)) * vl od (p_A Y) n (nI k)) := by
      rw [← hSk, lN_add]; rfl
    rw [esm]
    show fX4_chances_b158 G m (nI n) (nI p) (if od then 0 else 1) S _ (nI k) _ (nI n) σ6 = _
    unfold fX4_chances_b158 fX4_chances_b220
    rw [if_neg Int32.lt_irrefl, ml_letters M7 (by rw [hni]; exact h7) r6, Option.bind_some, hlet, M7, M5, tc2, if_neg kc2, if_neg kc2, r6.2.2.2.1, r56.2.2.2.1, hhd, nI_1]
    cases od
    · show some (Sum.inr (Sum.inr (Sum.inl (S + lN (wq p (nI k) (a_n (p_A Y))) * (hv (p_A Y) n (nI k)).toInt64, lN (12 ^ a_n (p_A Y)), nI (k + 1), σ6)))) = _
      have hh := hvN_e h7 (nI k) hn
      rw [hh.1, nI_l (by omega), lN_mul]
      rfl
    · show some (Sum.inr (Sum.inr (Sum.inl (S + (if ab_let (ab_it (p_A Y) (nI k) n) (nI k) (a_n (p_A Y)) = 0 then lN (wq p (nI k) (a_n (p_A Y))) else 0), lN (12 ^ a_n (p_A Y)), nI (k + 1), σ6)))) = some (Sum.inr (Sum.inr (Sum.inl (S + lN (wq p (nI k) (a_n (p_A Y)) * (if ab_let (ab_it (p_A Y) (nI k) n) (nI k) (a_n (p_A Y)) = 0 then 1 else 0)), lN (12 ^ a_n (p_A Y)), nI (k + 1), σ6))))
      by_cases c : ab_let (ab_it (p_A Y) (nI k) n) (nI k) (a_n (p_A Y)) = 0
      · rw [if_pos c, if_pos c, Nat.mul_one]
      · rw [if_neg c, if_neg c, Nat.mul_zero]; rfl) (Sum.inr (Sum.inl (lN 0, lN (12 ^ a_n (p_A Y)), nI 0, σ))) ⟨σ, rfl, mm_sm_rf _ _⟩
  have hsm := sm_le hp h7 (v := fun k => vl od (p_A Y) n (nI k)) (fun k => vl_le h7 od (nI k) hn) (2 ^ a_n (p_A Y))
  have h12 : 12 ^ a_n (p_A Y) ≤ 35831808 := Nat.le_trans (Nat.pow_le_pow_right (by decide) h7) (by decide)
  have h120 : 0 < 12 ^ a_n (p_A Y) := Nat.pow_pos (by decide)
  have hsm2 : sm p (a_n (p_A Y)) (fun k => vl od (p_A Y) n (nI k)) (2 ^ a_n (p_A Y)) < 2 ^ 60 := by
    have : 2 ^ a_n (p_A Y) * (35831808 * 280) ≤ 128 * (35831808 * 280) := Nat.mul_le_mul_right _ h128
    omega
  refine ⟨σ1, ?_, mm_sm_mono m1 (fun b q => by rw [q]; exact q7)⟩
  unfold fX4_chances fX4_chances_b0
  rw [mm_run_go]
  show mm_lim _ (Sum.inl (lN 0, lN (12 ^ 0), nI 0, σ)) = _
  rw [hfor, mm_lim_go (show fX4_chances_s G m (nI n) (nI p) (if od then 0 else 1) (Sum.inl (lN 0, lN (12 ^ a_n (p_A Y)), nI (a_n (p_A Y)), σ)) = some (.inr (.inr (.inl (lN 0, lN (12 ^ a_n (p_A Y)), nI 0, σ)))) from by
    show fX4_chances_b9 G m (nI n) (nI p) (if od then 0 else 1) (lN 0) _ (nI (a_n (p_A Y))) σ = _
    unfold fX4_chances_b9
    rw [M5, tc32, if_neg kc32, hc.2.2.1.1, if_neg Int32.lt_irrefl]
    rfl), l1]
  refine mm_lim_ret ?_
  show fX4_chances_b38 G m (nI n) (nI p) (if od then 0 else 1) _ _ (nI (2 ^ a_n (p_A Y))) σ1 = _
  unfold fX4_chances_b38
  rw [M5, tc32, if_neg kc32, (h5 σ1 m1).1, e2, if_neg Int32.lt_irrefl, ml_ratio hsm2 h120 h12]
  rfl
theorem CR_up (gx : gX G x cd) (ok : okP Y) {σ σ1 : mm_M} (s : mm_sm (qX cd) σ σ1) (u l : Int64) (hc : CR G x σ Y) : CR G x (mm_upL (mm_upL σ1 x 13 u) x 14 l) (y_7 Y (p_as Y) u l (p_fi Y) (p_fo Y)) ∧ mm_sn (rX cd) σ (mm_upL (mm_upL σ1 x 13 u) x 14 l) := by
  obtain ⟨c1, s1⟩ := CR_q gx ok s hc
  obtain ⟨t1, t2, t3, t4⟩ := c1.2.2.2.2.2.2.1
  refine ⟨CR_7 (σ := σ1) gx ok (fun i b _ _ _ => rfl) c1 ⟨t1, ?_, ?_, t4⟩ c1.2.2.2.2.2.2.2, mm_sn_tr s1 (fun b hb => ⟨rfl, ?_⟩)⟩
  · show (if x = x ∧ 13 = 14 then l else (if x = x ∧ 13 = 13 then u else _)) = u
    rw [if_neg (fun q => by cases q.2), if_pos ⟨rfl, rfl⟩]
  · show (if x = x ∧ 14 = 14 then l else _) = l
    rw [if_pos ⟨rfl, rfl⟩]
  · have hbx : b ≠ x := fun e => hb (by rw [e]; unfold rX; rw [gx.2.1]; omega)
    rw [(mm_upL_ne b hbx).2, (mm_upL_ne b hbx).2]
theorem MR_up (gm : gM G m cd) {σ σ1 : mm_M} (s : mm_sm (qY cd) σ σ1) (u l : Int64) (hc : MR G m σ Y) : MR G m (mm_upL (mm_upL σ1 m 15 u) m 16 l) (y_7 Y (p_as Y) u l (p_fi Y) (p_fo Y)) ∧ mm_sn (rY cd) σ (mm_upL (mm_upL σ1 m 15 u) m 16 l) := by
  obtain ⟨c1, s1⟩ := MR_q gm s hc
  obtain ⟨t1, t2, t3, t4⟩ := c1.2.2.2.2.2.1
  refine ⟨MR_7 (σ := σ1) gm (fun i b _ _ _ => rfl) rfl c1 ⟨t1, ?_, ?_, t4⟩ c1.2.2.2.2.2.2, mm_sn_tr s1 (fun b hb => ⟨rfl, ?_⟩)⟩
  · show (if m = m ∧ 15 = 16 then l else (if m = m ∧ 15 = 15 then u else _)) = u
    rw [if_neg (fun q => by cases q.2), if_pos ⟨rfl, rfl⟩]
  · show (if m = m ∧ 16 = 16 then l else _) = l
    rw [if_pos ⟨rfl, rfl⟩]
  · have hbx : b ≠ m := fun e => hb (by rw [e]; unfold rY; rw [gm.2.1]; omega)
    rw [(mm_upL_ne b hbx).2, (mm_upL_ne b hbx).2]
theorem J_om {fc fm : mm_M → Option (Int32 × mm_M)} (gx : gX G x cd) (gm : gM G m cd) (ok : okP Y) (od : Bool) (v w : Int32) (h1 : ∀ σ, fc σ = fX3_tellMean G x v w (if od then 1 else 0) σ) (h2 : ∀ σ, fm σ = (fX4_in G v 0 40 σ).bind (fun q4 => if q4.1 = 0 then (some (-1, q4.2)) else ((fX4_in G w 0 12 q4.2).bind (fun q14 => if q14.1 = 0 then (some (-1, q14.2)) else (if (32 : Int32) < 0 ∨ mm_N G (mm_R G m 5) ≤ (32 : Int32).toNatClampNeg then none else (if (q14.2.1 (mm_R G m 5) (32 : Int32).toNatClampNeg) = 0 then (some (-4, q14.2)) else ((fX4_chances G m v w (if od then 0 else 1) q14.2).bind (fun q39 => some (1, q39))))))))) : Jc G x m cd fc fm Y := by
  obtain ⟨n57, M5, M7, q7⟩ := gM_57 gm
  have hn7 := (okP_n ok).2
  have cb : ∀ σ, CR G x σ Y → fX3_tellMean_b0 G x v w (if od then 1 else 0) σ = if v < 0 then some (.inl (-1, σ)) else if 40 < v then some (.inl (-1, σ)) else if w < 0 then some (.inl (-1, σ)) else if 12 < w then some (.inl (-1, σ)) else if nI (a_n (p_A Y)) = 0 then some (.inl (-4, σ)) else some (.inr (0, 0, 0, σ)) := fun σ hc => by
    unfold fX3_tellMean_b0
    rw [hc.2.2.1.1]
  have mb : ∀ σ, MR G m σ Y → fm σ = if (if v < 0 then (0 : Int32) else if 40 < v then 0 else 1) = 0 then some (-1, σ) else if (if w < 0 then (0 : Int32) else if 12 < w then 0 else 1) = 0 then some (-1, σ) else if nI (a_n (p_A Y)) = 0 then some (-4, σ) else (fX4_chances G m v w (if od then 0 else 1) σ).bind (fun q39 => some (1, q39)) := fun σ hc => by
    rw [h2, ml_in, Option.bind_some, ml_in, Option.bind_some, M5, tc32, if_neg kc32]
    show (if (if v < 0 then (0 : Int32) else if 40 < v then 0 else 1) = 0 then some (-1, σ) else if (if w < 0 then (0 : Int32) else if 12 < w then 0 else 1) = 0 then some (-1, σ) else if σ.1 (mm_R G m 5) 32 = 0 then some (-4, σ) else (fX4_chances G m v w (if od then 0 else 1) σ).bind (fun q39 => some (1, q39))) = _
    rw [hc.2.2.1.1]
  by_cases v0 : v < 0
  · exact J_same (-1) ok (fun σ hc => by rw [h1]; unfold fX3_tellMean; rw [cb σ hc, if_pos v0]; rfl) (fun σ hc => by rw [mb σ hc, if_pos v0]; rfl)
  by_cases v40 : 40 < v
  · exact J_same (-1) ok (fun σ hc => by rw [h1]; unfold fX3_tellMean; rw [cb σ hc, if_neg v0, if_pos v40]; rfl) (fun σ hc => by rw [mb σ hc, if_neg v0, if_pos v40]; rfl)
  have mv1 : ¬ (if v < 0 then (0 : Int32) else if 40 < v then 0 else 1) = 0 := by rw [if_neg v0, if_neg v40]; decide
  by_cases w0 : w < 0
  · exact J_same (-1) ok (fun σ hc => by rw [h1]; unfold fX3_tellMean; rw [cb σ hc, if_neg v0, if_neg v40, if_pos w0]; rfl) (fun σ hc => by rw [mb σ hc, if_neg mv1, if_pos w0]; rfl)
  by_cases w12 : 12 < w
  · exact J_same (-1) ok (fun σ hc => by rw [h1]; unfold fX3_tellMean; rw [cb σ hc, if_neg v0, if_neg v40, if_neg w0, if_pos w12]; rfl) (fun σ hc => by rw [mb σ hc, if_neg mv1, if_neg w0, if_pos w12]; rfl)
  have mw1 : ¬ (if w < 0 then (0 : Int32) else if 12 < w then 0 else 1) = 0 := by rw [if_neg w0, if_neg w12]; decide
  by_cases hz : a_n (p_A Y) = 0
  · have e : nI (a_n (p_A Y)) = 0 := by rw [hz]; rfl
    exact J_same (-4) ok (fun σ hc => by rw [h1]; unfold fX3_tellMean; rw [cb σ hc, if_neg v0, if_neg v40, if_neg w0, if_neg w12, if_pos e]; rfl) (fun σ hc => by rw [mb σ hc, if_neg mv1, if_neg mw1, if_pos e])
  · have e : ¬ nI (a_n (p_A Y)) = 0 := nI_ne0 (by omega) (by omega)
    obtain ⟨n, hn, rfl⟩ := nI_of2 (M := 40) (n := 40) (by decide) v0 (Int32.not_lt.mp v40)
    obtain ⟨p, hp, rfl⟩ := nI_of2 (M := 12) (n := 12) (by decide) w0 (Int32.not_lt.mp w12)
    refine ⟨1, y_7 Y (p_as Y) (lN (sm p (a_n (p_A Y)) (fun k => vl od (p_A Y) n (nI k)) (2 ^ a_n (p_A Y))) / lN (Nat.gcd (sm p (a_n (p_A Y)) (fun k => vl od (p_A Y) n (nI k)) (2 ^ a_n (p_A Y))) (12 ^ a_n (p_A Y)))) (lN (12 ^ a_n (p_A Y)) / lN (Nat.gcd (sm p (a_n (p_A Y)) (fun k => vl od (p_A Y) n (nI k)) (2 ^ a_n (p_A Y))) (12 ^ a_n (p_A Y)))) (p_fi Y) (p_fo Y), okP_7 ok, fun σ hc => ?_, fun σ hc => ?_⟩
    · obtain ⟨σ1, f1, s1⟩ := cx_mean gx ok od hn hp hz σ hc
      obtain ⟨c2, s2⟩ := CR_up gx ok s1 (lN (sm p (a_n (p_A Y)) (fun k => vl od (p_A Y) n (nI k)) (2 ^ a_n (p_A Y))) / lN (Nat.gcd (sm p (a_n (p_A Y)) (fun k => vl od (p_A Y) n (nI k)) (2 ^ a_n (p_A Y))) (12 ^ a_n (p_A Y)))) (lN (12 ^ a_n (p_A Y)) / lN (Nat.gcd (sm p (a_n (p_A Y)) (fun k => vl od (p_A Y) n (nI k)) (2 ^ a_n (p_A Y))) (12 ^ a_n (p_A Y)))) hc
      exact ⟨_, by rw [h1]; exact f1, c2, s2⟩
    · obtain ⟨σ1, f1, s1⟩ := ml_chances gm ok od hn hp hz σ hc
      obtain ⟨c2, s2⟩ := MR_up gm s1 (lN (sm p (a_n (p_A Y)) (fun k => vl od (p_A Y) n (nI k)) (2 ^ a_n (p_A Y))) / lN (Nat.gcd (sm p (a_n (p_A Y)) (fun k => vl od (p_A Y) n (nI k)) (2 ^ a_n (p_A Y))) (12 ^ a_n (p_A Y)))) (lN (12 ^ a_n (p_A Y)) / lN (Nat.gcd (sm p (a_n (p_A Y)) (fun k => vl od (p_A Y) n (nI k)) (2 ^ a_n (p_A Y))) (12 ^ a_n (p_A Y)))) hc
      exact ⟨_, by rw [mb σ hc, if_neg mv1, if_neg mw1, if_neg e, f1]; rfl, c2, s2⟩
theorem J_odds (gx : gX G x cd) (gm : gM G m cd) (ok : okP Y) (v w : Int32) : Jc G x m cd (fX3_odds G x v w) (fX4_odds G m v w) Y := J_om gx gm ok true v w (fun σ => by unfold fX3_odds; rw [be]; rfl) (fun σ => rfl)
theorem J_mid (gx : gX G x cd) (gm : gM G m cd) (ok : okP Y) (v w : Int32) : Jc G x m cd (fX3_mid G x v w) (fX4_mid G m v w) Y := J_om gx gm ok false v w (fun σ => by unfold fX3_mid; rw [be]; rfl) (fun σ => rfl)
end OD
