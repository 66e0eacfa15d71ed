/-! most, best, silence -/
def ab_bit (i : Nat) : Int32 := (1 : Int32) <<< (nI i &&& 31)
def mc (A : ab_A) : Nat → Nat → Int32
  | 0, _ => 0
  | n + 1, i => if ab_who (ab_it A 0 n) 0 = ab_bit i then mc A n i + 1 else mc A n i
theorem who_bit {A : ab_A} {z : Int32} (hn : a_n A ≤ 7) {j : Nat} (h1 : a_n A ≤ j) (h2 : j < 7) : ¬ ab_who A z = ab_bit j := by
  intro e
  have h := ab_who_bt (A := A) (z := z) hn (show j < 32 by omega)
  rw [e, decide_eq_false (by omega), Bool.false_and] at h
  unfold ab_bit at h
  rw [b_one (by omega) (by omega), decide_eq_true rfl] at h
  cases h
theorem mc_out {A : ab_A} (hn : a_n A ≤ 7) {j : Nat} (h1 : a_n A ≤ j) (h2 : j < 7) : ∀ n, mc A n j = 0
  | 0 => rfl
  | n + 1 => by
    show (if ab_who (ab_it A 0 n) 0 = ab_bit j then mc A n j + 1 else mc A n j) = 0
    rw [if_neg (who_bit (by rw [ab_it_n]; exact hn) (by rw [ab_it_n]; exact h1) h2)]
    exact mc_out hn h1 h2 n
def pkm (h : Nat → Int32) : Nat → Int32 × Int32
  | 0 => (-9, 0)
  | i + 1 => if (pkm h i).2 < h i then (nI i, h i) else pkm h i
theorem pkm_pos (h : Nat → Int32) : ∀ i, ¬ (pkm h i).2 < 0
  | 0 => by show ¬ (0 : Int32) < 0; decide
  | i + 1 => by
    show ¬ (if (pkm h i).2 < h i then (nI i, h i) else pkm h i).2 < 0
    by_cases c : (pkm h i).2 < h i
    · rw [if_pos c]
      exact fun q => pkm_pos h i (Int32.lt_trans c q)
    · rw [if_neg c]; exact pkm_pos h i
theorem pkm_out {h : Nat → Int32} {n : Nat} (hz : ∀ j, n ≤ j → j < 7 → h j = 0) : ∀ r, n + r ≤ 7 → pkm h (n + r) = pkm h n
  | 0, _ => rfl
  | r + 1, hr => by
    show (if (pkm h (n + r)).2 < h (n + r) then (nI (n + r), h (n + r)) else pkm h (n + r)) = _
    rw [hz (n + r) (by omega) (by omega), if_neg (pkm_pos h _)]
    exact pkm_out hz r (by omega)
section MO
variable {G : mm_G} {x m : Nat} {cd : Nat → Nat} {Y : Ps}
theorem x10_q (gx : gX G x cd) : mm_N G (mm_R G x 10) = 7 ∧ qX cd (mm_R G x 10) ∧ (∀ b, ic G (mm_R G x 8) b → b ≠ mm_R G x 10) ∧ (∀ b, ic G (mm_R G x 5) b → b ≠ mm_R G x 10) ∧ mm_R G x 10 ≠ x := by
  obtain ⟨-, ex, -, -, -, -, -, -, -, -, -, -, ⟨e10, N10⟩, -⟩ := id gx
  refine ⟨N10, ?_, fun b q e => ?_, fun b q e => ?_, fun e => by rw [e] at e10; omega⟩
  · unfold qX; omega
  · have := gX_ic8 gx q
    unfold rg at this
    rw [e] at this
    omega
  · have := gX_ic5 gx q
    unfold rg at this
    rw [e] at this
    omega
/-- what the class counts aside -/
theorem cx_mc (gx : gX G x cd) (ok : okP Y) {n : Nat} (hn : n ≤ 100) {σ : mm_M} (r5 : rA G σ (mm_R G x 5) (p_A Y)) : ∃ σ', fX3_countHeardAside G x (nI n) σ = some σ' ∧ (∀ j, j < 7 → σ'.1 (mm_R G x 10) j = mc (p_A Y) n j) ∧ rA G σ' (mm_R G x 5) (p_A Y) ∧ mm_sm (qX cd) σ σ' := by
  obtain ⟨t, ht, et, ho, hlt⟩ := okP_A ok
  have hn7 := ho.1
  obtain ⟨N10, q10, n8, n5, nx⟩ := x10_q gx
  obtain ⟨s, e1, σ1, rfl, h1, m1⟩ := mm_loop (f := fX3_countHeardAside_s G x (nI n)) (fun i s => ∃ σ', s = Sum.inl (nI i, σ') ∧ (∀ j, j < i → σ'.1 (mm_R G x 10) j = 0) ∧ mm_sm (fun b => b = mm_R G x 10) σ σ') 7 (fun i s hi hI => by
    obtain ⟨σ1, rfl, h1, m1⟩ := hI
    refine ⟨Sum.inl (nI (i + 1), mm_up σ1 (mm_R G x 10) i 0), mm_lim_go ?_, _, rfl, fun k hk => ?_, mm_sm_up m1 rfl⟩
    · show fX3_countHeardAside_b2 G x (nI n) (nI i) σ1 = _
      unfold fX3_countHeardAside_b2
      rw [if_pos (show nI i < (7 : Int32) from nI_lt hi (by decide)), N10, nI_clamp (by omega : i < 2 ^ 31), if_neg (ck_n hi (by omega)), nI_1]
    · by_cases h : k = i
      · subst h; exact mm_gs ..
      · rw [mm_gk h]; exact h1 k (by omega)) (Sum.inl (nI 0, σ)) ⟨σ, rfl, fun j hj => absurd hj (Nat.not_lt_zero j), mm_sm_rf _ _⟩
  have r51 : rA G σ1 (mm_R G x 5) (p_A Y) := rA_sm m1 hn7 (fun b q => n5 b q) r5
  obtain ⟨σ2, f2, r2, m2⟩ := cx_aside gx ok r51
  obtain ⟨s, e3, σ3, rfl, h3, r83, r53, m3⟩ := mm_loop (f := fX3_countHeardAside_s G x (nI n)) (fun k s => ∃ σ', s = Sum.inr (Sum.inl (nI k, σ')) ∧ (∀ j, j < 7 → σ'.1 (mm_R G x 10) j = mc (p_A Y) k j) ∧ rA G σ' (mm_R G x 8) (ab_it (p_A Y) 0 k) ∧ rA G σ' (mm_R G x 5) (p_A Y) ∧ mm_sm (qX cd) σ σ') n (fun k s hk hI => by
    obtain ⟨σ3, rfl, h3, r83, r53, m3⟩ := hI
    have hok := ab_it_ok 0 ho k (by omega)
    obtain ⟨σ4, f4, r4, m4⟩ := ca_goBy 0 (gX_ga8 gx) r83 hok (by omega)
    have h4 : ∀ j, j < 7 → σ4.1 (mm_R G x 10) j = mc (p_A Y) k j := fun j hj => by rw [m4.1 _ (fun q => n8 _ q rfl)]; exact h3 j hj
    have r54 := x5_sm gx ok m4 r53
    generalize hw : ab_who (ab_it (p_A Y) 0 k) 0 = w at f4
    obtain ⟨s, e5, σ5, rfl, h5, m5⟩ := mm_loop (f := fX3_countHeardAside_s G x (nI n)) (fun i s => ∃ σ', s = Sum.inr (Sum.inr (nI k, w, nI i, σ')) ∧ (∀ j, j < 7 → σ'.1 (mm_R G x 10) j = if j < i then mc (p_A Y) (k + 1) j else mc (p_A Y) k j) ∧ mm_sm (fun b => b = mm_R G x 10) σ4 σ') (a_n (p_A Y)) (fun i s hi hI => by
      obtain ⟨σ5, rfl, h5, m5⟩ := hI
      have e51 : σ5.1 (mm_R G x 5) 1 = nI (a_n (p_A Y)) := by rw [m5.1 _ (n5 _ (Or.inl rfl))]; exact r54.1
      have hs : fX3_countHeardAside_s G x (nI n) (Sum.inr (Sum.inr (nI k, w, nI i, σ5))) = if w = ab_bit i then some (.inr (.inr (.inr (nI k, w, nI (i + 1), mm_up σ5 (mm_R G x 10) i (σ5.1 (mm_R G x 10) i + 1))))) else some (.inr (.inr (.inr (nI k, w, nI (i + 1), σ5)))) := by
        show fX3_countHeardAside_b51 G x (nI n) (nI k) w (nI i) σ5 = _
        unfold fX3_countHeardAside_b51
        rw [e51, if_pos (nI_lt hi (by omega)), N10, nI_clamp (by omega : i < 2 ^ 31), if_neg (ck_n (by omega) (by omega)), if_neg (ck_n (by omega) (by omega)), nI_1]
        rfl
      have hmc : mc (p_A Y) (k + 1) i = if w = ab_bit i then mc (p_A Y) k i + 1 else mc (p_A Y) k i := by
        show (if ab_who (ab_it (p_A Y) 0 k) 0 = ab_bit i then _ else _) = _
        rw [hw]
      have hsame : ∀ j, j ≠ i → ((if j < i + 1 then mc (p_A Y) (k + 1) j else mc (p_A Y) k j) = if j < i then mc (p_A Y) (k + 1) j else mc (p_A Y) k j) := fun j hj => by
        have : (j < i + 1) ↔ (j < i) := by omega
        simp only [this]
      by_cases c : w = ab_bit i
      · rw [if_pos c] at hs hmc
        refine ⟨_, mm_lim_go hs, _, rfl, fun j hj => ?_, mm_sm_up m5 rfl⟩
        by_cases hji : j = i
        · subst hji
          rw [mm_gs, if_pos (Nat.lt_succ_self j), hmc, h5 j hj, if_neg (Nat.lt_irrefl j)]
        · rw [mm_gk hji, hsame j hji]; exact h5 j hj
      · rw [if_neg c] at hs hmc
        refine ⟨_, mm_lim_go hs, _, rfl, fun j hj => ?_, m5⟩
        by_cases hji : j = i
        · subst hji
          rw [if_pos (Nat.lt_succ_self j), hmc, h5 j hj, if_neg (Nat.lt_irrefl j)]
        · rw [hsame j hji]; exact h5 j hj) (Sum.inr (Sum.inr (nI k, w, nI 0, σ4))) ⟨σ4, rfl, fun j hj => by rw [if_neg (Nat.not_lt_zero j)]; exact h4 j hj, mm_sm_rf _ _⟩
    have e51 : σ5.1 (mm_R G x 5) 1 = nI (a_n (p_A Y)) := by rw [m5.1 _ (n5 _ (Or.inl rfl))]; exact r54.1
    refine ⟨Sum.inr (Sum.inl (nI (k + 1), σ5)), ?_, σ5, rfl, fun j hj => ?_, ?_, ?_, ?_⟩
    · rw [mm_lim_go (show fX3_countHeardAside_s G x (nI n) (Sum.inr (Sum.inl (nI k, σ3))) = some (.inr (.inr (.inr (nI k, w, nI 0, σ4)))) from by
        show fX3_countHeardAside_b34 G x (nI n) (nI k) σ3 = _
        unfold fX3_countHeardAside_b34
        rw [if_pos (nI_lt hk (by omega)), f4]
        rfl), e5, mm_lim_go (show fX3_countHeardAside_s G x (nI n) (Sum.inr (Sum.inr (nI k, w, nI (a_n (p_A Y)), σ5))) = some (.inr (.inr (.inl (nI (k + 1), σ5)))) from by
        show fX3_countHeardAside_b51 G x (nI n) (nI k) w (nI (a_n (p_A Y))) σ5 = _
        unfold fX3_countHeardAside_b51
        rw [e51, if_neg Int32.lt_irrefl, nI_1])]
    · rw [h5 j hj]
      by_cases hja : j < a_n (p_A Y)
      · rw [if_pos hja]
      · rw [if_neg hja, mc_out hn7 (by omega) hj, mc_out hn7 (by omega) hj]
    · exact rA_sm m5 (by rw [show a_n (ab_it (p_A Y) 0 (k + 1)) = a_n (p_A Y) from ab_it_n _ _ _]; exact hn7) (fun b q => n8 b q) r4
    · exact rA_sm m5 hn7 (fun b q => n5 b q) r54
    · exact mm_sm_tr m3 (mm_sm_tr (mm_sm_mono m4 (ic8_q gx)) (mm_sm_mono m5 (fun b q => by rw [q]; exact q10)))) (Sum.inr (Sum.inl (nI 0, σ2))) ⟨σ2, rfl, fun j hj => by rw [m2.1 _ (fun q => n8 _ q rfl)]; exact h1 j hj, r2, x5_sm gx ok m2 r51, mm_sm_tr (mm_sm_mono m1 (fun b q => by rw [q]; exact q10)) (mm_sm_mono m2 (ic8_q gx))⟩
  refine ⟨σ3, ?_, h3, r53, m3⟩
  unfold fX3_countHeardAside fX3_countHeardAside_b0
  rw [mm_run_go]
  show mm_lim _ (Sum.inl (nI 0, σ)) = _
  rw [e1, mm_lim_go (show fX3_countHeardAside_s G x (nI n) (Sum.inl (nI 7, σ1)) = some (.inr (.inr (.inl (nI 0, σ2)))) from by
    show fX3_countHeardAside_b2 G x (nI n) (nI 7) σ1 = _
    unfold fX3_countHeardAside_b2
    rw [if_neg (show ¬ nI 7 < (7 : Int32) by decide), f2]
    rfl), e3]
  refine mm_lim_ret ?_
  show fX3_countHeardAside_b34 G x (nI n) (nI n) σ3 = _
  unfold fX3_countHeardAside_b34
  rw [if_neg Int32.lt_irrefl]
theorem cx_most (gx : gX G x cd) (ok : okP Y) {n : Nat} (h1 : 1 ≤ n) (hn : n ≤ 100) (hz : ¬ a_n (p_A Y) = 0) (σ : mm_M) (hc : CR G x σ Y) : ∃ σ', fX3_most G x (nI n) σ = (if (pkm (mc (p_A Y) n) (a_n (p_A Y))).1 = -9 then some ((pkm (mc (p_A Y) n) (a_n (p_A Y))).1, σ') else some ((pkm (mc (p_A Y) n) (a_n (p_A Y))).1, mm_up σ' x 12 (pkm (mc (p_A Y) n) (a_n (p_A Y))).2)) ∧ mm_sm (qX cd) σ σ' := by
  have hn7 := (okP_n ok).2
  obtain ⟨N10, q10, n8, n5, nx⟩ := x10_q gx
  obtain ⟨σ1, f1, v1, r1, m1⟩ := cx_mc gx ok hn hc.2.2.1
  have hfor := mm_for (f := fX3_most_s G x (nI n)) (fun i => ((pkm (mc (p_A Y) n) i).1, (pkm (mc (p_A Y) n) i).2, nI i, σ1)) (a_n (p_A Y)) (fun i hi => by
    show fX3_most_b39 G x (nI n) _ _ (nI i) σ1 = _
    unfold fX3_most_b39
    rw [r1.1, if_pos (nI_lt hi (by omega)), N10, nI_clamp (by omega : i < 2 ^ 31), if_neg (ck_n (by omega) (by omega)), if_neg (ck_n (by omega) (by omega)), v1 i (by omega), nI_1]
    have e : pkm (mc (p_A Y) n) (i + 1) = if (pkm (mc (p_A Y) n) i).2 < mc (p_A Y) n i then (nI i, mc (p_A Y) n i) else pkm (mc (p_A Y) n) i := rfl
    rw [e]
    by_cases c : (pkm (mc (p_A Y) n) i).2 < mc (p_A Y) n i
    · rw [if_pos c, if_pos c]
    · rw [if_neg c, if_neg c])
  refine ⟨σ1, ?_, m1⟩
  unfold fX3_most
  rw [show fX3_most_b0 G x (nI n) σ = some (.inr (-9, 0, nI 0, σ1)) from by
    unfold fX3_most_b0
    rw [if_neg (show ¬ nI n < 1 from nI_nlt (show 1 ≤ n from h1) (by omega)), if_neg (show ¬ (100 : Int32) < nI n from nI_nlt (show n ≤ 100 from hn) (by decide)), if_neg (show ¬ σ.1 (mm_R G x 5) 1 = 0 by rw [hc.2.2.1.1]; exact nI_ne0 (by omega) (by omega)), f1]
    rfl, mm_run_go]
  show mm_lim _ ((pkm (mc (p_A Y) n) 0).1, (pkm (mc (p_A Y) n) 0).2, nI 0, σ1) = _
  rw [hfor]
  have hfin : fX3_most_s G x (nI n) ((pkm (mc (p_A Y) n) (a_n (p_A Y))).1, (pkm (mc (p_A Y) n) (a_n (p_A Y))).2, nI (a_n (p_A Y)), σ1) = if (pkm (mc (p_A Y) n) (a_n (p_A Y))).1 = -9 then some (.inl ((pkm (mc (p_A Y) n) (a_n (p_A Y))).1, σ1)) else some (.inl ((pkm (mc (p_A Y) n) (a_n (p_A Y))).1, mm_up σ1 x 12 (pkm (mc (p_A Y) n) (a_n (p_A Y))).2)) := by
    show fX3_most_b39 G x (nI n) _ _ (nI (a_n (p_A Y))) σ1 = _
    unfold fX3_most_b39
    rw [r1.1, if_neg Int32.lt_irrefl]
  by_cases c : (pkm (mc (p_A Y) n) (a_n (p_A Y))).1 = -9
  · rw [if_pos c] at hfin ⊢
    exact mm_lim_ret hfin
  · rw [if_neg c] at hfin ⊢
    exact mm_lim_ret hfin
theorem ml_most (gm : gM G m cd) (ok : okP Y) {n : Nat} (h1 : 1 ≤ n) (hn : n ≤ 100) (hz : ¬ a_n (p_A Y) = 0) (σ : mm_M) (hc : MR G m σ Y) : ∃ σ', fX4_most G m (nI n) σ = some ((pkm (mc (p_A Y) n) 7).1, mm_up σ' m 14 (if (pkm (mc (p_A Y) n) 7).1 = -9 then σ'.1 m 14 else (pkm (mc (p_A Y) n) 7).2)) ∧ mm_sm (qY cd) σ σ' := by
  obtain ⟨t, ht, et, ho, hlt⟩ := okP_A ok
  have hn7 := ho.1
  obtain ⟨n57, M5, M7, q7⟩ := gM_57 gm
  obtain ⟨-, e0, -, -, -, -, -, ⟨m5, -⟩, -, ⟨m7, -⟩, -, -, -, -, -, -, ⟨m19, M19⟩, -⟩ := id gm
  have n7 : mm_R G m 7 ≠ mm_R G m 19 := fun e => by rw [e] at m7; omega
  have n5 : mm_R G m 5 ≠ mm_R G m 19 := fun e => by rw [e] at m5; omega
  have q19 : qY cd (mm_R G m 19) := by unfold qY; omega
  obtain ⟨s, e1, σ1, rfl, v1, s1⟩ := mm_loop (f := fX4_most_s G m (nI n)) (fun i s => ∃ σ', s = Sum.inl (nI i, σ') ∧ (∀ j, j < i → σ'.1 (mm_R G m 19) j = 0) ∧ mm_sm (fun b => b = mm_R G m 19) σ σ') 7 (fun i s hi hI => by
    obtain ⟨σ1, rfl, v1, s1⟩ := hI
    refine ⟨Sum.inl (nI (i + 1), mm_up σ1 (mm_R G m 19) i 0), mm_lim_go ?_, _, rfl, fun k hk => ?_, mm_sm_up s1 rfl⟩
    · show fX4_most_b27 G m (nI n) (nI i) σ1 = _
      unfold fX4_most_b27
      rw [if_pos (show nI i < (7 : Int32) from nI_lt hi (by decide)), M19, nI_clamp (by omega : i < 2 ^ 31), if_neg (ck_n hi (by omega)), nI_1]
    · by_cases h : k = i
      · subst h; exact mm_gs ..
      · rw [mm_gk h]; exact v1 k (by omega)) (Sum.inl (nI 0, σ)) ⟨σ, rfl, fun j hj => absurd hj (Nat.not_lt_zero j), mm_sm_rf _ _⟩
  have r51 : rM σ1 (mm_R G m 5) (p_A Y) 0 := rM_sm s1 n5 hn7 hc.2.2.1
  obtain ⟨σ2, f2, r2, s2⟩ := ml_aside gm ok r51
  obtain ⟨s, e3, σ3, rfl, v3, r73, s3⟩ := mm_loop (f := fX4_most_s G m (nI n)) (fun k s => ∃ σ', s = Sum.inr (Sum.inl (nI k, σ')) ∧ (∀ j, j < 7 → σ'.1 (mm_R G m 19) j = mc (p_A Y) k j) ∧ rM σ' (mm_R G m 7) (ab_it (p_A Y) 0 k) 0 ∧ mm_sm (qY cd) σ σ') n (fun k s hk hI => by
    obtain ⟨σ3, rfl, v3, r73, s3⟩ := hI
    have hok := ab_it_ok 0 ho k (by omega)
    obtain ⟨σ4, f4, r4, s4⟩ := ml_goes M7 r73 hok (by omega)
    have v4 : ∀ j, j < 7 → σ4.1 (mm_R G m 19) j = mc (p_A Y) k j := fun j hj => by rw [s4.1 _ (Ne.symm n7)]; exact v3 j hj
    generalize hw : ab_who (ab_it (p_A Y) 0 k) 0 = w at f4
    obtain ⟨s, e5, σ5, rfl, v5, s5⟩ := mm_loop (f := fX4_most_s G m (nI n)) (fun i s => ∃ σ', s = Sum.inr (Sum.inr (Sum.inl (nI k, w, nI i, σ'))) ∧ (∀ j, j < 7 → σ'.1 (mm_R G m 19) j = if j < i then mc (p_A Y) (k + 1) j else mc (p_A Y) k j) ∧ mm_sm (fun b => b = mm_R G m 19) σ4 σ') 7 (fun i s hi hI => by
      obtain ⟨σ5, rfl, v5, s5⟩ := hI
      have hs : fX4_most_s G m (nI n) (Sum.inr (Sum.inr (Sum.inl (nI k, w, nI i, σ5)))) = some (.inr (.inr (.inr (.inl (nI k, w, nI (i + 1), mm_up σ5 (mm_R G m 19) i (σ5.1 (mm_R G m 19) i + (if w = ab_bit i then 1 else 0))))))) := by
        show fX4_most_b75 G m (nI n) (nI k) w (nI i) σ5 = _
        unfold fX4_most_b75 fX4_most_b103
        rw [if_pos (show nI i < (7 : Int32) from nI_lt hi (by decide)), M19, nI_clamp (by omega : i < 2 ^ 31), if_neg (ck_n (by omega) (by omega)), if_neg (ck_n (by omega) (by omega)), nI_1]
        rfl
      have hmc : mc (p_A Y) (k + 1) i = mc (p_A Y) k i + (if w = ab_bit i then 1 else 0) := by
        show (if ab_who (ab_it (p_A Y) 0 k) 0 = ab_bit i then _ else _) = _
        rw [hw]
        by_cases c : w = ab_bit i
        · rw [if_pos c, if_pos c]
        · rw [if_neg c, if_neg c, Int32.add_zero]
      refine ⟨_, mm_lim_go hs, _, rfl, fun j hj => ?_, mm_sm_up s5 rfl⟩
      by_cases hji : j = i
      · subst hji
        rw [mm_gs, if_pos (Nat.lt_succ_self j), hmc, v5 j hj, if_neg (Nat.lt_irrefl j)]
      · have : (j < i + 1) ↔ (j < i) := by omega
        rw [mm_gk hji, v5 j hj]
        simp only [this]) (Sum.inr (Sum.inr (Sum.inl (nI k, w, nI 0, σ4)))) ⟨σ4, rfl, fun j hj => by rw [if_neg (Nat.not_lt_zero j)]; exact v4 j hj, mm_sm_rf _ _⟩
    refine ⟨Sum.inr (Sum.inl (nI (k + 1), σ5)), ?_, σ5, rfl, fun j hj => by rw [v5 j hj, if_pos hj], ?_, ?_⟩
    · rw [mm_lim_go (show fX4_most_s G m (nI n) (Sum.inr (Sum.inl (nI k, σ3))) = some (.inr (.inr (.inr (.inl (nI k, w, nI 0, σ4))))) from by
        show fX4_most_b59 G m (nI n) (nI k) σ3 = _
        unfold fX4_most_b59
        rw [if_pos (nI_lt hk (by omega)), f4]
        rfl), e5, mm_lim_go (show fX4_most_s G m (nI n) (Sum.inr (Sum.inr (Sum.inl (nI k, w, nI 7, σ5)))) = some (.inr (.inr (.inl (nI (k + 1), σ5)))) from by
        show fX4_most_b75 G m (nI n) (nI k) w (nI 7) σ5 = _
        unfold fX4_most_b75
        rw [if_neg (show ¬ nI 7 < (7 : Int32) by decide), nI_1])]
    · exact rM_sm s5 n7 (by rw [show a_n (ab_it (p_A Y) 0 (k + 1)) = a_n (p_A Y) from ab_it_n _ _ _]; exact hn7) r4
    · exact mm_sm_tr s3 (mm_sm_tr (mm_sm_mono s4 (fun b q => by rw [q]; exact q7)) (mm_sm_mono s5 (fun b q => by rw [q]; exact q19)))) (Sum.inr (Sum.inl (nI 0, σ2))) ⟨σ2, rfl, fun j hj => by rw [s2.1 _ (Ne.symm n7)]; exact v1 j hj, r2, mm_sm_tr (mm_sm_mono s1 (fun b q => by rw [q]; exact q19)) (mm_sm_mono s2 (fun b q => by rw [q]; exact q7))⟩
  have hfor := mm_for (f := fX4_most_s G m (nI n)) (fun i => Sum.inr (Sum.inr (Sum.inr ((pkm (mc (p_A Y) n) i).1, (pkm (mc (p_A Y) n) i).2, nI i, σ3)))) 7 (fun i hi => by
    show fX4_most_b125 G m (nI n) _ _ (nI i) σ3 = _
    unfold fX4_most_b125 fX4_most_b149
    rw [if_pos (show nI i < (7 : Int32) from nI_lt hi (by decide)), M19, nI_clamp (by omega : i < 2 ^ 31), if_neg (ck_n (by omega) (by omega)), if_neg (ck_n (by omega) (by omega)), if_neg (ck_n (by omega) (by omega)), v3 i hi, nI_1]
    have e : pkm (mc (p_A Y) n) (i + 1) = if (pkm (mc (p_A Y) n) i).2 < mc (p_A Y) n i then (nI i, mc (p_A Y) n i) else pkm (mc (p_A Y) n) i := rfl
    rw [e]
    by_cases c : (pkm (mc (p_A Y) n) i).2 < mc (p_A Y) n i
    · rw [if_pos c, if_pos c, if_pos c]
    · rw [if_neg c, if_neg c, if_neg c])
  refine ⟨σ3, ?_, s3⟩
  unfold fX4_most
  rw [show fX4_most_b0 G m (nI n) σ = some (.inr (.inl (nI 0, σ))) from by
    unfold fX4_most_b0
    rw [ml_in, if_neg (show ¬ nI n < 1 from nI_nlt (show 1 ≤ n from h1) (by omega)), if_neg (show ¬ (100 : Int32) < nI n from nI_nlt (show n ≤ 100 from hn) (by decide)), Option.bind_some, if_neg (n01 σ), M5, tc32, if_neg kc32, if_neg (show ¬ σ.1 (mm_R G m 5) 32 = 0 by rw [hc.2.2.1.1]; exact nI_ne0 (by omega) (by omega))]
    rfl, mm_run_go, e1, mm_lim_go (show fX4_most_s G m (nI n) (Sum.inl (nI 7, σ1)) = some (.inr (.inr (.inl (nI 0, σ2)))) from by
    show fX4_most_b27 G m (nI n) (nI 7) σ1 = _
    unfold fX4_most_b27
    rw [if_neg (show ¬ nI 7 < (7 : Int32) by decide), f2]
    rfl), e3, mm_lim_go (show fX4_most_s G m (nI n) (Sum.inr (Sum.inl (nI n, σ3))) = some (.inr (.inr (.inr (.inr ((pkm (mc (p_A Y) n) 0).1, (pkm (mc (p_A Y) n) 0).2, nI 0, σ3))))) from by
    show fX4_most_b59 G m (nI n) (nI n) σ3 = _
    unfold fX4_most_b59
    rw [if_neg Int32.lt_irrefl]
    rfl), hfor]
  refine mm_lim_ret ?_
  show fX4_most_b125 G m (nI n) _ _ (nI 7) σ3 = _
  unfold fX4_most_b125 fX4_most_b194
  rw [if_neg (show ¬ nI 7 < (7 : Int32) by decide)]
theorem J_most (gx : gX G x cd) (gm : gM G m cd) (ok : okP Y) (v : Int32) : Jc G x m cd (fX3_most G x v) (fX4_most G m v) Y := by
  obtain ⟨n57, M5, M7, q7⟩ := gM_57 gm
  have hn7 := (okP_n ok).2
  by_cases h1 : v < 1
  · refine J_same (-1) ok (fun σ hc => ?_) (fun σ hc => ?_)
    · unfold fX3_most fX3_most_b0; rw [if_pos h1]; rfl
    · unfold fX4_most fX4_most_b0; rw [ml_in, if_pos h1]; rfl
  · by_cases h100 : 100 < v
    · refine J_same (-1) ok (fun σ hc => ?_) (fun σ hc => ?_)
      · unfold fX3_most fX3_most_b0; rw [if_neg h1, if_pos h100]; rfl
      · unfold fX4_most fX4_most_b0; rw [ml_in, if_neg h1, if_pos h100]; rfl
    · by_cases hz : a_n (p_A Y) = 0
      · refine J_same (-4) ok (fun σ hc => ?_) (fun σ hc => ?_)
        · unfold fX3_most fX3_most_b0; rw [if_neg h1, if_neg h100, if_pos (show σ.1 (mm_R G x 5) 1 = 0 by rw [hc.2.2.1.1, hz]; rfl)]; rfl
        · unfold fX4_most fX4_most_b0; rw [ml_in, if_neg h1, if_neg h100, Option.bind_some, if_neg (n01 σ), M5, tc32, if_neg kc32, if_pos (show σ.1 (mm_R G m 5) 32 = 0 by rw [hc.2.2.1.1, hz]; rfl)]; rfl
      · have h0 : ¬ v < 0 := fun q => h1 (Int32.lt_of_lt_of_le q (by decide))
        obtain ⟨n, hn, rfl⟩ := nI_of2 (M := 100) (n := 100) (by decide) h0 (Int32.not_lt.mp h100)
        have hn1 : 1 ≤ n := by
          rcases Nat.eq_zero_or_pos n with h | h
          · subst h; exact absurd (show nI 0 < 1 by decide) h1
          · exact h
        have e7 : pkm (mc (p_A Y) n) 7 = pkm (mc (p_A Y) n) (a_n (p_A Y)) := by
          have := pkm_out (h := mc (p_A Y) n) (n := a_n (p_A Y)) (fun j h1 h2 => mc_out hn7 h1 h2 n) (7 - a_n (p_A Y)) (by omega)
          rw [show a_n (p_A Y) + (7 - a_n (p_A Y)) = 7 by omega] at this
          exact this
        by_cases c : (pkm (mc (p_A Y) n) (a_n (p_A Y))).1 = -9
        · refine J_try gx gm ok (pkm (mc (p_A Y) n) (a_n (p_A Y))).1 (fun σ hc => ?_) (fun σ hc => ?_)
          · obtain ⟨σ', f, s⟩ := cx_most gx ok hn1 hn hz σ hc
            exact ⟨σ', by rw [f, if_pos c], s⟩
          · obtain ⟨σ', f, s⟩ := ml_most gm ok hn1 hn hz σ hc
            exact ⟨σ', by rw [f, e7, if_pos c, mm_up_id], s⟩
        · refine J_tryt gx gm ok (pkm (mc (p_A Y) n) (a_n (p_A Y))).1 (pkm (mc (p_A Y) n) (a_n (p_A Y))).2 (fun σ hc => ?_) (fun σ hc => ?_)
          · obtain ⟨σ', f, s⟩ := cx_most gx ok hn1 hn hz σ hc
            exact ⟨σ', by rw [f, if_neg c], s⟩
          · obtain ⟨σ', f, s⟩ := ml_most gm ok hn1 hn hz σ hc
            exact ⟨σ', by rw [f, e7, if_neg c], s⟩
end MO
