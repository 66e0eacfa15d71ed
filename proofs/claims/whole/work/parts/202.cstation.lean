/-! THE CLASS'S STATION, by its values -/
def so (σ : mm_M) (b : Nat) : ab_S := (σ.1 b 0, σ.1 b 1, σ.1 b 2, σ.1 b 3, σ.1 b 4, σ.1 b 5)
theorem so_sm {S : Nat → Prop} {σ σ' : mm_M} (h : mm_sm S σ σ') {b : Nat} (hb : ¬ S b) : so σ' b = so σ b := by unfold so; rw [h.1 b hb]
theorem ab_okS_kd {N : Nat} {s : ab_S} (h : ab_okS N s) : ∃ k, k ≤ 5 ∧ s_kd s = nI k := by
  obtain ⟨k, f, p, l, w, c, rfl, hk, -⟩ := h
  exact ⟨k, hk, rfl⟩
theorem ab_okS_dbl {N : Nat} {s : ab_S} (h : ab_okS N s) {c : Nat} (h1 : 1 ≤ c) (h2 : c < 2 ^ 20) : ∃ v, v ≤ 64 ∧ ab_dbl s (nI c) = nI v := by
  obtain ⟨k, f, p, l, w, c0, rfl, hk, hf, hp1, hp, -⟩ := h
  exact ⟨_, le64 _, ab_dbl_n hf hp h1 (by omega)⟩
theorem cs_isOf (G : mm_G) {b : Nat} {σ : mm_M} {k j : Nat} (hk : k ≤ 5) (hkd : σ.1 b 0 = nI k) (h1 : 1 ≤ j) (hj : j ≤ 5) : fX2_isOf G b (nI j) σ = some (if ab_is (nI k) (nI j) then 1 else 0, σ) := by
  unfold fX2_isOf
  rw [hkd]
  rcases (show k = 0 ∨ k = 1 ∨ k = 2 ∨ k = 3 ∨ k = 4 ∨ k = 5 by omega) with rfl | rfl | rfl | rfl | rfl | rfl <;>
  rcases (show j = 1 ∨ j = 2 ∨ j = 3 ∨ j = 4 ∨ j = 5 by omega) with rfl | rfl | rfl | rfl | rfl <;> rfl
theorem cs_wants (G : mm_G) {b : Nat} {σ : mm_M} {t : Int32} {k : Nat} (hk : k ≤ 5) (hkd : σ.1 b 0 = nI k) : fX2_wants G b t σ = some (if ab_wants (so σ b) t then 1 else 0, σ) := by
  unfold fX2_wants
  rw [show (2 : Int32) = nI 2 from rfl, cs_isOf G hk hkd (by decide) (by decide)]
  unfold ab_wants so
  dsimp only [s_kd, s_lt, s_wt]
  rw [hkd, show (2 : Int32) = nI 2 from rfl]
  by_cases c1 : 0 < σ.1 b 3
  · by_cases c2 : σ.1 b 4 = 0
    · by_cases c3 : t = 0
      · simp [c1, c2, c3]
      · cases h : ab_is (nI k) (nI 2) <;> simp [c1, c2, c3]
    · simp [c1, c2]
  · simp [c1]
theorem cs_holds (G : mm_G) {b : Nat} {σ : mm_M} {t : Int32} {k : Nat} (hk : k ≤ 5) (hkd : σ.1 b 0 = nI k) : fX2_holdsBack G b t σ = some (if 0 < σ.1 b 3 ∧ σ.1 b 4 = 0 ∧ ¬ t = 0 ∧ ab_is (σ.1 b 0) 2 = true then 1 else 0, σ) := by
  unfold fX2_holdsBack
  rw [show (2 : Int32) = nI 2 from rfl, cs_isOf G hk hkd (by decide) (by decide), hkd]
  by_cases c1 : 0 < σ.1 b 3
  · by_cases c2 : σ.1 b 4 = 0
    · by_cases c3 : t = 0
      · simp [c1, c2, c3]
      · cases h : ab_is (nI k) (nI 2) <;> simp [c1, c2, c3]
    · simp [c1, c2]
  · simp [c1]
theorem cs_plain (G : mm_G) (b : Nat) (c : Int32) (σ : mm_M) : fX2_plainWait G b c σ = some (ab_plain (so σ b) c, σ) := rfl
theorem cs_dbl (G : mm_G) (b : Nat) (c : Int32) (σ : mm_M) : fX2_doubleWait G b c σ = some (ab_dbl (so σ b) c, σ) := rfl
theorem cs_wait (G : mm_G) {b : Nat} {c t : Int32} {σ : mm_M} {v : Nat} (hv : v ≤ 64) (hd : ab_dbl (so σ b) c = nI v) : fX2_waitBehind G b c t σ = some (ab_wait (so σ b) c t, σ) := by
  unfold fX2_waitBehind
  rw [cs_dbl, cs_plain]
  have ew : ab_wait (so σ b) c t = if σ.1 b 0 = 1 then ab_dbl (so σ b) c else if σ.1 b 0 = 3 then σ.1 b 1 else if σ.1 b 0 = 4 then (t * σ.1 b 2) - (t * σ.1 b 2) / (ab_dbl (so σ b) c + 1) * (ab_dbl (so σ b) c + 1) else ab_plain (so σ b) c := rfl
  rw [ew, hd]
  simp only [Option.bind_some]
  have e1 : nI v + 1 = nI (v + 1) := nI_1 v
  have n1 : ¬ nI (v + 1) < 1 := nI_nlt (show 1 ≤ v + 1 by omega) (by omega)
  have n0 : ¬ nI (v + 1) = 0 := nI_ne0 (by omega) (by omega)
  rw [e1]
  by_cases k1 : σ.1 b 0 = 1
  · rw [if_pos k1, if_pos k1]
  · by_cases k2 : σ.1 b 0 = 2
    · have k3 : ¬ σ.1 b 0 = 3 := by rw [k2]; decide
      have k4 : ¬ σ.1 b 0 = 4 := by rw [k2]; decide
      rw [if_neg k1, if_pos k2, if_neg k1, if_neg k3, if_neg k4]
    · by_cases k3 : σ.1 b 0 = 3
      · rw [if_neg k1, if_neg k2, if_pos k3, if_neg k1, if_pos k3]
      · by_cases k4 : σ.1 b 0 = 4
        · rw [if_neg k1, if_neg k2, if_neg k3, if_pos k4, if_neg n1, if_neg n0, if_neg k1, if_neg k3, if_pos k4]
        · rw [if_neg k1, if_neg k2, if_neg k3, if_neg k4, if_neg k1, if_neg k3, if_neg k4]
theorem cs_rest (G : mm_G) (b : Nat) (σ : mm_M) : fX2_rest G b σ = some (mm_up (mm_up σ b 5 0) b 4 0) := rfl
theorem cs_meets (G : mm_G) {b : Nat} {t : Int32} {σ : mm_M} {v : Nat} (hv : v ≤ 64) (hd : ab_dbl (so σ b) (s_cl (so σ b) + 1) = nI v) : ∃ σ', fX2_meets G b t σ = some (if ab_gives (so σ b) then 1 else 0, σ') ∧ so σ' b = ab_meet (so σ b) t ∧ mm_sm (fun x => x = b) σ σ' := by
  have hs1 : so (mm_up σ b 5 (σ.1 b 5 + 1)) b = (σ.1 b 0, σ.1 b 1, σ.1 b 2, σ.1 b 3, σ.1 b 4, σ.1 b 5 + 1) := by simp [so, mm_up]
  have hd1 : ab_dbl (so (mm_up σ b 5 (σ.1 b 5 + 1)) b) ((mm_up σ b 5 (σ.1 b 5 + 1)).1 b 5) = nI v := by rw [hs1, mm_gs]; exact hd
  have r0 : (mm_up σ b 5 (σ.1 b 5 + 1)).1 b 0 = σ.1 b 0 := mm_gk (by decide)
  have r3 : (mm_up σ b 5 (σ.1 b 5 + 1)).1 b 3 = σ.1 b 3 := mm_gk (by decide)
  have r5 : (mm_up σ b 5 (σ.1 b 5 + 1)).1 b 5 = σ.1 b 5 + 1 := mm_gs ..
  have sm1 : mm_sm (fun x => x = b) σ (mm_up σ b 5 (σ.1 b 5 + 1)) := mm_sm_up (mm_sm_rf _ _) rfl
  unfold fX2_meets fX2_meets_b42
  rw [cs_rest, cs_wait G hv hd1, hs1, r0, r3, r5]
  have eg : ab_gives (so σ b) = (decide (σ.1 b 0 = 5) && decide (σ.1 b 5 + 1 = 4)) := rfl
  have em : ab_meet (so σ b) t = if ab_gives (so σ b) then (σ.1 b 0, σ.1 b 1, σ.1 b 2, σ.1 b 3 - 1, 0, 0) else (σ.1 b 0, σ.1 b 1, σ.1 b 2, σ.1 b 3, ab_wait (so σ b) (σ.1 b 5 + 1) t, σ.1 b 5 + 1) := rfl
  have ewt : ab_wait (σ.1 b 0, σ.1 b 1, σ.1 b 2, σ.1 b 3, σ.1 b 4, σ.1 b 5 + 1) (σ.1 b 5 + 1) t = ab_wait (so σ b) (σ.1 b 5 + 1) t := rfl
  rw [em, eg, ewt]
  simp only [Option.bind_some]
  by_cases c1 : σ.1 b 0 = 5
  · by_cases c2 : σ.1 b 5 + 1 = 4
    · rw [if_pos c1, if_pos c2, decide_eq_true c1, decide_eq_true c2]
      refine ⟨_, rfl, ?_, mm_sm_up (mm_sm_up (mm_sm_up sm1 rfl) rfl) rfl⟩
      simp [so, mm_up]
    · rw [if_pos c1, if_neg c2, decide_eq_true c1, decide_eq_false c2]
      refine ⟨_, rfl, ?_, mm_sm_up sm1 rfl⟩
      simp [so, mm_up]
  · rw [if_neg c1, decide_eq_false c1]
    refine ⟨_, rfl, ?_, mm_sm_up sm1 rfl⟩
    simp [so, mm_up]
theorem cs_heard (G : mm_G) (b : Nat) (σ : mm_M) : ∃ σ', fX2_isHeard G b σ = some σ' ∧ so σ' b = ab_heard (so σ b) ∧ mm_sm (fun x => x = b) σ σ' :=
  ⟨_, rfl, by simp [so, mm_up, ab_heard], mm_sm_up (mm_sm_up (mm_sm_rf _ _) rfl) rfl⟩
theorem cs_become (G : mm_G) {b b2 : Nat} (hne : b2 ≠ b) (σ : mm_M) : ∃ σ', fX2_become G b b2 σ = some σ' ∧ so σ' b = so σ b2 ∧ mm_sm (fun x => x = b) σ σ' :=
  ⟨_, rfl, by simp [so, mm_up, hne], mm_sm_up (mm_sm_up (mm_sm_up (mm_sm_up (mm_sm_up (mm_sm_up (mm_sm_rf _ _) rfl) rfl) rfl) rfl) rfl) rfl⟩
theorem cs_told (G : mm_G) {b : Nat} {σ : mm_M} {t : Int32} {k : Nat} (hk : k ≤ 5) (hkd : σ.1 b 0 = nI k) (x : Int32) : fX2_told G b x t σ = some (if x = 0 then s_kd (so σ b) else if x = 1 then s_fw (so σ b) else if x = 2 then s_sp (so σ b) else if x = 3 then s_lt (so σ b) else if x = 4 then s_wt (so σ b) else if x = 5 then s_cl (so σ b) else if ab_wants (so σ b) t then 1 else 0, σ) := by
  unfold fX2_told
  rw [cs_wants G hk hkd]
  by_cases h0 : x = 0
  · simp only [if_pos h0]; rfl
  · by_cases h1 : x = 1
    · simp only [if_neg h0, if_pos h1]; rfl
    · by_cases h2 : x = 2
      · simp only [if_neg h0, if_neg h1, if_pos h2]; rfl
      · by_cases h3 : x = 3
        · simp only [if_neg h0, if_neg h1, if_neg h2, if_pos h3]; rfl
        · by_cases h4 : x = 4
          · simp only [if_neg h0, if_neg h1, if_neg h2, if_neg h3, if_pos h4]; rfl
          · by_cases h5 : x = 5
            · simp only [if_neg h0, if_neg h1, if_neg h2, if_neg h3, if_neg h4, if_pos h5]; rfl
            · simp only [if_neg h0, if_neg h1, if_neg h2, if_neg h3, if_neg h4, if_neg h5]
              cases ab_wants (so σ b) t <;> rfl
