/-! SLOTS THAT GO BY, AND THE END: numbers stay small; both sides do the same -/
theorem ab_who_bt {A : ab_A} {z : Int32} (hn : a_n A ≤ 7) {i : Nat} (hi : i < 32) : bt (ab_who A z) i = (decide (i < a_n A) && (!bt z i && ab_wants (a_st A i) (a_tk A))) := by
  unfold ab_who
  rw [b_mk _ _ (by omega) i hi]
theorem ab_next_ok {N : Nat} {A : ab_A} {z : Int32} (ho : ab_ok N A) (hN : N < 2 ^ 19) {i : Nat} (hi : i < a_n A) : ab_okS (N + 1) (ab_next (ab_who A z) z (a_sl A) i (a_st A i)) := by
  obtain ⟨hn, ⟨t, ht, et⟩, -, hs⟩ := ho
  obtain ⟨k, f, p, l, w, c, es, hk, hf, hp1, hp, hl, hw, hc⟩ := hs i hi
  unfold ab_next
  by_cases hb : bt (ab_who A z) i = true
  · rw [if_pos hb]
    have hl0 : 0 < l := by
      rw [ab_who_bt hn (by omega)] at hb
      simp only [Bool.and_eq_true] at hb
      have h3 := hb.2.2
      rw [es] at h3
      have h4 : decide (0 < nI l) = true := by
        have : ab_wants (nI k, nI f, nI p, nI l, nI w, nI c) (a_tk A) = (decide (0 < nI l) && (decide (nI w = 0) && (decide (a_tk A = 0) || !ab_is (nI k) 2))) := rfl
        rw [this] at h3
        simp only [Bool.and_eq_true] at h3
        exact h3.1
      exact (nI_ltI (a := 0) (by decide) (by omega)).mp (of_decide_eq_true h4)
    have el : nI l - 1 = nI (l - 1) := by rw [show (1 : Int32) = nI 1 from rfl, pk_sub hl0]
    by_cases h1 : ab_ones (ab_who A z) = 1
    · rw [if_pos h1, es]
      exact ⟨k, f, p, l - 1, w, 0, by show (nI k, nI f, nI p, nI l - 1, nI w, (0 : Int32)) = _; rw [el]; rfl, hk, hf, hp1, hp, by omega, hw, by omega⟩
    · rw [if_neg h1, es]
      have em : ab_meet (nI k, nI f, nI p, nI l, nI w, nI c) (a_sl A) = if ab_gives (nI k, nI f, nI p, nI l, nI w, nI c) then (nI k, nI f, nI p, nI l - 1, 0, 0) else (nI k, nI f, nI p, nI l, ab_wait (nI k, nI f, nI p, nI l, nI w, nI c) (nI c + 1) (a_sl A), nI c + 1) := rfl
      rw [em]
      cases ab_gives (nI k, nI f, nI p, nI l, nI w, nI c)
      · obtain ⟨v, hv, ev⟩ := ab_wait_n (l := l) (w := w) (c0 := c) (c := c + 1) (t := t) hk hf hp1 hp (by omega) (by omega) (by omega)
        rw [if_neg (by decide), nI_1, et, ev]
        exact ⟨k, f, p, l, v, c + 1, rfl, hk, hf, hp1, hp, hl, hv, by omega⟩
      · rw [if_pos rfl, el]
        exact ⟨k, f, p, l - 1, 0, 0, rfl, hk, hf, hp1, hp, by omega, by omega, by omega⟩
  · rw [if_neg hb]
    by_cases hz : 0 < s_wt (a_st A i) ∧ bt z i = false
    · rw [if_pos hz, es]
      have hw0 : 0 < w := by
        have := hz.1
        rw [es] at this
        exact (nI_ltI (a := 0) (by decide) (by omega)).mp this
      have ew : nI w - 1 = nI (w - 1) := by rw [show (1 : Int32) = nI 1 from rfl, pk_sub hw0]
      exact ⟨k, f, p, l, w - 1, c, by show (nI k, nI f, nI p, nI l, nI w - 1, nI c) = _; rw [ew], hk, hf, hp1, hp, hl, by omega, by omega⟩
    · rw [if_neg hz, es]
      exact ⟨k, f, p, l, w, c, rfl, hk, hf, hp1, hp, hl, hw, by omega⟩
theorem ab_go_ok {N : Nat} {A : ab_A} (z : Int32) (ho : ab_ok N A) (hN : N < 2 ^ 19) : ab_ok (N + 1) (ab_go A z) := by
  refine ⟨ho.1, ?_, ?_, fun i hi => ab_next_ok ho hN hi⟩
  · obtain ⟨t, ht, et⟩ := ho.2.1
    exact ⟨t + 1, by omega, by show a_sl A + 1 = _; rw [et, nI_1]⟩
  · show (if ab_who A z = 0 then (0 : Int32) else 1) = 0 ∨ (if ab_who A z = 0 then (0 : Int32) else 1) = 1
    by_cases h : ab_who A z = 0
    · rw [if_pos h]; exact Or.inl rfl
    · rw [if_neg h]; exact Or.inr rfl
theorem ab_ok_le {N M : Nat} {A : ab_A} (h : ab_ok N A) (hNM : N ≤ M) : ab_ok M A := by
  refine ⟨h.1, ?_, h.2.2.1, fun i hi => ?_⟩
  · obtain ⟨t, ht, et⟩ := h.2.1
    exact ⟨t, by omega, et⟩
  · obtain ⟨k, f, p, l, w, c, es, hk, hf, hp1, hp, hl, hw, hc⟩ := h.2.2.2 i hi
    exact ⟨k, f, p, l, w, c, es, hk, hf, hp1, hp, hl, hw, by omega⟩
def ab_it (A : ab_A) (z : Int32) : Nat → ab_A
  | 0 => A
  | k + 1 => ab_go (ab_it A z k) z
theorem ab_it_ok {N : Nat} {A : ab_A} (z : Int32) (ho : ab_ok N A) : ∀ k, N + k < 2 ^ 19 → ab_ok (N + k) (ab_it A z k)
  | 0, _ => ho
  | k + 1, h => ab_go_ok z (ab_it_ok z ho k (by omega)) (show N + k < 2 ^ 19 by omega)
theorem ab_it_n (A : ab_A) (z : Int32) : ∀ k, a_n (ab_it A z k) = a_n A
  | 0 => rfl
  | k + 1 => ab_it_n A z k
/-- the end: behind how many slots nobody has letters, at most 200 -/
def ab_endF : Nat → Nat → ab_A → Int32 × ab_A
  | 0, _, A => (-9, A)
  | f + 1, k, A => if ab_let A 0 (a_n A) = 0 then (nI k, A) else ab_endF f (k + 1) (ab_go A 0)
def ab_end (A : ab_A) : Int32 × ab_A := ab_endF 201 0 A
theorem ab_endF_n : ∀ (f k : Nat) (A : ab_A), a_n (ab_endF f k A).2 = a_n A
  | 0, _, _ => rfl
  | f + 1, k, A => by
    unfold ab_endF
    by_cases h : ab_let A 0 (a_n A) = 0
    · rw [if_pos h]
    · rw [if_neg h, ab_endF_n f (k + 1) (ab_go A 0)]
      rfl
theorem ca_endF {G : mm_G} {a : Nat} (hg : ga G a) : ∀ (f k N : Nat) (A : ab_A) (σ : mm_M), k + f = 201 → N + f < 2 ^ 19 → rA G σ a A → ab_ok N A → ∃ σ', mm_lim (fX0_goToEnd_s G a) (nI k, σ) = some ((ab_endF f k A).1, σ') ∧ rA G σ' a (ab_endF f k A).2 ∧ mm_sm (ic G a) σ σ'
  | 0, k, N, A, σ, hk, hN, hr, ho => by
    refine ⟨σ, mm_lim_ret ?_, hr, mm_sm_rf _ _⟩
    show fX0_goToEnd_b2 G a (nI k) σ = _
    unfold fX0_goToEnd_b2
    rw [show (200 : Int32) = nI 200 from rfl, if_pos (nI_lt (show 200 < k by omega) (by omega))]
    rfl
  | f + 1, k, N, A, σ, hk, hN, hr, ho => by
    have hb : fX0_goToEnd_s G a (nI k, σ) = if ab_let A 0 (a_n A) = 0 then some (.inl (nI k, σ)) else (fX0_goBy G a 0 σ).bind (fun q21 => some (.inr (nI k + 1, q21.2))) := by
      show fX0_goToEnd_b2 G a (nI k) σ = _
      unfold fX0_goToEnd_b2
      rw [show (200 : Int32) = nI 200 from rfl, if_neg (nI_nlt (show k ≤ 200 by omega) (by decide)), ca_letters 0 hg hr ho, Option.bind_some]
    unfold ab_endF
    by_cases h : ab_let A 0 (a_n A) = 0
    · rw [if_pos h] at hb
      rw [if_pos h]
      exact ⟨σ, mm_lim_ret hb, hr, mm_sm_rf _ _⟩
    · rw [if_neg h] at hb
      rw [if_neg h]
      obtain ⟨σ1, e1, r1, m1⟩ := ca_goBy 0 hg hr ho (by omega)
      rw [e1, Option.bind_some] at hb
      obtain ⟨σ2, e2, r2, m2⟩ := ca_endF hg f (k + 1) (N + 1) (ab_go A 0) σ1 (by omega) (by omega) r1 (ab_go_ok 0 ho (by omega))
      refine ⟨σ2, ?_, r2, mm_sm_tr m1 m2⟩
      rw [mm_lim_go hb, ← e2]
      show mm_lim _ (nI k + 1, σ1) = _
      rw [nI_1]
theorem ca_end {G : mm_G} {a N : Nat} {A : ab_A} {σ : mm_M} (hg : ga G a) (hr : rA G σ a A) (ho : ab_ok N A) (hN : N < 2 ^ 18) : ∃ σ', fX0_goToEnd G a σ = some ((ab_end A).1, σ') ∧ rA G σ' a (ab_end A).2 ∧ mm_sm (ic G a) σ σ' := by
  obtain ⟨σ', h1, h2, h3⟩ := ca_endF hg 201 0 N A σ rfl (by omega) hr ho
  exact ⟨σ', h1, h2, h3⟩
theorem ml_letters {G : mm_G} {σ : mm_M} {c : Nat} {A : ab_A} {z : Int32} (hN : mm_N G c = 48) (hn : a_n A ≤ 7) (hr : rM σ c A z) : fX4_lettersOf G c σ = some (ab_let A 0 (a_n A), σ) := by
  obtain ⟨h1, h2, h3, h4, h5, h6, hs⟩ := hr
  have step : ∀ i, i < a_n A → fX4_lettersOf_s G c (ab_let A 0 i, nI i, σ) = some (.inr (ab_let A 0 (i + 1), nI (i + 1), σ)) := by
    intro i hi
    have e3 : σ.1 c (11 + i) = s_lt (a_st A i) := congrArg (fun s : ab_S => s_lt s) (hs i hi)
    show fX4_lettersOf_b4 G c (ab_let A 0 i) (nI i) σ = _
    unfold fX4_lettersOf_b4
    rw [hN, tc32, if_neg kc32, h1, if_pos (nI_lt hi (by omega)), ad11, nI_clamp (by omega), if_neg (kcn (by omega)), e3, nI_1]
    have e : ab_let A 0 (i + 1) = if bt 0 i then ab_let A 0 i else ab_let A 0 i + s_lt (a_st A i) := rfl
    rw [e, b_0]
    rfl
  unfold fX4_lettersOf fX4_lettersOf_b0
  rw [mm_run_go]
  show mm_lim (fX4_lettersOf_s G c) (ab_let A 0 0, nI 0, σ) = _
  rw [mm_for (f := fX4_lettersOf_s G c) (fun i => (ab_let A 0 i, nI i, σ)) (a_n A) step]
  refine mm_lim_ret ?_
  show fX4_lettersOf_b4 G c (ab_let A 0 (a_n A)) (nI (a_n A)) σ = _
  unfold fX4_lettersOf_b4
  rw [hN, tc32, if_neg kc32, h1, if_neg Int32.lt_irrefl]
theorem ml_endF {G : mm_G} {c : Nat} (hc : mm_N G c = 48) : ∀ (f k N : Nat) (A : ab_A) (σ : mm_M), k + f = 201 → N + f < 2 ^ 19 → rM σ c A 0 → ab_ok N A → ∃ σ', mm_lim (fX4_done_s G c) (nI k, σ) = some ((ab_endF f k A).1, σ') ∧ rM σ' c (ab_endF f k A).2 0 ∧ mm_sm (fun x => x = c) σ σ'
  | 0, k, N, A, σ, hk, hN, hr, ho => by
    refine ⟨σ, mm_lim_ret ?_, hr, mm_sm_rf _ _⟩
    show fX4_done_b2 G c (nI k) σ = _
    unfold fX4_done_b2
    rw [show (200 : Int32) = nI 200 from rfl, if_pos (nI_lt (show 200 < k by omega) (by omega))]
    rfl
  | f + 1, k, N, A, σ, hk, hN, hr, ho => by
    have hb : fX4_done_s G c (nI k, σ) = if ab_let A 0 (a_n A) = 0 then some (.inl (nI k, σ)) else (fX4_goes G c σ).bind (fun q19 => some (.inr (nI k + 1, q19.2))) := by
      show fX4_done_b2 G c (nI k) σ = _
      unfold fX4_done_b2
      rw [show (200 : Int32) = nI 200 from rfl, if_neg (nI_nlt (show k ≤ 200 by omega) (by decide)), ml_letters hc ho.1 hr, Option.bind_some]
    unfold ab_endF
    by_cases h : ab_let A 0 (a_n A) = 0
    · rw [if_pos h] at hb
      rw [if_pos h]
      exact ⟨σ, mm_lim_ret hb, hr, mm_sm_rf _ _⟩
    · rw [if_neg h] at hb
      rw [if_neg h]
      obtain ⟨σ1, e1, r1, m1⟩ := ml_goes hc hr ho (by omega)
      rw [e1, Option.bind_some] at hb
      obtain ⟨σ2, e2, r2, m2⟩ := ml_endF hc f (k + 1) (N + 1) (ab_go A 0) σ1 (by omega) (by omega) r1 (ab_go_ok 0 ho (by omega))
      refine ⟨σ2, ?_, r2, mm_sm_tr m1 m2⟩
      rw [mm_lim_go hb, ← e2]
      show mm_lim _ (nI k + 1, σ1) = _
      rw [nI_1]
theorem ml_end {G : mm_G} {c N : Nat} {A : ab_A} {σ : mm_M} (hc : mm_N G c = 48) (hr : rM σ c A 0) (ho : ab_ok N A) (hN : N < 2 ^ 18) : ∃ σ', fX4_done G c σ = some ((ab_end A).1, σ') ∧ rM σ' c (ab_end A).2 0 ∧ mm_sm (fun x => x = c) σ σ' := by
  obtain ⟨σ', h1, h2, h3⟩ := ml_endF hc 201 0 N A σ rfl (by omega) hr ho
  exact ⟨σ', h1, h2, h3⟩
/-- the model's copy of an air -/
theorem ml_copy {G : mm_G} {c d : Nat} {σ : mm_M} (hc : mm_N G c = 48) (hd : mm_N G d = 48) (hne : c ≠ d) : ∃ σ', fX4_copies G c d σ = some σ' ∧ (∀ k, k < 48 → σ'.1 d k = σ.1 c k) ∧ mm_sm (fun x => x = d) σ σ' := by
  obtain ⟨⟨x, σ1⟩, e1, hx, hk, hm⟩ := mm_loop (f := fX4_copies_s G c d) (fun i s => s.1 = nI i ∧ (∀ k, k < i → s.2.1 d k = σ.1 c k) ∧ mm_sm (fun x => x = d) σ s.2) 48 (fun i s hi hI => by
    obtain ⟨x, σ1⟩ := s
    obtain ⟨hx, hk, hm⟩ := hI
    dsimp only at hx hk hm
    subst hx
    refine ⟨(nI i + 1, mm_up σ1 d i (σ1.1 c i)), mm_lim_go ?_, nI_1 i, fun k hk' => ?_, mm_sm_up hm rfl⟩
    · show fX4_copies_b2 G c d (nI i) σ1 = _
      unfold fX4_copies_b2
      rw [show (48 : Int32) = nI 48 from rfl, if_pos (nI_lt hi (by decide)), hc, hd, if_neg (ck_no hi (by decide)), if_neg (ck_no hi (by decide)), nI_clamp (by omega)]
    · by_cases hki : k = i
      · subst hki
        show (mm_up σ1 d k (σ1.1 c k)).1 d k = _
        rw [mm_gs, hm.1 c hne]
      · show (mm_up σ1 d i (σ1.1 c i)).1 d k = _
        rw [mm_gk hki]
        exact hk k (by omega)) ((0 : Int32), σ) ⟨rfl, fun k h => absurd h (Nat.not_lt_zero k), mm_sm_rf _ _⟩
  dsimp only at hx hk hm
  subst hx
  refine ⟨σ1, ?_, hk, hm⟩
  unfold fX4_copies fX4_copies_b0
  rw [mm_run_go, e1]
  refine mm_lim_ret ?_
  show fX4_copies_b2 G c d (nI 48) σ1 = _
  unfold fX4_copies_b2
  rw [show (48 : Int32) = nI 48 from rfl, if_neg Int32.lt_irrefl]
theorem rM_of {σ σ' : mm_M} {c d : Nat} {A : ab_A} {z : Int32} (hn : a_n A ≤ 7) (h : ∀ k, k < 48 → σ'.1 d k = σ.1 c k) (hr : rM σ c A z) : rM σ' d A z := by
  obtain ⟨h1, h2, h3, h4, h5, h6, hs⟩ := hr
  refine ⟨by rw [h _ (by omega)]; exact h1, by rw [h _ (by omega)]; exact h2, by rw [h _ (by omega)]; exact h3, by rw [h _ (by omega)]; exact h4, by rw [h _ (by omega)]; exact h5, by rw [h _ (by omega)]; exact h6, fun i hi => ?_⟩
  rw [← hs i hi]
  unfold ms
  rw [h (33 + i) (by omega), h (4 + i) (by omega), h (40 + i) (by omega), h (11 + i) (by omega), h (18 + i) (by omega), h (25 + i) (by omega)]
theorem rM_sm {S : Nat → Prop} {σ σ' : mm_M} {c : Nat} {A : ab_A} {z : Int32} (h : mm_sm S σ σ') (hc : ¬ S c) (hn : a_n A ≤ 7) (hr : rM σ c A z) : rM σ' c A z := rM_of hn (fun k _ => by rw [h.1 c hc]) hr
/-- the class's copy of an air -/
theorem ca_become {G : mm_G} {a b N : Nat} {A : ab_A} {σ : mm_M} (hga : ga G a) (hgb : ga G b) (hdis : ∀ x, ic G a x → ¬ ic G b x) (hr : rA G σ b A) (ho : ab_ok N A) : ∃ σ', fX0_become G a b σ = some σ' ∧ rA G σ' a A ∧ mm_sm (ic G a) σ σ' := by
  have hn7 : a_n A ≤ 7 := ho.1
  obtain ⟨h1, h2, h3, h4, h5, hs⟩ := hr
  have hba : b ≠ a := fun e => hdis a (Or.inl rfl) (Or.inl e.symm)
  generalize hσ0 : mm_up (mm_up (mm_up (mm_up (mm_up σ a 1 (nI (a_n A))) a 2 (a_sl A)) a 3 (a_hd A)) a 4 (a_ls A)) a 5 (a_tk A) = σ0
  have m0 : mm_sm (ic G a) σ σ0 := by
    rw [← hσ0]
    exact mm_sm_up (mm_sm_up (mm_sm_up (mm_sm_up (mm_sm_up (mm_sm_rf _ _) (Or.inl rfl)) (Or.inl rfl)) (Or.inl rfl)) (Or.inl rfl)) (Or.inl rfl)
  have v1 : σ0.1 a 1 = nI (a_n A) := by rw [← hσ0]; simp [mm_up]
  have v2 : σ0.1 a 2 = a_sl A := by rw [← hσ0]; simp [mm_up]
  have v3 : σ0.1 a 3 = a_hd A := by rw [← hσ0]; simp [mm_up]
  have v4 : σ0.1 a 4 = a_ls A := by rw [← hσ0]; simp [mm_up]
  have v5 : σ0.1 a 5 = a_tk A := by rw [← hσ0]; simp [mm_up]
  have start : fX0_become G a b σ = mm_lim (fX0_become_s G a b) (nI 0, σ0) := by
    unfold fX0_become fX0_become_b0
    simp only [mm_ga hba, h1, h2, h3, h4, h5]
    rw [if_neg (fun q => q ho.2.2.1), hσ0, mm_run_go]
    rfl
  obtain ⟨⟨x, σ1⟩, e1, hx, hm, hk, hst⟩ := mm_loop (f := fX0_become_s G a b) (fun i s => s.1 = nI i ∧ mm_sm (ic G a) σ s.2 ∧ (s.2.1 a = σ0.1 a) ∧ ∀ j, j < i → so s.2 (sa G a j) = a_st A j) (a_n A) (fun i s hi hI => by
    obtain ⟨x, σ1⟩ := s
    obtain ⟨hx, hm, hk, hst⟩ := hI
    dsimp only at hx hm hk hst
    subst hx
    have hin : ic G a (sa G a i) := Or.inr ⟨i, by omega, rfl⟩
    have hne : sa G b i ≠ sa G a i := fun e => hdis _ hin (Or.inr ⟨i, by omega, e.symm⟩)
    obtain ⟨σ2, f2, s2, m2⟩ := cs_become G hne σ1
    have hb : fX0_become_s G a b (nI i, σ1) = some (.inr (nI i + 1, σ2)) := by
      show fX0_become_b42 G a b (nI i) σ1 = _
      unfold fX0_become_b42
      rw [hk, v1, if_pos (nI_lt hi (by omega)), hga.1, hgb.1, if_neg (ck_no (by omega) (by decide)), if_neg (ck_no (by omega) (by decide)), nI_clamp (by omega), show mm_R G (mm_R G a 0) i = sa G a i from rfl, show mm_R G (mm_R G b 0) i = sa G b i from rfl, f2]
      rfl
    refine ⟨(nI i + 1, σ2), mm_lim_go hb, nI_1 i, mm_sm_tr hm (mm_sm_mono m2 (fun y hy => by subst hy; exact hin)), ?_, fun j hj => ?_⟩
    · show σ2.1 a = _
      rw [m2.1 a (fun e => hga.2.1 i (by omega) e.symm)]; exact hk
    · show so σ2 (sa G a j) = _
      by_cases hji : j = i
      · subst hji
        rw [s2, so_sm hm (fun q => hdis _ q (Or.inr ⟨j, by omega, rfl⟩))]
        exact hs j hi
      · rw [so_sm m2 (fun e => hji (hga.2.2 j i (by omega) (by omega) e))]
        exact hst j (by omega)) (nI 0, σ0) ⟨rfl, m0, rfl, fun j h => absurd h (Nat.not_lt_zero j)⟩
  dsimp only at hx hm hk hst
  subst hx
  refine ⟨σ1, ?_, ⟨by rw [hk]; exact v1, by rw [hk]; exact v2, by rw [hk]; exact v3, by rw [hk]; exact v4, by rw [hk]; exact v5, hst⟩, hm⟩
  rw [start, e1]
  refine mm_lim_ret ?_
  show fX0_become_b42 G a b (nI (a_n A)) σ1 = _
  unfold fX0_become_b42
  rw [hk, v1, if_neg Int32.lt_irrefl]
