/-! READING, on the model's side -/
section RM
variable {G : mm_G} {m : Nat} {cd : Nat → Nat}
/-- a text as the model holds it -/
def tx_m (G : mm_G) (m t n : Nat) (tx : Nat → Int32) (σ : mm_M) : Prop := σ.1 (mm_R G m 3) t = nI n ∧ ∀ q, q < n → σ.1 (mm_R G m 4) (60 * t + q) = tx q
theorem tx_sm (gm : gM G m cd) {t n : Nat} {tx : Nat → Int32} {σ σ' : mm_M} (h : mm_sm (fun b => b = mm_R G m 6) σ σ') (ht : tx_m G m t n tx σ) : tx_m G m t n tx σ' := by
  obtain ⟨-, -, -, -, -, ⟨e3, -⟩, ⟨e4, -⟩, -, ⟨e6, -⟩, -⟩ := id gm
  unfold tx_m
  rw [h.1 _ (fun e => by rw [e] at e3; omega), h.1 _ (fun e => by rw [e] at e4; omega)]
  exact ht
theorem ml_byte (gm : gM G m cd) {t n q : Nat} {tx : Nat → Int32} {σ : mm_M} (ht4 : t < 4) (hn : n ≤ 60) (hq : q < 100) (ht : tx_m G m t n tx σ) : fX4_byteAt G m (nI t) (nI q) σ = some (if q < n then tx q else -1000, σ) := by
  obtain ⟨-, -, -, -, -, ⟨e3, eN3⟩, ⟨e4, eN4⟩, -⟩ := id gm
  unfold fX4_byteAt
  rw [eN3, nI_clamp (by omega : t < 2 ^ 31), if_neg (ck_n ht4 (by omega)), ht.1]
  by_cases h : q < n
  · rw [if_pos (nI_lt h (by omega)), eN4, if_neg (ck60 ht4 (by omega)), cl60 ht4 (by omega), if_pos h, ht.2 q h]
  · rw [if_neg (nI_nlt (by omega) (by omega)), if_neg h]
theorem ml_skipsF (gm : gM G m cd) {t n : Nat} {tx : Nat → Int32} {σ : mm_M} (x2 : Int32) (ht4 : t < 4) (hn : n ≤ 60) (ht : tx_m G m t n tx σ) : ∀ (r p : Nat), n - p < r → p ≤ n → ∃ q, p ≤ q ∧ q ≤ n ∧ mm_lim (fX4_skips_s G m (nI t) x2) (nI p, σ) = some (nI q, σ) ∧ (∀ A, mm_lim (rd_stp tx n) (p, A) = mm_lim (rd_stp tx n) (q, A)) ∧ (q < n → ¬ tx q = 32)
  | 0, p, h, _ => absurd h (Nat.not_lt_zero _)
  | r + 1, p, h, hpn => by
    have hs : fX4_skips_s G m (nI t) x2 (nI p, σ) = if (if p < n then tx p else -1000) = 32 then some (.inr (nI (p + 1), σ)) else some (.inl (nI p, σ)) := by
      show fX4_skips_b2 G m (nI t) x2 (nI p) σ = _
      unfold fX4_skips_b2
      rw [ml_byte gm ht4 hn (by omega) ht, Option.bind_some, nI_1]
    by_cases hp : p < n
    · rw [if_pos hp] at hs
      by_cases h32 : tx p = 32
      · rw [if_pos h32] at hs
        obtain ⟨q, h1, h2, h3, h4, h5⟩ := ml_skipsF gm x2 ht4 hn ht r (p + 1) (by omega) (by omega)
        refine ⟨q, by omega, h2, by rw [mm_lim_go hs]; exact h3, fun A => ?_, h5⟩
        rw [mm_lim_go (show rd_stp tx n (p, A) = some (.inr (p + 1, A)) from by unfold rd_stp; rw [if_pos hp, if_pos h32])]
        exact h4 A
      · rw [if_neg h32] at hs
        exact ⟨p, Nat.le_refl _, hpn, mm_lim_ret hs, fun A => rfl, fun _ => h32⟩
    · rw [if_neg hp, if_neg (by decide)] at hs
      exact ⟨p, Nat.le_refl _, hpn, mm_lim_ret hs, fun A => rfl, fun q => absurd q hp⟩
theorem ml_skips (gm : gM G m cd) {t n p : Nat} {tx : Nat → Int32} {σ : mm_M} (ht4 : t < 4) (hn : n ≤ 60) (ht : tx_m G m t n tx σ) (hp : p ≤ n) : ∃ q, p ≤ q ∧ q ≤ n ∧ fX4_skips G m (nI t) (nI p) σ = some (nI q, σ) ∧ (∀ A, mm_lim (rd_stp tx n) (p, A) = mm_lim (rd_stp tx n) (q, A)) ∧ (q < n → ¬ tx q = 32) := ml_skipsF gm (nI p) ht4 hn ht (n + 1) p (by omega) hp
theorem ml_kind (v : Int32) (σ : mm_M) : fX4_kindBy G v σ = some (if rd_kd v = -1 then -9 else rd_kd v, σ) := by
  unfold fX4_kindBy rd_kd
  by_cases h0 : v = 112
  · simp only [if_pos h0]; rfl
  · by_cases h1 : v = 100
    · simp only [if_neg h0, if_pos h1]; rfl
    · by_cases h2 : v = 111
      · simp only [if_neg h0, if_neg h1, if_pos h2]; rfl
      · by_cases h3 : v = 115
        · simp only [if_neg h0, if_neg h1, if_neg h2, if_pos h3]; rfl
        · by_cases h4 : v = 108
          · simp only [if_neg h0, if_neg h1, if_neg h2, if_neg h3, if_pos h4]; rfl
          · by_cases h5 : v = 121
            · simp only [if_neg h0, if_neg h1, if_neg h2, if_neg h3, if_neg h4, if_pos h5]; rfl
            · simp only [if_neg h0, if_neg h1, if_neg h2, if_neg h3, if_neg h4, if_neg h5]; rfl
theorem ml_fig (gm : gM G m cd) {t n p k : Nat} {tx : Nat → Int32} {σ : mm_M} {x3 x4 : Int32} (hby : ∀ i, (tx i).toInt8.toInt32 = tx i) (ht4 : t < 4) (hn : n ≤ 60) (ht : tx_m G m t n tx σ) (hp : p + k ≤ n) (hk1 : 1 ≤ k) (hk : k < 4) : fX4_reads_s G m (nI t) (Sum.inr (Sum.inr (nI p, x3, x4, nI k, σ))) = if rd_fok tx n p k then some (.inr (.inr (.inr (nI p, x3, x4, nI (k + 1), σ)))) else some (.inl (nI (p + k), σ)) := by
  show fX4_reads_b75 G m (nI t) (nI p) x3 x4 (nI k) σ = _
  unfold fX4_reads_b75
  rw [if_pos (show nI k < (4 : Int32) from nI_lt hk (by decide)), nI_add, ml_byte gm ht4 hn (by omega) ht, Option.bind_some]
  have e2 : (if nI k = 2 then (49 : Int32) else 48) = if (decide (k = 2) : Bool) then 49 else 48 := by
    by_cases hk2 : k = 2
    · rw [decide_eq_true hk2, if_pos (show nI k = 2 by rw [hk2]; rfl)]; rfl
    · rw [decide_eq_false hk2, if_neg (show ¬ nI k = 2 from fun q => hk2 ((nI_eq (b := 2) (by omega) (by decide)).mp q))]; rfl
  unfold fX4_reads_b103
  rw [e2, ml_in, Option.bind_some, nI_1, nI_add]
  unfold rd_fok
  by_cases h : p + k < n
  · rw [decide_eq_true h]
    obtain ⟨f1, f2⟩ := fig_m (hby (p + k)) (decide (k = 2))
    have e3 : (if (decide (k = 2) : Bool) then (1 : Int32) else 0) = if k = 2 then 1 else 0 := by
      by_cases hk2 : k = 2
      · rw [decide_eq_true hk2, if_pos hk2]; rfl
      · rw [decide_eq_false hk2, if_neg hk2]; rfl
    rw [e3] at f1
    show (if (if (if p + k < n then tx (p + k) else -1000) < _ then (0 : Int32) else if 57 < (if p + k < n then tx (p + k) else -1000) then 0 else 1) = 0 then _ else _) = _
    rw [if_pos h]
    by_cases c1 : tx (p + k) - 48 < (if k = 2 then 1 else 0)
    · rw [if_pos (f1.mpr c1), decide_eq_true c1]; rfl
    · rw [if_neg (fun q => c1 (f1.mp q)), decide_eq_false c1]
      by_cases c2 : 9 < tx (p + k) - 48
      · rw [if_pos (f2.mpr c2), decide_eq_true c2]; rfl
      · rw [if_neg (fun q => c2 (f2.mp q)), decide_eq_false c2]; rfl
  · rw [decide_eq_false h]
    show (if (if (if p + k < n then tx (p + k) else -1000) < _ then (0 : Int32) else if 57 < (if p + k < n then tx (p + k) else -1000) then 0 else 1) = 0 then _ else _) = _
    rw [if_neg h]
    cases decide (k = 2) <;> rfl
/-- a draft -/
def drf (G : mm_G) (m : Nat) (A : ab_A) (σ : mm_M) : Prop := rM σ (mm_R G m 6) A 0 ∧ ∀ j, j < 7 → σ.1 (mm_R G m 6) (18 + j) = 0 ∧ σ.1 (mm_R G m 6) (25 + j) = 0
theorem ml_readF (gm : gM G m cd) {t n : Nat} {tx : Nat → Int32} (hby : ∀ i, (tx i).toInt8.toInt32 = tx i) (ht4 : t < 4) (hn : n ≤ 60) : ∀ (r p : Nat) (A : ab_A) (σ : mm_M), n - p < r → p ≤ n → (p < n → ¬ tx p = 32) → tx_m G m t n tx σ → drf G m A σ → rd_ok A → ∃ v A' σ', mm_lim (rd_stp tx n) (p, A) = some (v, A') ∧ mm_lim (fX4_reads_s G m (nI t)) (Sum.inr (Sum.inl (nI p, σ))) = some (v, σ') ∧ drf G m A' σ' ∧ mm_sm (fun b => b = mm_R G m 6) σ σ'
  | 0, p, A, σ, h, _, _, _, _, _ => absurd h (Nat.not_lt_zero _)
  | r + 1, p, A, σ, h, hpn, h32', ht, hd, hok => by
    obtain ⟨-, -, -, -, -, ⟨e3, eN3⟩, ⟨e4, eN4⟩, -, ⟨e6, eN6⟩, -⟩ := id gm
    have h7 := hok.1
    have hmany : σ.1 (mm_R G m 6) 32 = nI (a_n A) := hd.1.1
    by_cases hp : p < n
    · have h32 := h32' hp
      have hst : rd_stp tx n (p, A) = if a_n A < 7 ∧ ¬ rd_kd (tx p) = -1 then (if rd_fok tx n p 1 then (if rd_fok tx n p 2 then (if rd_fok tx n p 3 then some (.inr (p + 4, ab_add A (rd_st tx p))) else some (.inl (nI (p + 3), A))) else some (.inl (nI (p + 2), A))) else some (.inl (nI (p + 1), A))) else some (.inl (nI p, A)) := by
        unfold rd_stp
        rw [if_pos hp, if_neg h32]
      have h0 : fX4_reads_s G m (nI t) (Sum.inr (Sum.inl (nI p, σ))) = if a_n A < 7 ∧ ¬ rd_kd (tx p) = -1 then some (.inr (.inr (.inr (nI p, nI (a_n A), rd_kd (tx p), nI 1, σ)))) else some (.inl (nI p, σ)) := by
        show fX4_reads_b28 G m (nI t) (nI p) σ = _
        unfold fX4_reads_b28
        rw [eN3, nI_clamp (by omega : t < 2 ^ 31), if_neg (ck_n ht4 (by omega)), ht.1, if_pos (nI_lt hp (by omega)), eN6, tc32, if_neg kc32, ml_byte gm ht4 hn (by omega) ht, Option.bind_some, ml_kind, Option.bind_some, hmany]
        show (if (if rd_kd (if p < n then tx p else -1000) = -1 then (-9 : Int32) else rd_kd (if p < n then tx p else -1000)) = -9 then some (Sum.inl (nI p, σ)) else if nI (a_n A) = 7 then some (Sum.inl (nI p, σ)) else some (Sum.inr (Sum.inr (Sum.inr (nI p, nI (a_n A), (if rd_kd (if p < n then tx p else -1000) = -1 then (-9 : Int32) else rd_kd (if p < n then tx p else -1000)), 1, σ))))) = _
        rw [if_pos hp]
        by_cases ck : rd_kd (tx p) = -1
        · rw [if_pos ck, if_pos rfl, if_neg (fun q => q.2 ck)]
        · obtain ⟨k, hk5, ek⟩ := rd_kd_n ck
          have n9 : ¬ rd_kd (tx p) = -9 := fun q => by
            have h1 : ¬ nI k < 0 := nI_pos (by omega)
            rw [← ek, q] at h1
            exact h1 (by decide)
          rw [if_neg ck, if_neg n9]
          by_cases c7 : a_n A < 7
          · rw [if_neg (show ¬ nI (a_n A) = 7 from fun q => by have := (nI_eq (b := 7) (by omega) (by decide)).mp q; omega), if_pos ⟨c7, ck⟩]; rfl
          · rw [if_pos (show nI (a_n A) = 7 by rw [show a_n A = 7 by omega]; rfl), if_neg (fun q => c7 q.1)]
      by_cases c : a_n A < 7 ∧ ¬ rd_kd (tx p) = -1
      · rw [if_pos c] at h0 hst
        have f1 := ml_fig gm (x3 := nI (a_n A)) (x4 := rd_kd (tx p)) hby ht4 hn ht (show p + 1 ≤ n by omega) (Nat.le_refl 1) (by decide)
        by_cases k1 : rd_fok tx n p 1 = true
        · rw [if_pos k1] at f1 hst
          have l1 : p + 1 < n := by unfold rd_fok at k1; simp at k1; exact k1.1
          have f2 := ml_fig gm (x3 := nI (a_n A)) (x4 := rd_kd (tx p)) hby ht4 hn ht (show p + 2 ≤ n by omega) (by decide) (by decide)
          by_cases k2 : rd_fok tx n p 2 = true
          · rw [if_pos k2] at f2 hst
            have l2 : p + 2 < n := by unfold rd_fok at k2; simp at k2; exact k2.1
            have f3 := ml_fig gm (x3 := nI (a_n A)) (x4 := rd_kd (tx p)) hby ht4 hn ht (show p + 3 ≤ n by omega) (by decide) (by decide)
            by_cases k3 : rd_fok tx n p 3 = true
            · rw [if_pos k3] at f3 hst
              have l3 : p + 3 < n := by unfold rd_fok at k3; simp at k3; exact k3.1
              have s1 : mm_sm (fun b => b = mm_R G m 6) σ (mm_up σ (mm_R G m 6) (33 + a_n A) (rd_kd (tx p))) := mm_sm_up (mm_sm_rf _ _) rfl
              have s2 := mm_sm_up s1 (j := 4 + a_n A) (v := tx (p + 1) - 48) (show mm_R G m 6 = mm_R G m 6 from rfl)
              have s3 := mm_sm_up s2 (j := 40 + a_n A) (v := tx (p + 2) - 48) (show mm_R G m 6 = mm_R G m 6 from rfl)
              have s4 := mm_sm_up s3 (j := 11 + a_n A) (v := tx (p + 3) - 48) (show mm_R G m 6 = mm_R G m 6 from rfl)
              have s5 := mm_sm_up s4 (j := 32) (v := nI (a_n A + 1)) (show mm_R G m 6 = mm_R G m 6 from rfl)
              obtain ⟨q, q1, q2, q3, q4, q5⟩ := ml_skips gm ht4 hn (tx_sm gm s5 ht) (show p + 4 ≤ n by omega)
              have hstep : fX4_reads_s G m (nI t) (Sum.inr (Sum.inr (nI p, nI (a_n A), rd_kd (tx p), nI 4, σ))) = some (.inr (.inr (.inl (nI q, mm_up (mm_up (mm_up (mm_up (mm_up σ (mm_R G m 6) (33 + a_n A) (rd_kd (tx p))) (mm_R G m 6) (4 + a_n A) (tx (p + 1) - 48)) (mm_R G m 6) (40 + a_n A) (tx (p + 2) - 48)) (mm_R G m 6) (11 + a_n A) (tx (p + 3) - 48)) (mm_R G m 6) 32 (nI (a_n A + 1)))))) := by
                show fX4_reads_b75 G m (nI t) (nI p) (nI (a_n A)) (rd_kd (tx p)) (nI 4) σ = _
                unfold fX4_reads_b75
                rw [if_neg (show ¬ nI 4 < (4 : Int32) by decide), eN6, ad33, ad4, ad40, ad11, nI_clamp (by omega : 33 + a_n A < 2 ^ 31), nI_clamp (by omega : 4 + a_n A < 2 ^ 31), nI_clamp (by omega : 40 + a_n A < 2 ^ 31), nI_clamp (by omega : 11 + a_n A < 2 ^ 31), tc32, if_neg (kcn (by omega)), show nI p + 1 = nI (p + 1) from nI_add p 1, show nI p + 2 = nI (p + 2) from nI_add p 2, show nI p + 3 = nI (p + 3) from nI_add p 3, show nI p + 4 = nI (p + 4) from nI_add p 4]
                rw [ml_byte gm ht4 hn (by omega) (tx_sm gm s1 ht), Option.bind_some, if_pos l1, if_neg (kcn (by omega))]
                show (fX4_byteAt G m (nI t) (nI (p + 2)) (mm_up (mm_up σ (mm_R G m 6) (33 + a_n A) (rd_kd (tx p))) (mm_R G m 6) (4 + a_n A) (tx (p + 1) - 48))).bind _ = _
                rw [ml_byte gm ht4 hn (by omega) (tx_sm gm s2 ht), Option.bind_some, if_pos l2, if_neg (kcn (by omega))]
                show (fX4_byteAt G m (nI t) (nI (p + 3)) (mm_up (mm_up (mm_up σ (mm_R G m 6) (33 + a_n A) (rd_kd (tx p))) (mm_R G m 6) (4 + a_n A) (tx (p + 1) - 48)) (mm_R G m 6) (40 + a_n A) (tx (p + 2) - 48))).bind _ = _
                rw [ml_byte gm ht4 hn (by omega) (tx_sm gm s3 ht), Option.bind_some, if_pos l3, if_neg (kcn (by omega)), if_neg kc32, if_neg kc32]
                show (fX4_skips G m (nI t) (nI (p + 4)) (mm_up (mm_up (mm_up (mm_up (mm_up σ (mm_R G m 6) (33 + a_n A) (rd_kd (tx p))) (mm_R G m 6) (4 + a_n A) (tx (p + 1) - 48)) (mm_R G m 6) (40 + a_n A) (tx (p + 2) - 48)) (mm_R G m 6) (11 + a_n A) (tx (p + 3) - 48)) (mm_R G m 6) 32 ((mm_up (mm_up (mm_up (mm_up σ (mm_R G m 6) (33 + a_n A) (rd_kd (tx p))) (mm_R G m 6) (4 + a_n A) (tx (p + 1) - 48)) (mm_R G m 6) (40 + a_n A) (tx (p + 2) - 48)) (mm_R G m 6) (11 + a_n A) (tx (p + 3) - 48)).1 (mm_R G m 6) 32 + 1))).bind _ = _
                rw [mm_gk (show 32 ≠ 11 + a_n A by omega), mm_gk (show 32 ≠ 40 + a_n A by omega), mm_gk (show 32 ≠ 4 + a_n A by omega), mm_gk (show 32 ≠ 33 + a_n A by omega), hmany, nI_1, q3]
                rfl
              generalize hσ5 : mm_up (mm_up (mm_up (mm_up (mm_up σ (mm_R G m 6) (33 + a_n A) (rd_kd (tx p))) (mm_R G m 6) (4 + a_n A) (tx (p + 1) - 48)) (mm_R G m 6) (40 + a_n A) (tx (p + 2) - 48)) (mm_R G m 6) (11 + a_n A) (tx (p + 3) - 48)) (mm_R G m 6) 32 (nI (a_n A + 1)) = σ5 at s5 q3 hstep
              have hk : ∀ j, j ≠ 33 + a_n A → j ≠ 4 + a_n A → j ≠ 40 + a_n A → j ≠ 11 + a_n A → j ≠ 32 → σ5.1 (mm_R G m 6) j = σ.1 (mm_R G m 6) j := fun j h1 h2 h3 h4 h5 => by rw [← hσ5, mm_gk h5, mm_gk h4, mm_gk h3, mm_gk h2, mm_gk h1]
              have v33 : σ5.1 (mm_R G m 6) (33 + a_n A) = rd_kd (tx p) := by rw [← hσ5, mm_gk (by omega), mm_gk (by omega), mm_gk (by omega), mm_gk (by omega), mm_gs]
              have v4 : σ5.1 (mm_R G m 6) (4 + a_n A) = tx (p + 1) - 48 := by rw [← hσ5, mm_gk (by omega), mm_gk (by omega), mm_gk (by omega), mm_gs]
              have v40 : σ5.1 (mm_R G m 6) (40 + a_n A) = tx (p + 2) - 48 := by rw [← hσ5, mm_gk (by omega), mm_gk (by omega), mm_gs]
              have v11 : σ5.1 (mm_R G m 6) (11 + a_n A) = tx (p + 3) - 48 := by rw [← hσ5, mm_gk (by omega), mm_gs]
              have v32 : σ5.1 (mm_R G m 6) 32 = nI (a_n A + 1) := by rw [← hσ5, mm_gs]
              have hd5 : drf G m (ab_add A (rd_st tx p)) σ5 := by
                obtain ⟨⟨z1, z2, z3, z4, z5, z6, z7⟩, zz⟩ := hd
                refine ⟨⟨v32, by rw [hk 0 (by omega) (by omega) (by omega) (by omega) (by omega)]; exact z2, by rw [hk 1 (by omega) (by omega) (by omega) (by omega) (by omega)]; exact z3, by rw [hk 2 (by omega) (by omega) (by omega) (by omega) (by omega)]; exact z4, by rw [hk 3 (by omega) (by omega) (by omega) (by omega) (by omega)]; exact z5, by rw [hk 47 (by omega) (by omega) (by omega) (by omega) (by omega)]; exact z6, fun i hi => ?_⟩, fun j hj => ?_⟩
                · have hi' : i < a_n A + 1 := hi
                  show ms σ5 (mm_R G m 6) i = if i = a_n A then rd_st tx p else a_st A i
                  by_cases e : i = a_n A
                  · rw [if_pos e, e]
                    unfold ms rd_st
                    rw [v33, v4, v40, v11, hk (18 + a_n A) (by omega) (by omega) (by omega) (by omega) (by omega), hk (25 + a_n A) (by omega) (by omega) (by omega) (by omega) (by omega), (zz _ c.1).1, (zz _ c.1).2]
                  · rw [if_neg e, ← z7 i (by omega)]
                    unfold ms
                    rw [hk (33 + i) (by omega) (by omega) (by omega) (by omega) (by omega), hk (4 + i) (by omega) (by omega) (by omega) (by omega) (by omega), hk (40 + i) (by omega) (by omega) (by omega) (by omega) (by omega), hk (11 + i) (by omega) (by omega) (by omega) (by omega) (by omega), hk (18 + i) (by omega) (by omega) (by omega) (by omega) (by omega), hk (25 + i) (by omega) (by omega) (by omega) (by omega) (by omega)]
                · rw [hk (18 + j) (by omega) (by omega) (by omega) (by omega) (by omega), hk (25 + j) (by omega) (by omega) (by omega) (by omega) (by omega)]
                  exact zz j hj
              obtain ⟨v, A', σ', w1, w2, w3, w4⟩ := ml_readF gm hby ht4 hn r q (ab_add A (rd_st tx p)) σ5 (by omega) q2 q5 (tx_sm gm s5 ht) hd5 (rd_ok_add hby hok c.1 c.2 k1 k2 k3)
              refine ⟨v, A', σ', ?_, ?_, w3, mm_sm_tr s5 w4⟩
              · rw [mm_lim_go hst, q4]; exact w1
              · rw [mm_lim_go h0, mm_lim_go f1, mm_lim_go f2, mm_lim_go f3, mm_lim_go hstep]; exact w2
            · rw [if_neg k3] at f3 hst
              refine ⟨_, A, σ, mm_lim_ret hst, ?_, hd, mm_sm_rf _ _⟩
              rw [mm_lim_go h0, mm_lim_go f1, mm_lim_go f2]
              exact mm_lim_ret f3
          · rw [if_neg k2] at f2 hst
            refine ⟨_, A, σ, mm_lim_ret hst, ?_, hd, mm_sm_rf _ _⟩
            rw [mm_lim_go h0, mm_lim_go f1]
            exact mm_lim_ret f2
        · rw [if_neg k1] at f1 hst
          refine ⟨_, A, σ, mm_lim_ret hst, ?_, hd, mm_sm_rf _ _⟩
          rw [mm_lim_go h0]
          exact mm_lim_ret f1
      · rw [if_neg c] at h0 hst
        exact ⟨_, A, σ, mm_lim_ret hst, mm_lim_ret h0, hd, mm_sm_rf _ _⟩
    · refine ⟨if a_n A < 2 then nI n else -9, A, σ, mm_lim_ret ?_, mm_lim_ret ?_, hd, mm_sm_rf _ _⟩
      · unfold rd_stp; rw [if_neg hp]
      · show fX4_reads_b28 G m (nI t) (nI p) σ = _
        unfold fX4_reads_b28
        rw [eN3, nI_clamp (by omega : t < 2 ^ 31), if_neg (ck_n ht4 (by omega)), ht.1, if_neg (nI_nlt (by omega) (by omega)), eN6, tc32, if_neg kc32, hmany]
        by_cases c : a_n A < 2
        · rw [if_pos c, if_pos (show nI (a_n A) < (2 : Int32) from nI_lt c (by decide)), show p = n by omega]
        · rw [if_neg c, if_neg (show ¬ nI (a_n A) < (2 : Int32) from nI_nlt (show 2 ≤ a_n A by omega) (by omega))]
theorem ml_read (gm : gM G m cd) {t n : Nat} {tx : Nat → Int32} {σ : mm_M} (hby : ∀ i, (tx i).toInt8.toInt32 = tx i) (ht4 : t < 4) (hn : n ≤ 60) (ht : tx_m G m t n tx σ) : ∃ v A' σ', mm_lim (rd_stp tx n) (0, rd_A0) = some (v, A') ∧ fX4_reads G m (nI t) σ = some (v, σ') ∧ rM σ' (mm_R G m 6) A' 0 ∧ mm_sm (fun b => b = mm_R G m 6) σ σ' := by
  obtain ⟨-, -, -, -, -, ⟨e3, eN3⟩, ⟨e4, eN4⟩, -, ⟨e6, eN6⟩, -⟩ := id gm
  obtain ⟨s, e1, σ1, rfl, hz, hm⟩ := mm_loop (f := fX4_reads_s G m (nI t)) (fun i s => ∃ σ', s = Sum.inl (nI i, σ') ∧ (∀ k, k < i → σ'.1 (mm_R G m 6) k = 0) ∧ mm_sm (fun b => b = mm_R G m 6) σ σ') 48 (fun i s hi hI => by
    obtain ⟨σ1, rfl, hz, hm⟩ := hI
    refine ⟨Sum.inl (nI (i + 1), mm_up σ1 (mm_R G m 6) i 0), mm_lim_go ?_, _, rfl, fun k hk => ?_, mm_sm_up hm rfl⟩
    · show fX4_reads_b2 G m (nI t) (nI i) σ1 = _
      unfold fX4_reads_b2
      rw [if_pos (show nI i < (48 : Int32) from nI_lt hi (by decide)), eN6, nI_clamp (by omega : i < 2 ^ 31), if_neg (ck_n hi (by omega)), nI_1]
    · by_cases h : k = i
      · subst h; exact mm_gs ..
      · rw [mm_gk h]; exact hz k (by omega)) (Sum.inl (nI 0, σ)) ⟨σ, rfl, fun k hk => absurd hk (Nat.not_lt_zero k), mm_sm_rf _ _⟩
  obtain ⟨q, q1, q2, q3, q4, q5⟩ := ml_skips gm ht4 hn (tx_sm gm hm ht) (show 0 ≤ n by omega)
  obtain ⟨v, A', σ', w1, w2, w3, w4⟩ := ml_readF gm hby ht4 hn (n + 1) q rd_A0 σ1 (by omega) q2 q5 (tx_sm gm hm ht) ⟨⟨hz 32 (by decide), hz 0 (by decide), hz 1 (by decide), hz 2 (by decide), hz 3 (by decide), hz 47 (by decide), fun i hi => absurd hi (Nat.not_lt_zero i)⟩, fun j hj => ⟨hz _ (by omega), hz _ (by omega)⟩⟩ rd_ok0
  refine ⟨v, A', σ', by rw [q4]; exact w1, ?_, w3.1, mm_sm_tr hm w4⟩
  unfold fX4_reads fX4_reads_b0
  rw [mm_run_go]
  show mm_lim _ (Sum.inl (nI 0, σ)) = _
  rw [e1, mm_lim_go (show fX4_reads_s G m (nI t) (Sum.inl (nI 48, σ1)) = some (.inr (.inr (.inl (nI q, σ1)))) from by
    show fX4_reads_b2 G m (nI t) (nI 48) σ1 = _
    unfold fX4_reads_b2
    rw [if_neg (show ¬ nI 48 < (48 : Int32) by decide)]
    show (fX4_skips G m (nI t) (nI 0) σ1).bind _ = _
    rw [q3]
    rfl)]
  exact w2
end RM
