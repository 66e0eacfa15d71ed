/-! odds, mid: what is pure of them -/
def ab_eqz (z : Int32) (A A' : ab_A) : Prop := a_n A = a_n A' ∧ A.2.1 = A'.2.1 ∧ ∀ i, i < a_n A → bt z i = false → a_st A i = a_st A' i
theorem eqz_who {z : Int32} {A A' : ab_A} (h : ab_eqz z A A') : ab_who A z = ab_who A' z := by
  unfold ab_who
  rw [← h.1]
  refine ab_mk_congr _ (fun i hi => ?_)
  by_cases hb : bt z i = true
  · rw [hb]; rfl
  · have hb' : bt z i = false := by simpa using hb
    rw [h.2.2 i hi hb', show a_tk A = a_tk A' from congrArg (fun q => q.2.2.2) h.2.1]
theorem lss_congr {w : Int32} {s s' : Nat → ab_S} : ∀ k, (∀ i, i < k → bt w i = true → s i = s' i) → ab_lss w s k = ab_lss w s' k
  | 0, _ => rfl
  | k + 1, h => by
    show ab_lss w s k + _ = ab_lss w s' k + _
    rw [lss_congr k (fun i hi => h i (by omega))]
    by_cases hb : bt w k = true
    · rw [h k (by omega) hb]
    · rw [if_neg (fun q => hb q.1), if_neg (fun q => hb q.1)]
theorem eqz_go {z : Int32} {A A' : ab_A} (hn : a_n A ≤ 7) (h : ab_eqz z A A') : ab_eqz z (ab_go A z) (ab_go A' z) := by
  have hw := eqz_who h
  have h1 : a_sl A = a_sl A' := congrArg (fun q => q.1) h.2.1
  have h2 : a_hd A = a_hd A' := congrArg (fun q => q.2.1) h.2.1
  have h3 : a_ls A = a_ls A' := congrArg (fun q => q.2.2.1) h.2.1
  refine ⟨h.1, ?_, fun i hi hb => ?_⟩
  · show (a_sl A + 1, a_hd A + ab_hs (ab_who A z) (a_n A), a_ls A + ab_lss (ab_who A z) (a_st A) (a_n A), if ab_who A z = 0 then (0 : Int32) else 1) = (a_sl A' + 1, a_hd A' + ab_hs (ab_who A' z) (a_n A'), a_ls A' + ab_lss (ab_who A' z) (a_st A') (a_n A'), if ab_who A' z = 0 then 0 else 1)
    rw [← hw, h1, h2, h3, ← h.1, lss_congr (s := a_st A) (s' := a_st A') (a_n A) (fun i hi hb => ?_)]
    have q := ab_who_bt (A := A) (z := z) hn (show i < 32 by omega)
    rw [hb] at q
    have hz : bt z i = false := by
      cases hz : bt z i with
      | false => rfl
      | true => rw [hz] at q; simp at q
    exact h.2.2 i hi hz
  · have hi' : i < a_n A := hi
    show ab_next (ab_who A z) z (a_sl A) i (a_st A i) = ab_next (ab_who A' z) z (a_sl A') i (a_st A' i)
    rw [← hw, h1, h.2.2 i hi' hb]
theorem eqz_it {z : Int32} {A A' : ab_A} (hn : a_n A ≤ 7) (h : ab_eqz z A A') : ∀ k, ab_eqz z (ab_it A z k) (ab_it A' z k)
  | 0 => h
  | k + 1 => eqz_go (by rw [ab_it_n]; exact hn) (eqz_it hn h k)
theorem sil_go {z : Int32} {A : ab_A} (hn : a_n A ≤ 7) {i : Nat} (hi : i < 7) (hb : bt z i = true) : a_st (ab_go A z) i = a_st A i := by
  show ab_next (ab_who A z) z (a_sl A) i (a_st A i) = _
  unfold ab_next
  rw [if_neg (by rw [ab_who_bt hn (by omega), hb]; simp), if_neg (fun q => by rw [hb] at q; cases q.2)]
theorem sil_it {z : Int32} {A : ab_A} (hn : a_n A ≤ 7) {i : Nat} (hi : i < 7) (hb : bt z i = true) : ∀ k, a_st (ab_it A z k) i = a_st A i
  | 0 => rfl
  | k + 1 => (sil_go (by rw [ab_it_n]; exact hn) hi hb).trans (sil_it hn hi hb k)
def s_zero (s : ab_S) : ab_S := (s_kd s, s_fw s, s_sp s, 0, s_wt s, s_cl s)
def az (A : ab_A) (z : Int32) (k : Nat) : ab_A := (a_n A, A.2.1, fun i => if i < k ∧ bt z i = true then s_zero (a_st A i) else a_st A i)
theorem az_eqz (A : ab_A) (z : Int32) (k : Nat) : ab_eqz z A (az A z k) := ⟨rfl, rfl, fun i hi hb => by
  show _ = if i < k ∧ bt z i = true then _ else _
  rw [if_neg (fun q => by rw [hb] at q; cases q.2)]⟩
theorem az_ok {N : Nat} {A : ab_A} (z : Int32) (k : Nat) (ho : ab_ok N A) : ab_ok N (az A z k) := ⟨ho.1, ho.2.1, ho.2.2.1, fun i hi => by
  show ab_okS N (if i < k ∧ bt z i = true then s_zero (a_st A i) else a_st A i)
  have h := ho.2.2.2 i hi
  by_cases c : i < k ∧ bt z i = true
  · rw [if_pos c]
    obtain ⟨kk, f, p, l, w, cl, e, b1, b2, b3, b4, b5, b6, b7⟩ := h
    rw [e]
    exact ⟨kk, f, p, 0, w, cl, rfl, b1, b2, b3, b4, by omega, b6, b7⟩
  · rw [if_neg c]; exact h⟩
theorem let_z {z : Int32} {A B : ab_A} : ∀ k, (∀ i, i < k → bt z i = false → s_lt (a_st A i) = s_lt (a_st B i)) → (∀ i, i < k → bt z i = true → s_lt (a_st A i) = 0) → ab_let A 0 k = ab_let B z k
  | 0, _, _ => rfl
  | k + 1, h1, h2 => by
    have e1 : ab_let A 0 (k + 1) = if bt 0 k then ab_let A 0 k else ab_let A 0 k + s_lt (a_st A k) := rfl
    have e2 : ab_let B z (k + 1) = if bt z k then ab_let B z k else ab_let B z k + s_lt (a_st B k) := rfl
    rw [e1, e2, b_0, let_z k (fun i hi => h1 i (by omega)) (fun i hi => h2 i (by omega))]
    by_cases hb : bt z k = true
    · rw [if_pos hb, h2 k (by omega) hb, Int32.add_zero]; rfl
    · rw [if_neg hb, h1 k (by omega) (by simpa using hb)]; rfl
theorem let_c {z : Int32} {A B : ab_A} : ∀ k, (∀ i, i < k → s_lt (a_st A i) = s_lt (a_st B i)) → ab_let A z k = ab_let B z k
  | 0, _ => rfl
  | k + 1, h => by
    have e1 : ab_let A z (k + 1) = if bt z k then ab_let A z k else ab_let A z k + s_lt (a_st A k) := rfl
    have e2 : ab_let B z (k + 1) = if bt z k then ab_let B z k else ab_let B z k + s_lt (a_st B k) := rfl
    rw [e1, e2, let_c k (fun i hi => h i (by omega)), h k (by omega)]
/-- letters of those left behind n slots are none: on both sides alike -/
theorem let_az {A : ab_A} (hn : a_n A ≤ 7) (z : Int32) (n : Nat) : ab_let (ab_it (az A z (a_n A)) z n) 0 (a_n A) = ab_let (ab_it A z n) z (a_n A) := by
  refine let_z _ (fun i hi hb => ?_) (fun i hi hb => ?_)
  · rw [(eqz_it hn (az_eqz A z (a_n A)) n).2.2 i (by rw [ab_it_n]; exact hi) hb]
  · rw [sil_it (A := az A z (a_n A)) hn (by omega) hb]
    show s_lt (if i < a_n A ∧ bt z i = true then s_zero (a_st A i) else a_st A i) = 0
    rw [if_pos ⟨hi, hb⟩]
    rfl
theorem hs_n (w : Int32) : ∀ k, ∃ e, e ≤ k ∧ ab_hs w k = nI e
  | 0 => ⟨0, Nat.le_refl _, rfl⟩
  | k + 1 => by
    obtain ⟨e, he, ee⟩ := hs_n w k
    show ∃ e', e' ≤ k + 1 ∧ ab_hs w k + (if bt w k = true ∧ ab_ones w = 1 then 1 else 0) = nI e'
    rw [ee]
    by_cases c : bt w k = true ∧ ab_ones w = 1
    · rw [if_pos c]; exact ⟨e + 1, by omega, nI_1 e⟩
    · rw [if_neg c]; exact ⟨e, by omega, Int32.add_zero _⟩
theorem hd_n {A : ab_A} (hn : a_n A ≤ 7) (z : Int32) : ∀ q, ∃ e, e ≤ 7 * q ∧ a_hd (ab_it A z q) = a_hd A + nI e
  | 0 => ⟨0, Nat.le_refl _, (Int32.add_zero _).symm⟩
  | q + 1 => by
    obtain ⟨e, he, ee⟩ := hd_n hn z q
    obtain ⟨f, hf, ef⟩ := hs_n (ab_who (ab_it A z q) z) (a_n (ab_it A z q))
    have h7 : a_n (ab_it A z q) ≤ 7 := by rw [ab_it_n]; exact hn
    refine ⟨e + f, by omega, ?_⟩
    show a_hd (ab_it A z q) + ab_hs (ab_who (ab_it A z q) z) (a_n (ab_it A z q)) = _
    rw [ee, ef, Int32.add_assoc, nI_add]
/-- how many are heard, as a number -/
def hvN (A : ab_A) (n : Nat) (z : Int32) : Nat := (hv A n z).toNatClampNeg
theorem hvN_e {A : ab_A} (hn : a_n A ≤ 7) (z : Int32) {n : Nat} (h : n ≤ 40) : hv A n z = nI (hvN A n z) ∧ hvN A n z ≤ 280 := by
  obtain ⟨e, he, ee⟩ := hd_n hn z n
  have : hv A n z = nI e := by
    unfold hv
    rw [ee, Int32.add_comm, Int32.add_sub_cancel]
  unfold hvN
  rw [this, nI_clamp (by omega)]
  exact ⟨rfl, by omega⟩
/-! weights -/
def wq (p : Nat) (z : Int32) : Nat → Nat
  | 0 => 1
  | i + 1 => wq p z i * (if bt z i = true then p else 12 - p)
theorem wq_s (p : Nat) (z : Int32) (i : Nat) : wq p z (i + 1) = wq p z i * (if bt z i = true then p else 12 - p) := rfl
theorem wq_le {p : Nat} (hp : p ≤ 12) (z : Int32) : ∀ i, wq p z i ≤ 12 ^ i
  | 0 => Nat.le_refl _
  | i + 1 => by
    rw [wq_s, Nat.pow_succ]
    exact Nat.mul_le_mul (wq_le hp z i) (by split <;> omega)
theorem wq_b {p : Nat} (hp : p ≤ 12) (z : Int32) {i : Nat} (hi : i ≤ 7) : wq p z i ≤ 35831808 := Nat.le_trans (wq_le hp z i) (Nat.le_trans (Nat.pow_le_pow_right (by decide) hi) (by decide))
def tw (p n : Nat) : Nat → Nat
  | 0 => 0
  | k + 1 => tw p n k + wq p (nI k) n
theorem tw_12 : ∀ n, n < 8 → ∀ p, p < 13 → tw p n (2 ^ n) = 12 ^ n := by decide +kernel
def sm (p n : Nat) (v : Nat → Nat) : Nat → Nat
  | 0 => 0
  | k + 1 => sm p n v k + wq p (nI k) n * v k
theorem sm_le {p n : Nat} (hp : p ≤ 12) (hn : n ≤ 7) {v : Nat → Nat} (hv : ∀ k, v k ≤ 280) : ∀ k, sm p n v k ≤ k * (35831808 * 280)
  | 0 => by show 0 ≤ _; omega
  | k + 1 => by
    have h1 := sm_le hp hn hv k
    have h2 : wq p (nI k) n * v k ≤ 35831808 * 280 := Nat.mul_le_mul (wq_b hp _ hn) (hv k)
    show sm p n v k + wq p (nI k) n * v k ≤ (k + 1) * (35831808 * 280)
    rw [Nat.succ_mul]
    omega
section RT
variable {G : mm_G} {x m : Nat} {cd : Nat → Nat} {Y : Ps}
theorem lN0 {a : Nat} (h : a < 2 ^ 63) (h0 : 0 < a) : ¬ lN a = 0 := fun q => by
  have := (pk_lEQ (b := 0) h (by decide)).mp q
  omega
/-- the class's greatest measure -/
theorem cx_gcd {a0 b0 : Nat} {σ : mm_M} : ∀ (k a b i : Nat), b < 2 ^ k → i + 2 * k ≤ 98 → k ≤ 40 → a < 2 ^ 60 → (0 < a ∨ 0 < b) → mm_lim (fX3_tellRatio_s G x (lN a0) (lN b0)) (lN a, lN b, nI i, σ) = some (mm_upL (mm_upL σ x 13 (lN a0 / lN (Nat.gcd a b))) x 14 (lN b0 / lN (Nat.gcd a b))) := by
  have stop : ∀ a i, i < 100 → a < 2 ^ 60 → 0 < a → mm_lim (fX3_tellRatio_s G x (lN a0) (lN b0)) (lN a, lN 0, nI i, σ) = some (mm_upL (mm_upL σ x 13 (lN a0 / lN a)) x 14 (lN b0 / lN a)) := by
    intro a i hi ha h0
    refine mm_lim_ret ?_
    show fX3_tellRatio_b9 G x (lN a0) (lN b0) (lN a) (lN 0) (nI i) σ = _
    unfold fX3_tellRatio_b9 fX3_tellRatio_b44
    rw [if_pos (show nI i < (100 : Int32) from nI_lt hi (by decide)), if_pos (show lg_cmp (lN 0) 0 = 0 from (lg_cmp_eq _ _).mpr rfl), if_pos (show 0 < lg_cmp (lN a) 0 from (lg_cmp_gt _ _).mpr ((pk_lLT (a := 0) (by decide) (by omega)).mpr h0)), if_neg (lN0 (by omega) h0), if_neg (lN0 (by omega) h0)]
  have go : ∀ a b i, i < 100 → a < 2 ^ 60 → 0 < b → b < 2 ^ 60 → mm_lim (fX3_tellRatio_s G x (lN a0) (lN b0)) (lN a, lN b, nI i, σ) = mm_lim (fX3_tellRatio_s G x (lN a0) (lN b0)) (lN b, lN (a % b), nI (i + 1), σ) := by
    intro a b i hi ha h0 hb
    refine mm_lim_go ?_
    show fX3_tellRatio_b9 G x (lN a0) (lN b0) (lN a) (lN b) (nI i) σ = _
    unfold fX3_tellRatio_b9
    rw [if_pos (show nI i < (100 : Int32) from nI_lt hi (by decide)), if_neg (fun q => lN0 (by omega) h0 ((lg_cmp_eq _ _).mp q)), if_neg (lN0 (by omega) h0), pk_lRem (by omega) h0 (by omega), nI_1]
  intro k
  induction k with
  | zero =>
    intro a b i hb hi hk ha hab
    obtain rfl : b = 0 := by
      have : b < 1 := hb
      omega
    rw [Nat.gcd_zero_right]
    exact stop a i (by omega) ha (by omega)
  | succ k ih =>
    intro a b i hb hi hk ha hab
    have hb60 : b < 2 ^ 60 := Nat.lt_of_lt_of_le hb (Nat.pow_le_pow_right (by decide) (by omega))
    rcases Nat.eq_zero_or_pos b with h0 | h0
    · subst h0
      rw [Nat.gcd_zero_right]
      exact stop a i (by omega) ha (by omega)
    · rw [go a b i (by omega) ha h0 hb60]
      have hg : Nat.gcd a b = Nat.gcd b (a % b) := by rw [Nat.gcd_comm a b, Nat.gcd_rec b a, Nat.gcd_comm]
      rw [hg]
      have hr : a % b < b := Nat.mod_lt _ h0
      rcases Nat.eq_zero_or_pos (a % b) with h1 | h1
      · rw [h1, Nat.gcd_zero_right]
        exact stop b (i + 1) (by omega) hb60 h0
      · rw [go b (a % b) (i + 1) (by omega) hb60 h1 (by omega)]
        have hg2 : Nat.gcd b (a % b) = Nat.gcd (a % b) (b % (a % b)) := by rw [Nat.gcd_comm b (a % b), Nat.gcd_rec (a % b) b, Nat.gcd_comm]
        rw [hg2]
        generalize hrr : a % b = r at *
        have h2 : b % r < r := Nat.mod_lt _ h1
        have h3 : b % r + r ≤ b := by
          have := Nat.mod_add_div b r
          have h4 : r * 1 ≤ r * (b / r) := Nat.mul_le_mul_left r (Nat.div_pos (by omega) h1)
          omega
        exact ih r (b % r) (i + 1 + 1) (by have : 2 ^ (k + 1) = 2 * 2 ^ k := by rw [Nat.pow_succ, Nat.mul_comm]
                                           omega) (by omega) (by omega) (by omega) (Or.inl h1)
theorem ml_gcd {a0 b0 : Nat} {σ : mm_M} : ∀ (b a : Nat), a < 2 ^ 60 → b < 2 ^ 60 → (0 < a ∨ 0 < b) → mm_lim (fX4_lowest_s G m (lN a0) (lN b0)) (lN a, lN b, σ) = some (mm_upL (mm_upL σ m 15 (lN a0 / lN (Nat.gcd a b))) m 16 (lN b0 / lN (Nat.gcd a b))) := by
  intro b
  induction b using Nat.strongRecOn with
  | ind b ih =>
    intro a ha hb hab
    rcases Nat.eq_zero_or_pos b with h0 | h0
    · subst h0
      have hp : 0 < a := by omega
      rw [Nat.gcd_zero_right]
      refine mm_lim_ret ?_
      show fX4_lowest_b6 G m (lN a0) (lN b0) (lN a) (lN 0) σ = _
      unfold fX4_lowest_b6
      rw [if_neg (fun q => by
        have := (lg_cmp_gt _ _).mp q
        have := (pk_lLT (a := 0) (b := 0) (by decide) (by decide)).mp this
        omega), if_neg (lN0 (by omega) hp), if_neg (lN0 (by omega) hp)]
    · have hg : Nat.gcd a b = Nat.gcd b (a % b) := by rw [Nat.gcd_comm a b, Nat.gcd_rec b a, Nat.gcd_comm]
      have hr : a % b < b := Nat.mod_lt _ h0
      rw [hg, ← ih (a % b) hr b hb (by omega) (Or.inl h0)]
      refine mm_lim_go ?_
      show fX4_lowest_b6 G m (lN a0) (lN b0) (lN a) (lN b) σ = _
      unfold fX4_lowest_b6
      rw [if_pos (show 0 < lg_cmp (lN b) 0 from (lg_cmp_gt _ _).mpr ((pk_lLT (a := 0) (by decide) (by omega)).mpr h0)), if_neg (lN0 (by omega) h0), pk_lRem (by omega) h0 (by omega)]
theorem cx_ratio {a b : Nat} {σ : mm_M} (ha : a < 2 ^ 60) (h0 : 0 < b) (hb : b ≤ 35831808) : fX3_tellRatio G x (lN a) (lN b) σ = some (mm_upL (mm_upL σ x 13 (lN a / lN (Nat.gcd a b))) x 14 (lN b / lN (Nat.gcd a b))) := by
  unfold fX3_tellRatio fX3_tellRatio_b0
  rw [mm_run_go]
  exact cx_gcd (G := G) (x := x) (σ := σ) 26 a b 0 (by omega) (by omega) (by omega) ha (Or.inr h0)
theorem ml_ratio {a b : Nat} {σ : mm_M} (ha : a < 2 ^ 60) (h0 : 0 < b) (hb : b ≤ 35831808) : fX4_lowest G m (lN a) (lN b) σ = some (mm_upL (mm_upL σ m 15 (lN a / lN (Nat.gcd a b))) m 16 (lN b / lN (Nat.gcd a b))) := by
  unfold fX4_lowest fX4_lowest_b0
  rw [mm_run_go]
  exact ml_gcd b a ha (by omega) (Or.inr h0)
end RT
