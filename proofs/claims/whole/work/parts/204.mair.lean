/-! THE MODEL'S AIR: a row of 48 numbers, by the same values -/
def ms (σ : mm_M) (c i : Nat) : ab_S := (σ.1 c (33 + i), σ.1 c (4 + i), σ.1 c (40 + i), σ.1 c (11 + i), σ.1 c (18 + i), σ.1 c (25 + i))
def rM (σ : mm_M) (c : Nat) (A : ab_A) (z : Int32) : Prop := σ.1 c 32 = nI (a_n A) ∧ σ.1 c 0 = a_sl A ∧ σ.1 c 1 = a_tk A ∧ σ.1 c 2 = a_hd A ∧ σ.1 c 3 = a_ls A ∧ σ.1 c 47 = z ∧ ∀ i, i < a_n A → ms σ c i = a_st A i
theorem ad4 (i : Nat) : (4 : Int32) + nI i = nI (4 + i) := nI_add 4 i
theorem ad11 (i : Nat) : (11 : Int32) + nI i = nI (11 + i) := nI_add 11 i
theorem ad18 (i : Nat) : (18 : Int32) + nI i = nI (18 + i) := nI_add 18 i
theorem ad25 (i : Nat) : (25 : Int32) + nI i = nI (25 + i) := nI_add 25 i
theorem ad33 (i : Nat) : (33 : Int32) + nI i = nI (33 + i) := nI_add 33 i
theorem ad40 (i : Nat) : (40 : Int32) + nI i = nI (40 + i) := nI_add 40 i
theorem tc0 : (0 : Int32).toNatClampNeg = 0 := by decide
theorem tc1 : (1 : Int32).toNatClampNeg = 1 := by decide
theorem tc2 : (2 : Int32).toNatClampNeg = 2 := by decide
theorem tc3 : (3 : Int32).toNatClampNeg = 3 := by decide
theorem tc32 : (32 : Int32).toNatClampNeg = 32 := by decide
theorem tc47 : (47 : Int32).toNatClampNeg = 47 := by decide
theorem kc0 : ¬ ((0 : Int32) < 0 ∨ 48 ≤ 0) := by decide
theorem kc1 : ¬ ((1 : Int32) < 0 ∨ 48 ≤ 1) := by decide
theorem kc2 : ¬ ((2 : Int32) < 0 ∨ 48 ≤ 2) := by decide
theorem kc3 : ¬ ((3 : Int32) < 0 ∨ 48 ≤ 3) := by decide
theorem kc32 : ¬ ((32 : Int32) < 0 ∨ 48 ≤ 32) := by decide
theorem kc47 : ¬ ((47 : Int32) < 0 ∨ 48 ≤ 47) := by decide
theorem kcn {k : Nat} (h : k < 48) : ¬ (nI k < 0 ∨ 48 ≤ k) := by
  have := ck_no (i := k) (N := 48) h (by decide)
  rw [nI_clamp (by omega)] at this
  exact this
theorem or0 (x : Int32) : x ||| 0 = x := b_ext (fun i hi => by rw [b_or, b_0, Bool.or_false])
theorem ml_has (G : mm_G) (x : Int32) {i : Nat} (hi : i < 32) (σ : mm_M) : fX4_has G x (nI i) σ = some (if bt x i then 1 else 0, σ) := by
  unfold fX4_has
  by_cases h : bt x i = true
  · rw [if_pos ((b_ask1 x hi).mpr h), if_pos h]
  · rw [if_neg (fun q => h ((b_ask1 x hi).mp q)), if_neg h]
theorem ml_is (G : mm_G) (k w : Int32) (hw : ¬ w = 0) (σ : mm_M) : fX4_is G k w σ = some (if ab_is k w then 1 else 0, σ) := by
  unfold fX4_is ab_is
  rw [if_neg hw]
  by_cases h1 : k = w
  · simp [h1]
  · by_cases h4 : k = 4
    · by_cases w1 : w = 1
      · simp [h1, h4, w1]
      · have h5 : ¬ (4 : Int32) = 5 := by decide
        have hw4 : ¬ (4 : Int32) = w := fun q => h1 (h4.trans q)
        simp [h4, w1, h5, hw4]
    · by_cases h5 : k = 5
      · by_cases w2 : w = 2
        · simp [h1, h5, w2]
        · have hw5 : ¬ (5 : Int32) = w := fun q => h1 (h5.trans q)
          simp [h5, w2, hw5]
      · simp [h1, h4, h5]
theorem ml_wants (G : mm_G) {c i : Nat} {σ : mm_M} (hN : mm_N G c = 48) (hi : i < 7) : fX4_wants G c (nI i) σ = some (if !bt (σ.1 c 47) i && ab_wants (ms σ c i) (σ.1 c 1) then 1 else 0, σ) := by
  have hb : fX4_wants_b37 G c (nI i) σ = some (if bt (σ.1 c 47) i then 0 else 1, σ) := by
    unfold fX4_wants_b37
    rw [hN, tc47, if_neg kc47, ml_has G _ (by omega), Option.bind_some]
    cases bt (σ.1 c 47) i <;> rfl
  have ew : ab_wants (ms σ c i) (σ.1 c 1) = (decide (0 < σ.1 c (11 + i)) && (decide (σ.1 c (18 + i) = 0) && (decide (σ.1 c 1 = 0) || !ab_is (σ.1 c (33 + i)) 2))) := rfl
  unfold fX4_wants
  rw [hb, ad11, ad18, ad33, hN, nI_clamp (by omega), nI_clamp (by omega), nI_clamp (by omega), tc1, if_neg (kcn (by omega)), if_neg (kcn (by omega)), if_neg kc1, if_neg (kcn (by omega)), ml_is G _ 2 (by decide), Option.bind_some, hb, ew]
  by_cases c1 : 0 < σ.1 c (11 + i)
  · rw [if_pos c1, decide_eq_true c1]
    by_cases c2 : σ.1 c (18 + i) = 0
    · rw [if_pos c2, decide_eq_true c2]
      by_cases c3 : σ.1 c 1 = 0
      · rw [if_pos c3, decide_eq_true c3]
        cases bt (σ.1 c 47) i <;> rfl
      · rw [if_neg c3, decide_eq_false c3]
        cases ab_is (σ.1 c (33 + i)) 2 <;> cases bt (σ.1 c 47) i <;> rfl
    · rw [if_neg c2, decide_eq_false c2]
      cases bt (σ.1 c 47) i <;> rfl
  · rw [if_neg c1, decide_eq_false c1]
    cases bt (σ.1 c 47) i <;> rfl
theorem ml_talkers {G : mm_G} {σ : mm_M} {c : Nat} {A : ab_A} {z : Int32} (hN : mm_N G c = 48) (hn : a_n A ≤ 7) (hr : rM σ c A z) : fX4_talkers G c σ = some (ab_who A z, σ) := by
  obtain ⟨h1, h2, h3, h4, h5, h6, hs⟩ := hr
  generalize hp : (fun i => !bt z i && ab_wants (a_st A i) (a_tk A)) = p
  have hw : ab_who A z = ab_mk p (a_n A) := by unfold ab_who; rw [hp]
  have step : ∀ i, i < a_n A → fX4_talkers_s G c (ab_mk p i, nI i, σ) = some (.inr (ab_mk p (i + 1), nI (i + 1), σ)) := by
    intro i hi
    have hlt : nI i < nI (a_n A) := nI_lt hi (by omega)
    have hpi : p i = (!bt z i && ab_wants (a_st A i) (a_tk A)) := by rw [← hp]
    show fX4_talkers_b4 G c (ab_mk p i) (nI i) σ = _
    unfold fX4_talkers_b4
    rw [hN, tc32, if_neg kc32, h1, if_pos hlt, ml_wants G hN (by omega), Option.bind_some, h6, hs i hi, h3, ← hpi, ab_mk_s]
    unfold fX4_talkers_b28
    rw [← nI_1 i]
    cases p i
    · show some (Sum.inr (ab_mk p i ||| 0, nI i + 1, σ)) = some (Sum.inr (ab_mk p i, nI i + 1, σ))
      rw [or0]
    · rfl
  unfold fX4_talkers fX4_talkers_b0
  rw [mm_run_go]
  show mm_lim (fX4_talkers_s G c) (ab_mk p 0, nI 0, σ) = _
  rw [mm_for (f := fX4_talkers_s G c) (fun i => (ab_mk p i, nI i, σ)) (a_n A) step, hw]
  refine mm_lim_ret ?_
  show fX4_talkers_b4 G c (ab_mk p (a_n A)) (nI (a_n A)) σ = _
  unfold fX4_talkers_b4
  rw [hN, tc32, if_neg kc32, h1, if_neg Int32.lt_irrefl]
theorem ml_ones (G : mm_G) (x : Int32) (σ : mm_M) : fX4_ones G x σ = some (ab_ones x, σ) := by
  have step : ∀ i, i < 7 → fX4_ones_s G x (ab_cnt x i, nI i, σ) = some (.inr (ab_cnt x (i + 1), nI (i + 1), σ)) := by
    intro i hi
    show fX4_ones_b4 G x (ab_cnt x i) (nI i) σ = _
    unfold fX4_ones_b4
    rw [show (7 : Int32) = nI 7 from rfl, if_pos (nI_lt hi (by decide)), b_ask x (by omega), ← nI_1 i]
    rfl
  unfold fX4_ones fX4_ones_b0
  rw [mm_run_go]
  show mm_lim (fX4_ones_s G x) (ab_cnt x 0, nI 0, σ) = _
  rw [mm_for (f := fX4_ones_s G x) (fun i => (ab_cnt x i, nI i, σ)) 7 step]
  refine mm_lim_ret ?_
  show fX4_ones_b4 G x (ab_cnt x 7) (nI 7) σ = _
  unfold fX4_ones_b4
  rw [show (7 : Int32) = nI 7 from rfl, if_neg Int32.lt_irrefl]
  rfl
theorem ml_cap (G : mm_G) {v : Nat} (hv : v < 2 ^ 31) (σ : mm_M) : fX4_capped G (nI v) σ = some (nI (if v < 64 then v else 64), σ) := by
  unfold fX4_capped
  rw [show (64 : Int32) = nI 64 from rfl]
  by_cases h : 64 < v
  · rw [if_pos ((nI_ltI (by decide) hv).mpr h), if_neg (by omega)]
  · rw [if_neg (fun q => h ((nI_ltI (by decide) hv).mp q))]
    by_cases h2 : v < 64
    · rw [if_pos h2]
    · rw [if_neg h2, show v = 64 by omega]
theorem ml_dbl (G : mm_G) {f p cc : Nat} (hf : f ≤ 9) (hp1 : 1 ≤ p) (hp : p ≤ 9) (h1 : 1 ≤ cc) (h2 : cc < 2 ^ 20) (σ : mm_M) : fX4_doubled G (nI f) (nI p) (nI cc) σ = some (nI (if f + p * 2 ^ (if 7 < cc - 1 then 7 else cc - 1) < 64 then f + p * 2 ^ (if 7 < cc - 1 then 7 else cc - 1) else 64), σ) := by
  unfold fX4_doubled
  rw [show (7 : Int32) = nI 7 from rfl]
  by_cases h : 7 < cc
  · rw [if_pos ((nI_ltI (by decide) (by omega)).mpr h)]
    have e : (if 7 < cc - 1 then 7 else cc - 1) = 7 := by
      by_cases h8 : 7 < cc - 1
      · rw [if_pos h8]
      · rw [if_neg h8]; omega
    rw [e, if_neg (by omega)]
    rfl
  · rw [if_neg (fun q => h ((nI_ltI (by decide) (by omega)).mp q))]
    have e : (if 7 < cc - 1 then 7 else cc - 1) = cc - 1 := if_neg (by omega)
    rw [e]
    have e1 : nI cc - 1 = nI (cc - 1) := by rw [show (1 : Int32) = nI 1 from rfl, pk_sub h1]
    have hpw : 2 ^ (cc - 1) ≤ 2 ^ 6 := Nat.pow_le_pow_right (by decide) (by omega)
    have hm : p * 2 ^ (cc - 1) ≤ 9 * 2 ^ 6 := Nat.mul_le_mul hp hpw
    rw [e1, pk_shl0 (by omega) (by omega), nI_add, ml_cap G (by omega)]
    rfl
theorem ml_wait (G : mm_G) {k f p l w c0 cc : Nat} (hk : k ≤ 5) (hf : f ≤ 9) (hp1 : 1 ≤ p) (hp : p ≤ 9) (h1 : 1 ≤ cc) (h2 : cc < 2 ^ 20) (t : Int32) (σ : mm_M) : fX4_waitBy G (nI k) (nI f) (nI p) (nI cc) t σ = some (ab_wait (nI k, nI f, nI p, nI l, nI w, nI c0) (nI cc) t, σ) := by
  have ew : ab_wait (nI k, nI f, nI p, nI l, nI w, nI c0) (nI cc) t = if nI k = 1 then ab_dbl (nI k, nI f, nI p, nI l, nI w, nI c0) (nI cc) else if nI k = 3 then nI f else if nI k = 4 then (t * nI p) - (t * nI p) / (ab_dbl (nI k, nI f, nI p, nI l, nI w, nI c0) (nI cc) + 1) * (ab_dbl (nI k, nI f, nI p, nI l, nI w, nI c0) (nI cc) + 1) else ab_plain (nI k, nI f, nI p, nI l, nI w, nI c0) (nI cc) := rfl
  unfold fX4_waitBy
  rw [ml_dbl G hf hp1 hp h1 h2, Option.bind_some, ew, ab_dbl_n hf hp h1 (by omega), ab_plain_n hf hp h2]
  generalize hv : (if f + p * 2 ^ (if 7 < cc - 1 then 7 else cc - 1) < 64 then f + p * 2 ^ (if 7 < cc - 1 then 7 else cc - 1) else 64) = v
  have hv64 : v ≤ 64 := by rw [← hv]; exact le64 _
  have n0 : ¬ nI v + 1 = 0 := by rw [nI_1]; exact nI_ne0 (by omega) (by omega)
  by_cases k3 : nI k = 3
  · have k1 : ¬ nI k = 1 := by rw [k3]; decide
    rw [if_pos k3, if_neg k1, if_pos k3]
  · rw [if_neg k3]
    by_cases k1 : nI k = 1
    · rw [if_pos k1, if_pos k1]
    · rw [if_neg k1, if_neg k1, if_neg k3]
      by_cases k4 : nI k = 4
      · rw [if_pos k4, if_pos k4, if_neg n0]
      · rw [if_neg k4, if_neg k4, show (64 : Int32) = nI 64 from rfl]
        have hm : cc * p ≤ 2 ^ 20 * 9 := Nat.mul_le_mul (by omega) hp
        by_cases h64 : 64 < cc
        · rw [if_pos ((nI_ltI (by decide) (by omega)).mpr h64)]
          have : cc * 1 ≤ cc * p := Nat.mul_le_mul (Nat.le_refl _) hp1
          rw [if_neg (by omega)]
        · rw [if_neg (fun q => h64 ((nI_ltI (by decide) (by omega)).mp q)), pk_mul, nI_add, ml_cap G (by omega)]
          rfl
