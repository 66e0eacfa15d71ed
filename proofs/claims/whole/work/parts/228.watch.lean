/-! kinds, firsts -/
def wk (f : Nat → Int32) : Nat → Bool
  | 0 => true
  | i + 1 => wk f i && (!decide (f i < 0) && !decide (7 < f i))
theorem wk_all {f : Nat → Int32} : ∀ n, wk f n = true → ∀ q, q < n → ¬ f q < 0 ∧ ¬ 7 < f q
  | 0, _, q, hq => absurd hq (Nat.not_lt_zero q)
  | n + 1, h, q, hq => by
    have h' : (wk f n && (!decide (f n < 0) && !decide (7 < f n))) = true := h
    simp only [Bool.and_eq_true, Bool.not_eq_true', decide_eq_false_iff_not] at h'
    by_cases e : q = n
    · subst e; exact h'.2
    · exact wk_all n h'.1 q (by omega)
theorem wk_no {f : Nat → Int32} {i : Nat} (h : wk f i = false) : ∀ r, wk f (i + r) = false
  | 0 => h
  | r + 1 => by
    show (wk f (i + r) && _) = false
    rw [wk_no h r, Bool.false_and]
theorem wk_s {f : Nat → Int32} {i : Nat} : wk f (i + 1) = (wk f i && (!decide (f i < 0) && !decide (7 < f i))) := rfl
def ft (A : ab_A) (f : Nat → Int32) : Nat → Bool
  | 0 => true
  | n + 1 => ft A f n && decide (ab_ones (ab_who (ab_it A 0 n) 0) = f n)
theorem ft_no {A : ab_A} {f : Nat → Int32} {i : Nat} (h : ft A f i = false) : ∀ r, ft A f (i + r) = false
  | 0 => h
  | r + 1 => by
    show (ft A f (i + r) && _) = false
    rw [ft_no h r, Bool.false_and]
def s_kind (s : ab_S) (k : Int32) : ab_S := (k, s.2)
theorem s_kind_ok {N : Nat} {s : ab_S} (h : ab_okS N s) {n : Nat} (hn : n ≤ 5) : ab_okS N (s_kind s (nI n)) := by
  obtain ⟨k, f, p, l, w, c, rfl, b1, b2, b3, b4, b5, b6, b7⟩ := h
  exact ⟨n, f, p, l, w, c, rfl, hn, b2, b3, b4, b5, b6, b7⟩
section WA
variable {G : mm_G} {x m : Nat} {cd : Nat → Nat} {Y : Ps}
theorem gX_row (gx : gX G x cd) {j : Nat} (hj : j < 6) : mm_N G (mm_R G x 0) = 6 ∧ mm_N G (mm_R G x 1) = 6 ∧ mm_N G (mm_R G (mm_R G x 0) j) = 40 ∧ ¬ ic G (mm_R G x 8) (mm_R G x 1) ∧ ¬ ic G (mm_R G x 8) (mm_R G (mm_R G x 0) j) := by
  obtain ⟨-, ex, ⟨N0, e0⟩, ⟨N1, e1⟩, -⟩ := id gx
  obtain ⟨c0, N00⟩ := e0 j hj
  refine ⟨N0, N1, N00, fun q => ?_, fun q => ?_⟩
  · have := gX_ic8 gx q
    unfold rg at this
    omega
  · have := gX_ic8 gx q
    unfold rg at this
    omega
theorem gM_row (gm : gM G m cd) : mm_N G (mm_R G m 0) = 6 ∧ mm_N G (mm_R G m 1) = 240 ∧ mm_R G m 0 ≠ mm_R G m 7 ∧ mm_R G m 1 ≠ mm_R G m 7 := by
  obtain ⟨-, e0, ⟨c0, N0⟩, ⟨c1, N1⟩, -, -, -, -, -, ⟨c7, N7⟩, -⟩ := id gm
  exact ⟨N0, N1, fun e => by rw [e] at c0; omega, fun e => by rw [e] at c1; omega⟩
/-- the class looks a row over -/
theorem cx_wF (gx : gX G x cd) {j n : Nat} (hj : j < 6) (hn : n ≤ 20) (x1 : Int32) {σ : mm_M} (hv : ∀ q, q < n → σ.1 (mm_R G (mm_R G x 0) j) q = p_rv Y j q) : ∀ (r i : Nat), i + r = n → wk (p_rv Y j) i = true → (wk (p_rv Y j) n = true → mm_lim (fX3_refusedWatch_s G x x1 (nI j)) (nI n, nI i, σ) = some (0, σ)) ∧ (wk (p_rv Y j) n = false → ∀ σ', fX3_found G x 3 σ = some (-3, σ') → mm_lim (fX3_refusedWatch_s G x x1 (nI j)) (nI n, nI i, σ) = some (-3, σ'))
  | 0, i, hin, hw => by
    have e : i = n := by omega
    subst e
    refine ⟨fun _ => mm_lim_ret ?_, fun h => (by rw [hw] at h; cases h)⟩
    show fX3_refusedWatch_b58 G x x1 (nI j) (nI i) (nI i) σ = _
    unfold fX3_refusedWatch_b58
    rw [if_neg Int32.lt_irrefl]
  | r + 1, i, hin, hw => by
    obtain ⟨N0, N1, N00, -, -⟩ := gX_row gx hj
    have hs : fX3_refusedWatch_s G x x1 (nI j) (nI n, nI i, σ) = if p_rv Y j i < 0 then fX3_refusedWatch_b90 G x x1 (nI j) σ else if 7 < p_rv Y j i then fX3_refusedWatch_b90 G x x1 (nI j) σ else some (.inr (nI n, nI (i + 1), σ)) := by
      show fX3_refusedWatch_b58 G x x1 (nI j) (nI n) (nI i) σ = _
      unfold fX3_refusedWatch_b58
      rw [if_pos (nI_lt (by omega) (by omega)), N0, nI_clamp (by omega : j < 2 ^ 31), nI_clamp (by omega : i < 2 ^ 31), N00]
      simp only [if_neg (ck_n hj (show j < 2 ^ 31 by omega)), if_neg (ck_n (show i < 40 by omega) (show i < 2 ^ 31 by omega)), hv i (by omega), nI_1]
    by_cases c1 : p_rv Y j i < 0
    · rw [if_pos c1] at hs
      have hf : wk (p_rv Y j) n = false := by
        have := wk_no (i := i + 1) (f := p_rv Y j) (by rw [wk_s, decide_eq_true c1, Bool.not_true, Bool.false_and, Bool.and_false]) r
        rw [show i + 1 + r = n by omega] at this
        exact this
      refine ⟨fun h => (by rw [hf] at h; cases h), fun _ σ' e => mm_lim_ret ?_⟩
      rw [hs]
      unfold fX3_refusedWatch_b90
      rw [bel e]
    · rw [if_neg c1] at hs
      by_cases c2 : 7 < p_rv Y j i
      · rw [if_pos c2] at hs
        have hf : wk (p_rv Y j) n = false := by
          have := wk_no (i := i + 1) (f := p_rv Y j) (by rw [wk_s, decide_eq_true c2, Bool.not_true, Bool.and_false, Bool.and_false]) r
          rw [show i + 1 + r = n by omega] at this
          exact this
        refine ⟨fun h => (by rw [hf] at h; cases h), fun _ σ' e => mm_lim_ret ?_⟩
        rw [hs]
        unfold fX3_refusedWatch_b90
        rw [bel e]
      · rw [if_neg c2] at hs
        obtain ⟨g1, g2⟩ := cx_wF gx hj hn x1 hv r (i + 1) (by omega) (by rw [wk_s, hw, decide_eq_false c1, decide_eq_false c2]; rfl)
        exact ⟨fun h => by rw [mm_lim_go hs]; exact g1 h, fun h σ' e => by rw [mm_lim_go hs]; exact g2 h σ' e⟩
theorem ml_unfit (gm : gM G m cd) {j n : Nat} (hj : j < 6) (h1 : 1 ≤ n) (hn : n ≤ 20) (es : p_rs Y j = nI n) {σ : mm_M} (hc : MR G m σ Y) : fX4_unfit G m (nI j) σ = some (if wk (p_rv Y j) n then 0 else 3, σ) := by
  obtain ⟨N0, N1, -, -⟩ := gM_row gm
  have e0 : σ.1 (mm_R G m 0) j = nI n := by rw [(hc.1 j hj).1]; exact es
  have hfor := mm_for (f := fX4_unfit_s G m (nI j)) (fun i => (if wk (p_rv Y j) i then (1 : Int32) else 0, nI i, σ)) n (fun i hi => by
    show fX4_unfit_b32 G m (nI j) (if wk (p_rv Y j) i then (1 : Int32) else 0) (nI i) σ = _
    unfold fX4_unfit_b32
    rw [N0, nI_clamp (by omega : j < 2 ^ 31), if_neg (ck_n hj (by omega)), e0, if_pos (nI_lt hi (by omega)), N1, if_neg (ck40 hj (by omega)), cl40 hj (by omega), (hc.1 j hj).2 i (by rw [es]; exact nI_lt hi (by omega)) (by omega), ml_in, Option.bind_some, wk_s, nI_1]
    cases hw : wk (p_rv Y j) i with
    | false => rfl
    | true =>
      by_cases c1 : p_rv Y j i < 0
      · rw [decide_eq_true c1, if_pos c1]; rfl
      · by_cases c2 : 7 < p_rv Y j i
        · rw [decide_eq_false c1, decide_eq_true c2, if_neg c1, if_pos c2]; rfl
        · rw [decide_eq_false c1, decide_eq_false c2, if_neg c1, if_neg c2]; rfl)
  unfold fX4_unfit
  rw [show fX4_unfit_b0 G m (nI j) σ = some (.inr (1, nI 0, σ)) from by
    unfold fX4_unfit_b0
    rw [N0, nI_clamp (by omega : j < 2 ^ 31), if_neg (ck_n hj (by omega)), e0, if_neg (nI_pos (by omega)), if_neg (ck_n hj (by omega)), ml_in, if_neg (show ¬ nI n < 1 from nI_nlt (show 1 ≤ n from h1) (by omega)), if_neg (show ¬ (20 : Int32) < nI n from nI_nlt (show n ≤ 20 from hn) (by decide))]
    rfl, mm_run_go]
  show mm_lim _ (if wk (p_rv Y j) 0 then (1 : Int32) else 0, nI 0, σ) = _
  rw [hfor]
  refine mm_lim_ret ?_
  show fX4_unfit_b32 G m (nI j) (if wk (p_rv Y j) n then (1 : Int32) else 0) (nI n) σ = _
  unfold fX4_unfit_b32
  rw [N0, nI_clamp (by omega : j < 2 ^ 31), if_neg (ck_n hj (by omega)), e0, if_neg Int32.lt_irrefl]
  cases wk (p_rv Y j) n <;> rfl
/-- what both refuse of a watched row, alike -/
theorem J_watch {fc fm : mm_M → Option (Int32 × mm_M)} (gx : gX G x cd) (gm : gM G m cd) (ok : okP Y) (i r : Int32)
    (h1 : ∀ σ v σ', fX3_refusedWatch G x i r σ = some (v, σ') → ¬ v = 0 → fc σ = some (v, σ'))
    (m1 : ∀ σ, fX4_isStation G m i σ = some (0, σ) → fm σ = some (-1, σ))
    (m2 : ∀ σ, fX4_isStation G m i σ = some (1, σ) → fX4_isRow G r σ = some (0, σ) → fm σ = some (-1, σ))
    (m3 : ∀ σ k σ', fX4_isStation G m i σ = some (1, σ) → fX4_isRow G r σ = some (1, σ) → fX4_unfit G m r σ = some (k, σ) → ¬ k = 0 → fX4_finds G m k σ = some (-3, σ') → fm σ = some (-3, σ'))
    (hg : ∀ k j n, i = nI k → k < a_n (p_A Y) → r = nI j → j < 6 → p_rs Y j = nI n → 1 ≤ n → n ≤ 20 → (∀ q, q < n → ∃ d, d ≤ 7 ∧ p_rv Y j q = nI d) → (∀ σ, CR G x σ Y → fX3_refusedWatch G x i r σ = some (0, σ)) → (∀ σ, MR G m σ Y → fX4_isStation G m i σ = some (1, σ) ∧ fX4_isRow G r σ = some (1, σ) ∧ fX4_unfit G m r σ = some (0, σ)) → Jc G x m cd fc fm Y) : Jc G x m cd fc fm Y := by
  have hn7 := (okP_n ok).2
  obtain ⟨M0, M1, -, -⟩ := gM_row gm
  have bad0 : ∀ σ, CR G x σ Y → i < 0 ∨ nI (a_n (p_A Y)) ≤ i → fX3_refusedWatch G x i r σ = some (-1, σ) := fun σ hc h => by
    unfold fX3_refusedWatch fX3_refusedWatch_b0
    rw [ca_has0 hc.2.2.1 h]; rfl
  rcases pk_ix i (n := a_n (p_A Y)) (by omega) with hi | hi | ⟨k, hk, rfl⟩
  · exact J_same (-1) ok (fun σ hc => h1 σ _ _ (bad0 σ hc (Or.inl hi)) (by decide)) (fun σ hc => m1 σ (ml_st0 gm ok hc (Or.inl hi)))
  · exact J_same (-1) ok (fun σ hc => h1 σ _ _ (bad0 σ hc (Or.inr hi)) (by decide)) (fun σ hc => m1 σ (ml_st0 gm ok hc (Or.inr hi)))
  · have bad1 : ∀ σ, CR G x σ Y → r < 0 ∨ nI 6 ≤ r → fX3_refusedWatch G x (nI k) r σ = some (-1, σ) := fun σ hc h => by
      unfold fX3_refusedWatch fX3_refusedWatch_b0
      rw [ca_has1 hc.2.2.1 hn7 hk, Option.bind_some, if_neg (n01 σ), cx_row0 h]; rfl
    rcases pk_ix r (n := 6) (by omega) with hr | hr | ⟨j, hj, rfl⟩
    · exact J_same (-1) ok (fun σ hc => h1 σ _ _ (bad1 σ hc (Or.inl hr)) (by decide)) (fun σ hc => m2 σ (ml_st1 gm ok hc hk) (ml_row0 (Or.inl hr) σ))
    · exact J_same (-1) ok (fun σ hc => h1 σ _ _ (bad1 σ hc (Or.inr hr)) (by decide)) (fun σ hc => m2 σ (ml_st1 gm ok hc hk) (ml_row0 (Or.inr hr) σ))
    · obtain ⟨N0, N1, N00, -, -⟩ := gX_row gx hj
      have hb : ∀ σ, CR G x σ Y → fX3_refusedWatch_b0 G x (nI k) (nI j) σ = if p_rs Y j = -1 then (fX3_found G x 1 σ).bind (fun q34 => some (.inl (q34.1, q34.2))) else if p_rs Y j < 1 then fX3_refusedWatch_b49 G x (nI k) (nI j) σ else if 20 < p_rs Y j then fX3_refusedWatch_b49 G x (nI k) (nI j) σ else some (.inr (p_rs Y j, 0, σ)) := fun σ hc => by
        unfold fX3_refusedWatch_b0
        rw [ca_has1 hc.2.2.1 hn7 hk, Option.bind_some, if_neg (n01 σ), cx_row1 hj, Option.bind_some, if_neg (n01 σ), N1, nI_clamp (by omega : j < 2 ^ 31), if_neg (ck_n hj (by omega)), (hc.1 j hj).1]
      have hu : ∀ σ, MR G m σ Y → fX4_unfit_b0 G m (nI j) σ = if p_rs Y j < 0 then some (.inl (1, σ)) else if (if p_rs Y j < 1 then (0 : Int32) else if 20 < p_rs Y j then 0 else 1) = 0 then some (.inl (5, σ)) else some (.inr (1, 0, σ)) := fun σ hc => by
        unfold fX4_unfit_b0
        rw [M0, nI_clamp (by omega : j < 2 ^ 31), if_neg (ck_n hj (by omega)), (hc.1 j hj).1, if_neg (ck_n hj (by omega)), ml_in, Option.bind_some]
      rcases rs_cases ok hj with ⟨a1, a0, -⟩ | ⟨n, hn, es, a0, a1⟩
      · refine J_fnd gx gm ok 1 (by decide) (by decide) (fun σ hc σ' e => h1 σ _ _ ?_ (by decide)) (fun σ hc σ' e => m3 σ 1 σ' (ml_st1 gm ok hc hk) (ml_row1 hj σ) ?_ (by decide) e)
        · unfold fX3_refusedWatch
          rw [hb σ hc, if_pos a1, bel (show fX3_found G x 1 σ = some (-3, σ') from e)]; rfl
        · unfold fX4_unfit
          rw [hu σ hc, if_pos a0]; rfl
      · by_cases hsz : n < 1 ∨ 20 < n
        · have hm : (if p_rs Y j < 1 then (0 : Int32) else if 20 < p_rs Y j then 0 else 1) = 0 := by
            rcases hsz with h | h
            · rw [if_pos (show p_rs Y j < 1 by rw [es]; exact nI_lt (b := 1) h (by decide))]
            · rw [if_neg (show ¬ p_rs Y j < 1 by rw [es]; exact nI_nlt (show 1 ≤ n by omega) (by omega)), if_pos (show 20 < p_rs Y j by rw [es]; exact nI_lt (a := 20) h (by omega))]
          refine J_fnd gx gm ok 5 (by decide) (by decide) (fun σ hc σ' e => h1 σ _ _ ?_ (by decide)) (fun σ hc σ' e => m3 σ 5 σ' (ml_st1 gm ok hc hk) (ml_row1 hj σ) ?_ (by decide) e)
          · have h49 : fX3_refusedWatch_b49 G x (nI k) (nI j) σ = some (.inl (-3, σ')) := by
              unfold fX3_refusedWatch_b49
              rw [bel (show fX3_found G x 5 σ = some (-3, σ') from e)]
            unfold fX3_refusedWatch
            rw [hb σ hc, if_neg a1]
            rcases hsz with h | h
            · rw [if_pos (show p_rs Y j < 1 by rw [es]; exact nI_lt (b := 1) h (by decide)), h49]; rfl
            · rw [if_neg (show ¬ p_rs Y j < 1 by rw [es]; exact nI_nlt (show 1 ≤ n by omega) (by omega)), if_pos (show 20 < p_rs Y j by rw [es]; exact nI_lt (a := 20) h (by omega)), h49]; rfl
          · unfold fX4_unfit
            rw [hu σ hc, if_neg a0, if_pos hm]; rfl
        · have h1n : 1 ≤ n := by omega
          have h20 : n ≤ 20 := by omega
          have b1 : ¬ p_rs Y j < 1 := by rw [es]; exact nI_nlt (show 1 ≤ n by omega) (by omega)
          have b20 : ¬ 20 < p_rs Y j := by rw [es]; exact nI_nlt (show n ≤ 20 by omega) (by decide)
          have hv : ∀ σ, CR G x σ Y → ∀ q, q < n → σ.1 (mm_R G (mm_R G x 0) j) q = p_rv Y j q := fun σ hc q hq => (hc.1 j hj).2 q (by rw [es]; exact nI_lt hq (by omega)) (by omega)
          have hrun : ∀ σ, CR G x σ Y → fX3_refusedWatch G x (nI k) (nI j) σ = mm_lim (fX3_refusedWatch_s G x (nI k) (nI j)) (nI n, nI 0, σ) := fun σ hc => by
            unfold fX3_refusedWatch
            rw [hb σ hc, if_neg a1, if_neg b1, if_neg b20, mm_run_go, es]; rfl
          cases hw : wk (p_rv Y j) n with
          | false =>
            refine J_fnd gx gm ok 3 (by decide) (by decide) (fun σ hc σ' e => h1 σ _ _ ?_ (by decide)) (fun σ hc σ' e => m3 σ 3 σ' (ml_st1 gm ok hc hk) (ml_row1 hj σ) ?_ (by decide) e)
            · rw [hrun σ hc]
              exact (cx_wF gx hj h20 (nI k) (hv σ hc) n 0 (by omega) rfl).2 hw σ' e
            · rw [ml_unfit gm hj h1n h20 es hc, hw]; rfl
          | true =>
            refine hg k j n rfl hk rfl hj es h1n h20 (fun q hq => ?_) (fun σ hc => ?_) (fun σ hc => ⟨ml_st1 gm ok hc hk, ml_row1 hj σ, ?_⟩)
            · obtain ⟨w1, w2⟩ := wk_all n hw q hq
              obtain ⟨d, hd, e⟩ := nI_of2 (M := 7) (n := 7) (by decide) w1 (Int32.not_lt.mp w2)
              exact ⟨d, hd, e⟩
            · rw [hrun σ hc]
              exact (cx_wF gx hj h20 (nI k) (hv σ hc) n 0 (by omega) rfl).1 hw
            · rw [ml_unfit gm hj h1n h20 es hc, hw]; rfl
/-! whether an air tried aside fits -/
theorem cx_fitF (gx : gX G x cd) {j n N : Nat} {A : ab_A} (hj : j < 6) (hn : n ≤ 20) (hN : N ≤ 200) (ho : ab_ok N A) {f : Nat → Int32} : ∀ (r i : Nat) (σ : mm_M), i + r = n → ft A f i = true → σ.1 (mm_R G x 1) j = nI n → (∀ q, q < n → σ.1 (mm_R G (mm_R G x 0) j) q = f q) → rA G σ (mm_R G x 8) (ab_it A 0 i) → ∃ σ', mm_lim (fX3_asideFits_s G x (nI j)) (nI i, σ) = some (if ft A f n then 1 else 0, σ') ∧ mm_sm (ic G (mm_R G x 8)) σ σ'
  | 0, i, σ, hin, hw, hs, hv, hr => by
    have e : i = n := by omega
    subst e
    obtain ⟨N0, N1, N00, -, -⟩ := gX_row gx hj
    refine ⟨σ, mm_lim_ret ?_, mm_sm_rf _ _⟩
    show fX3_asideFits_b2 G x (nI j) (nI i) σ = _
    unfold fX3_asideFits_b2
    rw [N1, nI_clamp (by omega : j < 2 ^ 31), if_neg (ck_n hj (by omega)), hs, if_neg Int32.lt_irrefl, hw]
    rfl
  | r + 1, i, σ, hin, hw, hs, hv, hr => by
    obtain ⟨N0, N1, N00, i1, i0⟩ := gX_row gx hj
    have hoi := ab_it_ok 0 ho i (by omega)
    obtain ⟨σ1, f1, r1, m1⟩ := ca_goBy 0 (gX_ga8 gx) hr hoi (by omega)
    have hst : fX3_asideFits_s G x (nI j) (nI i, σ) = if ab_ones (ab_who (ab_it A 0 i) 0) = f i then some (.inr (nI (i + 1), σ1)) else some (.inl (0, σ1)) := by
      show fX3_asideFits_b2 G x (nI j) (nI i) σ = _
      unfold fX3_asideFits_b2
      rw [N1, nI_clamp (by omega : j < 2 ^ 31), if_neg (ck_n hj (by omega)), hs, if_pos (nI_lt (by omega) (by omega)), f1, Option.bind_some]
      show (fJ6_bitCount_0f7a4 G (ab_who (ab_it A 0 i) 0) σ1).bind _ = _
      rw [show fJ6_bitCount_0f7a4 G (ab_who (ab_it A 0 i) 0) σ1 = some (ab_ones (ab_who (ab_it A 0 i) 0), σ1) from jd_cnt hoi.1 G σ1, Option.bind_some, N0, if_neg (ck_n hj (by omega)), N00, nI_clamp (by omega : i < 2 ^ 31), if_neg (ck_n (by omega) (by omega)), nI_1]
      show (if ab_ones (ab_who (ab_it A 0 i) 0) = σ1.1 (mm_R G (mm_R G x 0) j) i then _ else _) = _
      rw [m1.1 _ i0, hv i (by omega)]
    by_cases c : ab_ones (ab_who (ab_it A 0 i) 0) = f i
    · rw [if_pos c] at hst
      obtain ⟨σ', e, s⟩ := cx_fitF gx hj hn hN ho r (i + 1) σ1 (by omega) (by show (ft A f i && decide _) = true; rw [hw, decide_eq_true c]; rfl) (by rw [m1.1 _ i1]; exact hs) (fun q hq => by rw [m1.1 _ i0]; exact hv q hq) r1
      exact ⟨σ', by rw [mm_lim_go hst]; exact e, mm_sm_tr m1 s⟩
    · rw [if_neg c] at hst
      have hf : ft A f n = false := by
        have := ft_no (i := i + 1) (A := A) (f := f) (by show (ft A f i && decide _) = false; rw [decide_eq_false c, Bool.and_false]) r
        rw [show i + 1 + r = n by omega] at this
        exact this
      exact ⟨σ1, by rw [hf]; exact mm_lim_ret hst, m1⟩
theorem cx_fit (gx : gX G x cd) {j n N : Nat} {A : ab_A} (hj : j < 6) (hn : n ≤ 20) (hN : N ≤ 200) (ho : ab_ok N A) {f : Nat → Int32} {σ : mm_M} (hs : σ.1 (mm_R G x 1) j = nI n) (hv : ∀ q, q < n → σ.1 (mm_R G (mm_R G x 0) j) q = f q) (hr : rA G σ (mm_R G x 8) A) : ∃ σ', fX3_asideFits G x (nI j) σ = some (if ft A f n then 1 else 0, σ') ∧ mm_sm (ic G (mm_R G x 8)) σ σ' := cx_fitF gx hj hn hN ho n 0 σ (by omega) rfl hs hv hr
def kf (A : ab_A) (i : Nat) (V : Nat → ab_S) (f : Nat → Int32) (n k : Nat) : Int32 := ab_mk (fun q => ft (ab_set A i (V q)) f n) k
theorem kf_s (A : ab_A) (i : Nat) (V : Nat → ab_S) (f : Nat → Int32) (n k : Nat) : kf A i V f n (k + 1) = if ft (ab_set A i (V k)) f n then kf A i V f n k ||| ((1 : Int32) <<< (nI k &&& 31)) else kf A i V f n k := rfl
/-- the class, kind after kind -/
theorem cx_kinds (gx : gX G x cd) (ok : okP Y) {i j n : Nat} (hi : i < a_n (p_A Y)) (hj : j < 6) (hn : n ≤ 20) (es : p_rs Y j = nI n) {σ : mm_M} (hc : CR G x σ Y) : ∃ σ', fX3_kindsThatFit G x (nI i) (nI j) σ = some (kf (p_A Y) i (fun k => s_kind (a_st (p_A Y) i) (nI k)) (p_rv Y j) n 6, σ') ∧ mm_sm (ic G (mm_R G x 8)) σ σ' := by
  obtain ⟨t, ht, et, ho, hlt⟩ := okP_A ok
  have hn7 := ho.1
  obtain ⟨N0, N1, N00, i1, i0⟩ := gX_row gx hj
  obtain ⟨s, l1, σ1, rfl, m1⟩ := mm_loop (f := fX3_kindsThatFit_s G x (nI i) (nI j)) (fun k s => ∃ σ', s = (kf (p_A Y) i (fun k => s_kind (a_st (p_A Y) i) (nI k)) (p_rv Y j) n k, nI k, σ') ∧ mm_sm (ic G (mm_R G x 8)) σ σ') 6 (fun k s hk hI => by
    obtain ⟨σ1, rfl, m1⟩ := hI
    obtain ⟨σ2, f2, r2, m2⟩ := cx_aside gx ok (x5_sm gx ok m1 hc.2.2.1)
    have m3 : mm_sm (ic G (mm_R G x 8)) σ (mm_up σ2 (sa G (mm_R G x 8) i) 0 (nI k)) := mm_sm_tr m1 (mm_sm_up m2 (Or.inr ⟨i, by omega, rfl⟩))
    have r3 : rA G (mm_up σ2 (sa G (mm_R G x 8) i) 0 (nI k)) (mm_R G x 8) (ab_set (p_A Y) i (s_kind (a_st (p_A Y) i) (nI k))) := ca_set (gX_ga8 gx) r2 hn7 hi (by rw [← r2.2.2.2.2.2 i hi]; simp [so, mm_up, s_kind]) (mm_sm_up (mm_sm_rf _ _) rfl)
    obtain ⟨σ4, f4, m4⟩ := cx_fit gx hj hn (show t ≤ 200 by omega) (ab_set_ok ho (s_kind_ok (ho.2.2.2 i hi) (by omega))) (f := p_rv Y j) (by rw [m3.1 _ i1, (hc.1 j hj).1]; exact es) (fun q hq => by rw [m3.1 _ i0]; exact (hc.1 j hj).2 q (by rw [es]; exact nI_lt hq (by omega)) (by omega)) r3
    refine ⟨(kf (p_A Y) i (fun k => s_kind (a_st (p_A Y) i) (nI k)) (p_rv Y j) n (k + 1), nI (k + 1), σ4), mm_lim_go ?_, σ4, rfl, mm_sm_tr m3 m4⟩
    show fX3_kindsThatFit_b5 G x (nI i) (nI j) _ (nI k) σ1 = _
    unfold fX3_kindsThatFit_b5
    rw [if_pos (show nI k < (6 : Int32) from nI_lt hk (by decide)), f2, Option.bind_some, (gX_ga8 gx).1, nI_clamp (by omega : i < 2 ^ 31), if_neg (ck_n (by omega) (by omega))]
    show (fX3_asideFits G x (nI j) (mm_up σ2 (sa G (mm_R G x 8) i) 0 (nI k))).bind _ = _
    rw [f4, Option.bind_some, kf_s, nI_1]
    cases ft (ab_set (p_A Y) i (s_kind (a_st (p_A Y) i) (nI k))) (p_rv Y j) n <;> rfl) (0, nI 0, σ) ⟨σ, rfl, mm_sm_rf _ _⟩
  refine ⟨σ1, ?_, m1⟩
  unfold fX3_kindsThatFit fX3_kindsThatFit_b0
  rw [mm_run_go]
  show mm_lim _ ((0 : Int32), nI 0, σ) = _
  rw [l1]
  refine mm_lim_ret ?_
  show fX3_kindsThatFit_b5 G x (nI i) (nI j) _ (nI 6) σ1 = _
  unfold fX3_kindsThatFit_b5
  rw [if_neg (show ¬ nI 6 < (6 : Int32) by decide)]
theorem ml_fit (gm : gM G m cd) (ok : okP Y) {i j n b L : Nat} (V : Nat → ab_S) (hi : i < a_n (p_A Y)) (hj : j < 6) (hn : n ≤ 20) (hL : L ≤ 9) (hb : b + i < 48) (es : p_rs Y j = nI n) (hset : ∀ σ k, rM σ (mm_R G m 7) (p_A Y) 0 → rM (mm_up σ (mm_R G m 7) (b + i) (nI k)) (mm_R G m 7) (ab_set (p_A Y) i (V k)) 0) (hV : ∀ N k, k ≤ L → ab_okS N (a_st (p_A Y) i) → ab_okS N (V k)) {σ : mm_M} (hc : MR G m σ Y) : ∃ σ', fX4_fitting G m (nI b) (nI L) (nI i) (nI j) σ = some (kf (p_A Y) i V (p_rv Y j) n (L + 1), σ') ∧ mm_sm (fun q => q = mm_R G m 7) σ σ' := by
  obtain ⟨t, ht, et, ho, hlt⟩ := okP_A ok
  have hn7 := ho.1
  obtain ⟨n57, M5, M7, q7⟩ := gM_57 gm
  obtain ⟨N0, N1, n07, n17⟩ := gM_row gm
  obtain ⟨s, l1, σ1, rfl, m1⟩ := mm_loop (f := fX4_fitting_s G m (nI b) (nI L) (nI i) (nI j)) (fun k s => ∃ σ', s = Sum.inl (kf (p_A Y) i V (p_rv Y j) n k, nI k, σ') ∧ mm_sm (fun q => q = mm_R G m 7) σ σ') (L + 1) (fun k s hk hI => by
    obtain ⟨σ1, rfl, m1⟩ := hI
    obtain ⟨σ2, f2, r2, m2⟩ := ml_aside gm ok (m5_sm gm ok m1 hc.2.2.1)
    have m3 : mm_sm (fun q => q = mm_R G m 7) σ (mm_up σ2 (mm_R G m 7) (b + i) (nI k)) := mm_sm_tr m1 (mm_sm_up m2 rfl)
    have r3 := hset σ2 k r2
    have ho3 := ab_set_ok (i := i) ho (hV t k (by omega) (ho.2.2.2 i hi))
    obtain ⟨s, l4, σ4, rfl, r4, m4⟩ := mm_loop (f := fX4_fitting_s G m (nI b) (nI L) (nI i) (nI j)) (fun q s => ∃ σ', s = Sum.inr (kf (p_A Y) i V (p_rv Y j) n k, nI k, (if ft (ab_set (p_A Y) i (V k)) (p_rv Y j) q then (1 : Int32) else 0), nI q, σ') ∧ rM σ' (mm_R G m 7) (ab_it (ab_set (p_A Y) i (V k)) 0 q) 0 ∧ mm_sm (fun q => q = mm_R G m 7) σ σ') n (fun q s hq hI => by
      obtain ⟨σ4, rfl, r4, m4⟩ := hI
      obtain ⟨σ5, f5, r5, m5⟩ := ml_goes M7 r4 (ab_it_ok 0 ho3 q (by omega)) (by omega)
      refine ⟨Sum.inr (kf (p_A Y) i V (p_rv Y j) n k, nI k, (if ft (ab_set (p_A Y) i (V k)) (p_rv Y j) (q + 1) then (1 : Int32) else 0), nI (q + 1), σ5), mm_lim_go ?_, σ5, rfl, r5, mm_sm_tr m4 m5⟩
      show fX4_fitting_b39 G m (nI b) (nI L) (nI i) (nI j) _ (nI k) _ (nI q) σ4 = _
      unfold fX4_fitting_b39
      rw [N0, nI_clamp (by omega : j < 2 ^ 31), if_neg (ck_n hj (by omega)), m4.1 _ n07, (hc.1 j hj).1, es, if_pos (nI_lt hq (by omega)), f5, Option.bind_some, ml_ones, Option.bind_some, N1, if_neg (ck40 hj (by omega)), cl40 hj (by omega)]
      show some (Sum.inr (Sum.inr (kf (p_A Y) i V (p_rv Y j) n k, nI k, (if ab_ones (ab_who (ab_it (ab_set (p_A Y) i (V k)) 0 q) 0) = σ5.1 (mm_R G m 1) (40 * j + q) then if (if ft (ab_set (p_A Y) i (V k)) (p_rv Y j) q then (1 : Int32) else 0) = 0 then 0 else 1 else 0), nI q + 1, σ5))) = _
      rw [m5.1 _ n17, m4.1 _ n17, (hc.1 j hj).2 q (by rw [es]; exact nI_lt hq (by omega)) (by omega), nI_1]
      have e : ft (ab_set (p_A Y) i (V k)) (p_rv Y j) (q + 1) = (ft (ab_set (p_A Y) i (V k)) (p_rv Y j) q && decide (ab_ones (ab_who (ab_it (ab_set (p_A Y) i (V k)) 0 q) 0) = p_rv Y j q)) := rfl
      rw [e]
      by_cases c : ab_ones (ab_who (ab_it (ab_set (p_A Y) i (V k)) 0 q) 0) = p_rv Y j q
      · rw [if_pos c, decide_eq_true c, Bool.and_true]
        cases ft (ab_set (p_A Y) i (V k)) (p_rv Y j) q <;> rfl
      · rw [if_neg c, decide_eq_false c, Bool.and_false]; rfl) (Sum.inr (kf (p_A Y) i V (p_rv Y j) n k, nI k, 1, nI 0, mm_up σ2 (mm_R G m 7) (b + i) (nI k))) ⟨_, rfl, r3, m3⟩
    refine ⟨Sum.inl (kf (p_A Y) i V (p_rv Y j) n (k + 1), nI (k + 1), σ4), ?_, σ4, rfl, m4⟩
    rw [mm_lim_go (show fX4_fitting_s G m (nI b) (nI L) (nI i) (nI j) (Sum.inl (kf (p_A Y) i V (p_rv Y j) n k, nI k, σ1)) = some (.inr (.inr (kf (p_A Y) i V (p_rv Y j) n k, nI k, 1, nI 0, mm_up σ2 (mm_R G m 7) (b + i) (nI k)))) from by
      show fX4_fitting_b6 G m (nI b) (nI L) (nI i) (nI j) _ (nI k) σ1 = _
      unfold fX4_fitting_b6
      rw [if_neg (nI_nlt (show k ≤ L by omega) (by omega)), f2, Option.bind_some, nI_add, M7, nI_clamp (by omega : b + i < 2 ^ 31), if_neg (kcn hb)]
      rfl), l4]
    refine mm_lim_go ?_
    show fX4_fitting_b39 G m (nI b) (nI L) (nI i) (nI j) _ (nI k) _ (nI n) σ4 = _
    unfold fX4_fitting_b39 fX4_fitting_b110
    rw [N0, nI_clamp (by omega : j < 2 ^ 31), if_neg (ck_n hj (by omega)), m4.1 _ n07, (hc.1 j hj).1, es, if_neg Int32.lt_irrefl, nI_1, kf_s]
    cases ft (ab_set (p_A Y) i (V k)) (p_rv Y j) n with
    | true => rfl
    | false =>
      show some (Sum.inr (Sum.inl (kf (p_A Y) i V (p_rv Y j) n k ||| 0, nI (k + 1), σ4))) = _
      rw [or0]; rfl) (Sum.inl (0, nI 0, σ)) ⟨σ, rfl, mm_sm_rf _ _⟩
  refine ⟨σ1, ?_, m1⟩
  unfold fX4_fitting fX4_fitting_b0
  rw [mm_run_go]
  show mm_lim _ (Sum.inl ((0 : Int32), nI 0, σ)) = _
  rw [l1]
  refine mm_lim_ret ?_
  show fX4_fitting_b6 G m (nI b) (nI L) (nI i) (nI j) _ (nI (L + 1)) σ1 = _
  unfold fX4_fitting_b6
  rw [if_pos (nI_lt (Nat.lt_succ_self L) (by omega))]
theorem ml_kset {σ : mm_M} {c i k : Nat} {A : ab_A} (hn : a_n A ≤ 7) (hi : i < a_n A) (h : rM σ c A 0) : rM (mm_up σ c (33 + i) (nI k)) c (ab_set A i (s_kind (a_st A i) (nI k))) 0 := ml_set hn hi h (by
  rw [← h.2.2.2.2.2.2 i hi]
  unfold ms
  rw [mm_gs, mm_gk (show 4 + i ≠ 33 + i by omega), mm_gk (show 11 + i ≠ 33 + i by omega), mm_gk (show 40 + i ≠ 33 + i by omega), mm_gk (show 18 + i ≠ 33 + i by omega), mm_gk (show 25 + i ≠ 33 + i by omega)]
  rfl) (fun j _ _ _ _ h33 _ => mm_gk h33)
theorem ml_fset {σ : mm_M} {c i k : Nat} {A : ab_A} (hn : a_n A ≤ 7) (hi : i < a_n A) (h : rM σ c A 0) : rM (mm_up σ c (4 + i) (nI k)) c (ab_set A i (s_first (a_st A i) (nI k))) 0 := ml_set hn hi h (by
  rw [← h.2.2.2.2.2.2 i hi]
  unfold ms
  rw [mm_gk (show 33 + i ≠ 4 + i by omega), mm_gk (show 11 + i ≠ 4 + i by omega), mm_gk (show 40 + i ≠ 4 + i by omega), mm_gk (show 18 + i ≠ 4 + i by omega), mm_gk (show 25 + i ≠ 4 + i by omega), mm_gs]
  rfl) (fun j h4 _ _ _ _ _ => mm_gk h4)
theorem ml_kinds (gm : gM G m cd) (ok : okP Y) {i j n : Nat} (hi : i < a_n (p_A Y)) (hj : j < 6) (hn : n ≤ 20) (es : p_rs Y j = nI n) {σ : mm_M} (hc : MR G m σ Y) : ∃ σ', fX4_fitting G m 33 5 (nI i) (nI j) σ = some (kf (p_A Y) i (fun k => s_kind (a_st (p_A Y) i) (nI k)) (p_rv Y j) n 6, σ') ∧ mm_sm (fun q => q = mm_R G m 7) σ σ' := by
  have hn7 := (okP_n ok).2
  exact ml_fit gm ok (b := 33) (L := 5) (fun k => s_kind (a_st (p_A Y) i) (nI k)) hi hj hn (by decide) (by omega) es (fun σ k h => ml_kset hn7 hi h) (fun N k hk h => s_kind_ok h hk) hc
theorem J_kinds (gx : gX G x cd) (gm : gM G m cd) (ok : okP Y) (i r : Int32) : Jc G x m cd (fX3_kinds G x i r) (fX4_kinds G m i r) Y := by
  obtain ⟨n57, M5, M7, q7⟩ := gM_57 gm
  refine J_watch gx gm ok i r (fun σ v σ' e hv => ?_) (fun σ e => ?_) (fun σ e1 e2 => ?_) (fun σ k σ' e1 e2 e3 hk e4 => ?_) (fun k j n ei hk er hj es h1 hn hval gc gmm => ?_)
  · unfold fX3_kinds
    rw [e, Option.bind_some, if_neg (show ¬ (v, σ').1 = 0 from hv)]
  · unfold fX4_kinds
    rw [e]; rfl
  · unfold fX4_kinds
    rw [e1, Option.bind_some, if_neg (n01 σ), e2]; rfl
  · unfold fX4_kinds
    rw [e1, Option.bind_some, if_neg (n01 σ), e2, Option.bind_some, if_neg (n01 σ), e3, Option.bind_some, if_neg (show ¬ (k, σ).1 = 0 from hk), be]
    exact e4
  · refine J_try gx gm ok (kf (p_A Y) k (fun q => s_kind (a_st (p_A Y) k) (nI q)) (p_rv Y j) n 6) (fun σ hc => ?_) (fun σ hc => ?_)
    · obtain ⟨σ', f, s⟩ := cx_kinds gx ok hk hj hn es hc
      refine ⟨σ', ?_, mm_sm_mono s (ic8_q gx)⟩
      unfold fX3_kinds
      rw [gc σ hc, Option.bind_some, if_pos (show ((0 : Int32), σ).1 = 0 from rfl), be, ei, er]
      exact f
    · obtain ⟨σ', f, s⟩ := ml_kinds gm ok hk hj hn es hc
      obtain ⟨g1, g2, g3⟩ := gmm σ hc
      refine ⟨σ', ?_, mm_sm_mono s (fun b q => by rw [q]; exact q7)⟩
      unfold fX4_kinds
      rw [g1, Option.bind_some, if_neg (n01 σ), g2, Option.bind_some, if_neg (n01 σ), g3, Option.bind_some, if_pos (show ((0 : Int32), σ).1 = 0 from rfl), be, ei, er]
      exact f
theorem J_firsts (gx : gX G x cd) (gm : gM G m cd) (ok : okP Y) (i r : Int32) : Jc G x m cd (fX3_firsts G x i r) (fX4_firsts G m i r) Y := by
  obtain ⟨n57, M5, M7, q7⟩ := gM_57 gm
  refine J_watch gx gm ok i r (fun σ v σ' e hv => ?_) (fun σ e => ?_) (fun σ e1 e2 => ?_) (fun σ k σ' e1 e2 e3 hk e4 => ?_) (fun k j n ei hk er hj es h1 hn hval gc gmm => ?_)
  · unfold fX3_firsts fX3_firsts_b0
    rw [e, Option.bind_some, if_neg (show ¬ (v, σ').1 = 0 from hv)]; rfl
  · unfold fX4_firsts
    rw [e]; rfl
  · unfold fX4_firsts
    rw [e1, Option.bind_some, if_neg (n01 σ), e2]; rfl
  · unfold fX4_firsts
    rw [e1, Option.bind_some, if_neg (n01 σ), e2, Option.bind_some, if_neg (n01 σ), e3, Option.bind_some, if_neg (show ¬ (k, σ).1 = 0 from hk), be]
    exact e4
  · subst ei
    subst er
    refine J_try gx gm ok (kf (p_A Y) k (fun q => s_first (a_st (p_A Y) k) (nI q)) (p_rv Y j) n 10) (fun σ hc => ?_) (fun σ hc => ?_)
    · obtain ⟨t, ht, et, ho, hlt⟩ := okP_A ok
      have hn7 := ho.1
      obtain ⟨N0, N1, N00, i1, i0⟩ := gX_row gx hj
      obtain ⟨s, l1, σ1, rfl, m1⟩ := mm_loop (f := fX3_firsts_s G x (nI k) (nI j)) (fun q s => ∃ σ', s = (kf (p_A Y) k (fun q => s_first (a_st (p_A Y) k) (nI q)) (p_rv Y j) n q, nI q, σ') ∧ mm_sm (ic G (mm_R G x 8)) σ σ') 10 (fun q s hq hI => by
        obtain ⟨σ1, rfl, m1⟩ := hI
        obtain ⟨σ2, f2, r2, m2⟩ := cx_aside gx ok (x5_sm gx ok m1 hc.2.2.1)
        have m3 : mm_sm (ic G (mm_R G x 8)) σ (mm_up σ2 (sa G (mm_R G x 8) k) 1 (nI q)) := mm_sm_tr m1 (mm_sm_up m2 (Or.inr ⟨k, by omega, rfl⟩))
        have r3 : rA G (mm_up σ2 (sa G (mm_R G x 8) k) 1 (nI q)) (mm_R G x 8) (ab_set (p_A Y) k (s_first (a_st (p_A Y) k) (nI q))) := ca_set (gX_ga8 gx) r2 hn7 hk (by rw [← r2.2.2.2.2.2 k hk]; simp [so, mm_up, s_first]) (mm_sm_up (mm_sm_rf _ _) rfl)
        obtain ⟨σ4, f4, m4⟩ := cx_fit gx hj hn (show t ≤ 200 by omega) (ab_set_ok ho (s_first_ok (ho.2.2.2 k hk) (by omega))) (f := p_rv Y j) (by rw [m3.1 _ i1, (hc.1 j hj).1]; exact es) (fun q hq => by rw [m3.1 _ i0]; exact (hc.1 j hj).2 q (by rw [es]; exact nI_lt hq (by omega)) (by omega)) r3
        refine ⟨(kf (p_A Y) k (fun q => s_first (a_st (p_A Y) k) (nI q)) (p_rv Y j) n (q + 1), nI (q + 1), σ4), mm_lim_go ?_, σ4, rfl, mm_sm_tr m3 m4⟩
        show fX3_firsts_b19 G x (nI k) (nI j) _ (nI q) σ1 = _
        unfold fX3_firsts_b19
        rw [if_pos (show nI q < (10 : Int32) from nI_lt hq (by decide)), f2, Option.bind_some, (gX_ga8 gx).1, nI_clamp (by omega : k < 2 ^ 31), if_neg (ck_n (by omega) (by omega))]
        show (fX3_asideFits G x (nI j) (mm_up σ2 (sa G (mm_R G x 8) k) 1 (nI q))).bind _ = _
        rw [f4, Option.bind_some, kf_s, nI_1]
        cases ft (ab_set (p_A Y) k (s_first (a_st (p_A Y) k) (nI q))) (p_rv Y j) n <;> rfl) (0, nI 0, σ) ⟨σ, rfl, mm_sm_rf _ _⟩
      refine ⟨σ1, ?_, mm_sm_mono m1 (ic8_q gx)⟩
      unfold fX3_firsts fX3_firsts_b0
      rw [gc σ hc, Option.bind_some, if_pos (show ((0 : Int32), σ).1 = 0 from rfl), mm_run_go]
      show mm_lim _ ((0 : Int32), nI 0, σ) = _
      rw [l1]
      refine mm_lim_ret ?_
      show fX3_firsts_b19 G x (nI k) (nI j) _ (nI 10) σ1 = _
      unfold fX3_firsts_b19
      rw [if_neg (show ¬ nI 10 < (10 : Int32) by decide)]
    · have hn7 := (okP_n ok).2
      obtain ⟨σ', f, s⟩ := ml_fit gm ok (b := 4) (L := 9) (fun q => s_first (a_st (p_A Y) k) (nI q)) hk hj hn (by decide) (by omega) es (fun σ q h => ml_fset hn7 hk h) (fun N q hq h => s_first_ok h hq) hc
      obtain ⟨g1, g2, g3⟩ := gmm σ hc
      refine ⟨σ', ?_, mm_sm_mono s (fun b q => by rw [q]; exact q7)⟩
      unfold fX4_firsts
      rw [g1, Option.bind_some, if_neg (n01 σ), g2, Option.bind_some, if_neg (n01 σ), g3, Option.bind_some, if_pos (show ((0 : Int32), σ).1 = 0 from rfl), be]
      exact f
end WA
