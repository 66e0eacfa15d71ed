/-! keep, on -/
theorem rF_congr {f g : Nat → Int32} {A : ab_A} {z : Int32} (hn : a_n A ≤ 7) (h : ∀ k, k < 48 → f k = g k) (hr : rF g A z) : rF f A z := by
  obtain ⟨h1, h2, h3, h4, h5, h6, hs⟩ := hr
  refine ⟨(h _ (by omega)).trans h1, (h _ (by omega)).trans h2, (h _ (by omega)).trans h3, (h _ (by omega)).trans h4, (h _ (by omega)).trans h5, (h _ (by omega)).trans h6, fun i hi => ?_⟩
  rw [← hs i hi]
  unfold msF
  rw [h (33 + i) (by omega), h (4 + i) (by omega), h (40 + i) (by omega), h (11 + i) (by omega), h (18 + i) (by omega), h (25 + i) (by omega)]
section KE
variable {G : mm_G} {x m : Nat} {cd : Nat → Nat} {Y : Ps}
def y_kept (Y : Ps) (K : Nat → Option (List p_Dd)) : Ps := (p_rs Y, p_rv Y, p_ts Y, p_tv Y, p_B Y, p_D Y, K, p_as Y, p_up Y, p_lo Y, p_fi Y, p_fo Y)
theorem CR_6 {σ σ' : mm_M} {K : Nat → Option (List p_Dd)} (g : gX G x cd) (ok : okP Y) (h : ∀ i b, 1 ≤ i → ¬ i = 6 → i ≤ 8 → rg cd i b → σ'.1 b = σ.1 b) (h2 : σ'.2 x = σ.2 x) (hc : CR G x σ Y) (hk : c_kept G x σ' (y_kept Y K)) : CR G x σ' (y_kept Y K) :=
  ⟨fr_rows g (fun b => h 1 b (by decide) (by decide) (by decide)) (show c_rows G x σ (y_kept Y K) from hc.1), fr_text g (fun b => h 2 b (by decide) (by decide) (by decide)) (show c_text G x σ (y_kept Y K) from hc.2.1), fr_air (fun b hb => gX_ic5 g hb) (okP_n ok).2 (fun b => h 3 b (by decide) (by decide) (by decide)) (show c_now G x σ (y_kept Y K) from hc.2.2.1), fr_air (fun b hb => gX_ic4 g hb) (okP_n ok).1 (fun b => h 4 b (by decide) (by decide) (by decide)) (show c_start G x σ (y_kept Y K) from hc.2.2.2.1), fr_deeds g (fun b => h 5 b (by decide) (by decide) (by decide)) (show c_deeds G x σ (y_kept Y K) from hc.2.2.2.2.1), hk, fr_told g (fun b => h 7 b (by decide) (by decide) (by decide)) h2 (show c_told x σ (y_kept Y K) from hc.2.2.2.2.2.2.1), fr_found g (fun b => h 8 b (by decide) (by decide) (by decide)) (show c_found G x σ (y_kept Y K) from hc.2.2.2.2.2.2.2)⟩
theorem MR_6 {σ σ' : mm_M} {K : Nat → Option (List p_Dd)} (g : gM G m cd) (h : ∀ i b, 20 ≤ i → ¬ i = 31 → ¬ i = 32 → ¬ i = 33 → rg cd i b → σ'.1 b = σ.1 b) (h2 : σ'.2 m = σ.2 m) (hc : MR G m σ Y) (hk : m_kept G m σ' (y_kept Y K)) : MR G m σ' (y_kept Y K) :=
  ⟨fm_rows g (fun b => h 21 b (by decide) (by decide) (by decide) (by decide)) (fun b => h 22 b (by decide) (by decide) (by decide) (by decide)) (show m_rows G m σ (y_kept Y K) from hc.1), fm_text g (fun b => h 24 b (by decide) (by decide) (by decide) (by decide)) (fun b => h 25 b (by decide) (by decide) (by decide) (by decide)) (show m_text G m σ (y_kept Y K) from hc.2.1), fm_now g (fun b => h 26 b (by decide) (by decide) (by decide) (by decide)) (show m_now G m σ (y_kept Y K) from hc.2.2.1), fm_deeds g (fun b => h 20 b (by decide) (by decide) (by decide) (by decide)) (fun b => h 30 b (by decide) (by decide) (by decide) (by decide)) (show m_deeds G m σ (y_kept Y K) from hc.2.2.2.1), hk, fm_told g (fun b => h 20 b (by decide) (by decide) (by decide) (by decide)) h2 (show m_told m σ (y_kept Y K) from hc.2.2.2.2.2.1), fm_found g (fun b => h 34 b (by decide) (by decide) (by decide) (by decide)) (show m_found G m σ (y_kept Y K) from hc.2.2.2.2.2.2)⟩
theorem cx_kept1 {j : Nat} (h : j < 3) (σ : mm_M) : fX3_isKept G (nI j) σ = some (1, σ) := by
  have e : (if nI j < 0 then (0 : Int32) else if nI j < 3 then 1 else 0) = 1 := by rw [if_neg (nI_pos (by omega)), if_pos (show nI j < (3 : Int32) from nI_lt h (by decide))]
  unfold fX3_isKept
  rw [e]; rfl
theorem cx_kept0 {r : Int32} (h : r < 0 ∨ nI 3 ≤ r) (σ : mm_M) : fX3_isKept G r σ = some (0, σ) := by
  have e : (if r < 0 then (0 : Int32) else if r < 3 then 1 else 0) = 0 := by
    by_cases h0 : r < 0
    · rw [if_pos h0]
    · rw [if_neg h0, if_neg (show ¬ r < (3 : Int32) from Int32.not_lt.mpr (h.resolve_left h0))]
  unfold fX3_isKept
  rw [e]; rfl
theorem ml_kept0 {r : Int32} (h : r < 0 ∨ nI 3 ≤ r) (σ : mm_M) : fX4_in G r 0 2 σ = some (0, σ) := by
  rw [ml_in]
  by_cases h0 : r < 0
  · rw [if_pos h0]
  · rw [if_neg h0, if_pos (show (2 : Int32) < r from Int32.lt_of_lt_of_le (by decide) (h.resolve_left h0))]
theorem ml_kept1 {j : Nat} (h : j < 3) (σ : mm_M) : fX4_in G (nI j) 0 2 σ = some (1, σ) := by
  rw [ml_in, if_neg (nI_pos (by omega)), if_neg (show ¬ (2 : Int32) < nI j from nI_nlt (show j ≤ 2 by omega) (by decide))]
theorem cx_bec {a b : Nat} (ha : mm_N G (mm_R G a 0) = 40) (hb : mm_N G (mm_R G b 0) = 40) (hne : b ≠ mm_R G a 0) (σ : mm_M) : fX1_become G a b σ = some (mm_up (mm_cpy σ (mm_R G b 0) (mm_R G a 0) 0 0 40) a 1 (σ.1 b 1)) := by
  unfold fX1_become
  rw [ha, hb, if_neg (by decide)]
  show some (mm_up (mm_cpy σ (mm_R G b 0) (mm_R G a 0) 0 0 40) a 1 ((mm_cpy σ (mm_R G b 0) (mm_R G a 0) 0 0 40).1 b 1)) = _
  rw [cpy_ne hne]
theorem J_keep (gx : gX G x cd) (gm : gM G m cd) (ok : okP Y) (v : Int32) : Jc G x m cd (fX3_keep G x v) (fX4_keep G m v) Y := by
  obtain ⟨-, e0, -, -, -, -, -, ⟨e26, eN5⟩, -, -, -, ⟨e30, eN9⟩, ⟨e31, eN11⟩, ⟨e32, eN12⟩, ⟨e33, eN13⟩, -⟩ := id gm
  obtain ⟨-, ex, -, -, -, -, -, -, ⟨e6, e60, eN6⟩, ⟨eN7, e7⟩, -⟩ := id gx
  have hl40 := okP_D40 ok
  rcases pk_ix v (n := 3) (by omega) with hi | hi | ⟨k, hk, rfl⟩
  · exact J_same (-1) ok (fun σ hc => by unfold fX3_keep; rw [cx_kept0 (Or.inl hi)]; rfl) (fun σ hc => by unfold fX4_keep fX4_keep_b0; rw [ml_kept0 (Or.inl hi)]; rfl)
  · exact J_same (-1) ok (fun σ hc => by unfold fX3_keep; rw [cx_kept0 (Or.inr hi)]; rfl) (fun σ hc => by unfold fX4_keep fX4_keep_b0; rw [ml_kept0 (Or.inr hi)]; rfl)
  · by_cases hz : a_n (p_A Y) = 0
    · refine J_same (-4) ok (fun σ hc => ?_) (fun σ hc => ?_)
      · unfold fX3_keep
        rw [cx_kept1 hk, Option.bind_some, if_neg (n01 σ), if_pos (show σ.1 (mm_R G x 5) 1 = 0 by rw [hc.2.2.1.1, hz]; rfl)]
      · unfold fX4_keep fX4_keep_b0
        rw [ml_kept1 hk, Option.bind_some, if_neg (n01 σ), eN5, tc32, if_neg kc32, if_pos (show σ.1 (mm_R G m 5) 32 = 0 by rw [hc.2.2.1.1, hz]; rfl)]
        rfl
    · have hn7 := (okP_n ok).2
      have hnz : ¬ nI (a_n (p_A Y)) = 0 := nI_ne0 (by omega) (by omega)
      obtain ⟨a1, a2, a3⟩ := e7 k hk
      refine ⟨nI (p_D Y).length, y_kept Y (fun j => if j = k then some (p_D Y) else p_K Y j), ?_, fun σ hc => ?_, fun σ hc => ?_⟩
      · refine ⟨ok.1, ok.2.1, ok.2.2.1, ok.2.2.2.1, fun j hj L hL => ?_, fun h0 => ?_⟩
        · have hL' : (if j = k then some (p_D Y) else p_K Y j) = some L := hL
          by_cases h : j = k
          · rw [if_pos h] at hL'
            cases hL'
            exact ok.2.2.2.1
          · rw [if_neg h] at hL'
            exact ok.2.2.2.2.1 j hj L hL'
        · exact absurd (show a_n (p_A Y) = 0 by rw [show a_n (p_A Y) = a_n (p_B Y) from ab_acts_n _ _]; exact h0) hz
      · refine ⟨mm_up (mm_cpy σ (mm_R G (mm_R G x 6) 0) (mm_R G (mm_R G (mm_R G x 7) k) 0) 0 0 40) (mm_R G (mm_R G x 7) k) 1 (σ.1 (mm_R G x 6) 1), ?_, CR_6 (σ := σ) gx ok (fun i b _ h6 _ hb => ?_) rfl hc (fun j hj => ?_), ?_⟩
        · unfold fX3_keep
          rw [cx_kept1 hk, Option.bind_some, if_neg (n01 σ), if_neg (show ¬ σ.1 (mm_R G x 5) 1 = 0 by rw [hc.2.2.1.1]; exact hnz), eN7, nI_clamp (by omega : k < 2 ^ 31), if_neg (ck_n hk (by omega)), cx_bec a3 eN6 (fun e => by rw [e] at e6; omega), Option.bind_some, mm_ga (fun e => by rw [← e] at a1; omega), cpy_ne (fun e => by rw [e] at e6; omega), hc.2.2.2.2.1.1]
        · unfold rg at hb
          rw [mm_ga (fun e => by rw [e] at hb; omega), cpy_ne (fun e => by rw [e] at hb; omega)]
        · obtain ⟨b1, b2, b3⟩ := e7 j hj
          by_cases h : j = k
          · subst h
            show match (if j = j then some (p_D Y) else p_K Y j) with
              | none => _
              | some L => _
            rw [if_pos rfl]
            refine ⟨by rw [mm_gs]; exact hc.2.2.2.2.1.1, fun q hq => ?_⟩
            rw [mm_ga (fun e => by rw [e] at b2; omega), cpy_at, if_pos (by omega), Nat.zero_add, Nat.sub_zero]
            exact hc.2.2.2.2.1.2 q hq
          · show match (if j = k then some (p_D Y) else p_K Y j) with
              | none => _
              | some L => _
            rw [if_neg h]
            have hold := hc.2.2.2.2.2.1 j hj
            unfold c_list at hold ⊢
            rw [mm_ga (show mm_R G (mm_R G x 7) j ≠ mm_R G (mm_R G x 7) k from fun e => by rw [e] at b1; omega), cpy_ne (show mm_R G (mm_R G x 7) j ≠ mm_R G (mm_R G (mm_R G x 7) k) 0 from fun e => by rw [e] at b1; omega), mm_ga (show mm_R G (mm_R G (mm_R G x 7) j) 0 ≠ mm_R G (mm_R G x 7) k from fun e => by rw [e] at b2; omega), cpy_ne (show mm_R G (mm_R G (mm_R G x 7) j) 0 ≠ mm_R G (mm_R G (mm_R G x 7) k) 0 from fun e => by rw [e] at b2; omega)]
            exact hold
        · exact (mm_sm_up (mm_sm_mono (cpy_sm _ _ _ _ _ _) (fun b q => by unfold rX; rw [q]; omega)) (show rX cd _ by unfold rX; omega)).sn
      · have hfor1 := mm_for (f := fX4_keep_s G m (nI k)) (fun i => Sum.inl (nI i, mm_cpy σ (mm_R G m 5) (mm_R G m 11) 0 (48 * k) i)) 48 (fun i hi => by
          show fX4_keep_b26 G m (nI k) (nI i) _ = _
          unfold fX4_keep_b26
          have ei : (48 : Int32) * nI k + nI i = nI (48 * k + i) := by rw [show (48 : Int32) = nI 48 from rfl, pk_mul, nI_add]
          rw [if_pos (show nI i < (48 : Int32) from nI_lt hi (by decide)), ei, eN5, nI_clamp (by omega : i < 2 ^ 31), if_neg (ck_n (by omega) (by omega)), eN11, nI_clamp (by omega : 48 * k + i < 2 ^ 31), if_neg (ck_n (by omega) (by omega)), nI_1, ← cpy_s (fun e => by rw [e] at e26; omega), Nat.zero_add])
        rw [cpy_0] at hfor1
        generalize hσ1 : mm_cpy σ (mm_R G m 5) (mm_R G m 11) 0 (48 * k) 48 = σ1 at hfor1
        have hfor2 := mm_for (f := fX4_keep_s G m (nI k)) (fun i => Sum.inr (nI i, mm_cpy σ1 (mm_R G m 9) (mm_R G m 12) 0 (1280 * k) i)) 1280 (fun i hi => by
          show fX4_keep_b57 G m (nI k) (nI i) _ = _
          unfold fX4_keep_b57
          have ei : Int32.ofNat 1280 * nI k + nI i = nI (1280 * k + i) := by rw [show Int32.ofNat 1280 = nI 1280 from rfl, pk_mul, nI_add]
          rw [eN9, if_pos (show nI i < Int32.ofNat 1280 from nI_lt hi (by decide)), ei, nI_clamp (by omega : i < 2 ^ 31), if_neg (ck_n (by omega) (by omega)), eN12, nI_clamp (by omega : 1280 * k + i < 2 ^ 31), if_neg (ck_n (by omega) (by omega)), nI_1, ← cpy_s (fun e => by rw [e] at e30; omega), Nat.zero_add])
        rw [cpy_0] at hfor2
        generalize hσ2 : mm_cpy σ1 (mm_R G m 9) (mm_R G m 12) 0 (1280 * k) 1280 = σ2 at hfor2
        have s1 : mm_sm (fun b => b = mm_R G m 11) σ σ1 := by rw [← hσ1]; exact cpy_sm _ _ _ _ _ _
        have s2 : mm_sm (fun b => b = mm_R G m 12) σ1 σ2 := by rw [← hσ2]; exact cpy_sm _ _ _ _ _ _
        have hm10 : σ2.1 m 10 = nI (p_D Y).length := by
          rw [s2.1 m (fun e => by rw [← e] at e32; omega), s1.1 m (fun e => by rw [← e] at e31; omega)]
          exact hc.2.2.2.1.1
        have hm13 : σ2.1 (mm_R G m 13) = σ.1 (mm_R G m 13) := by rw [s2.1 _ (fun e => by rw [e] at e33; omega), s1.1 _ (fun e => by rw [e] at e33; omega)]
        have n12 : mm_R G m 12 ≠ mm_R G m 13 := fun e => by rw [e] at e32; omega
        have n11 : mm_R G m 11 ≠ mm_R G m 13 := fun e => by rw [e] at e31; omega
        have v12 : ∀ q, σ2.1 (mm_R G m 12) q = if 1280 * k ≤ q ∧ q < 1280 * k + 1280 then σ.1 (mm_R G m 9) (q - 1280 * k) else σ.1 (mm_R G m 12) q := by
          intro q
          rw [← hσ2, cpy_at, s1.1 _ (fun e => by rw [e] at e30; omega), s1.1 _ (fun e => by rw [e] at e32; omega), Nat.zero_add]
        have v11 : ∀ q, σ2.1 (mm_R G m 11) q = if 48 * k ≤ q ∧ q < 48 * k + 48 then σ.1 (mm_R G m 5) (q - 48 * k) else σ.1 (mm_R G m 11) q := by
          intro q
          rw [s2.1 _ (fun e => by rw [e] at e31; omega), ← hσ1, cpy_at, Nat.zero_add]
        refine ⟨mm_up σ2 (mm_R G m 13) k (σ2.1 m 10), ?_, MR_6 (σ := σ) gm (fun i b _ h31 h32 h33 hb => ?_) (by rw [mm_g2, s2.2, s1.2]) hc (fun j hj => ?_), ?_⟩
        · unfold fX4_keep
          rw [show fX4_keep_b0 G m (nI k) σ = some (.inr (.inl (nI 0, σ))) from by
            unfold fX4_keep_b0
            rw [ml_kept1 hk, Option.bind_some, if_neg (n01 σ), eN5, tc32, if_neg kc32, if_neg (show ¬ σ.1 (mm_R G m 5) 32 = 0 by rw [hc.2.2.1.1]; exact hnz)]
            rfl, mm_run_go, hfor1, mm_lim_go (show fX4_keep_s G m (nI k) (Sum.inl (nI 48, σ1)) = some (.inr (.inr (nI 0, σ1))) from by
            show fX4_keep_b26 G m (nI k) (nI 48) σ1 = _
            unfold fX4_keep_b26
            rw [if_neg (by decide)]
            rfl), hfor2]
          refine mm_lim_ret ?_
          show fX4_keep_b57 G m (nI k) (nI 1280) σ2 = _
          unfold fX4_keep_b57
          rw [eN9, if_neg (show ¬ nI 1280 < Int32.ofNat 1280 by decide), eN13, nI_clamp (by omega : k < 2 ^ 31), if_neg (ck_n hk (by omega)), mm_ga (fun e => by rw [← e] at e33; omega), hm10]
        · unfold rg at hb
          rw [mm_ga (fun e => by rw [e] at hb; omega), s2.1 b (fun e => by rw [e] at hb; omega), s1.1 b (fun e => by rw [e] at hb; omega)]
        · by_cases h : j = k
          · subst h
            show match (if j = j then some (p_D Y) else p_K Y j) with
              | none => _
              | some L => _
            rw [if_pos rfl]
            refine ⟨by rw [mm_gs, hm10], fun q hq => ?_, ?_⟩
            · refine pR_congr (by rw [ab_acts_n]; exact (okP_n ok).1) (fun r hr => ?_) (hc.2.2.2.1.2 q hq)
              show (mm_up σ2 (mm_R G m 13) j (σ2.1 m 10)).1 (mm_R G m 12) (1280 * j + 32 * q + r) = σ.1 (mm_R G m 9) (0 + 32 * q + r)
              rw [mm_ga n12, v12, if_pos (by omega), show 1280 * j + 32 * q + r - 1280 * j = 0 + 32 * q + r by omega]
            · refine rF_congr (okP_n ok).2 (fun r hr => ?_) hc.2.2.1
              show (mm_up σ2 (mm_R G m 13) j (σ2.1 m 10)).1 (mm_R G m 11) (48 * j + r) = σ.1 (mm_R G m 5) r
              rw [mm_ga n11, v11, if_pos (by omega), show 48 * j + r - 48 * j = r by omega]
          · show match (if j = k then some (p_D Y) else p_K Y j) with
              | none => _
              | some L => _
            rw [if_neg h, mm_gk h, hm13]
            have hold := hc.2.2.2.2.1 j hj
            have okL' := ok.2.2.2.2.1 j hj
            cases hK : p_K Y j with
            | none => rw [hK] at hold; exact hold
            | some L =>
              rw [hK] at hold
              have hL := okL' L hK
              obtain ⟨o1, o2, o3⟩ := hold
              refine ⟨o1, fun q hq => ?_, ?_⟩
              · refine pR_congr (by rw [ab_acts_n]; exact (okP_n ok).1) (fun r hr => ?_) (o2 q hq)
                show (mm_up σ2 (mm_R G m 13) k (σ2.1 m 10)).1 (mm_R G m 12) (1280 * j + 32 * q + r) = σ.1 (mm_R G m 12) (1280 * j + 32 * q + r)
                have := hL.1
                rw [mm_ga n12, v12, if_neg (by omega)]
              · refine rF_congr (by rw [ab_acts_n]; exact (okP_n ok).1) (fun r hr => ?_) o3
                show (mm_up σ2 (mm_R G m 13) k (σ2.1 m 10)).1 (mm_R G m 11) (48 * j + r) = σ.1 (mm_R G m 11) (48 * j + r)
                rw [mm_ga n11, v11, if_neg (by omega)]
        · exact (mm_sm_up (mm_sm_tr (mm_sm_mono s1 (fun b q => by unfold rY; rw [q]; omega)) (mm_sm_mono s2 (fun b q => by unfold rY; rw [q]; omega))) (show rY cd _ by unfold rY; omega)).sn
theorem J_on (gx : gX G x cd) (gm : gM G m cd) (ok : okP Y) (v : Int32) : Jc G x m cd (fX3_on G x v) (fX4_on G m v) Y := by
  obtain ⟨-, e0, -, -, -, -, -, ⟨e26, eN5⟩, -, -, -, ⟨e30, eN9⟩, ⟨e31, eN11⟩, ⟨e32, eN12⟩, ⟨e33, eN13⟩, -⟩ := id gm
  obtain ⟨-, ex, -, -, -, -, -, -, ⟨e6, e60, eN6⟩, ⟨eN7, e7⟩, -⟩ := id gx
  rcases pk_ix v (n := 3) (by omega) with hi | hi | ⟨k, hk, rfl⟩
  · exact J_same (-1) ok (fun σ hc => by unfold fX3_on; rw [cx_kept0 (Or.inl hi)]; rfl) (fun σ hc => by unfold fX4_on fX4_on_b0; rw [ml_kept0 (Or.inl hi)]; rfl)
  · exact J_same (-1) ok (fun σ hc => by unfold fX3_on; rw [cx_kept0 (Or.inr hi)]; rfl) (fun σ hc => by unfold fX4_on fX4_on_b0; rw [ml_kept0 (Or.inr hi)]; rfl)
  · obtain ⟨a1, a2, a3⟩ := e7 k hk
    have cs : ∀ σ, CR G x σ Y → fX3_on G x (nI k) σ = if σ.1 (mm_R G (mm_R G x 7) k) 1 = -1 then fX3_found G x 1 σ else (fX3_goOnFromStart G x (mm_up (mm_cpy σ (mm_R G (mm_R G (mm_R G x 7) k) 0) (mm_R G (mm_R G x 6) 0) 0 0 40) (mm_R G x 6) 1 (σ.1 (mm_R G (mm_R G x 7) k) 1))).bind (fun q42 => some (q42.1 (mm_R G x 6) 1, q42)) := by
      intro σ hc
      unfold fX3_on
      rw [cx_kept1 hk, Option.bind_some, if_neg (n01 σ), eN7, nI_clamp (by omega : k < 2 ^ 31)]
      simp only [if_neg (ck_n hk (show k < 2 ^ 31 by omega)), be, cx_bec eN6 a3 (show mm_R G (mm_R G x 7) k ≠ mm_R G (mm_R G x 6) 0 from fun e => by rw [e] at a1; omega), Option.bind_some]
    cases hK : p_K Y k with
    | none =>
      refine J_fnd gx gm ok 1 (by decide) (by decide) (fun σ hc σ' e => ?_) (fun σ hc σ' e => ?_)
      · have hold := hc.2.2.2.2.2.1 k hk
        rw [hK] at hold
        rw [cs σ hc, if_pos hold]; exact e
      · have hold := hc.2.2.2.2.1 k hk
        rw [hK] at hold
        unfold fX4_on fX4_on_b0
        rw [ml_kept1 hk, Option.bind_some, if_neg (n01 σ), eN13, nI_clamp (by omega : k < 2 ^ 31), if_neg (ck_n hk (by omega))]
        show mm_run (if σ.1 (mm_R G m 13) k < 0 then (fX4_finds G m (nI 1) σ).bind _ else _) _ = _
        rw [show σ.1 (mm_R G m 13) k = -1 from hold, if_pos (by decide), bel e]
        rfl
    | some L =>
      have hL := ok.2.2.2.2.1 k hk L hK
      have hl := hL.1
      refine ⟨nI L.length, y_deed Y L, okP_deed ok hL, fun σ hc => ?_, fun σ hc => ?_⟩
      · have hold := hc.2.2.2.2.2.1 k hk
        rw [hK] at hold
        obtain ⟨o1, o2⟩ := hold
        obtain ⟨σ', f', l', c', s'⟩ := cx_other gx ok hL (σ1 := mm_up (mm_cpy σ (mm_R G (mm_R G (mm_R G x 7) k) 0) (mm_R G (mm_R G x 6) 0) 0 0 40) (mm_R G x 6) 1 (σ.1 (mm_R G (mm_R G x 7) k) 1)) hc (mm_sm_up (mm_sm_mono (cpy_sm _ _ _ _ _ _) (fun b q => by unfold rg; rw [q]; omega)) (show cd (mm_R G x 6) / 100 = 5 by omega)) ⟨by rw [mm_gs]; exact o1, fun j hj => by
          rw [mm_ga (fun e => by rw [e] at e60; omega), cpy_at, if_pos (by omega), Nat.zero_add, Nat.sub_zero]
          exact o2 j hj⟩
        refine ⟨σ', ?_, c', s'⟩
        rw [cs σ hc, if_neg (by rw [o1]; exact nI_ne1 (by omega)), f', Option.bind_some, l']
      · have hold := hc.2.2.2.2.1 k hk
        rw [hK] at hold
        obtain ⟨o1, o2, o3⟩ := hold
        have hfor1 := mm_for (f := fX4_on_s G m (nI k)) (fun i => Sum.inl (nI i, mm_cpy σ (mm_R G m 11) (mm_R G m 5) (48 * k) 0 i)) 48 (fun i hi => by
          show fX4_on_b28 G m (nI k) (nI i) _ = _
          unfold fX4_on_b28
          have ei : (48 : Int32) * nI k + nI i = nI (48 * k + i) := by rw [show (48 : Int32) = nI 48 from rfl, pk_mul, nI_add]
          rw [if_pos (show nI i < (48 : Int32) from nI_lt hi (by decide)), ei, eN5, nI_clamp (by omega : i < 2 ^ 31), eN11, nI_clamp (by omega : 48 * k + i < 2 ^ 31), if_neg (ck_n (by omega) (by omega)), if_neg (ck_n (by omega) (by omega)), nI_1, ← cpy_s (fun e => by rw [e] at e31; omega), Nat.zero_add])
        rw [cpy_0] at hfor1
        generalize hσ1 : mm_cpy σ (mm_R G m 11) (mm_R G m 5) (48 * k) 0 48 = σ1 at hfor1
        have hfor2 := mm_for (f := fX4_on_s G m (nI k)) (fun i => Sum.inr (nI i, mm_cpy σ1 (mm_R G m 12) (mm_R G m 9) (1280 * k) 0 i)) 1280 (fun i hi => by
          show fX4_on_b59 G m (nI k) (nI i) _ = _
          unfold fX4_on_b59
          have ei : Int32.ofNat 1280 * nI k + nI i = nI (1280 * k + i) := by rw [show Int32.ofNat 1280 = nI 1280 from rfl, pk_mul, nI_add]
          rw [eN9, if_pos (show nI i < Int32.ofNat 1280 from nI_lt hi (by decide)), ei, nI_clamp (by omega : i < 2 ^ 31), eN12, nI_clamp (by omega : 1280 * k + i < 2 ^ 31), if_neg (ck_n (by omega) (by omega)), if_neg (ck_n (by omega) (by omega)), nI_1, ← cpy_s (fun e => by rw [e] at e32; omega), Nat.zero_add])
        rw [cpy_0] at hfor2
        generalize hσ2 : mm_cpy σ1 (mm_R G m 12) (mm_R G m 9) (1280 * k) 0 1280 = σ2 at hfor2
        have s1 : mm_sm (fun b => b = mm_R G m 5) σ σ1 := by rw [← hσ1]; exact cpy_sm _ _ _ _ _ _
        have s2 : mm_sm (fun b => b = mm_R G m 9) σ1 σ2 := by rw [← hσ2]; exact cpy_sm _ _ _ _ _ _
        have hm13 : σ2.1 (mm_R G m 13) k = nI L.length := by rw [s2.1 _ (fun e => by rw [e] at e33; omega), s1.1 _ (fun e => by rw [e] at e33; omega)]; exact o1
        have nm5 : mm_R G m 5 ≠ m := fun e => by rw [e] at e26; omega
        have nm9 : mm_R G m 9 ≠ m := fun e => by rw [e] at e30; omega
        refine ⟨mm_up σ2 m 10 (σ2.1 (mm_R G m 13) k), ?_, MR_5 (σ := σ) gm (fun i b _ h26 h30 hb => ?_) (fun j hj => ?_) (by rw [mm_g2, s2.2, s1.2]) hc ?_ ⟨?_, fun q hq => ?_⟩, ?_⟩
        · unfold fX4_on
          rw [show fX4_on_b0 G m (nI k) σ = some (.inr (.inl (nI 0, σ))) from by
            unfold fX4_on_b0
            rw [ml_kept1 hk, Option.bind_some, if_neg (n01 σ), eN13, nI_clamp (by omega : k < 2 ^ 31), if_neg (ck_n hk (by omega)), if_neg (show ¬ σ.1 (mm_R G m 13) k < 0 by rw [o1]; exact nI_pos (by omega))]
            rfl, mm_run_go, hfor1, mm_lim_go (show fX4_on_s G m (nI k) (Sum.inl (nI 48, σ1)) = some (.inr (.inr (nI 0, σ1))) from by
            show fX4_on_b28 G m (nI k) (nI 48) σ1 = _
            unfold fX4_on_b28
            rw [if_neg (by decide)]
            rfl), hfor2]
          refine mm_lim_ret ?_
          show fX4_on_b59 G m (nI k) (nI 1280) σ2 = _
          unfold fX4_on_b59
          rw [eN9, if_neg (show ¬ nI 1280 < Int32.ofNat 1280 by decide), eN13, nI_clamp (by omega : k < 2 ^ 31), if_neg (ck_n hk (by omega)), mm_gs, hm13]
        · unfold rg at hb
          rw [mm_ga (fun e => by rw [e] at hb; omega), s2.1 b (fun e => by rw [e] at hb; omega), s1.1 b (fun e => by rw [e] at hb; omega)]
        · rw [mm_gk hj, s2.1 _ (Ne.symm nm9), s1.1 _ (Ne.symm nm5)]
        · show rF ((mm_up σ2 m 10 (σ2.1 (mm_R G m 13) k)).1 (mm_R G m 5)) (ab_acts (p_B Y) L) 0
          rw [mm_ga nm5, s2.1 _ (fun e => by rw [e] at e26; omega), ← hσ1]
          refine rF_congr (by rw [ab_acts_n]; exact (okP_n ok).1) (fun r hr => ?_) o3
          rw [cpy_at, if_pos (by omega), Nat.sub_zero]
        · rw [mm_gs, hm13]; rfl
        · refine pR_congr (by rw [ab_acts_n]; exact (okP_n ok).1) (fun r hr => ?_) (o2 q hq)
          show (mm_up σ2 m 10 (σ2.1 (mm_R G m 13) k)).1 (mm_R G m 9) (0 + 32 * q + r) = σ.1 (mm_R G m 12) (1280 * k + 32 * q + r)
          have hq' : q < L.length := hq
          rw [mm_ga nm9, ← hσ2, cpy_at, if_pos (by omega), s1.1 _ (fun e => by rw [e] at e32; omega), show 1280 * k + (0 + 32 * q + r - 0) = 1280 * k + 32 * q + r by omega]
        · exact (mm_sm_up (mm_sm_tr (mm_sm_mono s1 (fun b q => by unfold rY; rw [q]; omega)) (mm_sm_mono s2 (fun b q => by unfold rY; rw [q]; omega))) (show rY cd _ by unfold rY; omega)).sn
end KE
