/-! WHAT COMES: later, ends, clash -/
theorem ab_let_n {N : Nat} {A : ab_A} (z : Int32) (ho : ab_ok N A) : ∀ k, k ≤ a_n A → ∃ s, s ≤ 40 * k ∧ ab_let A z k = nI s ∧ (s = 0 → ∀ i, i < k → bt z i = false → s_lt (a_st A i) = 0)
  | 0, _ => ⟨0, Nat.le_refl _, rfl, fun _ i hi => absurd hi (Nat.not_lt_zero i)⟩
  | k + 1, hk => by
    obtain ⟨s, hs, e, h0⟩ := ab_let_n z ho k (by omega)
    obtain ⟨kk, f, p, l, w, c, es, -, -, -, -, hl, -, -⟩ := ho.2.2.2 k (by omega)
    have el : s_lt (a_st A k) = nI l := by rw [es]
    have ee : ab_let A z (k + 1) = if bt z k then ab_let A z k else ab_let A z k + s_lt (a_st A k) := rfl
    rw [ee]
    by_cases hb : bt z k = true
    · rw [if_pos hb]
      refine ⟨s, by omega, e, fun h i hi hbi => ?_⟩
      by_cases hik : i = k
      · subst hik; rw [hb] at hbi; cases hbi
      · exact h0 h i (by omega) hbi
    · rw [if_neg hb, e, el, nI_add]
      refine ⟨s + l, by omega, rfl, fun h i hi hbi => ?_⟩
      by_cases hik : i = k
      · subst hik; rw [el, show l = 0 by omega]; rfl
      · exact h0 (by omega) i (by omega) hbi
def ab_qt (A : ab_A) (z : Int32) : Prop := ∀ i, i < a_n A → bt z i = false → s_lt (a_st A i) = 0
theorem ab_qt_who {A : ab_A} {z : Int32} (hn : a_n A ≤ 7) (h : ab_qt A z) : ab_who A z = 0 := by
  apply b_ext
  intro i hi
  rw [ab_who_bt hn hi, b_0]
  by_cases c : i < a_n A
  · rw [decide_eq_true c]
    by_cases hb : bt z i = true
    · rw [hb]; rfl
    · have hb' : bt z i = false := by simpa using hb
      have e := h i c hb'
      rw [hb']
      unfold ab_wants
      rw [e, decide_eq_false (show ¬ (0 : Int32) < 0 by decide)]
      rfl
  · rw [decide_eq_false c]; rfl
theorem ab_hs0 : ∀ n, ab_hs 0 n = 0
  | 0 => rfl
  | n + 1 => by
    show ab_hs 0 n + (if bt 0 n = true ∧ ab_ones 0 = 1 then 1 else 0) = 0
    rw [ab_hs0 n, if_neg (fun q => by rw [b_0] at q; cases q.1)]
    rfl
theorem ab_qt_go {A : ab_A} {z : Int32} (hn : a_n A ≤ 7) (h : ab_qt A z) : a_hd (ab_go A z) = a_hd A ∧ (∀ i, s_lt (a_st (ab_go A z) i) = s_lt (a_st A i)) ∧ ab_qt (ab_go A z) z := by
  have hw := ab_qt_who hn h
  have hl : ∀ i, s_lt (a_st (ab_go A z) i) = s_lt (a_st A i) := by
    intro i
    show s_lt (ab_next (ab_who A z) z (a_sl A) i (a_st A i)) = _
    rw [hw]
    unfold ab_next
    rw [if_neg (by rw [b_0]; decide)]
    split <;> rfl
  refine ⟨?_, hl, fun i hi hb => ?_⟩
  · show a_hd A + ab_hs (ab_who A z) (a_n A) = a_hd A
    rw [hw, ab_hs0, Int32.add_zero]
  · rw [hl i]; exact h i hi hb
theorem ab_qt_it {A : ab_A} {z : Int32} (hn : a_n A ≤ 7) {i : Nat} (h : ab_qt (ab_it A z i) z) : ∀ r, a_hd (ab_it A z (i + r)) = a_hd (ab_it A z i) ∧ (∀ j, s_lt (a_st (ab_it A z (i + r)) j) = s_lt (a_st (ab_it A z i) j)) ∧ ab_qt (ab_it A z (i + r)) z
  | 0 => ⟨rfl, fun _ => rfl, h⟩
  | r + 1 => by
    obtain ⟨h1, h2, h3⟩ := ab_qt_it hn h r
    obtain ⟨g1, g2, g3⟩ := ab_qt_go (A := ab_it A z (i + r)) (by rw [ab_it_n]; exact hn) h3
    exact ⟨g1.trans h1, fun j => (g2 j).trans (h2 j), g3⟩
theorem mm_up_id (σ : mm_M) (a j : Nat) : mm_up σ a j (σ.1 a j) = σ := by
  refine Prod.ext (funext fun b => funext fun k => ?_) rfl
  by_cases hb : b = a
  · subst hb
    by_cases hk : k = j
    · subst hk; exact mm_gs ..
    · exact mm_gk hk
  · rw [mm_ga hb]
section AS
variable {G : mm_G} {x m : Nat} {cd : Nat → Nat} {Y : Ps}
theorem x5_8 (gx : gX G x cd) : ∀ b, ic G (mm_R G x 5) b → ¬ ic G (mm_R G x 8) b := fun b q1 q2 => by
  have w1 := gX_ic5 gx q1
  have w2 := gX_ic8 gx q2
  unfold rg at w1 w2
  omega
theorem cx_aside (gx : gX G x cd) (ok : okP Y) {σ : mm_M} (hr : rA G σ (mm_R G x 5) (p_A Y)) : ∃ σ', fX0_become G (mm_R G x 8) (mm_R G x 5) σ = some σ' ∧ rA G σ' (mm_R G x 8) (p_A Y) ∧ mm_sm (ic G (mm_R G x 8)) σ σ' := by
  obtain ⟨t, ht, et, ho, hlt⟩ := okP_A ok
  exact ca_become (gX_ga8 gx) (gX_ga5 gx) (fun b q1 q2 => x5_8 gx b q2 q1) hr ho
theorem x5_sm (gx : gX G x cd) (ok : okP Y) {σ σ' : mm_M} (s : mm_sm (ic G (mm_R G x 8)) σ σ') (hr : rA G σ (mm_R G x 5) (p_A Y)) : rA G σ' (mm_R G x 5) (p_A Y) := rA_sm s (okP_n ok).2 (x5_8 gx) hr
theorem gM_57 (gm : gM G m cd) : mm_R G m 5 ≠ mm_R G m 7 ∧ mm_N G (mm_R G m 5) = 48 ∧ mm_N G (mm_R G m 7) = 48 ∧ qY cd (mm_R G m 7) := by
  obtain ⟨-, m0, -, -, -, -, -, ⟨m5, M5⟩, -, ⟨m7, M7⟩, -⟩ := id gm
  refine ⟨fun e => by rw [e] at m5; omega, M5, M7, ?_⟩
  unfold qY
  omega
theorem ml_aside (gm : gM G m cd) (ok : okP Y) {σ : mm_M} (hr : rM σ (mm_R G m 5) (p_A Y) 0) : ∃ σ', fX4_copies G (mm_R G m 5) (mm_R G m 7) σ = some σ' ∧ rM σ' (mm_R G m 7) (p_A Y) 0 ∧ mm_sm (fun b => b = mm_R G m 7) σ σ' := by
  obtain ⟨n57, M5, M7, q7⟩ := gM_57 gm
  obtain ⟨σ', f, hk, s⟩ := ml_copy (σ := σ) M5 M7 n57
  exact ⟨σ', f, rM_of (okP_n ok).2 hk hr, s⟩
theorem m5_sm (gm : gM G m cd) (ok : okP Y) {σ σ' : mm_M} (s : mm_sm (fun b => b = mm_R G m 7) σ σ') (hr : rM σ (mm_R G m 5) (p_A Y) 0) : rM σ' (mm_R G m 5) (p_A Y) 0 := rM_sm s (gM_57 gm).1 (okP_n ok).2 hr
theorem qx_x (gx : gX G x cd) : ∀ b, ic G (mm_R G x 8) b → b ≠ x := fun b q e => by
  have w2 := gX_ic8 gx q
  unfold rg at w2
  rw [e, gx.2.1] at w2
  omega
/-- slots tried aside by the class, some silent -/
theorem cx_hF (gx : gX G x cd) (ok : okP Y) {n t : Nat} (z : Int32) (hn : n ≤ 100) (ht : t ≤ 199) (ho : ab_ok t (p_A Y)) : ∀ (r i : Nat) (σ : mm_M), i + r = n → rA G σ (mm_R G x 8) (ab_it (p_A Y) z i) → rA G σ (mm_R G x 5) (p_A Y) → ∃ σ' B, mm_lim (fX3_heardAside_s G x (nI n) z) (nI i, σ) = some (a_hd (ab_it (p_A Y) z n) - a_hd (p_A Y), σ') ∧ rA G σ' (mm_R G x 8) B ∧ a_n B = a_n (p_A Y) ∧ (∀ j, s_lt (a_st B j) = s_lt (a_st (ab_it (p_A Y) z n) j)) ∧ ab_ok (t + n) B ∧ mm_sm (ic G (mm_R G x 8)) σ σ'
  | 0, i, σ, hin, r8, r5 => by
    have e : i = n := by omega
    subst e
    refine ⟨σ, ab_it (p_A Y) z i, mm_lim_ret ?_, r8, ab_it_n _ _ _, fun j => rfl, ab_it_ok z ho i (by omega), mm_sm_rf _ _⟩
    show fX3_heardAside_b13 G x (nI i) z (nI i) σ = _
    unfold fX3_heardAside_b13 fX3_heardAside_b44
    rw [if_neg Int32.lt_irrefl, r8.2.2.1, r5.2.2.1]
  | r + 1, i, σ, hin, r8, r5 => by
    have hoi := ab_it_ok z ho i (by omega)
    have hni : a_n (ab_it (p_A Y) z i) = a_n (p_A Y) := ab_it_n _ _ _
    obtain ⟨s, hs, es, h0⟩ := ab_let_n z hoi (a_n (ab_it (p_A Y) z i)) (Nat.le_refl _)
    have h7 := hoi.1
    have hstep : fX3_heardAside_s G x (nI n) z (nI i, σ) = if 0 < nI s then (fX0_goBy G (mm_R G x 8) z σ).bind (fun q34 => some (.inr (nI i + 1, q34.2))) else some (.inl (a_hd (ab_it (p_A Y) z i) - a_hd (p_A Y), σ)) := by
      show fX3_heardAside_b13 G x (nI n) z (nI i) σ = _
      unfold fX3_heardAside_b13 fX3_heardAside_b44
      rw [if_pos (nI_lt (by omega) (by omega)), ca_letters z (gX_ga8 gx) r8 hoi, Option.bind_some, es, r8.2.2.1, r5.2.2.1]
    by_cases hs0 : s = 0
    · rw [hs0, if_neg (show ¬ (0 : Int32) < nI 0 by decide)] at hstep
      have hq : ab_qt (ab_it (p_A Y) z i) z := fun j hj hb => h0 hs0 j hj hb
      obtain ⟨g1, g2, -⟩ := ab_qt_it (A := p_A Y) (by rw [← hni]; exact h7) hq (r + 1)
      rw [hin] at g1 g2
      exact ⟨σ, ab_it (p_A Y) z i, by rw [g1]; exact mm_lim_ret hstep, r8, hni, fun j => (g2 j).symm, ab_ok_le hoi (by omega), mm_sm_rf _ _⟩
    · rw [if_pos (show (0 : Int32) < nI s from nI_lt (show 0 < s by omega) (by omega))] at hstep
      obtain ⟨σ1, f1, r1, m1⟩ := ca_goBy z (gX_ga8 gx) r8 hoi (by omega)
      rw [f1, Option.bind_some] at hstep
      obtain ⟨σ', B, w1, w2, w3, w4, w5, w6⟩ := cx_hF gx ok z hn ht ho r (i + 1) σ1 (by omega) r1 (x5_sm gx ok m1 r5)
      refine ⟨σ', B, ?_, w2, w3, w4, w5, mm_sm_tr m1 w6⟩
      rw [mm_lim_go hstep, ← w1]
      show mm_lim _ (nI i + 1, σ1) = _
      rw [nI_1]
theorem cx_hAside (gx : gX G x cd) (ok : okP Y) {n t : Nat} (z : Int32) (hn : n ≤ 100) (ht : t ≤ 199) (ho : ab_ok t (p_A Y)) {σ : mm_M} (r5 : rA G σ (mm_R G x 5) (p_A Y)) : ∃ σ' B, fX3_heardAside G x (nI n) z σ = some (a_hd (ab_it (p_A Y) z n) - a_hd (p_A Y), σ') ∧ rA G σ' (mm_R G x 8) B ∧ a_n B = a_n (p_A Y) ∧ (∀ j, s_lt (a_st B j) = s_lt (a_st (ab_it (p_A Y) z n) j)) ∧ ab_ok (t + n) B ∧ mm_sm (ic G (mm_R G x 8)) σ σ' := by
  obtain ⟨σ1, f1, r1, m1⟩ := cx_aside gx ok r5
  obtain ⟨σ', B, w1, w2, w3, w4, w5, w6⟩ := cx_hF gx ok z hn ht ho n 0 σ1 (by omega) r1 (x5_sm gx ok m1 r5)
  refine ⟨σ', B, ?_, w2, w3, w4, w5, mm_sm_tr m1 w6⟩
  unfold fX3_heardAside fX3_heardAside_b0
  rw [f1, Option.bind_some, mm_run_go]
  exact w1
theorem J_later (gx : gX G x cd) (gm : gM G m cd) (ok : okP Y) (i v : Int32) : Jc G x m cd (fX3_later G x i v) (fX4_later G m i v) Y := by
  obtain ⟨t, ht, et, ho, hlt⟩ := okP_A ok
  have hn7 := ho.1
  obtain ⟨n57, M5, M7, q7⟩ := gM_57 gm
  have nm7 : m ≠ mm_R G m 7 := fun e => by
    rw [← e] at q7
    unfold qY at q7
    rw [gm.2.1] at q7
    omega
  rcases pk_ix i (n := a_n (p_A Y)) (by omega) with hi | hi | ⟨k, hk, rfl⟩
  · exact J_same (-1) ok (fun σ hc => by unfold fX3_later; rw [ca_has0 hc.2.2.1 (Or.inl hi)]; rfl) (fun σ hc => by unfold fX4_later fX4_later_b0; rw [ml_st0 gm ok hc (Or.inl hi)]; rfl)
  · exact J_same (-1) ok (fun σ hc => by unfold fX3_later; rw [ca_has0 hc.2.2.1 (Or.inr hi)]; rfl) (fun σ hc => by unfold fX4_later fX4_later_b0; rw [ml_st0 gm ok hc (Or.inr hi)]; rfl)
  · by_cases h0 : v < 0
    · refine J_same (-1) ok (fun σ hc => ?_) (fun σ hc => ?_)
      · unfold fX3_later; rw [ca_has1 hc.2.2.1 hn7 hk, Option.bind_some, if_neg (n01 σ), if_pos h0]
      · unfold fX4_later fX4_later_b0; rw [ml_st1 gm ok hc hk, Option.bind_some, if_neg (n01 σ), ml_in, if_pos h0]; rfl
    · by_cases h100 : 100 < v
      · refine J_same (-1) ok (fun σ hc => ?_) (fun σ hc => ?_)
        · unfold fX3_later; rw [ca_has1 hc.2.2.1 hn7 hk, Option.bind_some, if_neg (n01 σ), if_neg h0, if_pos h100]
        · unfold fX4_later fX4_later_b0; rw [ml_st1 gm ok hc hk, Option.bind_some, if_neg (n01 σ), ml_in, if_neg h0, if_pos h100]; rfl
      · obtain ⟨n, hn, rfl⟩ := nI_of2 (M := 100) (n := 100) (by decide) h0 (Int32.not_lt.mp h100)
        refine J_tryt gx gm ok (s_lt (a_st (ab_it (p_A Y) 0 n) k)) (a_hd (ab_it (p_A Y) 0 n) - a_hd (p_A Y)) (fun σ hc => ?_) (fun σ hc => ?_)
        · obtain ⟨σ', B, w1, w2, w3, w4, w5, w6⟩ := cx_hAside gx ok 0 hn ht ho hc.2.2.1
          refine ⟨σ', ?_, mm_sm_mono w6 (ic8_q gx)⟩
          have e3 : σ'.1 (sa G (mm_R G x 8) k) 3 = s_lt (a_st (ab_it (p_A Y) 0 n) k) := (congrArg (fun s : ab_S => s_lt s) (w2.2.2.2.2.2 k (by rw [w3]; exact hk))).trans (w4 k)
          unfold fX3_later
          rw [ca_has1 hc.2.2.1 hn7 hk, Option.bind_some, if_neg (n01 σ), if_neg h0, if_neg h100]
          show (fX3_heardAside G x (nI n) 0 σ).bind _ = _
          rw [w1, Option.bind_some, (gX_ga8 gx).1, nI_clamp (by omega : k < 2 ^ 31), if_neg (ck_n (by omega) (by omega))]
          show some ((mm_up σ' x 12 _).1 (sa G (mm_R G x 8) k) 3, _) = _
          rw [mm_ga (qx_x gx _ (Or.inr ⟨k, by omega, rfl⟩)), e3]
        · obtain ⟨σ1, f1, r1, m1⟩ := ml_aside gm ok hc.2.2.1
          obtain ⟨⟨y, σ2⟩, l2, hy, r2, m2⟩ := mm_loop (f := fX4_later_s G m (nI k) (nI n)) (fun i s => s.1 = nI i ∧ rM s.2 (mm_R G m 7) (ab_it (p_A Y) 0 i) 0 ∧ mm_sm (fun b => b = mm_R G m 7) σ s.2) n (fun i s hi hI => by
            obtain ⟨y, σ2⟩ := s
            obtain ⟨hy, r2, m2⟩ := hI
            dsimp only at hy r2 m2
            subst hy
            obtain ⟨σ3, f3, r3, m3⟩ := ml_goes M7 r2 (ab_it_ok 0 ho i (by omega)) (by omega)
            refine ⟨(nI i + 1, σ3), mm_lim_go ?_, nI_1 i, r3, mm_sm_tr m2 m3⟩
            show fX4_later_b33 G m (nI k) (nI n) (nI i) σ2 = _
            unfold fX4_later_b33
            rw [if_pos (nI_lt hi (by omega)), f3]
            rfl) (nI 0, σ1) ⟨rfl, r1, m1⟩
          dsimp only at hy r2 m2
          subst hy
          have e11 : σ2.1 (mm_R G m 7) (11 + k) = s_lt (a_st (ab_it (p_A Y) 0 n) k) := congrArg (fun s : ab_S => s_lt s) (r2.2.2.2.2.2.2 k (by rw [ab_it_n]; exact hk))
          have r5 := m5_sm gm ok m2 hc.2.2.1
          refine ⟨σ2, ?_, mm_sm_mono m2 (fun b q => by rw [q]; exact q7)⟩
          unfold fX4_later
          rw [show fX4_later_b0 G m (nI k) (nI n) σ = some (.inr (nI 0, σ1)) from by
            unfold fX4_later_b0
            rw [ml_st1 gm ok hc hk, Option.bind_some, if_neg (n01 σ), ml_in, if_neg h0, if_neg h100, Option.bind_some, if_neg (n01 σ), f1]
            rfl, mm_run_go, l2]
          refine mm_lim_ret ?_
          show fX4_later_b33 G m (nI k) (nI n) (nI n) σ2 = _
          unfold fX4_later_b33
          rw [if_neg Int32.lt_irrefl, M7, M5, tc2, if_neg kc2, if_neg kc2, ad11, nI_clamp (by omega : 11 + k < 2 ^ 31), if_neg (kcn (by omega)), mm_ga (Ne.symm nm7), e11, r2.2.2.2.1, r5.2.2.2.1]
theorem J_ends (gx : gX G x cd) (gm : gM G m cd) (ok : okP Y) : Jc G x m cd (fX3_ends G x) (fX4_ends G m) Y := by
  obtain ⟨t, ht, et, ho, hlt⟩ := okP_A ok
  have hn7 := ho.1
  obtain ⟨n57, M5, M7, q7⟩ := gM_57 gm
  by_cases hz : a_n (p_A Y) = 0
  · refine J_same (-4) ok (fun σ hc => ?_) (fun σ hc => ?_)
    · unfold fX3_ends
      rw [if_pos (show σ.1 (mm_R G x 5) 1 = 0 by rw [hc.2.2.1.1, hz]; rfl)]
    · unfold fX4_ends
      rw [M5, tc32, if_neg kc32, if_pos (show σ.1 (mm_R G m 5) 32 = 0 by rw [hc.2.2.1.1, hz]; rfl)]
  · have hnz : ¬ nI (a_n (p_A Y)) = 0 := nI_ne0 (by omega) (by omega)
    have hcx : ∀ σ, CR G x σ Y → ∃ σ', fX3_ends G x σ = (if (ab_end (p_A Y)).1 = -9 then some ((ab_end (p_A Y)).1, σ') else some ((ab_end (p_A Y)).1, mm_up σ' x 12 (a_ls (ab_end (p_A Y)).2 - a_ls (p_A Y)))) ∧ mm_sm (qX cd) σ σ' := by
      intro σ hc
      obtain ⟨σ1, f1, r1, m1⟩ := cx_aside gx ok hc.2.2.1
      obtain ⟨σ2, f2, r2, m2⟩ := ca_end (gX_ga8 gx) r1 ho (by omega)
      have r5 := x5_sm gx ok (mm_sm_tr m1 m2) hc.2.2.1
      refine ⟨σ2, ?_, mm_sm_mono (mm_sm_tr m1 m2) (ic8_q gx)⟩
      unfold fX3_ends
      rw [if_neg (show ¬ σ.1 (mm_R G x 5) 1 = 0 by rw [hc.2.2.1.1]; exact hnz), f1, Option.bind_some, f2, Option.bind_some, r2.2.2.2.1, r5.2.2.2.1]
    have hmx : ∀ σ, MR G m σ Y → ∃ σ', fX4_ends G m σ = (if (ab_end (p_A Y)).1 = -9 then some ((ab_end (p_A Y)).1, σ') else some ((ab_end (p_A Y)).1, mm_up σ' m 14 (a_ls (ab_end (p_A Y)).2 - a_ls (p_A Y)))) ∧ mm_sm (qY cd) σ σ' := by
      intro σ hc
      obtain ⟨σ1, f1, r1, m1⟩ := ml_aside gm ok hc.2.2.1
      obtain ⟨σ2, f2, r2, m2⟩ := ml_end M7 r1 ho (by omega)
      have r5 := m5_sm gm ok (mm_sm_tr m1 m2) hc.2.2.1
      refine ⟨σ2, ?_, mm_sm_mono (mm_sm_tr m1 m2) (fun b q => by rw [q]; exact q7)⟩
      unfold fX4_ends fX4_ends_b59
      rw [M5, M7, tc32, if_neg kc32, if_neg (show ¬ σ.1 (mm_R G m 5) 32 = 0 by rw [hc.2.2.1.1]; exact hnz), f1, Option.bind_some, f2, Option.bind_some, tc3, if_neg kc3, if_neg kc3, r2.2.2.2.2.1, r5.2.2.2.2.1, mm_up_id]
    by_cases h9 : (ab_end (p_A Y)).1 = -9
    · refine J_try gx gm ok (ab_end (p_A Y)).1 (fun σ hc => ?_) (fun σ hc => ?_)
      · obtain ⟨σ', f, s⟩ := hcx σ hc
        exact ⟨σ', by rw [f, if_pos h9], s⟩
      · obtain ⟨σ', f, s⟩ := hmx σ hc
        exact ⟨σ', by rw [f, if_pos h9], s⟩
    · refine J_tryt gx gm ok (ab_end (p_A Y)).1 (a_ls (ab_end (p_A Y)).2 - a_ls (p_A Y)) (fun σ hc => ?_) (fun σ hc => ?_)
      · obtain ⟨σ', f, s⟩ := hcx σ hc
        exact ⟨σ', by rw [f, if_neg h9], s⟩
      · obtain ⟨σ', f, s⟩ := hmx σ hc
        exact ⟨σ', by rw [f, if_neg h9], s⟩
/-! the first clash -/
def ab_clF : Nat → Nat → ab_A → Option (Nat × Int32)
  | 0, _, _ => none
  | f + 1, k, A => if 1 < ab_ones (ab_who A 0) then some (k, ab_who A 0) else ab_clF f (k + 1) (ab_go A 0)
theorem cx_clF (gx : gX G x cd) : ∀ (f k N : Nat) (A : ab_A) (σ : mm_M), k + f = 201 → N + f < 2 ^ 19 → ab_ok N A → rA G σ (mm_R G x 8) A → (ab_clF f k A = none → ∃ σ', mm_lim (fX3_clash_s G x) (nI k, σ) = some (-9, σ') ∧ mm_sm (ic G (mm_R G x 8)) σ σ') ∧ (∀ k' w, ab_clF f k A = some (k', w) → ∃ σ', mm_lim (fX3_clash_s G x) (nI k, σ) = some (nI k', mm_up σ' x 12 w) ∧ mm_sm (ic G (mm_R G x 8)) σ σ')
  | 0, k, N, A, σ, hk, hN, ho, hr => by
    refine ⟨fun _ => ⟨σ, mm_lim_ret ?_, mm_sm_rf _ _⟩, fun k' w h => by cases h⟩
    show fX3_clash_b26 G x (nI k) σ = _
    unfold fX3_clash_b26
    rw [if_pos (show (200 : Int32) < nI k from nI_lt (show 200 < k by omega) (by omega))]
  | f + 1, k, N, A, σ, hk, hN, ho, hr => by
    obtain ⟨σ1, f1, r1, m1⟩ := ca_goBy 0 (gX_ga8 gx) hr ho (by omega)
    have hs : fX3_clash_s G x (nI k, σ) = if 1 < ab_ones (ab_who A 0) then some (.inl (nI k, mm_up σ1 x 12 (ab_who A 0))) else some (.inr (nI (k + 1), σ1)) := by
      show fX3_clash_b26 G x (nI k) σ = _
      unfold fX3_clash_b26
      rw [if_neg (show ¬ (200 : Int32) < nI k from nI_nlt (show k ≤ 200 by omega) (by decide)), f1, Option.bind_some]
      show (fJ6_bitCount_0f7a4 G (ab_who A 0) σ1).bind _ = _
      rw [show fJ6_bitCount_0f7a4 G (ab_who A 0) σ1 = some (ab_ones (ab_who A 0), σ1) from jd_cnt ho.1 G σ1, Option.bind_some, nI_1]
    unfold ab_clF
    by_cases h : 1 < ab_ones (ab_who A 0)
    · rw [if_pos h] at hs ⊢
      refine ⟨fun q => (by cases q), fun k' w q => ?_⟩
      cases q
      exact ⟨σ1, mm_lim_ret hs, m1⟩
    · rw [if_neg h] at hs ⊢
      obtain ⟨g1, g2⟩ := cx_clF gx f (k + 1) (N + 1) (ab_go A 0) σ1 (by omega) (by omega) (ab_go_ok 0 ho (by omega)) r1
      refine ⟨fun q => ?_, fun k' w q => ?_⟩
      · obtain ⟨σ', e, s⟩ := g1 q
        exact ⟨σ', by rw [mm_lim_go hs]; exact e, mm_sm_tr m1 s⟩
      · obtain ⟨σ', e, s⟩ := g2 k' w q
        exact ⟨σ', by rw [mm_lim_go hs]; exact e, mm_sm_tr m1 s⟩
theorem ml_clF (gm : gM G m cd) : ∀ (f k N : Nat) (A : ab_A) (σ : mm_M), k + f = 201 → N + f < 2 ^ 19 → ab_ok N A → rM σ (mm_R G m 7) A 0 → (ab_clF f k A = none → ∃ σ', mm_lim (fX4_clash_s G m) (nI k, σ) = some (-9, σ') ∧ mm_sm (fun b => b = mm_R G m 7) σ σ') ∧ (∀ k' w, ab_clF f k A = some (k', w) → ∃ σ', mm_lim (fX4_clash_s G m) (nI k, σ) = some (nI k', mm_up σ' m 14 w) ∧ mm_sm (fun b => b = mm_R G m 7) σ σ')
  | 0, k, N, A, σ, hk, hN, ho, hr => by
    refine ⟨fun _ => ⟨σ, mm_lim_ret ?_, mm_sm_rf _ _⟩, fun k' w h => by cases h⟩
    show fX4_clash_b26 G m (nI k) σ = _
    unfold fX4_clash_b26
    rw [if_pos (show (200 : Int32) < nI k from nI_lt (show 200 < k by omega) (by omega))]
  | f + 1, k, N, A, σ, hk, hN, ho, hr => by
    obtain ⟨σ1, f1, r1, m1⟩ := ml_goes (gM_57 gm).2.2.1 hr ho (by omega)
    have hs : fX4_clash_s G m (nI k, σ) = if 1 < ab_ones (ab_who A 0) then some (.inl (nI k, mm_up σ1 m 14 (ab_who A 0))) else some (.inr (nI (k + 1), σ1)) := by
      show fX4_clash_b26 G m (nI k) σ = _
      unfold fX4_clash_b26
      rw [if_neg (show ¬ (200 : Int32) < nI k from nI_nlt (show k ≤ 200 by omega) (by decide)), f1, Option.bind_some]
      show (fX4_ones G (ab_who A 0) σ1).bind _ = _
      rw [ml_ones, Option.bind_some, nI_1]
    unfold ab_clF
    by_cases h : 1 < ab_ones (ab_who A 0)
    · rw [if_pos h] at hs ⊢
      refine ⟨fun q => (by cases q), fun k' w q => ?_⟩
      cases q
      exact ⟨σ1, mm_lim_ret hs, m1⟩
    · rw [if_neg h] at hs ⊢
      obtain ⟨g1, g2⟩ := ml_clF gm f (k + 1) (N + 1) (ab_go A 0) σ1 (by omega) (by omega) (ab_go_ok 0 ho (by omega)) r1
      refine ⟨fun q => ?_, fun k' w q => ?_⟩
      · obtain ⟨σ', e, s⟩ := g1 q
        exact ⟨σ', by rw [mm_lim_go hs]; exact e, mm_sm_tr m1 s⟩
      · obtain ⟨σ', e, s⟩ := g2 k' w q
        exact ⟨σ', by rw [mm_lim_go hs]; exact e, mm_sm_tr m1 s⟩
theorem J_clash (gx : gX G x cd) (gm : gM G m cd) (ok : okP Y) : Jc G x m cd (fX3_clash G x) (fX4_clash G m) Y := by
  obtain ⟨t, ht, et, ho, hlt⟩ := okP_A ok
  have hn7 := ho.1
  obtain ⟨n57, M5, M7, q7⟩ := gM_57 gm
  by_cases hz : a_n (p_A Y) = 0
  · refine J_same (-4) ok (fun σ hc => ?_) (fun σ hc => ?_)
    · unfold fX3_clash fX3_clash_b0
      rw [if_pos (show σ.1 (mm_R G x 5) 1 = 0 by rw [hc.2.2.1.1, hz]; rfl)]; rfl
    · unfold fX4_clash fX4_clash_b0
      rw [M5, tc32, if_neg kc32, if_pos (show σ.1 (mm_R G m 5) 32 = 0 by rw [hc.2.2.1.1, hz]; rfl)]; rfl
  · have hnz : ¬ nI (a_n (p_A Y)) = 0 := nI_ne0 (by omega) (by omega)
    have hcx : ∀ σ, CR G x σ Y → ∃ σ1, fX3_clash G x σ = mm_lim (fX3_clash_s G x) (nI 1, σ1) ∧ rA G σ1 (mm_R G x 8) (p_A Y) ∧ mm_sm (ic G (mm_R G x 8)) σ σ1 := by
      intro σ hc
      obtain ⟨σ1, f1, r1, m1⟩ := cx_aside gx ok hc.2.2.1
      refine ⟨σ1, ?_, r1, m1⟩
      unfold fX3_clash fX3_clash_b0
      rw [if_neg (show ¬ σ.1 (mm_R G x 5) 1 = 0 by rw [hc.2.2.1.1]; exact hnz), f1, Option.bind_some, mm_run_go]
      rfl
    have hmx : ∀ σ, MR G m σ Y → ∃ σ1, fX4_clash G m σ = mm_lim (fX4_clash_s G m) (nI 1, σ1) ∧ rM σ1 (mm_R G m 7) (p_A Y) 0 ∧ mm_sm (fun b => b = mm_R G m 7) σ σ1 := by
      intro σ hc
      obtain ⟨σ1, f1, r1, m1⟩ := ml_aside gm ok hc.2.2.1
      refine ⟨σ1, ?_, r1, m1⟩
      unfold fX4_clash fX4_clash_b0
      rw [M5, tc32, if_neg kc32, if_neg (show ¬ σ.1 (mm_R G m 5) 32 = 0 by rw [hc.2.2.1.1]; exact hnz), f1, Option.bind_some, mm_run_go]
      rfl
    cases hcl : ab_clF 200 1 (p_A Y) with
    | none =>
      refine J_try gx gm ok (-9) (fun σ hc => ?_) (fun σ hc => ?_)
      · obtain ⟨σ1, f1, r1, m1⟩ := hcx σ hc
        obtain ⟨σ', e, s⟩ := (cx_clF gx 200 1 t (p_A Y) σ1 rfl (by omega) ho r1).1 hcl
        exact ⟨σ', by rw [f1]; exact e, mm_sm_mono (mm_sm_tr m1 s) (ic8_q gx)⟩
      · obtain ⟨σ1, f1, r1, m1⟩ := hmx σ hc
        obtain ⟨σ', e, s⟩ := (ml_clF gm 200 1 t (p_A Y) σ1 rfl (by omega) ho r1).1 hcl
        exact ⟨σ', by rw [f1]; exact e, mm_sm_mono (mm_sm_tr m1 s) (fun b q => by rw [q]; exact q7)⟩
    | some kw =>
      obtain ⟨k', w⟩ := kw
      refine J_tryt gx gm ok (nI k') w (fun σ hc => ?_) (fun σ hc => ?_)
      · obtain ⟨σ1, f1, r1, m1⟩ := hcx σ hc
        obtain ⟨σ', e, s⟩ := (cx_clF gx 200 1 t (p_A Y) σ1 rfl (by omega) ho r1).2 k' w hcl
        exact ⟨σ', by rw [f1]; exact e, mm_sm_mono (mm_sm_tr m1 s) (ic8_q gx)⟩
      · obtain ⟨σ1, f1, r1, m1⟩ := hmx σ hc
        obtain ⟨σ', e, s⟩ := (ml_clF gm 200 1 t (p_A Y) σ1 rfl (by omega) ho r1).2 k' w hcl
        exact ⟨σ', by rw [f1]; exact e, mm_sm_mono (mm_sm_tr m1 s) (fun b q => by rw [q]; exact q7)⟩
end AS
