/-! fault, air -/
theorem rd_tot {tx : Nat → Int32} {n : Nat} (hby : ∀ i, (tx i).toInt8.toInt32 = tx i) : ∀ (r p : Nat) (A : ab_A), n - p < r → rd_ok A → ∃ v A', mm_lim (rd_stp tx n) (p, A) = some (v, A') ∧ rd_ok A'
  | 0, p, A, h, _ => absurd h (Nat.not_lt_zero _)
  | r + 1, p, A, h, hok => by
    by_cases hp : p < n
    · by_cases h32 : tx p = 32
      · obtain ⟨v, A', e1, o'⟩ := rd_tot (n := n) hby r (p + 1) A (by omega) hok
        refine ⟨v, A', ?_, o'⟩
        rw [mm_lim_go (show rd_stp tx n (p, A) = some (.inr (p + 1, A)) from by unfold rd_stp; rw [if_pos hp, if_pos h32])]; exact e1
      · have hst : rd_stp tx n (p, A) = if a_n A < 7 ∧ ¬ rd_kd (tx p) = -1 then (if rd_fok tx n p 1 then (if rd_fok tx n p 2 then (if rd_fok tx n p 3 then some (.inr (p + 4, ab_add A (rd_st tx p))) else some (.inl (nI (p + 3), A))) else some (.inl (nI (p + 2), A))) else some (.inl (nI (p + 1), A))) else some (.inl (nI p, A)) := by
          unfold rd_stp
          rw [if_pos hp, if_neg h32]
        by_cases c : a_n A < 7 ∧ ¬ rd_kd (tx p) = -1
        · rw [if_pos c] at hst
          by_cases k1 : rd_fok tx n p 1 = true
          · rw [if_pos k1] at hst
            by_cases k2 : rd_fok tx n p 2 = true
            · rw [if_pos k2] at hst
              by_cases k3 : rd_fok tx n p 3 = true
              · rw [if_pos k3] at hst
                obtain ⟨v, A', e1, o'⟩ := rd_tot (n := n) hby r (p + 4) _ (by omega) (rd_ok_add hby hok c.1 c.2 k1 k2 k3)
                exact ⟨v, A', by rw [mm_lim_go hst]; exact e1, o'⟩
              · rw [if_neg k3] at hst
                exact ⟨_, _, mm_lim_ret hst, hok⟩
            · rw [if_neg k2] at hst
              exact ⟨_, _, mm_lim_ret hst, hok⟩
          · rw [if_neg k1] at hst
            exact ⟨_, _, mm_lim_ret hst, hok⟩
        · rw [if_neg c] at hst
          exact ⟨_, _, mm_lim_ret hst, hok⟩
    · exact ⟨_, _, mm_lim_ret (by unfold rd_stp; rw [if_neg hp]), hok⟩
section AI
variable {G : mm_G} {x m : Nat} {cd : Nat → Nat} {Y : Ps}
theorem cx_rd (gx : gX G x cd) (ok : okP Y) {t n : Nat} (ht : t < 4) (hn : n ≤ 60) (es : p_ts Y t = nI n) {v : Int32} {A' : ab_A} (hl : mm_lim (rd_stp (p_tv Y t) n) (0, rd_A0) = some (v, A')) (σ : mm_M) (hc : CR G x σ Y) : ∃ σ', fX0_read G (mm_R G x 8) (mm_R G (mm_R G x 2) t) (nI n) σ = some (v, σ') ∧ rA G σ' (mm_R G x 8) A' ∧ mm_sm (ic G (mm_R G x 8)) σ σ' := by
  obtain ⟨-, -, -, -, ⟨-, e2⟩, -⟩ := id gx
  obtain ⟨c2, N2⟩ := e2 t ht
  obtain ⟨v2, A2, σ', w1, w2, w3, -, w5⟩ := ca_read (tx := p_tv Y t) (n := n) (σ := σ) (gX_ga8 gx) N2 hn (fun q => by
    have := gX_ic8 gx q
    unfold rg at this
    omega) (ok.2.2.1 t) (fun i hi => (hc.2.1 t ht).2 i (by rw [es]; exact nI_lt hi (by omega)) (by omega))
  rw [hl] at w1
  cases w1
  exact ⟨σ', w2, w3, w5⟩
theorem mx_rd (gm : gM G m cd) (ok : okP Y) {t n : Nat} (ht : t < 4) (hn : n ≤ 60) (es : p_ts Y t = nI n) {v : Int32} {A' : ab_A} (hl : mm_lim (rd_stp (p_tv Y t) n) (0, rd_A0) = some (v, A')) (σ : mm_M) (hc : MR G m σ Y) : ∃ σ', fX4_reads G m (nI t) σ = some (v, σ') ∧ rM σ' (mm_R G m 6) A' 0 ∧ mm_sm (fun b => b = mm_R G m 6) σ σ' := by
  obtain ⟨v2, A2, σ', w1, w2, w3, w5⟩ := ml_read (t := t) (n := n) gm (ok.2.2.1 t) ht hn (σ := σ) ⟨by rw [(hc.2.1 t ht).1]; exact es, fun q hq => (hc.2.1 t ht).2 q (by rw [es]; exact nI_lt hq (by omega)) (by omega)⟩
  rw [hl] at w1
  cases w1
  exact ⟨σ', w2, w3, w5⟩
theorem J_fault (gx : gX G x cd) (gm : gM G m cd) (ok : okP Y) (r : Int32) : Jc G x m cd (fX3_fault G x r) (fX4_fault G m r) Y := by
  obtain ⟨-, -, -, -, ⟨N2, e2⟩, ⟨N3, e3⟩, -⟩ := id gx
  obtain ⟨-, -, -, -, -, ⟨m3, M3⟩, ⟨m4, M4⟩, -, ⟨m6, M6⟩, -⟩ := id gm
  rcases pk_ix r (n := 4) (by omega) with hi | hi | ⟨t, ht, rfl⟩
  · exact J_same (-1) ok (fun σ hc => by unfold fX3_fault; rw [cx_txt0 (Or.inl hi)]; rfl) (fun σ hc => by unfold fX4_fault; rw [ml_txt0 (Or.inl hi)]; rfl)
  · exact J_same (-1) ok (fun σ hc => by unfold fX3_fault; rw [cx_txt0 (Or.inr hi)]; rfl) (fun σ hc => by unfold fX4_fault; rw [ml_txt0 (Or.inr hi)]; rfl)
  · have cs : ∀ σ, CR G x σ Y → fX3_fault G x (nI t) σ = if p_ts Y t = -1 then fX3_found G x 1 σ else fX0_read G (mm_R G x 8) (mm_R G (mm_R G x 2) t) (p_ts Y t) σ := by
      intro σ hc
      unfold fX3_fault
      rw [cx_txt1 ht, Option.bind_some, if_neg (n01 σ), N3, N2, nI_clamp (by omega : t < 2 ^ 31)]
      simp only [if_neg (ck_n ht (show t < 2 ^ 31 by omega)), be, (hc.2.1 t ht).1]
    have mst : ∀ σ, MR G m σ Y → fX4_fault G m (nI t) σ = if p_ts Y t < 0 then fX4_finds G m 1 σ else fX4_reads G m (nI t) σ := by
      intro σ hc
      unfold fX4_fault
      rw [ml_txt1 ht, Option.bind_some, if_neg (n01 σ), M3, nI_clamp (by omega : t < 2 ^ 31)]
      simp only [if_neg (ck_n ht (show t < 2 ^ 31 by omega)), be, (hc.2.1 t ht).1]
    rcases ts_cases ok ht with ⟨a1, a0⟩ | ⟨n, hn, es, a0, a1⟩
    · exact J_fnd gx gm ok 1 (by decide) (by decide) (fun σ hc σ' e => by rw [cs σ hc, if_pos a1]; exact e) (fun σ hc σ' e => by rw [mst σ hc, if_pos a0]; exact e)
    · obtain ⟨v, A', hl, hok'⟩ := rd_tot (n := n) (ok.2.2.1 t) (n + 1) 0 rd_A0 (by omega) rd_ok0
      refine J_try gx gm ok v (fun σ hc => ?_) (fun σ hc => ?_)
      · obtain ⟨σ', f, -, s⟩ := cx_rd gx ok ht hn es hl σ hc
        exact ⟨σ', by rw [cs σ hc, if_neg a1, es]; exact f, mm_sm_mono s (ic8_q gx)⟩
      · obtain ⟨σ', f, -, s⟩ := mx_rd gm ok ht hn es hl σ hc
        exact ⟨σ', by rw [mst σ hc, if_neg a0]; exact f, mm_sm_mono s (fun b q => by unfold qY; rw [q]; omega)⟩
def y_air (Y : Ps) (B : ab_A) : Ps := (p_rs Y, p_rv Y, p_ts Y, p_tv Y, B, [], fun _ => none, p_as Y, p_up Y, p_lo Y, p_fi Y, p_fo Y)
theorem CR_a {σ σ' : mm_M} {B : ab_A} (g : gX G x cd) (h : ∀ i b, 1 ≤ i → ¬ (3 ≤ i ∧ i ≤ 6) → i ≤ 8 → rg cd i b → σ'.1 b = σ.1 b) (h2 : σ'.2 x = σ.2 x) (hc : CR G x σ Y) (h3 : c_now G x σ' (y_air Y B)) (h4 : c_start G x σ' (y_air Y B)) (h5 : c_deeds G x σ' (y_air Y B)) (h6 : c_kept G x σ' (y_air Y B)) : CR G x σ' (y_air Y B) :=
  ⟨fr_rows g (fun b => h 1 b (by decide) (by decide) (by decide)) (show c_rows G x σ (y_air Y B) from hc.1), fr_text g (fun b => h 2 b (by decide) (by decide) (by decide)) (show c_text G x σ (y_air Y B) from hc.2.1), h3, h4, h5, h6, fr_told g (fun b => h 7 b (by decide) (by decide) (by decide)) h2 (show c_told x σ (y_air Y B) from hc.2.2.2.2.2.2.1), fr_found g (fun b => h 8 b (by decide) (by decide) (by decide)) (show c_found G x σ (y_air Y B) from hc.2.2.2.2.2.2.2)⟩
theorem MR_a {σ σ' : mm_M} {B : ab_A} (g : gM G m cd) (h : ∀ i b, 20 < i → i ≤ 34 → ¬ i = 26 → ¬ i = 27 → ¬ i = 33 → rg cd i b → σ'.1 b = σ.1 b) (hm : ∀ j, j ≠ 10 → σ'.1 m j = σ.1 m j) (h2 : σ'.2 m = σ.2 m) (hc : MR G m σ Y) (hn : m_now G m σ' (y_air Y B)) (hd : m_deeds G m σ' (y_air Y B)) (hk : m_kept G m σ' (y_air Y B)) : MR G m σ' (y_air Y B) := by
  refine ⟨fm_rows g (fun b => h 21 b (by decide) (by decide) (by decide) (by decide) (by decide)) (fun b => h 22 b (by decide) (by decide) (by decide) (by decide) (by decide)) (show m_rows G m σ (y_air Y B) from hc.1), fm_text g (fun b => h 24 b (by decide) (by decide) (by decide) (by decide) (by decide)) (fun b => h 25 b (by decide) (by decide) (by decide) (by decide) (by decide)) (show m_text G m σ (y_air Y B) from hc.2.1), hn, hd, hk, ?_, fm_found g (fun b => h 34 b (by decide) (by decide) (by decide) (by decide) (by decide)) (show m_found G m σ (y_air Y B) from hc.2.2.2.2.2.2)⟩
  obtain ⟨t1, t2, t3, t4⟩ := hc.2.2.2.2.2.1
  exact ⟨by rw [hm 14 (by decide)]; exact t1, by rw [h2]; exact t2, by rw [h2]; exact t3, by rw [hm 17 (by decide)]; exact t4⟩
theorem J_air (gx : gX G x cd) (gm : gM G m cd) (ok : okP Y) (r : Int32) : Jc G x m cd (fX3_air G x r) (fX4_air G m r) Y := by
  obtain ⟨-, ex, -, -, ⟨N2, e2⟩, ⟨N3, e3⟩, ⟨e4, -⟩, ⟨e5, -⟩, ⟨e6, e60, eN6⟩, ⟨eN7, e7⟩, ⟨e8, -⟩, -⟩ := id gx
  obtain ⟨-, m0, -, -, -, ⟨m3, M3⟩, ⟨m4, M4⟩, ⟨m5, M5⟩, ⟨m6, M6⟩, -, -, ⟨m9, M9⟩, -, -, ⟨m13, M13⟩, -⟩ := id gm
  rcases pk_ix r (n := 4) (by omega) with hi | hi | ⟨t, ht, rfl⟩
  · exact J_same (-1) ok (fun σ hc => by unfold fX3_air fX3_air_b0; rw [cx_txt0 (Or.inl hi)]; rfl) (fun σ hc => by unfold fX4_air fX4_air_b0; rw [ml_txt0 (Or.inl hi)]; rfl)
  · exact J_same (-1) ok (fun σ hc => by unfold fX3_air fX3_air_b0; rw [cx_txt0 (Or.inr hi)]; rfl) (fun σ hc => by unfold fX4_air fX4_air_b0; rw [ml_txt0 (Or.inr hi)]; rfl)
  · have cs : ∀ σ, CR G x σ Y → fX3_air_b0 G x (nI t) σ = if p_ts Y t = -1 then (fX3_found G x 1 σ).bind (fun q21 => some (.inl (q21.1, q21.2))) else (fX0_read G (mm_R G x 8) (mm_R G (mm_R G x 2) t) (p_ts Y t) σ).bind (fun q41 => if q41.1 = -9 then ((fX0_become G (mm_R G x 4) (mm_R G x 8) q41.2).bind (fun q60 => (fX0_become G (mm_R G x 5) (mm_R G x 8) q60).bind (fun q71 => some (.inr (0, mm_up q71 (mm_R G x 6) 1 0))))) else (some (.inl (-4, q41.2)))) := by
      intro σ hc
      unfold fX3_air_b0
      rw [cx_txt1 ht, Option.bind_some, if_neg (n01 σ), N3, N2, nI_clamp (by omega : t < 2 ^ 31)]
      simp only [if_neg (ck_n ht (show t < 2 ^ 31 by omega)), (hc.2.1 t ht).1]
    have mst : ∀ σ, MR G m σ Y → fX4_air_b0 G m (nI t) σ = if p_ts Y t < 0 then (fX4_finds G m 1 σ).bind (fun q21 => some (.inl (q21.1, q21.2))) else (fX4_reads G m (nI t) σ).bind (fun q26 => if q26.1 = -9 then (some (.inr (.inl (0, q26.2)))) else (some (.inl (-4, q26.2)))) := by
      intro σ hc
      unfold fX4_air_b0
      rw [ml_txt1 ht, Option.bind_some, if_neg (n01 σ), M3, nI_clamp (by omega : t < 2 ^ 31)]
      simp only [if_neg (ck_n ht (show t < 2 ^ 31 by omega)), (hc.2.1 t ht).1]
    rcases ts_cases ok ht with ⟨a1, a0⟩ | ⟨n, hn, es, a0, a1⟩
    · exact J_fnd gx gm ok 1 (by decide) (by decide) (fun σ hc σ' e => by unfold fX3_air; rw [cs σ hc, if_pos a1, bel (show fX3_found G x 1 σ = some (-3, σ') from e)]; rfl) (fun σ hc σ' e => by unfold fX4_air; rw [mst σ hc, if_pos a0, bel (show fX4_finds G m 1 σ = some (-3, σ') from e)]; rfl)
    · obtain ⟨v, A', hl, hok'⟩ := rd_tot (n := n) (ok.2.2.1 t) (n + 1) 0 rd_A0 (by omega) rd_ok0
      have h7 := hok'.1
      obtain ⟨t0, -, -, hoA, -⟩ := rd_ok_okA hok'
      by_cases hv : v = -9
      · subst hv
        refine ⟨nI (a_n A'), y_air Y A', ⟨ok.1, ok.2.1, ok.2.2.1, ⟨Nat.zero_le _, fun d hd => absurd hd (List.not_mem_nil), fun j hj => ?_⟩, fun k hk L hL => (by cases hL), fun _ k hk => rfl⟩, fun σ hc => ?_, fun σ hc => ?_⟩
        · show okA (ab_acts A' (List.take j []))
          rw [List.take_nil]
          exact rd_ok_okA hok'
        · obtain ⟨σ1, f1, r1, s1⟩ := cx_rd gx ok ht hn es hl σ hc
          have dj : ∀ a i j, (∀ b, ic G (mm_R G x a) b → rg cd i b) → (∀ b, ic G (mm_R G x 8) b → rg cd j b) → i ≠ j → ∀ b, ic G (mm_R G x a) b → ¬ ic G (mm_R G x 8) b := fun a i j h1 h2 hij b q1 q2 => by
            have w1 := h1 b q1
            have w2 := h2 b q2
            unfold rg at w1 w2
            omega
          obtain ⟨σ2, f2, r2, s2⟩ := ca_become (gX_ga4 gx) (gX_ga8 gx) (dj 4 4 9 (fun b q => gX_ic4 gx q) (fun b q => gX_ic8 gx q) (by decide)) r1 hoA
          have r12 : rA G σ2 (mm_R G x 8) A' := rA_sm s2 h7 (fun b q1 q2 => by
            have w1 := gX_ic8 gx q1
            have w2 := gX_ic4 gx q2
            unfold rg at w1 w2
            omega) r1
          obtain ⟨σ3, f3, r3, s3⟩ := ca_become (gX_ga5 gx) (gX_ga8 gx) (dj 5 3 9 (fun b q => gX_ic5 gx q) (fun b q => gX_ic8 gx q) (by decide)) r12 hoA
          have r23 : rA G σ3 (mm_R G x 4) A' := rA_sm s3 h7 (fun b q1 q2 => by
            have w1 := gX_ic4 gx q1
            have w2 := gX_ic5 gx q2
            unfold rg at w1 w2
            omega) r2
          have t1 : mm_sm (fun b => cd b / 100 = 9 ∨ cd b / 100 = 4 ∨ cd b / 100 = 3) σ σ3 := mm_sm_tr (mm_sm_tr (mm_sm_mono s1 (fun b q => Or.inl (gX_ic8 gx q))) (mm_sm_mono s2 (fun b q => Or.inr (Or.inl (gX_ic4 gx q))))) (mm_sm_mono s3 (fun b q => Or.inr (Or.inr (gX_ic5 gx q))))
          have s4 : mm_sm (fun b => b = mm_R G x 6) σ3 (mm_up σ3 (mm_R G x 6) 1 0) := mm_sm_up (mm_sm_rf _ _) rfl
          obtain ⟨⟨y, σ5⟩, l5, hy, k5, s5⟩ := mm_loop (f := fX3_air_s G x (nI t)) (fun i s => s.1 = nI i ∧ (∀ k, k < i → s.2.1 (mm_R G (mm_R G x 7) k) 1 = -1) ∧ mm_sm (fun b => cd b / 100 = 6) (mm_up σ3 (mm_R G x 6) 1 0) s.2) 3 (fun i s hi hI => by
            obtain ⟨y, σ5⟩ := s
            obtain ⟨hy, k5, s5⟩ := hI
            dsimp only at hy k5 s5
            subst hy
            obtain ⟨c1, c2, c3⟩ := e7 i hi
            refine ⟨(nI i + 1, mm_up σ5 (mm_R G (mm_R G x 7) i) 1 (-1)), mm_lim_go ?_, nI_1 i, fun k hk => ?_, mm_sm_up s5 (show cd (mm_R G (mm_R G x 7) i) / 100 = 6 by omega)⟩
            · show fX3_air_b84 G x (nI t) (nI i) σ5 = _
              unfold fX3_air_b84
              rw [if_pos (show nI i < (3 : Int32) from nI_lt hi (by decide)), eN7, nI_clamp (by omega : i < 2 ^ 31), if_neg (ck_n hi (by omega))]
            · show (mm_up σ5 (mm_R G (mm_R G x 7) i) 1 (-1)).1 (mm_R G (mm_R G x 7) k) 1 = -1
              by_cases h : k = i
              · subst h; exact mm_gs ..
              · obtain ⟨d1, d2, d3⟩ := e7 k (by omega)
                rw [mm_ga (fun e => by rw [e] at d1; omega)]
                exact k5 k (by omega)) (nI 0, mm_up σ3 (mm_R G x 6) 1 0) ⟨rfl, fun k hk => absurd hk (Nat.not_lt_zero k), mm_sm_rf _ _⟩
          dsimp only at hy k5 s5
          subst hy
          have n5 : σ5.1 (mm_R G x 5) 1 = nI (a_n A') := by
            rw [s5.1 _ (by omega), mm_ga (fun e => by rw [e] at e5; omega)]
            exact r3.1
          refine ⟨σ5, ?_, CR_a (σ := σ) gx (fun i b h1 h36 h8 hb => ?_) (by rw [s5.2, mm_g2, t1.2]) hc ?_ ?_ ⟨?_, fun j hj => absurd hj (Nat.not_lt_zero j)⟩ (fun k hk => k5 k hk), ?_⟩
          · unfold fX3_air
            rw [cs σ hc, if_neg a1, es, f1, Option.bind_some, if_pos (show ((-9 : Int32), σ1).1 = -9 from rfl), f2, Option.bind_some, f3, Option.bind_some, mm_run_go]
            show mm_lim _ (nI 0, mm_up σ3 (mm_R G x 6) 1 0) = _
            rw [l5]
            refine mm_lim_ret ?_
            show fX3_air_b84 G x (nI t) (nI 3) σ5 = _
            unfold fX3_air_b84
            rw [if_neg (show ¬ nI 3 < (3 : Int32) by decide), n5]
          · unfold rg at hb
            rw [s5.1 b (by omega), s4.1 b (fun e => by rw [e] at hb; omega), t1.1 b (by omega)]
          · exact rA_sm (mm_sm_tr (mm_sm_mono s4 (fun b q => (by rw [q]; omega : cd b / 100 = 5 ∨ cd b / 100 = 6))) (mm_sm_mono s5 (fun b q => Or.inr q))) h7 (fun b q1 q2 => by
              have w1 := gX_ic5 gx q1
              unfold rg at w1
              omega) r3
          · exact rA_sm (mm_sm_tr (mm_sm_mono s4 (fun b q => (by rw [q]; omega : cd b / 100 = 5 ∨ cd b / 100 = 6))) (mm_sm_mono s5 (fun b q => Or.inr q))) h7 (fun b q1 q2 => by
              have w1 := gX_ic4 gx q1
              unfold rg at w1
              omega) r23
          · rw [s5.1 _ (by omega), mm_gs]; rfl
          · exact (mm_sm_tr (mm_sm_mono t1 (fun b q => by unfold rX; omega)) (mm_sm_tr (mm_sm_mono s4 (fun b q => by unfold rX; rw [q]; omega)) (mm_sm_mono s5 (fun b q => by unfold rX; omega)))).sn
        · obtain ⟨σ1, f1, r1, s1⟩ := mx_rd gm ok ht hn es hl σ hc
          have n56 : mm_R G m 6 ≠ mm_R G m 5 := fun e => by rw [e] at m6; omega
          have hfor1 := mm_for (f := fX4_air_s G m (nI t)) (fun i => Sum.inl (nI i, mm_cpy σ1 (mm_R G m 6) (mm_R G m 5) 0 0 i)) 48 (fun i hi => by
            show fX4_air_b39 G m (nI t) (nI i) _ = _
            unfold fX4_air_b39
            rw [if_pos (show nI i < (48 : Int32) from nI_lt hi (by decide)), M5, M6, nI_clamp (by omega : i < 2 ^ 31), if_neg (ck_n (by omega) (by omega)), if_neg (ck_n (by omega) (by omega)), nI_1, ← cpy_s n56, Nat.zero_add])
          rw [cpy_0] at hfor1
          generalize hσ2 : mm_cpy σ1 (mm_R G m 6) (mm_R G m 5) 0 0 48 = σ2 at hfor1
          have s2 : mm_sm (fun b => b = mm_R G m 5) σ1 σ2 := by rw [← hσ2]; exact cpy_sm _ _ _ _ _ _
          have r2 : rM σ2 (mm_R G m 5) A' 0 := rM_of (c := mm_R G m 6) (σ := σ1) h7 (fun k hk => by rw [← hσ2, cpy_at, if_pos (by omega), Nat.zero_add, Nat.sub_zero]) r1
          obtain ⟨s, l5, σ5, rfl, k5, s5⟩ := mm_loop (f := fX4_air_s G m (nI t)) (fun i s => ∃ σ', s = Sum.inr (nI i, σ') ∧ (∀ k, k < i → σ'.1 (mm_R G m 13) k = -1) ∧ mm_sm (fun b => b = mm_R G m 13) (mm_up σ2 m 10 0) σ') 3 (fun i s hi hI => by
            obtain ⟨σ5, rfl, k5, s5⟩ := hI
            refine ⟨Sum.inr (nI (i + 1), mm_up σ5 (mm_R G m 13) i (-1)), mm_lim_go ?_, _, rfl, fun k hk => ?_, mm_sm_up s5 rfl⟩
            · show fX4_air_b70 G m (nI t) (nI i) σ5 = _
              unfold fX4_air_b70
              rw [M13, if_pos (show nI i < Int32.ofNat 3 from nI_lt hi (by decide)), nI_clamp (by omega : i < 2 ^ 31), if_neg (ck_n hi (by omega)), nI_1]
            · by_cases h : k = i
              · subst h; exact mm_gs ..
              · rw [mm_gk h]; exact k5 k (by omega)) (Sum.inr (nI 0, mm_up σ2 m 10 0)) ⟨_, rfl, fun k hk => absurd hk (Nat.not_lt_zero k), mm_sm_rf _ _⟩
          have n5m : mm_R G m 5 ≠ m := fun e => by rw [e] at m5; omega
          have n513 : mm_R G m 5 ≠ mm_R G m 13 := fun e => by rw [e] at m5; omega
          have nm13 : m ≠ mm_R G m 13 := fun e => by rw [← e] at m13; omega
          have r5 : rM σ5 (mm_R G m 5) A' 0 := by
            rw [rM_F, s5.1 _ n513, mm_ga n5m]
            exact r2
          refine ⟨σ5, ?_, MR_a (σ := σ) gm (fun i b h20 h34 h26 h27 h33 hb => ?_) (fun j hj => ?_) (by rw [s5.2, mm_g2, s2.2, s1.2]) hc r5 ⟨?_, fun j hj => absurd hj (Nat.not_lt_zero j)⟩ (fun k hk => k5 k hk), ?_⟩
          · unfold fX4_air
            rw [mst σ hc, if_neg a0, f1, Option.bind_some, if_pos (show ((-9 : Int32), σ1).1 = -9 from rfl), mm_run_go]
            show mm_lim _ (Sum.inl (nI 0, σ1)) = _
            rw [hfor1, mm_lim_go (show fX4_air_s G m (nI t) (Sum.inl (nI 48, σ2)) = some (.inr (.inr (nI 0, mm_up σ2 m 10 0))) from by
              show fX4_air_b39 G m (nI t) (nI 48) σ2 = _
              unfold fX4_air_b39
              rw [if_neg (show ¬ nI 48 < (48 : Int32) by decide)]
              rfl), l5]
            refine mm_lim_ret ?_
            show fX4_air_b70 G m (nI t) (nI 3) σ5 = _
            unfold fX4_air_b70
            rw [M13, if_neg (show ¬ nI 3 < Int32.ofNat 3 by decide), M5, tc32, if_neg kc32, r5.1]
          · unfold rg at hb
            rw [s5.1 b (fun e => by rw [e] at hb; omega), mm_ga (fun e => by rw [e] at hb; omega), s2.1 b (fun e => by rw [e] at hb; omega), s1.1 b (fun e => by rw [e] at hb; omega)]
          · rw [s5.1 _ nm13, mm_gk hj, s2.1 _ (Ne.symm n5m), s1.1 _ (fun e => by rw [← e] at m6; omega)]
          · rw [s5.1 _ nm13, mm_gs]; rfl
          · exact (mm_sm_tr (mm_sm_mono s1 (fun b q => by unfold rY; rw [q]; omega)) (mm_sm_tr (mm_sm_up (mm_sm_mono s2 (fun b q => by unfold rY; rw [q]; omega)) (show rY cd m by unfold rY; omega)) (mm_sm_mono s5 (fun b q => by unfold rY; rw [q]; omega)))).sn
      · refine J_try gx gm ok (-4) (fun σ hc => ?_) (fun σ hc => ?_)
        · obtain ⟨σ', f, -, s⟩ := cx_rd gx ok ht hn es hl σ hc
          refine ⟨σ', ?_, mm_sm_mono s (ic8_q gx)⟩
          unfold fX3_air
          rw [cs σ hc, if_neg a1, es, f, Option.bind_some, if_neg (show ¬ (v, σ').1 = -9 from hv)]
          rfl
        · obtain ⟨σ', f, -, s⟩ := mx_rd gm ok ht hn es hl σ hc
          refine ⟨σ', ?_, mm_sm_mono s (fun b q => by unfold qY; rw [q]; omega)⟩
          unfold fX4_air
          rw [mst σ hc, if_neg a0, f, Option.bind_some, if_neg (show ¬ (v, σ').1 = -9 from hv)]
          rfl
end AI
