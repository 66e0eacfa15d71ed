/-! THE CLASS'S AIR, by its values -/
def sa (G : mm_G) (a i : Nat) : Nat := mm_R G (mm_R G a 0) i
def ga (G : mm_G) (a : Nat) : Prop := mm_N G (mm_R G a 0) = 7 ∧ (∀ i, i < 7 → sa G a i ≠ a) ∧ (∀ i j, i < 7 → j < 7 → sa G a i = sa G a j → i = j)
def rA (G : mm_G) (σ : mm_M) (a : Nat) (A : ab_A) : Prop := σ.1 a 1 = nI (a_n A) ∧ σ.1 a 2 = a_sl A ∧ σ.1 a 3 = a_hd A ∧ σ.1 a 4 = a_ls A ∧ σ.1 a 5 = a_tk A ∧ ∀ i, i < a_n A → so σ (sa G a i) = a_st A i
/-- the cells of an air -/
def ic (G : mm_G) (a : Nat) : Nat → Prop := fun b => b = a ∨ ∃ i, i < 7 ∧ b = sa G a i
theorem rA_sm {G : mm_G} {S : Nat → Prop} {σ σ' : mm_M} {a : Nat} {A : ab_A} (h : mm_sm S σ σ') (hn : a_n A ≤ 7) (hd : ∀ b, ic G a b → ¬ S b) (hr : rA G σ a A) : rA G σ' a A := by
  have e := h.1 a (hd a (Or.inl rfl))
  refine ⟨by rw [e]; exact hr.1, by rw [e]; exact hr.2.1, by rw [e]; exact hr.2.2.1, by rw [e]; exact hr.2.2.2.1, by rw [e]; exact hr.2.2.2.2.1, fun i hi => ?_⟩
  rw [so_sm h (hd _ (Or.inr ⟨i, by omega, rfl⟩))]
  exact hr.2.2.2.2.2 i hi
theorem ca_talkers {G : mm_G} {σ : mm_M} {a N : Nat} {A : ab_A} (z : Int32) (hg : ga G a) (hr : rA G σ a A) (ho : ab_ok N A) : fX0_talkers G a z σ = some (ab_who A z, σ) := by
  obtain ⟨h1, h2, h3, h4, h5, hs⟩ := hr
  have hn7 : a_n A ≤ 7 := ho.1
  have hN := hg.1
  generalize hp : (fun i => !bt z i && ab_wants (a_st A i) (a_tk A)) = p
  have hw : ab_who A z = ab_mk p (a_n A) := by unfold ab_who; rw [hp]
  have step : ∀ i, i < a_n A → fX0_talkers_s G a z (ab_mk p i, nI i, σ) = some (.inr (ab_mk p (i + 1), nI (i + 1), σ)) := by
    intro i hi
    have hlt : nI i < nI (a_n A) := nI_lt hi (by omega)
    have hck : ¬ (nI i < 0 ∨ 7 ≤ (nI i).toNatClampNeg) := ck_no (by omega) (by decide)
    have hcl : (nI i).toNatClampNeg = i := nI_clamp (by omega)
    obtain ⟨k, hk, hkd⟩ := ab_okS_kd (ho.2.2.2 i hi)
    have hso := hs i hi
    have hk0 : σ.1 (sa G a i) 0 = nI k := by
      have := congrArg (fun s : ab_S => s_kd s) hso
      exact this.trans hkd
    have hwt := cs_wants G (t := σ.1 a 5) hk hk0
    rw [hso, h5] at hwt
    show fX0_talkers_b4 G a z (ab_mk p i) (nI i) σ = _
    unfold fX0_talkers_b4
    rw [h1, if_pos hlt, hN, if_neg hck, hcl]
    have hpi : p i = (!bt z i && ab_wants (a_st A i) (a_tk A)) := by rw [← hp]
    show (if _ then (fX2_wants G (sa G a i) (σ.1 a 5) σ).bind _ else _) = _
    rw [h5, hwt, ← nI_1 i, ab_mk_s, hpi]
    by_cases hz : bt z i = true
    · rw [if_neg (by rw [b_ask0 z (by omega), hz]; decide), hz]
      rfl
    · have hz' : bt z i = false := by simpa using hz
      rw [if_pos ((b_ask0 z (by omega)).mpr hz'), hz']
      cases ab_wants (a_st A i) (a_tk A) <;> rfl
  unfold fX0_talkers fX0_talkers_b0
  rw [mm_run_go]
  show mm_lim (fX0_talkers_s G a z) (ab_mk p 0, nI 0, σ) = _
  rw [mm_for (f := fX0_talkers_s G a z) (fun i => (ab_mk p i, nI i, σ)) (a_n A) step]
  rw [hw]
  refine mm_lim_ret ?_
  show fX0_talkers_b4 G a z (ab_mk p (a_n A)) (nI (a_n A)) σ = _
  unfold fX0_talkers_b4
  rw [h1, if_neg Int32.lt_irrefl]
theorem ca_letters {G : mm_G} {σ : mm_M} {a N : Nat} {A : ab_A} (z : Int32) (hg : ga G a) (hr : rA G σ a A) (ho : ab_ok N A) : fX0_lettersBut G a z σ = some (ab_let A z (a_n A), σ) := by
  obtain ⟨h1, h2, h3, h4, h5, hs⟩ := hr
  have hn7 : a_n A ≤ 7 := ho.1
  have hN := hg.1
  have step : ∀ i, i < a_n A → fX0_lettersBut_s G a z (ab_let A z i, nI i, σ) = some (.inr (ab_let A z (i + 1), nI (i + 1), σ)) := by
    intro i hi
    have hlt : nI i < nI (a_n A) := nI_lt hi (by omega)
    have hck : ¬ (nI i < 0 ∨ 7 ≤ (nI i).toNatClampNeg) := ck_no (by omega) (by decide)
    have hcl : (nI i).toNatClampNeg = i := nI_clamp (by omega)
    have hlt3 : σ.1 (sa G a i) 3 = s_lt (a_st A i) := congrArg (fun s : ab_S => s_lt s) (hs i hi)
    show fX0_lettersBut_b4 G a z (ab_let A z i) (nI i) σ = _
    unfold fX0_lettersBut_b4
    rw [h1, if_pos hlt, hN, if_neg hck, hcl]
    show (if _ then some (Sum.inr (ab_let A z i + σ.1 (sa G a i) 3, nI i + 1, σ)) else _) = _
    rw [hlt3, nI_1 i]
    have e : ab_let A z (i + 1) = if bt z i then ab_let A z i else ab_let A z i + s_lt (a_st A i) := rfl
    rw [e]
    by_cases hz : bt z i = true
    · rw [if_neg (by rw [b_ask0 z (by omega), hz]; decide), if_pos hz]
    · have hz' : bt z i = false := by simpa using hz
      rw [if_pos ((b_ask0 z (by omega)).mpr hz'), if_neg hz]
  unfold fX0_lettersBut fX0_lettersBut_b0
  rw [mm_run_go]
  show mm_lim (fX0_lettersBut_s G a z) (ab_let A z 0, nI 0, σ) = _
  rw [mm_for (f := fX0_lettersBut_s G a z) (fun i => (ab_let A z i, nI i, σ)) (a_n A) step]
  refine mm_lim_ret ?_
  show fX0_lettersBut_b4 G a z (ab_let A z (a_n A)) (nI (a_n A)) σ = _
  unfold fX0_lettersBut_b4
  rw [h1, if_neg Int32.lt_irrefl]
/-- how many bits: the JDK's count below 128 -/
theorem jd_count : ∀ m, m < 128 → ∀ (G : mm_G) (σ : mm_M), fJ6_bitCount_0f7a4 G (nI m) σ = some (ab_ones (nI m), σ) := by
  intro m hm G σ
  unfold fJ6_bitCount_0f7a4
  refine congrArg (fun x => some (x, σ)) ?_
  revert m
  decide +kernel
theorem jd_cnt {p : Nat → Bool} {n : Nat} (hn : n ≤ 7) (G : mm_G) (σ : mm_M) : fJ6_bitCount_0f7a4 G (ab_mk p n) σ = some (ab_ones (ab_mk p n), σ) := by
  obtain ⟨m, hm, e⟩ := ab_mk_lt (p := p) hn
  rw [e]
  exact jd_count m hm G σ
theorem ab_ones_pos : ∀ m, m < 128 → ∀ i, i < 7 → bt (nI m) i = true → ¬ ab_ones (nI m) = 0 := by decide +kernel
theorem ab_ones_le : ∀ m, m < 128 → ∃ k, k < 8 ∧ ab_ones (nI m) = nI k := by decide +kernel
/-- the loop of a slot: what stands behind i stations -/
def gI (G : mm_G) (σ : mm_M) (a : Nat) (A : ab_A) (z : Int32) (i : Nat) (s : Int32 × Int32 × Int32 × mm_M) : Prop :=
  s.1 = ab_who A z ∧ s.2.1 = (if ab_ones (ab_who A z) = 1 then 1 else 0) ∧ s.2.2.1 = nI i ∧ mm_sm (ic G a) σ s.2.2.2 ∧
  s.2.2.2.1 a 1 = nI (a_n A) ∧ s.2.2.2.1 a 2 = a_sl A ∧ s.2.2.2.1 a 3 = a_hd A + ab_hs (ab_who A z) i ∧ s.2.2.2.1 a 4 = a_ls A + ab_lss (ab_who A z) (a_st A) i ∧ s.2.2.2.1 a 5 = a_tk A ∧
  (∀ j, j < a_n A → so s.2.2.2 (sa G a j) = if j < i then ab_next (ab_who A z) z (a_sl A) j (a_st A j) else a_st A j)
theorem gI_next {G : mm_G} {σ σ1 σ3 : mm_M} {a i : Nat} {A : ab_A} {z w al : Int32} (h : gI G σ a A z i (w, al, nI i, σ1)) (hsm : mm_sm (ic G a) σ1 σ3) (e1 : σ3.1 a 1 = σ1.1 a 1) (e2 : σ3.1 a 2 = σ1.1 a 2) (e5 : σ3.1 a 5 = σ1.1 a 5)
    (e3 : σ3.1 a 3 = σ1.1 a 3 + (if bt w i ∧ ab_ones w = 1 then 1 else 0)) (e4 : σ3.1 a 4 = σ1.1 a 4 + (if bt w i ∧ ¬ ab_ones w = 1 ∧ ab_gives (a_st A i) then 1 else 0))
    (hj : ∀ j, j < a_n A → j ≠ i → so σ3 (sa G a j) = so σ1 (sa G a j)) (hi : so σ3 (sa G a i) = ab_next w z (a_sl A) i (a_st A i)) : gI G σ a A z (i + 1) (w, al, nI i + 1, σ3) := by
  obtain ⟨hw, hal, -, hs, r1, r2, r3, r4, r5, hst⟩ := h
  dsimp only at hw hal hs r1 r2 r3 r4 r5 hst
  subst hw
  refine ⟨rfl, hal, nI_1 i, mm_sm_tr hs hsm, e1.trans r1, e2.trans r2, ?_, ?_, e5.trans r5, fun j hjn => ?_⟩
  · show σ3.1 a 3 = a_hd A + (ab_hs (ab_who A z) i + _)
    rw [e3, r3, Int32.add_assoc]
  · show σ3.1 a 4 = a_ls A + (ab_lss (ab_who A z) (a_st A) i + _)
    rw [e4, r4, Int32.add_assoc]
  · show so σ3 (sa G a j) = _
    by_cases hji : j = i
    · subst hji
      rw [if_pos (Nat.lt_succ_self j)]
      exact hi
    · rw [hj j hjn hji, hst j hjn]
      have : (j < i + 1) ↔ (j < i) := by omega
      simp only [this]
theorem ca_step {G : mm_G} {σ σ1 : mm_M} {a i N : Nat} {A : ab_A} {z w al : Int32} (hg : ga G a) (ho : ab_ok N A) (hN : N < 2 ^ 19) (hi : i < a_n A) (h : gI G σ a A z i (w, al, nI i, σ1)) : ∃ σ3, fX0_goBy_s G a z (w, al, nI i, σ1) = some (.inr (w, al, nI i + 1, σ3)) ∧ gI G σ a A z (i + 1) (w, al, nI i + 1, σ3) := by
  have hn7 : a_n A ≤ 7 := ho.1
  have hx := h
  obtain ⟨hw, hal, -, hs, r1, r2, r3, r4, r5, hst⟩ := h
  dsimp only at hw hal hs r1 r2 r3 r4 r5 hst
  have hlt : nI i < nI (a_n A) := nI_lt hi (by omega)
  have hck : ¬ (nI i < 0 ∨ 7 ≤ (nI i).toNatClampNeg) := ck_no (by omega) (by decide)
  have hcl : (nI i).toNatClampNeg = i := nI_clamp (by omega)
  have hsi : so σ1 (sa G a i) = a_st A i := by rw [hst i hi, if_neg (Nat.lt_irrefl i)]
  have hna : a ≠ sa G a i := fun e => hg.2.1 i (by omega) e.symm
  have hin : ic G a (sa G a i) := Or.inr ⟨i, by omega, rfl⟩
  have hia : ic G a a := Or.inl rfl
  have hoth : ∀ j, j < a_n A → j ≠ i → ¬ (sa G a j = sa G a i) := fun j hj hji e => hji (hg.2.2 j i (by omega) (by omega) e)
  have hb23 : fX0_goBy_s G a z (w, al, nI i, σ1) = fX0_goBy_b23 G a z w al (nI i) σ1 := rfl
  rw [hb23]
  unfold fX0_goBy_b23
  rw [r1, if_pos hlt, hg.1, if_neg hck, hcl]
  rw [show mm_R G (mm_R G a 0) i = sa G a i from rfl]
  by_cases hb : bt w i = true
  · rw [if_neg (by rw [b_ask0 w (by omega), hb]; decide)]
    by_cases h1 : ab_ones w = 1
    · have hal1 : ¬ al = 0 := by rw [hal, ← hw, if_pos h1]; decide
      rw [if_neg hal1]
      obtain ⟨σ2, f2, s2, m2⟩ := cs_heard G (sa G a i) σ1
      rw [f2]
      have ea : σ2.1 a = σ1.1 a := m2.1 a hna
      refine ⟨_, rfl, gI_next hx (mm_sm_up (mm_sm_mono m2 (fun b hb => by subst hb; exact hin)) hia) ?_ ?_ ?_ ?_ ?_ ?_ ?_⟩
      · rw [mm_gk (by decide), ea]
      · rw [mm_gk (by decide), ea]
      · rw [mm_gk (by decide), ea]
      · rw [mm_gs, ea, if_pos ⟨hb, h1⟩]
      · rw [mm_gk (by decide), ea, if_neg (fun q => q.2.1 h1), Int32.add_zero]
      · intro j hj hji
        unfold so
        rw [mm_ga (hg.2.1 j (by omega)), m2.1 _ (hoth j hj hji)]
      · have : so (mm_up σ2 a 3 (σ2.1 a 3 + 1)) (sa G a i) = so σ2 (sa G a i) := by unfold so; rw [mm_ga (Ne.symm hna)]
        rw [this, s2, hsi]
        unfold ab_next
        rw [if_pos hb, if_pos h1]
    · have hal0 : al = 0 := by rw [hal, ← hw, if_neg h1]
      rw [if_pos hal0]
      have hok := ho.2.2.2 i hi
      obtain ⟨k, f, p, l, ww, c, es, hk, hf, hp1, hp, hl, hw4, hc⟩ := id hok
      have ecl : s_cl (so σ1 (sa G a i)) + 1 = nI (c + 1) := by rw [hsi, es]; exact nI_1 c
      obtain ⟨v, hv, hd⟩ := ab_okS_dbl hok (c := c + 1) (by omega) (by omega)
      obtain ⟨σ2, f2, s2, m2⟩ := cs_meets G (b := sa G a i) (t := σ1.1 a 2) (σ := σ1) hv (by rw [ecl, hsi]; exact hd)
      rw [f2]
      have ea : σ2.1 a = σ1.1 a := m2.1 a hna
      have hnx : ab_next w z (a_sl A) i (a_st A i) = ab_meet (so σ1 (sa G a i)) (σ1.1 a 2) := by
        unfold ab_next
        rw [if_pos hb, if_neg h1, hsi, r2]
      have hso2 : ∀ j, j < a_n A → j ≠ i → so σ2 (sa G a j) = so σ1 (sa G a j) := fun j hj hji => so_sm m2 (hoth j hj hji)
      rw [hsi]
      by_cases hgv : ab_gives (a_st A i) = true
      · rw [if_pos hgv]
        refine ⟨mm_up σ2 a 4 (σ2.1 a 4 + 1), rfl, gI_next hx (mm_sm_up (mm_sm_mono m2 (fun b hb => by subst hb; exact hin)) hia) ?_ ?_ ?_ ?_ ?_ ?_ ?_⟩
        · rw [mm_gk (by decide), ea]
        · rw [mm_gk (by decide), ea]
        · rw [mm_gk (by decide), ea]
        · rw [mm_gk (by decide), ea, if_neg (fun q => h1 q.2), Int32.add_zero]
        · rw [mm_gs, ea, if_pos ⟨hb, h1, hgv⟩]
        · intro j hj hji
          have : so (mm_up σ2 a 4 (σ2.1 a 4 + 1)) (sa G a j) = so σ2 (sa G a j) := by unfold so; rw [mm_ga (hg.2.1 j (by omega))]
          rw [this, hso2 j hj hji]
        · have : so (mm_up σ2 a 4 (σ2.1 a 4 + 1)) (sa G a i) = so σ2 (sa G a i) := by unfold so; rw [mm_ga (Ne.symm hna)]
          rw [this, s2, hnx]
      · rw [if_neg hgv]
        refine ⟨σ2, rfl, gI_next hx (mm_sm_mono m2 (fun b hb => by subst hb; exact hin)) ?_ ?_ ?_ ?_ ?_ hso2 ?_⟩
        · rw [ea]
        · rw [ea]
        · rw [ea]
        · rw [ea, if_neg (fun q => h1 q.2), Int32.add_zero]
        · rw [ea, if_neg (fun q => hgv q.2.2), Int32.add_zero]
        · rw [s2, hnx]
  · have hb' : bt w i = false := by simpa using hb
    rw [if_pos ((b_ask0 w (by omega)).mpr hb')]
    have z3 : ∀ x : Int32, x = x + (if bt w i ∧ ab_ones w = 1 then 1 else 0) := fun x => by rw [if_neg (fun q => hb q.1), Int32.add_zero]
    have z4 : ∀ x : Int32, x = x + (if bt w i ∧ ¬ ab_ones w = 1 ∧ ab_gives (a_st A i) then 1 else 0) := fun x => by rw [if_neg (fun q => hb q.1), Int32.add_zero]
    have hwt : σ1.1 (sa G a i) 4 = s_wt (a_st A i) := congrArg (fun s : ab_S => s_wt s) hsi
    have same : ¬ (0 < s_wt (a_st A i) ∧ bt z i = false) → gI G σ a A z (i + 1) (w, al, nI i + 1, σ1) := fun hno => by
      refine gI_next hx (mm_sm_rf _ _) rfl rfl rfl (z3 _) (z4 _) (fun _ _ _ => rfl) ?_
      rw [hsi]
      unfold ab_next
      rw [if_neg hb, if_neg hno]
    by_cases hw0 : 0 < σ1.1 (sa G a i) 4
    · rw [if_pos hw0]
      by_cases hz : bt z i = true
      · rw [if_neg (by rw [b_ask0 z (by omega), hz]; decide)]
        exact ⟨σ1, rfl, same (fun q => by rw [hz] at q; cases q.2)⟩
      · have hz' : bt z i = false := by simpa using hz
        rw [if_pos ((b_ask0 z (by omega)).mpr hz')]
        refine ⟨_, rfl, gI_next hx (mm_sm_up (mm_sm_rf _ _) hin) ?_ ?_ ?_ ?_ ?_ ?_ ?_⟩
        · rw [mm_ga hna]
        · rw [mm_ga hna]
        · rw [mm_ga hna]
        · rw [mm_ga hna]; exact z3 _
        · rw [mm_ga hna]; exact z4 _
        · intro j hj hji
          unfold so
          rw [mm_ga (hoth j hj hji)]
        · unfold ab_next
          rw [if_neg hb, if_pos ⟨by rw [← hwt]; exact hw0, hz'⟩, ← hsi]
          simp [so, mm_up, ab_less]
    · rw [if_neg hw0]
      exact ⟨σ1, rfl, same (fun q => hw0 (by rw [hwt]; exact q.1))⟩
theorem ca_goBy {G : mm_G} {σ : mm_M} {a N : Nat} {A : ab_A} (z : Int32) (hg : ga G a) (hr : rA G σ a A) (ho : ab_ok N A) (hN : N < 2 ^ 19) : ∃ σ', fX0_goBy G a z σ = some (ab_who A z, σ') ∧ rA G σ' a (ab_go A z) ∧ mm_sm (ic G a) σ σ' := by
  have hn7 : a_n A ≤ 7 := ho.1
  have hcnt : fJ6_bitCount_0f7a4 G (ab_who A z) σ = some (ab_ones (ab_who A z), σ) := jd_cnt hn7 G σ
  have h0 : fX0_goBy G a z σ = mm_lim (fX0_goBy_s G a z) (ab_who A z, if ab_ones (ab_who A z) = 1 then 1 else 0, nI 0, σ) := by
    unfold fX0_goBy fX0_goBy_b0
    rw [ca_talkers z hg hr ho, Option.bind_some, hcnt, Option.bind_some, mm_run_go]
    rfl
  have hI0 : gI G σ a A z 0 (ab_who A z, if ab_ones (ab_who A z) = 1 then 1 else 0, nI 0, σ) := by
    refine ⟨rfl, rfl, rfl, mm_sm_rf _ _, hr.1, hr.2.1, ?_, ?_, hr.2.2.2.2.1, fun j hj => ?_⟩
    · show σ.1 a 3 = a_hd A + 0
      rw [Int32.add_zero]; exact hr.2.2.1
    · show σ.1 a 4 = a_ls A + 0
      rw [Int32.add_zero]; exact hr.2.2.2.1
    · rw [if_neg (Nat.not_lt_zero j)]; exact hr.2.2.2.2.2 j hj
  obtain ⟨⟨w, al, x, σ1⟩, e1, hI⟩ := mm_loop (f := fX0_goBy_s G a z) (gI G σ a A z) (a_n A) (fun i s hi hI => by
    obtain ⟨w, al, x, σ1⟩ := s
    have hx : x = nI i := hI.2.2.1
    subst hx
    obtain ⟨σ3, f3, g3⟩ := ca_step hg ho hN hi hI
    exact ⟨_, mm_lim_go f3, g3⟩) _ hI0
  obtain ⟨hw, hal, hx, hs, r1, r2, r3, r4, r5, hst⟩ := hI
  dsimp only at hw hal hx hs r1 r2 r3 r4 r5 hst
  subst hw
  subst hx
  have hfin : fX0_goBy_s G a z (ab_who A z, al, nI (a_n A), σ1) = some (.inl (ab_who A z, mm_up (mm_up σ1 a 5 (if ab_who A z = 0 then 0 else 1)) a 2 (σ1.1 a 2 + 1))) := by
    show fX0_goBy_b23 G a z (ab_who A z) al (nI (a_n A)) σ1 = _
    unfold fX0_goBy_b23
    rw [r1, if_neg Int32.lt_irrefl]
    unfold fX0_goBy_b141
    rw [if_neg (by by_cases h : ab_who A z = 0 <;> simp [h]), mm_gk (by decide)]
  refine ⟨mm_up (mm_up σ1 a 5 (if ab_who A z = 0 then 0 else 1)) a 2 (σ1.1 a 2 + 1), ?_, ?_, mm_sm_up (mm_sm_up hs (Or.inl rfl)) (Or.inl rfl)⟩
  · rw [h0, e1]
    exact mm_lim_ret hfin
  · refine ⟨?_, ?_, ?_, ?_, ?_, fun i hi => ?_⟩
    · rw [mm_gk (by decide), mm_gk (by decide)]; exact r1
    · rw [mm_gs, r2]; rfl
    · rw [mm_gk (by decide), mm_gk (by decide)]; exact r3
    · rw [mm_gk (by decide), mm_gk (by decide)]; exact r4
    · rw [mm_gk (by decide), mm_gs]; rfl
    · have hi' : i < a_n A := hi
      have hne : sa G a i ≠ a := hg.2.1 i (by omega)
      have e : so (mm_up (mm_up σ1 a 5 (if ab_who A z = 0 then 0 else 1)) a 2 (σ1.1 a 2 + 1)) (sa G a i) = so σ1 (sa G a i) := by
        unfold so; rw [mm_ga hne, mm_ga hne]
      rw [e, hst i hi', if_pos hi']
      rfl
