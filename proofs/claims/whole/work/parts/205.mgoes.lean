/-! THE MODEL'S SLOT -/
theorem mm_gs2 {σ : mm_M} {a j k : Nat} {v : Int32} (h : k = j) : (mm_up σ a j v).1 a k = v := by rw [h]; exact mm_gs ..
theorem ml_clash (G : mm_G) {c i : Nat} {σ : mm_M} (hN : mm_N G c = 48) (hi : i < 7) {k f p l w cl : Nat} (hs : ms σ c i = (nI k, nI f, nI p, nI l, nI w, nI cl)) (hk : k ≤ 5) (hf : f ≤ 9) (hp1 : 1 ≤ p) (hp : p ≤ 9) (hc : cl + 1 < 2 ^ 20) :
    ∃ σ', fX4_clashes G c (nI i) σ = some σ' ∧ ms σ' c i = ab_meet (ms σ c i) (σ.1 c 0) ∧ σ'.1 c 3 = σ.1 c 3 + (if ab_gives (ms σ c i) then 1 else 0) ∧ (∀ j, j ≠ 3 → j ≠ 11 + i → j ≠ 18 + i → j ≠ 25 + i → σ'.1 c j = σ.1 c j) ∧ mm_sm (fun x => x = c) σ σ' := by
  have e33 : σ.1 c (33 + i) = nI k := congrArg (fun s : ab_S => s.1) hs
  have e4 : σ.1 c (4 + i) = nI f := congrArg (fun s : ab_S => s.2.1) hs
  have e40 : σ.1 c (40 + i) = nI p := congrArg (fun s : ab_S => s.2.2.1) hs
  have e25 : σ.1 c (25 + i) = nI cl := congrArg (fun s : ab_S => s.2.2.2.2.2) hs
  generalize hσ1 : mm_up σ c (25 + i) (σ.1 c (25 + i) + 1) = σ1
  have r : ∀ j, j ≠ 25 + i → σ1.1 c j = σ.1 c j := fun j hj => by rw [← hσ1]; exact mm_gk hj
  have r25 : σ1.1 c (25 + i) = nI (cl + 1) := by rw [← hσ1, mm_gs, e25, nI_1]
  have sm1 : mm_sm (fun x => x = c) σ σ1 := by rw [← hσ1]; exact mm_sm_up (mm_sm_rf _ _) rfl
  have hwait : fX4_waitBy G (nI k) (nI f) (nI p) (nI (cl + 1)) (σ.1 c 0) σ1 = some (ab_wait (ms σ c i) (nI (cl + 1)) (σ.1 c 0), σ1) := by
    rw [hs]; exact ml_wait G hk hf hp1 hp (by omega) hc _ _
  have eg : ab_gives (ms σ c i) = (decide (nI k = 5) && decide (nI (cl + 1) = 4)) := by
    rw [hs]
    show (decide (nI k = 5) && decide (nI cl + 1 = 4)) = _
    rw [nI_1]
  -- the end of it, for either way: what is waited, what clashes stand, whether it gives up
  have tail : ∀ (g nw : Int32), (g = 0 ∨ g = 1) → ∃ σ', fX4_clashes_b75 G c (nI i) g nw (nI (18 + i)) c σ1 = some σ' ∧
      ms σ' c i = (nI k, nI f, nI p, σ.1 c (11 + i) - g, nw, if g = 0 then nI (cl + 1) else 0) ∧ σ'.1 c 3 = σ.1 c 3 + g ∧ (∀ j, j ≠ 3 → j ≠ 11 + i → j ≠ 18 + i → j ≠ 25 + i → σ'.1 c j = σ.1 c j) ∧ mm_sm (fun x => x = c) σ σ' := by
    intro g nw hg
    generalize hσ2 : mm_up σ1 c (18 + i) nw = σ2
    have r2 : ∀ j, j ≠ 18 + i → σ2.1 c j = σ1.1 c j := fun j hj => by rw [← hσ2]; exact mm_gk hj
    have hgd : (if g = 0 then (0 : Int32) else 1) = g := by rcases hg with rfl | rfl <;> rfl
    have t95 : ∀ ncl : Int32, ∃ σ', fX4_clashes_b95 G c (nI i) g ncl (nI (25 + i)) c σ2 = some σ' ∧
        ms σ' c i = (nI k, nI f, nI p, σ.1 c (11 + i) - g, nw, ncl) ∧ σ'.1 c 3 = σ.1 c 3 + g ∧ (∀ j, j ≠ 3 → j ≠ 11 + i → j ≠ 18 + i → j ≠ 25 + i → σ'.1 c j = σ.1 c j) ∧ mm_sm (fun x => x = c) σ σ' := by
      intro ncl
      generalize hσ3 : mm_up σ2 c (25 + i) ncl = σ3
      have r3 : ∀ j, j ≠ 25 + i → σ3.1 c j = σ2.1 c j := fun j hj => by rw [← hσ3]; exact mm_gk hj
      have l11 : σ3.1 c (11 + i) = σ.1 c (11 + i) := by rw [r3 _ (by omega), r2 _ (by omega), r _ (by omega)]
      generalize hσ4 : mm_up σ3 c (11 + i) (σ.1 c (11 + i) - g) = σ4
      have r4 : ∀ j, j ≠ 11 + i → σ4.1 c j = σ3.1 c j := fun j hj => by rw [← hσ4]; exact mm_gk hj
      have l3 : σ4.1 c 3 = σ.1 c 3 := by rw [r4 _ (by omega), r3 _ (by omega), r2 _ (by omega), r _ (by omega)]
      refine ⟨mm_up σ4 c 3 (σ.1 c 3 + g), ?_, ?_, mm_gs .., fun j h3 h11 h18 h25 => ?_, ?_⟩
      · unfold fX4_clashes_b95
        rw [hN, nI_clamp (by omega), if_neg (kcn (by omega)), ad11, nI_clamp (by omega), if_neg (kcn (by omega)), hσ3, l11, hgd]
        unfold fX4_clashes_b112
        rw [hN, nI_clamp (by omega), if_neg (kcn (by omega)), tc3, if_neg kc3, hσ4, l3, hgd]
        unfold fX4_clashes_b127
        rw [hN, tc3, if_neg kc3]
      · unfold ms
        rw [mm_gk (by omega), mm_gk (by omega), mm_gk (by omega), mm_gk (by omega), mm_gk (by omega), mm_gk (by omega)]
        rw [r4 (33 + i) (by omega), r3 (33 + i) (by omega), r2 (33 + i) (by omega), r (33 + i) (by omega), e33]
        rw [r4 (4 + i) (by omega), r3 (4 + i) (by omega), r2 (4 + i) (by omega), r (4 + i) (by omega), e4]
        rw [r4 (40 + i) (by omega), r3 (40 + i) (by omega), r2 (40 + i) (by omega), r (40 + i) (by omega), e40]
        rw [r4 (18 + i) (by omega), r3 (18 + i) (by omega), r4 (25 + i) (by omega)]
        rw [← hσ4, mm_gs, ← hσ3, mm_gs, ← hσ2, mm_gs]
      · rw [mm_gk h3, r4 _ h11, r3 _ h25, r2 _ h18, r _ h25]
      · rw [← hσ4, ← hσ3, ← hσ2]
        exact mm_sm_up (mm_sm_up (mm_sm_up (mm_sm_up sm1 rfl) rfl) rfl) rfl
    have h25 : σ2.1 c (25 + i) = nI (cl + 1) := by rw [r2 _ (by omega), r25]
    unfold fX4_clashes_b75
    rw [hN, nI_clamp (by omega), if_neg (kcn (by omega)), ad25, nI_clamp (by omega), if_neg (kcn (by omega)), hσ2, h25]
    by_cases hg0 : g = 0
    · rw [if_pos hg0, if_pos hg0]; exact t95 _
    · rw [if_neg hg0, if_neg hg0]; exact t95 _
  -- the beginning
  have b37 : ∀ g : Int32, fX4_clashes_b37 G c (nI i) (nI k) g σ1 = if g = 0 then fX4_clashes_b75 G c (nI i) g (ab_wait (ms σ c i) (nI (cl + 1)) (σ.1 c 0)) (nI (18 + i)) c σ1 else fX4_clashes_b75 G c (nI i) g 0 (nI (18 + i)) c σ1 := by
    intro g
    unfold fX4_clashes_b37
    rw [hN, ad4, ad40, ad25, ad18, nI_clamp (by omega), nI_clamp (by omega), nI_clamp (by omega), tc0, if_neg (kcn (by omega)), if_neg (kcn (by omega)), if_neg (kcn (by omega)), if_neg kc0]
    rw [r (4 + i) (by omega), r (40 + i) (by omega), r25, r 0 (by omega), e4, e40, hwait, Option.bind_some]
  have start : fX4_clashes G c (nI i) σ = fX4_clashes_b37 G c (nI i) (nI k) (if ab_gives (ms σ c i) then 1 else 0) σ1 := by
    unfold fX4_clashes fX4_clashes_b36
    rw [hN, ad25, ad33, nI_clamp (by omega), nI_clamp (by omega), if_neg (kcn (by omega)), if_neg (kcn (by omega)), if_neg (kcn (by omega)), if_neg (kcn (by omega)), hσ1]
    rw [r (33 + i) (by omega), e33, r25, eg]
    by_cases k5 : nI k = 5
    · rw [if_pos k5, decide_eq_true k5]
      by_cases c4 : nI (cl + 1) = 4
      · rw [if_pos c4, decide_eq_true c4, Bool.and_self, if_pos rfl]
      · rw [if_neg c4, decide_eq_false c4, Bool.and_false, if_neg (by decide : ¬ false = true)]
    · rw [if_neg k5, decide_eq_false k5, Bool.false_and, if_neg (by decide : ¬ false = true)]
  have em : ab_meet (ms σ c i) (σ.1 c 0) = if ab_gives (ms σ c i) then (nI k, nI f, nI p, σ.1 c (11 + i) - 1, 0, 0) else (nI k, nI f, nI p, σ.1 c (11 + i), ab_wait (ms σ c i) (nI (cl + 1)) (σ.1 c 0), nI (cl + 1)) := by
    have e0 : ab_meet (ms σ c i) (σ.1 c 0) = if ab_gives (ms σ c i) then (σ.1 c (33 + i), σ.1 c (4 + i), σ.1 c (40 + i), σ.1 c (11 + i) - 1, 0, 0) else (σ.1 c (33 + i), σ.1 c (4 + i), σ.1 c (40 + i), σ.1 c (11 + i), ab_wait (ms σ c i) (σ.1 c (25 + i) + 1) (σ.1 c 0), σ.1 c (25 + i) + 1) := rfl
    rw [e0, e33, e4, e40, e25, nI_1]
  rw [start, em]
  by_cases hgv : ab_gives (ms σ c i) = true
  · obtain ⟨σ', h1, h2, h3, h4, h5⟩ := tail 1 0 (Or.inr rfl)
    rw [if_pos hgv, if_pos hgv, b37, if_neg (by decide : ¬ (1 : Int32) = 0)]
    rw [if_neg (by decide : ¬ (1 : Int32) = 0)] at h2
    exact ⟨σ', h1, h2, h3, h4, h5⟩
  · obtain ⟨σ', h1, h2, h3, h4, h5⟩ := tail 0 (ab_wait (ms σ c i) (nI (cl + 1)) (σ.1 c 0)) (Or.inl rfl)
    rw [if_neg hgv, if_neg hgv, b37, if_pos rfl]
    rw [if_pos rfl, Int32.sub_zero] at h2
    exact ⟨σ', h1, h2, h3, h4, h5⟩
def mI (σ : mm_M) (c : Nat) (A : ab_A) (z : Int32) (i : Nat) (s : Int32 × Int32 × Int32 × mm_M) : Prop :=
  s.1 = ab_who A z ∧ s.2.1 = ab_ones (ab_who A z) ∧ s.2.2.1 = nI i ∧ mm_sm (fun x => x = c) σ s.2.2.2 ∧
  s.2.2.2.1 c 32 = nI (a_n A) ∧ s.2.2.2.1 c 0 = a_sl A ∧ s.2.2.2.1 c 1 = a_tk A ∧ s.2.2.2.1 c 2 = a_hd A + ab_hs (ab_who A z) i ∧ s.2.2.2.1 c 3 = a_ls A + ab_lss (ab_who A z) (a_st A) i ∧ s.2.2.2.1 c 47 = z ∧
  (∀ j, j < a_n A → ms s.2.2.2 c j = if j < i then ab_next (ab_who A z) z (a_sl A) j (a_st A j) else a_st A j)
theorem mI_next {σ σ1 σ3 : mm_M} {c i : Nat} {A : ab_A} {z w n : Int32} (hn7 : a_n A ≤ 7) (hin : i < a_n A) (h : mI σ c A z i (w, n, nI i, σ1)) (hsm : mm_sm (fun x => x = c) σ1 σ3)
    (ek : ∀ j, j ≠ 2 → j ≠ 3 → j ≠ 11 + i → j ≠ 18 + i → j ≠ 25 + i → σ3.1 c j = σ1.1 c j)
    (e2 : σ3.1 c 2 = σ1.1 c 2 + (if bt w i ∧ ab_ones w = 1 then 1 else 0)) (e3 : σ3.1 c 3 = σ1.1 c 3 + (if bt w i ∧ ¬ ab_ones w = 1 ∧ ab_gives (a_st A i) then 1 else 0))
    (hi : ms σ3 c i = ab_next w z (a_sl A) i (a_st A i)) : mI σ c A z (i + 1) (w, n, nI i + 1, σ3) := by
  obtain ⟨hw, hal, -, hs, r32, r0, r1, r2, r3, r47, hst⟩ := h
  dsimp only at hw hal hs r32 r0 r1 r2 r3 r47 hst
  subst hw
  refine ⟨rfl, hal, nI_1 i, mm_sm_tr hs hsm, ?_, ?_, ?_, ?_, ?_, ?_, fun j hjn => ?_⟩
  · show σ3.1 c 32 = _
    rw [ek 32 (by omega) (by omega) (by omega) (by omega) (by omega)]; exact r32
  · show σ3.1 c 0 = _
    rw [ek 0 (by omega) (by omega) (by omega) (by omega) (by omega)]; exact r0
  · show σ3.1 c 1 = _
    rw [ek 1 (by omega) (by omega) (by omega) (by omega) (by omega)]; exact r1
  · show σ3.1 c 2 = a_hd A + (ab_hs (ab_who A z) i + _)
    rw [e2, r2, Int32.add_assoc]
  · show σ3.1 c 3 = a_ls A + (ab_lss (ab_who A z) (a_st A) i + _)
    rw [e3, r3, Int32.add_assoc]
  · show σ3.1 c 47 = _
    rw [ek 47 (by omega) (by omega) (by omega) (by omega) (by omega)]; exact r47
  · show ms σ3 c j = _
    by_cases hji : j = i
    · subst hji
      rw [if_pos (Nat.lt_succ_self j)]
      exact hi
    · have e : ms σ3 c j = ms σ1 c j := by
        unfold ms
        rw [ek (33 + j) (by omega) (by omega) (by omega) (by omega) (by omega), ek (4 + j) (by omega) (by omega) (by omega) (by omega) (by omega), ek (40 + j) (by omega) (by omega) (by omega) (by omega) (by omega), ek (11 + j) (by omega) (by omega) (by omega) (by omega) (by omega), ek (18 + j) (by omega) (by omega) (by omega) (by omega) (by omega), ek (25 + j) (by omega) (by omega) (by omega) (by omega) (by omega)]
      rw [e, hst j hjn]
      have : (j < i + 1) ↔ (j < i) := by omega
      simp only [this]
theorem ml_step {G : mm_G} {σ σ1 : mm_M} {c i N : Nat} {A : ab_A} {z w n : Int32} (hN : mm_N G c = 48) (ho : ab_ok N A) (hNN : N < 2 ^ 19) (hi : i < a_n A) (h : mI σ c A z i (w, n, nI i, σ1)) : ∃ σ3, fX4_goes_s G c (w, n, nI i, σ1) = some (.inr (w, n, nI i + 1, σ3)) ∧ mI σ c A z (i + 1) (w, n, nI i + 1, σ3) := by
  have hn7 : a_n A ≤ 7 := ho.1
  have hx := h
  obtain ⟨hw, hal, -, hs, r32, r0, r1, r2, r3, r47, hst⟩ := h
  dsimp only at hw hal hs r32 r0 r1 r2 r3 r47 hst
  have hlt : nI i < nI (a_n A) := nI_lt hi (by omega)
  have hsi : ms σ1 c i = a_st A i := by rw [hst i hi, if_neg (Nat.lt_irrefl i)]
  obtain ⟨m, hm, ewm⟩ : ∃ m, m < 128 ∧ w = nI m := by rw [hw]; exact ab_mk_lt hn7
  have hal' : n = ab_ones w := by rw [hal, hw]
  have key : fX4_goes_s G c (w, n, nI i, σ1) = if 1 < n then (if bt w i = true then (fX4_clashes G c (nI i) σ1).bind (fun q35 => some (.inr (w, n, nI i + 1, q35))) else fX4_goes_b41 G c w n (nI i) σ1) else fX4_goes_b41 G c w n (nI i) σ1 := by
    show fX4_goes_b12 G c w n (nI i) σ1 = _
    unfold fX4_goes_b12
    rw [hN, tc32, if_neg kc32, r32, if_pos hlt, ml_has G w (by omega), Option.bind_some]
    cases bt w i <;> rfl
  have b41f : bt w i = false → fX4_goes_b41 G c w n (nI i) σ1 = if 0 < σ1.1 c (18 + i) then (if bt z i = false then some (.inr (w, n, nI i + 1, mm_up σ1 c (18 + i) (σ1.1 c (18 + i) - 1))) else some (.inr (w, n, nI i + 1, σ1))) else some (.inr (w, n, nI i + 1, σ1)) := by
    intro hb
    have hh : fX4_has G w (nI i) σ1 = some (0, σ1) := (ml_has G w (by omega) σ1).trans (by rw [hb]; rfl)
    unfold fX4_goes_b41
    rw [hh, Option.bind_some, if_pos (show ((0 : Int32), σ1).1 = 0 from rfl), ad18, hN, nI_clamp (by omega), if_neg (kcn (by omega)), tc47, if_neg kc47, r47, ml_has G z (by omega), Option.bind_some, if_neg (kcn (by omega)), if_neg (kcn (by omega))]
    cases bt z i <;> rfl
  have b41t : bt w i = true → fX4_goes_b41 G c w n (nI i) σ1 = some (.inr (w, n, nI i + 1, mm_up (mm_up (mm_up σ1 c (11 + i) (σ1.1 c (11 + i) - 1)) c (25 + i) 0) c 2 (σ1.1 c 2 + 1))) := by
    intro hb
    have hh : fX4_has G w (nI i) σ1 = some (1, σ1) := (ml_has G w (by omega) σ1).trans (by rw [hb]; rfl)
    unfold fX4_goes_b41
    rw [hh, Option.bind_some, if_neg (show ¬ ((1 : Int32), σ1).1 = 0 from (by decide : ¬ (1 : Int32) = 0)), ad11, ad25, hN, nI_clamp (by omega), nI_clamp (by omega), if_neg (kcn (by omega)), if_neg (kcn (by omega)), if_neg (kcn (by omega)), tc2, if_neg kc2, if_neg kc2, mm_gk (show 2 ≠ 25 + i by omega), mm_gk (show 2 ≠ 11 + i by omega)]
  rw [key]
  by_cases hb : bt w i = true
  · by_cases h1 : ab_ones w = 1
    · have hn1 : ¬ 1 < n := by rw [hal', h1]; decide
      rw [if_neg hn1, b41t hb]
      refine ⟨_, rfl, mI_next hn7 hi hx (mm_sm_up (mm_sm_up (mm_sm_up (mm_sm_rf _ _) rfl) rfl) rfl) ?_ ?_ ?_ ?_⟩
      · intro j h2 h3 h11 h18 h25
        rw [mm_gk h2, mm_gk h25, mm_gk h11]
      · rw [mm_gs, if_pos ⟨hb, h1⟩]
      · rw [mm_gk (by decide), mm_gk (by omega), mm_gk (by omega), if_neg (fun q => q.2.1 h1), Int32.add_zero]
      · have e : ms (mm_up (mm_up (mm_up σ1 c (11 + i) (σ1.1 c (11 + i) - 1)) c (25 + i) 0) c 2 (σ1.1 c 2 + 1)) c i = ab_heard (ms σ1 c i) := by
          have rd : ∀ j, j ≠ 2 → j ≠ 25 + i → j ≠ 11 + i → (mm_up (mm_up (mm_up σ1 c (11 + i) (σ1.1 c (11 + i) - 1)) c (25 + i) 0) c 2 (σ1.1 c 2 + 1)).1 c j = σ1.1 c j := fun j h2 h25 h11 => by rw [mm_gk h2, mm_gk h25, mm_gk h11]
          have rd25 : (mm_up (mm_up (mm_up σ1 c (11 + i) (σ1.1 c (11 + i) - 1)) c (25 + i) 0) c 2 (σ1.1 c 2 + 1)).1 c (25 + i) = 0 := by rw [mm_gk (by omega), mm_gs]
          have rd11 : (mm_up (mm_up (mm_up σ1 c (11 + i) (σ1.1 c (11 + i) - 1)) c (25 + i) 0) c 2 (σ1.1 c 2 + 1)).1 c (11 + i) = σ1.1 c (11 + i) - 1 := by rw [mm_gk (by omega), mm_gk (by omega), mm_gs]
          unfold ms
          rw [rd (33 + i) (by omega) (by omega) (by omega), rd (4 + i) (by omega) (by omega) (by omega), rd (40 + i) (by omega) (by omega) (by omega), rd (18 + i) (by omega) (by omega) (by omega), rd25, rd11]
          rfl
        rw [e, hsi]
        unfold ab_next
        rw [if_pos hb, if_pos h1]
    · have hn1 : 1 < n := by
        have h0 : ¬ ab_ones w = 0 := by rw [ewm] at hb ⊢; exact ab_ones_pos m hm i (by omega) hb
        obtain ⟨k, hk, ek⟩ := ab_ones_le m hm
        rw [← ewm] at ek
        rw [hal', ek]
        rw [ek] at h0 h1
        have hk0 : k ≠ 0 := fun q => h0 (by rw [q]; rfl)
        have hk1 : k ≠ 1 := fun q => h1 (by rw [q]; rfl)
        exact (nI_ltI (a := 1) (b := k) (by decide) (by omega)).mpr (by omega)
      rw [if_pos hn1, if_pos hb]
      obtain ⟨k, f, p, l, ww, cl, es, hk, hf, hp1, hp, hl, hw4, hc⟩ := ho.2.2.2 i hi
      obtain ⟨σ2, f2, s2, s3, s4, s5⟩ := ml_clash G (c := c) (i := i) (σ := σ1) hN (by omega) (hsi.trans es) hk hf hp1 hp (by omega)
      rw [f2]
      refine ⟨σ2, rfl, mI_next hn7 hi hx s5 (fun j _ h3 h11 h18 h25 => s4 j h3 h11 h18 h25) ?_ ?_ ?_⟩
      · rw [s4 2 (by omega) (by omega) (by omega) (by omega), if_neg (fun q => h1 q.2), Int32.add_zero]
      · rw [s3, hsi]
        cases ab_gives (a_st A i)
        · rw [if_neg (by decide), if_neg (fun q => by cases q.2.2)]
        · rw [if_pos rfl, if_pos ⟨hb, h1, rfl⟩]
      · rw [s2, hsi, r0]
        unfold ab_next
        rw [if_pos hb, if_neg h1]
  · have hb' : bt w i = false := by simpa using hb
    have e41 : (if 1 < n then (if bt w i = true then (fX4_clashes G c (nI i) σ1).bind (fun q35 => some (.inr (w, n, nI i + 1, q35))) else fX4_goes_b41 G c w n (nI i) σ1) else fX4_goes_b41 G c w n (nI i) σ1) = fX4_goes_b41 G c w n (nI i) σ1 := by
      rw [if_neg hb, ite_self]
    rw [e41, b41f hb']
    have z2 : ∀ x : Int32, x = x + (if bt w i ∧ ab_ones w = 1 then 1 else 0) := fun x => by rw [if_neg (fun q => hb q.1), Int32.add_zero]
    have z3 : ∀ x : Int32, x = x + (if bt w i ∧ ¬ ab_ones w = 1 ∧ ab_gives (a_st A i) then 1 else 0) := fun x => by rw [if_neg (fun q => hb q.1), Int32.add_zero]
    have hwt : σ1.1 c (18 + i) = s_wt (a_st A i) := congrArg (fun s : ab_S => s_wt s) hsi
    have same : ¬ (0 < s_wt (a_st A i) ∧ bt z i = false) → mI σ c A z (i + 1) (w, n, nI i + 1, σ1) := fun hno => by
      refine mI_next hn7 hi hx (mm_sm_rf _ _) (fun _ _ _ _ _ _ => rfl) (z2 _) (z3 _) ?_
      rw [hsi]
      unfold ab_next
      rw [if_neg hb, if_neg hno]
    by_cases hw0 : 0 < σ1.1 c (18 + i)
    · rw [if_pos hw0]
      by_cases hz : bt z i = false
      · rw [if_pos hz]
        refine ⟨_, rfl, mI_next hn7 hi hx (mm_sm_up (mm_sm_rf _ _) rfl) ?_ ?_ ?_ ?_⟩
        · intro j _ _ _ h18 _
          rw [mm_gk h18]
        · rw [mm_gk (by omega)]; exact z2 _
        · rw [mm_gk (by omega)]; exact z3 _
        · have e : ms (mm_up σ1 c (18 + i) (σ1.1 c (18 + i) - 1)) c i = ab_less (ms σ1 c i) := by
            unfold ms
            rw [mm_gk (show 33 + i ≠ 18 + i by omega), mm_gk (show 4 + i ≠ 18 + i by omega), mm_gk (show 40 + i ≠ 18 + i by omega), mm_gk (show 11 + i ≠ 18 + i by omega), mm_gk (show 25 + i ≠ 18 + i by omega), mm_gs]
            rfl
          rw [e, hsi]
          unfold ab_next
          rw [if_neg hb, if_pos ⟨by rw [← hwt]; exact hw0, hz⟩]
      · rw [if_neg hz]
        exact ⟨σ1, rfl, same (fun q => hz q.2)⟩
    · rw [if_neg hw0]
      exact ⟨σ1, rfl, same (fun q => hw0 (by rw [hwt]; exact q.1))⟩
theorem ab_ones_z : ∀ m, m < 128 → (ab_ones (nI m) = 0 ↔ nI m = 0) := by decide +kernel
theorem ml_goes {G : mm_G} {σ : mm_M} {c N : Nat} {A : ab_A} {z : Int32} (hN : mm_N G c = 48) (hr : rM σ c A z) (ho : ab_ok N A) (hNN : N < 2 ^ 19) : ∃ σ', fX4_goes G c σ = some (ab_who A z, σ') ∧ rM σ' c (ab_go A z) z ∧ mm_sm (fun x => x = c) σ σ' := by
  have hn7 : a_n A ≤ 7 := ho.1
  have h0 : fX4_goes G c σ = mm_lim (fX4_goes_s G c) (ab_who A z, ab_ones (ab_who A z), nI 0, σ) := by
    unfold fX4_goes fX4_goes_b0
    rw [ml_talkers hN hn7 hr, Option.bind_some, ml_ones, Option.bind_some, mm_run_go]
    rfl
  have hI0 : mI σ c A z 0 (ab_who A z, ab_ones (ab_who A z), nI 0, σ) := by
    refine ⟨rfl, rfl, rfl, mm_sm_rf _ _, hr.1, hr.2.1, hr.2.2.1, ?_, ?_, hr.2.2.2.2.2.1, fun j hj => ?_⟩
    · show σ.1 c 2 = a_hd A + 0
      rw [Int32.add_zero]; exact hr.2.2.2.1
    · show σ.1 c 3 = a_ls A + 0
      rw [Int32.add_zero]; exact hr.2.2.2.2.1
    · rw [if_neg (Nat.not_lt_zero j)]; exact hr.2.2.2.2.2.2 j hj
  obtain ⟨⟨w, n, x, σ1⟩, e1, hI⟩ := mm_loop (f := fX4_goes_s G c) (mI σ c A z) (a_n A) (fun i s hi hI => by
    obtain ⟨w, n, x, σ1⟩ := s
    have hx : x = nI i := hI.2.2.1
    subst hx
    obtain ⟨σ3, f3, g3⟩ := ml_step hN ho hNN hi hI
    exact ⟨_, mm_lim_go f3, g3⟩) _ hI0
  obtain ⟨hw, hn, hx, hs, r32, r0, r1, r2, r3, r47, hst⟩ := hI
  dsimp only at hw hn hx hs r32 r0 r1 r2 r3 r47 hst
  subst hw
  subst hx
  obtain ⟨m, hm, ewm⟩ : ∃ m, m < 128 ∧ ab_who A z = nI m := ab_mk_lt hn7
  have htk : (if 0 < n then (1 : Int32) else 0) = if ab_who A z = 0 then 0 else 1 := by
    obtain ⟨k, hk, ek⟩ := ab_ones_le m hm
    have hz := ab_ones_z m hm
    rw [hn, ewm, ek]
    rw [ek] at hz
    by_cases hm0 : nI m = 0
    · rw [if_pos hm0, hz.mpr hm0, if_neg (by decide)]
    · rw [if_neg hm0]
      have hk0 : k ≠ 0 := fun q => hm0 (hz.mp (by rw [q]; rfl))
      rw [if_pos (show (0 : Int32) < nI k from (nI_ltI (a := 0) (b := k) (by decide) (by omega)).mpr (by omega))]
  have hfin : fX4_goes_s G c (ab_who A z, n, nI (a_n A), σ1) = some (.inl (ab_who A z, mm_up (mm_up σ1 c 0 (σ1.1 c 0 + 1)) c 1 (if ab_who A z = 0 then 0 else 1))) := by
    show fX4_goes_b12 G c (ab_who A z) n (nI (a_n A)) σ1 = _
    unfold fX4_goes_b12
    rw [hN, tc32, if_neg kc32, r32, if_neg Int32.lt_irrefl, tc0, if_neg kc0, if_neg kc0, htk]
    unfold fX4_goes_b130
    rw [hN, tc1, if_neg kc1]
  refine ⟨mm_up (mm_up σ1 c 0 (σ1.1 c 0 + 1)) c 1 (if ab_who A z = 0 then 0 else 1), ?_, ?_, mm_sm_up (mm_sm_up hs rfl) rfl⟩
  · rw [h0, e1]
    exact mm_lim_ret hfin
  · refine ⟨?_, ?_, ?_, ?_, ?_, ?_, fun i hi => ?_⟩
    · rw [mm_gk (by decide), mm_gk (by decide)]; exact r32
    · rw [mm_gk (by decide), mm_gs, r0]; rfl
    · rw [mm_gs]; rfl
    · rw [mm_gk (by decide), mm_gk (by decide)]; exact r2
    · rw [mm_gk (by decide), mm_gk (by decide)]; exact r3
    · rw [mm_gk (by decide), mm_gk (by decide)]; exact r47
    · have hi' : i < a_n A := hi
      have e : ms (mm_up (mm_up σ1 c 0 (σ1.1 c 0 + 1)) c 1 (if ab_who A z = 0 then 0 else 1)) c i = ms σ1 c i := by
        unfold ms
        rw [mm_gk (by omega), mm_gk (by omega), mm_gk (by omega), mm_gk (by omega), mm_gk (by omega), mm_gk (by omega), mm_gk (by omega), mm_gk (by omega), mm_gk (by omega), mm_gk (by omega), mm_gk (by omega), mm_gk (by omega)]
      rw [e, hst i hi', if_pos hi']
      rfl
