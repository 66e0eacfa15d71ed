/-! mark -/
section MK
variable {G : mm_G} {x m : Nat} {cd : Nat → Nat} {Y : Ps}
def s_mark (s : ab_S) (t tk : Int32) (j : Nat) : Int32 := if j = 1 then ab_wait s (s_cl s + 1) t - ab_plain s (s_cl s + 1) + 100 else if j = 2 then (if 0 < s_lt s ∧ s_wt s = 0 ∧ ¬ tk = 0 ∧ ab_is (s_kd s) 2 = true then 1 else 0) else if j = 3 then ab_plain s (s_cl s + 1) - ab_wait s (s_cl s + 1) t else if j = 4 then ab_dbl s (s_cl s + 1) - ab_wait s (s_cl s + 1) t else 4 - s_cl s
theorem cx_mark {N : Nat} {b : Nat} {σ : mm_M} {s : ab_S} {t tk : Int32} (hs : so σ b = s) (ho : ab_okS N s) (hN : N < 2 ^ 19) {j : Nat} (h1 : 1 ≤ j) (h5 : j ≤ 5) : fX2_tellsAs G b (nI j) t tk σ = some (s_mark s t tk j, σ) := by
  obtain ⟨kk, b1, e⟩ := ab_okS_kd ho
  have hk : σ.1 b 0 = nI kk := (congrArg (fun s : ab_S => s_kd s) hs).trans e
  obtain ⟨k, f, p, l, w, c, es, -, -, -, -, -, -, hc⟩ := id ho
  have ecl : σ.1 b 5 + 1 = nI (c + 1) := by
    have : σ.1 b 5 = nI c := (congrArg (fun s : ab_S => s_cl s) hs).trans (by rw [es])
    rw [this]; exact nI_1 c
  obtain ⟨v, hv, hd⟩ := ab_okS_dbl ho (c := c + 1) (by omega) (by omega)
  have e3 : σ.1 b 3 = s_lt s := congrArg (fun s : ab_S => s_lt s) hs
  have e4 : σ.1 b 4 = s_wt s := congrArg (fun s : ab_S => s_wt s) hs
  have e5 : σ.1 b 5 = s_cl s := congrArg (fun s : ab_S => s_cl s) hs
  have e0 : σ.1 b 0 = s_kd s := congrArg (fun s : ab_S => s_kd s) hs
  unfold fX2_tellsAs
  rw [cs_wait G (v := v) hv (by rw [hs, ecl]; exact hd), Option.bind_some, cs_plain, cs_dbl, cs_holds G b1 hk, hs, e0, e3, e4, e5]
  rcases (show j = 1 ∨ j = 2 ∨ j = 3 ∨ j = 4 ∨ j = 5 by omega) with rfl | rfl | rfl | rfl | rfl
  · rfl
  · by_cases h : 0 < s_lt s ∧ s_wt s = 0 ∧ ¬ tk = 0 ∧ ab_is (s_kd s) 2 = true
    · rw [if_pos h]
      have : s_mark s t tk 2 = 1 := if_pos h
      rw [this]; rfl
    · rw [if_neg h]
      have : s_mark s t tk 2 = 0 := if_neg h
      rw [this]; rfl
  · rfl
  · rfl
  · rfl
theorem ml_would (gm : gM G m cd) (ok : okP Y) {i : Nat} (hi : i < a_n (p_A Y)) {kk : Nat} (hk : kk ≤ 5) {σ : mm_M} (hc : MR G m σ Y) : fX4_wouldWait G m (nI i) (nI kk) σ = some (ab_wait (nI kk, (a_st (p_A Y) i).2) (s_cl (a_st (p_A Y) i) + 1) (a_sl (p_A Y)), σ) := by
  obtain ⟨-, e0, -, -, -, -, -, ⟨e26, eN5⟩, -⟩ := id gm
  obtain ⟨t, ht, et, ho, hlt⟩ := okP_A ok
  have hn7 := ho.1
  have hs := hc.2.2.1.2.2.2.2.2.2 i hi
  obtain ⟨k, f, p, l, w, c, es, b1, b2, b3, b4, b5, b6, b7⟩ := ho.2.2.2 i hi
  have e4 : σ.1 (mm_R G m 5) (4 + i) = nI f := (congrArg (fun s : ab_S => s_fw s) hs).trans (by rw [es])
  have e40 : σ.1 (mm_R G m 5) (40 + i) = nI p := (congrArg (fun s : ab_S => s_sp s) hs).trans (by rw [es])
  have e25 : σ.1 (mm_R G m 5) (25 + i) = nI c := (congrArg (fun s : ab_S => s_cl s) hs).trans (by rw [es])
  have e1 : nI c + 1 = nI (c + 1) := nI_1 c
  unfold fX4_wouldWait
  rw [eN5, ad4, ad40, ad25, nI_clamp (by omega : 4 + i < 2 ^ 31), nI_clamp (by omega : 40 + i < 2 ^ 31), nI_clamp (by omega : 25 + i < 2 ^ 31), tc0, if_neg (kcn (by omega)), if_neg (kcn (by omega)), if_neg (kcn (by omega)), if_neg kc0, e4, e40, e25, hc.2.2.1.2.1, e1, ml_wait G (l := l) (w := w) (c0 := c) hk b2 b3 b4 (by omega) (by omega), Option.bind_some, es]
  show _ = some (ab_wait (nI kk, nI f, nI p, nI l, nI w, nI c) (nI c + 1) _, σ)
  rw [e1]
theorem ml_mark (gm : gM G m cd) (ok : okP Y) {i : Nat} (hi : i < a_n (p_A Y)) {j : Nat} (h1 : 1 ≤ j) (h5 : j ≤ 5) {σ : mm_M} (hc : MR G m σ Y) : fX4_mark G m (nI i) (nI j) σ = if ab_is (s_kd (a_st (p_A Y) i)) (nI j) = true then some (s_mark (a_st (p_A Y) i) (a_sl (p_A Y)) (a_tk (p_A Y)) j, σ) else fX4_finds G m 3 σ := by
  obtain ⟨-, e0, -, -, -, -, -, ⟨e26, eN5⟩, -⟩ := id gm
  obtain ⟨t, ht, et, ho, hlt⟩ := okP_A ok
  have hn7 := ho.1
  have hs := hc.2.2.1.2.2.2.2.2.2 i hi
  have htk := ho.2.2.1
  obtain ⟨k, f, p, l, w, c, es, b1, b2, b3, b4, b5, b6, b7⟩ := ho.2.2.2 i hi
  have e33 : σ.1 (mm_R G m 5) (33 + i) = nI k := (congrArg (fun s : ab_S => s_kd s) hs).trans (by rw [es])
  have e11 : σ.1 (mm_R G m 5) (11 + i) = s_lt (a_st (p_A Y) i) := congrArg (fun s : ab_S => s_lt s) hs
  have e18 : σ.1 (mm_R G m 5) (18 + i) = s_wt (a_st (p_A Y) i) := congrArg (fun s : ab_S => s_wt s) hs
  have e25 : σ.1 (mm_R G m 5) (25 + i) = s_cl (a_st (p_A Y) i) := congrArg (fun s : ab_S => s_cl s) hs
  have etk : σ.1 (mm_R G m 5) 1 = a_tk (p_A Y) := hc.2.2.1.2.2.1
  have ekd : s_kd (a_st (p_A Y) i) = nI k := by rw [es]
  have w0 := ml_would gm ok hi (kk := 0) (by decide) hc
  have w1 := ml_would gm ok hi (kk := 1) (by decide) hc
  have w3 := ml_would gm ok hi (kk := 3) (by decide) hc
  have w4 := ml_would gm ok hi (kk := 4) (by decide) hc
  have wk := ml_would gm ok hi (kk := k) b1 hc
  have p0 : ∀ c' t', ab_wait (nI 0, (a_st (p_A Y) i).2) c' t' = ab_plain (a_st (p_A Y) i) c' := fun c' t' => rfl
  have p1 : ∀ c' t', ab_wait (nI 1, (a_st (p_A Y) i).2) c' t' = ab_dbl (a_st (p_A Y) i) c' := fun c' t' => rfl
  have ek : ∀ n, nI n = nI k → (nI n, (a_st (p_A Y) i).2) = a_st (p_A Y) i := fun n h => by rw [h, ← ekd]
  have hj0 : ¬ nI j < 1 := nI_nlt (show 1 ≤ j from h1) (by omega)
  have hj5 : ¬ (5 : Int32) < nI j := nI_nlt (show j ≤ 5 from h5) (by decide)
  have hjn : ¬ nI j = 0 := nI_ne0 (by omega) (by omega)
  unfold fX4_mark
  rw [ml_st1 gm ok hc hi, Option.bind_some, if_neg (n01 σ), ml_in, if_neg hj0, if_neg hj5, Option.bind_some, if_neg (n01 σ), eN5, ad33, nI_clamp (by omega : 33 + i < 2 ^ 31), if_neg (kcn (by omega)), ad11, ad18, ad25, nI_clamp (by omega : 11 + i < 2 ^ 31), nI_clamp (by omega : 18 + i < 2 ^ 31), nI_clamp (by omega : 25 + i < 2 ^ 31)]
  show (fX4_is G (σ.1 (mm_R G m 5) (33 + i)) (nI j) σ).bind _ = _
  rw [e33, ml_is G _ _ hjn, ekd]
  by_cases his : ab_is (nI k) (nI j) = true
  · rw [if_pos his, if_pos his, Option.bind_some, if_neg (n01 σ)]
    simp only [if_neg (kcn (show 11 + i < 48 by omega)), if_neg (kcn (show 18 + i < 48 by omega)), if_neg (kcn (show 25 + i < 48 by omega)), tc1, if_neg kc1]
    rcases (show j = 1 ∨ j = 2 ∨ j = 3 ∨ j = 4 ∨ j = 5 by omega) with rfl | rfl | rfl | rfl | rfl
    · rw [if_pos (show nI 1 = 1 from rfl), wk, Option.bind_some]
      show (fX4_wouldWait G m (nI i) (nI 0) σ).bind _ = _
      rw [w0, p0, ek k rfl]
      rfl
    · rw [if_neg (show ¬ nI 2 = 1 by decide), if_pos (show nI 2 = 2 from rfl), e11, e18, etk]
      have hm : s_mark (a_st (p_A Y) i) (a_sl (p_A Y)) (a_tk (p_A Y)) 2 = if 0 < s_lt (a_st (p_A Y) i) ∧ s_wt (a_st (p_A Y) i) = 0 ∧ ¬ a_tk (p_A Y) = 0 ∧ ab_is (s_kd (a_st (p_A Y) i)) 2 = true then 1 else 0 := rfl
      rw [hm, ekd]
      by_cases c1 : 0 < s_lt (a_st (p_A Y) i)
      · by_cases c2 : s_wt (a_st (p_A Y) i) = 0
        · rcases htk with h | h
          · rw [if_pos c1, if_pos c2, h, if_neg (show ¬ (0 : Int32) = 1 by decide), if_neg (fun q => q.2.2.1 rfl)]
          · rw [if_pos c1, if_pos c2, h, if_pos rfl, if_pos ⟨c1, c2, by decide, his⟩]
        · rw [if_pos c1, if_neg c2, if_neg (fun q => c2 q.2.1)]
      · rw [if_neg c1, if_neg (fun q => c1 q.1)]
    · have hk3 : nI 3 = nI k := by
        rcases (show k = 0 ∨ k = 1 ∨ k = 2 ∨ k = 3 ∨ k = 4 ∨ k = 5 by omega) with rfl | rfl | rfl | rfl | rfl | rfl <;> first | rfl | (exact absurd his (by decide))
      rw [if_neg (show ¬ nI 3 = 1 by decide), if_neg (show ¬ nI 3 = 2 by decide), if_pos (show nI 3 = 3 from rfl)]
      show (fX4_wouldWait G m (nI i) (nI 0) σ).bind (fun q136 => (fX4_wouldWait G m (nI i) (nI 3) q136.2).bind _) = _
      rw [w0, Option.bind_some, w3, p0, ek 3 hk3]
      rfl
    · have hk4 : nI 4 = nI k := by
        rcases (show k = 0 ∨ k = 1 ∨ k = 2 ∨ k = 3 ∨ k = 4 ∨ k = 5 by omega) with rfl | rfl | rfl | rfl | rfl | rfl <;> first | rfl | (exact absurd his (by decide))
      rw [if_neg (show ¬ nI 4 = 1 by decide), if_neg (show ¬ nI 4 = 2 by decide), if_neg (show ¬ nI 4 = 3 by decide), if_pos (show nI 4 = 4 from rfl)]
      show (fX4_wouldWait G m (nI i) (nI 1) σ).bind (fun q136 => (fX4_wouldWait G m (nI i) (nI 4) q136.2).bind _) = _
      rw [w1, Option.bind_some, w4, p1, ek 4 hk4]
      rfl
    · rw [if_neg (show ¬ nI 5 = 1 by decide), if_neg (show ¬ nI 5 = 2 by decide), if_neg (show ¬ nI 5 = 3 by decide), if_neg (show ¬ nI 5 = 4 by decide), e25]
      rfl
  · rw [if_neg his, if_neg his, Option.bind_some, if_pos (show ((0 : Int32), σ).1 = 0 from rfl), be]
theorem cx_markc (gx : gX G x cd) (ok : okP Y) {i : Nat} (hi : i < a_n (p_A Y)) {j : Nat} (h1 : 1 ≤ j) (h5 : j ≤ 5) {σ : mm_M} (hc : CR G x σ Y) : fX3_mark G x (nI i) (nI j) σ = if ab_is (s_kd (a_st (p_A Y) i)) (nI j) = true then some (s_mark (a_st (p_A Y) i) (a_sl (p_A Y)) (a_tk (p_A Y)) j, σ) else fX3_found G x 3 σ := by
  obtain ⟨t, ht, et, ho, hlt⟩ := okP_A ok
  have hn7 := ho.1
  have g1 : mm_N G (mm_R G (mm_R G x 5) 0) = 7 := (gX_ga5 gx).1
  obtain ⟨kk, b1, e⟩ := cx_kd (G := G) (x := x) ok hi hc
  have hs := hc.2.2.1.2.2.2.2.2 i hi
  have ekd : s_kd (a_st (p_A Y) i) = nI kk := by rw [← hs]; exact e
  unfold fX3_mark
  rw [ca_has1 hc.2.2.1 hn7 hi, Option.bind_some, if_neg (n01 σ), if_pos (show (0 : Int32) < nI j from nI_lt (show 0 < j by omega) (by omega)), if_pos (show nI j < 6 from nI_lt (show j < 6 by omega) (by decide)), g1, nI_clamp (by omega : i < 2 ^ 31), if_neg (ck_n (by omega) (by omega))]
  show (fX2_isOf G (sa G (mm_R G x 5) i) (nI j) σ).bind (fun q35 => if q35.1 = 0 then _ else (fX2_tellsAs G (sa G (mm_R G x 5) i) (nI j) (q35.2.1 (mm_R G x 5) 2) (q35.2.1 (mm_R G x 5) 5) q35.2).bind _) = _
  rw [cs_isOf G b1 e h1 h5, ekd]
  by_cases his : ab_is (nI kk) (nI j) = true
  · rw [if_pos his, if_pos his, Option.bind_some, if_neg (n01 σ), hc.2.2.1.2.1, hc.2.2.1.2.2.2.2.1, cx_mark hs (ho.2.2.2 i hi) (by omega) h1 h5]
    rfl
  · rw [if_neg his, if_neg his, Option.bind_some, if_pos (show ((0 : Int32), σ).1 = 0 from rfl), be]
theorem J_mark (gx : gX G x cd) (gm : gM G m cd) (ok : okP Y) (i v : Int32) : Jc G x m cd (fX3_mark G x i v) (fX4_mark G m i v) Y := by
  have hn7 := (okP_n ok).2
  rcases pk_ix i (n := a_n (p_A Y)) (by omega) with hi | hi | ⟨k, hk, rfl⟩
  · exact J_same (-1) ok (fun σ hc => by unfold fX3_mark; rw [ca_has0 hc.2.2.1 (Or.inl hi)]; rfl) (fun σ hc => by unfold fX4_mark; rw [ml_st0 gm ok hc (Or.inl hi)]; rfl)
  · exact J_same (-1) ok (fun σ hc => by unfold fX3_mark; rw [ca_has0 hc.2.2.1 (Or.inr hi)]; rfl) (fun σ hc => by unfold fX4_mark; rw [ml_st0 gm ok hc (Or.inr hi)]; rfl)
  · by_cases h0 : (0 : Int32) < v
    · by_cases h6 : v < 6
      · obtain ⟨j, hj, rfl⟩ := nI_of2 (M := 5) (n := 5) (by decide) (fun q => Int32.lt_irrefl (Int32.lt_trans h0 q)) (Int32.not_lt.mp (fun q => by
          rw [Int32.lt_iff_toInt_lt] at h6 q
          have a1 : (nI 5).toInt = 5 := rfl
          have a2 : (6 : Int32).toInt = 6 := rfl
          omega) : v ≤ nI 5)
        have h1 : 1 ≤ j := by
          rcases Nat.eq_zero_or_pos j with h | h
          · subst h; exact absurd h0 (by decide)
          · exact h
        by_cases his : ab_is (s_kd (a_st (p_A Y) k)) (nI j) = true
        · exact J_same _ ok (fun σ hc => by rw [cx_markc gx ok hk h1 hj hc, if_pos his]) (fun σ hc => by rw [ml_mark gm ok hk h1 hj hc, if_pos his])
        · exact J_fnd gx gm ok 3 (by decide) (by decide) (fun σ hc σ' e => by rw [cx_markc gx ok hk h1 hj hc, if_neg his]; exact e) (fun σ hc σ' e => by rw [ml_mark gm ok hk h1 hj hc, if_neg his]; exact e)
      · refine J_same (-1) ok (fun σ hc => ?_) (fun σ hc => ?_)
        · unfold fX3_mark
          rw [ca_has1 hc.2.2.1 hn7 hk, Option.bind_some, if_neg (n01 σ), if_pos h0, if_neg h6]
        · unfold fX4_mark
          rw [ml_st1 gm ok hc hk, Option.bind_some, if_neg (n01 σ), ml_in]
          have : (if v < 1 then (0 : Int32) else if 5 < v then 0 else 1) = 0 := by
            by_cases h1 : v < 1
            · rw [if_pos h1]
            · rw [if_neg h1, if_pos (by
                rw [Int32.lt_iff_toInt_lt] at h6 ⊢
                have a1 : (5 : Int32).toInt = 5 := rfl
                have a2 : (6 : Int32).toInt = 6 := rfl
                omega)]
          rw [this]; rfl
    · refine J_same (-1) ok (fun σ hc => ?_) (fun σ hc => ?_)
      · unfold fX3_mark
        rw [ca_has1 hc.2.2.1 hn7 hk, Option.bind_some, if_neg (n01 σ), if_neg h0]
      · unfold fX4_mark
        rw [ml_st1 gm ok hc hk, Option.bind_some, if_neg (n01 σ), ml_in, if_pos (show v < 1 by
          rw [Int32.lt_iff_toInt_lt] at h0 ⊢
          have a1 : (0 : Int32).toInt = 0 := rfl
          have a2 : (1 : Int32).toInt = 1 := rfl
          omega)]
        rfl
end MK
