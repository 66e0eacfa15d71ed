/-! CALLS OF DEEDS: slot, give, drop, first; talks -/
theorem ab_next_lt {N : Nat} {A : ab_A} {z : Int32} (ho : ab_ok N A) {i l : Nat} (hi : i < a_n A) (hl : l ≤ 30) (el : s_lt (a_st A i) = nI l) : ∃ l', l' ≤ 30 ∧ s_lt (ab_next (ab_who A z) z (a_sl A) i (a_st A i)) = nI l' := by
  have hn := ho.1
  unfold ab_next
  by_cases hb : bt (ab_who A z) i = true
  · rw [if_pos hb]
    have hl0 : 0 < l := by
      rw [ab_who_bt hn (by omega)] at hb
      simp only [Bool.and_eq_true] at hb
      have h3 := hb.2.2
      have : ab_wants (a_st A i) (a_tk A) = (decide (0 < s_lt (a_st A i)) && (decide (s_wt (a_st A i) = 0) && (decide (a_tk A = 0) || !ab_is (s_kd (a_st A i)) 2))) := rfl
      rw [this] at h3
      simp only [Bool.and_eq_true] at h3
      have h4 := of_decide_eq_true h3.1
      rw [el] at h4
      exact (nI_ltI (a := 0) (by decide) (by omega)).mp h4
    have e1 : s_lt (a_st A i) - 1 = nI (l - 1) := by rw [el, show (1 : Int32) = nI 1 from rfl, pk_sub hl0]
    by_cases h1 : ab_ones (ab_who A z) = 1
    · rw [if_pos h1]
      exact ⟨l - 1, by omega, e1⟩
    · rw [if_neg h1]
      unfold ab_meet
      by_cases hg : ab_gives (a_st A i) = true
      · rw [if_pos hg]; exact ⟨l - 1, by omega, e1⟩
      · rw [if_neg hg]; exact ⟨l, hl, el⟩
  · rw [if_neg hb]
    by_cases hz : 0 < s_wt (a_st A i) ∧ bt z i = false
    · rw [if_pos hz]; exact ⟨l, hl, el⟩
    · rw [if_neg hz]; exact ⟨l, hl, el⟩
theorem okA_go {A : ab_A} {t : Nat} (ht : t < 199) (et : a_sl A = nI t) (ho : ab_ok t A) (hl : ∀ i, i < a_n A → ∃ l, l ≤ 30 ∧ s_lt (a_st A i) = nI l) : okA (ab_go A 0) := by
  refine ⟨t + 1, by omega, ?_, ab_go_ok 0 ho (by omega), fun i hi => ?_⟩
  · show a_sl A + 1 = _
    rw [et, nI_1]
  · obtain ⟨l, h1, h2⟩ := hl i hi
    exact ab_next_lt ho hi h1 h2
theorem okA_set {A : ab_A} {i l t : Nat} {s : ab_S} (ht : t ≤ 199) (et : a_sl A = nI t) (ho : ab_ok t A) (hlt : ∀ i, i < a_n A → ∃ l, l ≤ 30 ∧ s_lt (a_st A i) = nI l) (hs : ab_okS t s) (hl : l ≤ 30) (el : s_lt s = nI l) : okA (ab_set A i s) := by
  refine ⟨t, ht, et, ⟨ho.1, ho.2.1, ho.2.2.1, fun j hj => ?_⟩, fun j hj => ?_⟩
  · show ab_okS t (if j = i then s else a_st A j)
    by_cases h : j = i
    · rw [if_pos h]; exact hs
    · rw [if_neg h]; exact ho.2.2.2 j hj
  · show ∃ l, l ≤ 30 ∧ s_lt (if j = i then s else a_st A j) = nI l
    by_cases h : j = i
    · rw [if_pos h]; exact ⟨l, hl, el⟩
    · rw [if_neg h]; exact hlt j hj
theorem ml_set {σ σ' : mm_M} {c i : Nat} {A : ab_A} {z : Int32} {s : ab_S} (hn : a_n A ≤ 7) (hi : i < a_n A) (hr : rM σ c A z) (hs : ms σ' c i = s) (hk : ∀ j, j ≠ 4 + i → j ≠ 11 + i → j ≠ 18 + i → j ≠ 25 + i → j ≠ 33 + i → j ≠ 40 + i → σ'.1 c j = σ.1 c j) : rM σ' c (ab_set A i s) z := by
  obtain ⟨h1, h2, h3, h4, h5, h6, hst⟩ := hr
  refine ⟨by rw [hk _ (by omega) (by omega) (by omega) (by omega) (by omega) (by omega)]; exact h1, by rw [hk _ (by omega) (by omega) (by omega) (by omega) (by omega) (by omega)]; exact h2, by rw [hk _ (by omega) (by omega) (by omega) (by omega) (by omega) (by omega)]; exact h3, by rw [hk _ (by omega) (by omega) (by omega) (by omega) (by omega) (by omega)]; exact h4, by rw [hk _ (by omega) (by omega) (by omega) (by omega) (by omega) (by omega)]; exact h5, by rw [hk _ (by omega) (by omega) (by omega) (by omega) (by omega) (by omega)]; exact h6, fun j hj => ?_⟩
  have hj' : j < a_n A := hj
  show ms σ' c j = if j = i then s else a_st A j
  by_cases h : j = i
  · subst h; rw [if_pos rfl]; exact hs
  · rw [if_neg h, ← hst j hj']
    unfold ms
    rw [hk (33 + j) (by omega) (by omega) (by omega) (by omega) (by omega) (by omega), hk (4 + j) (by omega) (by omega) (by omega) (by omega) (by omega) (by omega), hk (40 + j) (by omega) (by omega) (by omega) (by omega) (by omega) (by omega), hk (11 + j) (by omega) (by omega) (by omega) (by omega) (by omega) (by omega), hk (18 + j) (by omega) (by omega) (by omega) (by omega) (by omega) (by omega), hk (25 + j) (by omega) (by omega) (by omega) (by omega) (by omega) (by omega)]
section AC
variable {G : mm_G} {x m : Nat} {cd : Nat → Nat} {Y : Ps}
theorem okP_A (ok : okP Y) : okA (p_A Y) := by have := ok.2.2.2.1.2.2 (p_D Y).length (Nat.le_refl _); rw [List.take_length] at this; exact this
theorem ml_st0 (gm : gM G m cd) (ok : okP Y) {v : Int32} {σ : mm_M} (hc : MR G m σ Y) (h : v < 0 ∨ nI (a_n (p_A Y)) ≤ v) : fX4_isStation G m v σ = some (0, σ) := by
  obtain ⟨-, -, -, -, -, -, -, ⟨-, eN5⟩, -⟩ := id gm
  have hn := (okP_n ok).2
  unfold fX4_isStation
  rw [eN5, tc32, if_neg kc32, hc.2.2.1.1, (ml_inR (n := a_n (p_A Y)) rfl (by omega) σ).1 (h.elim Or.inl (fun q => Or.inr (Int32.not_lt.mpr q)))]
  rfl
theorem ml_st1 (gm : gM G m cd) (ok : okP Y) {k : Nat} {σ : mm_M} (hc : MR G m σ Y) (h : k < a_n (p_A Y)) : fX4_isStation G m (nI k) σ = some (1, σ) := by
  obtain ⟨-, -, -, -, -, -, -, ⟨-, eN5⟩, -⟩ := id gm
  have hn := (okP_n ok).2
  unfold fX4_isStation
  rw [eN5, tc32, if_neg kc32, hc.2.2.1.1, (ml_inR (n := a_n (p_A Y)) rfl (by omega) σ).2 k h rfl]
  rfl
theorem deed_code {w i n : Nat} (σ : mm_M) : fX3_deedOf G (nI w) (nI i) (nI n) σ = some (p_code (w, i, n), σ) := by
  unfold fX3_deedOf p_code
  rw [show (100 : Int32) = nI 100 from rfl, show (10 : Int32) = nI 10 from rfl, pk_mul, pk_mul, nI_add, nI_add, Nat.mul_comm w 100, Nat.mul_comm i 10]
theorem ml_full (hc10 : Int32) {l : Nat} (hl : l ≤ 40) (h : hc10 = nI l) : (hc10 = 40 ↔ l = 40) := by
  rw [h]; exact nI_eq (by omega) (by decide)
/-- a deed that both sides do -/
theorem J_deed {fc fm : mm_M → Option (Int32 × mm_M)} (gx : gX G x cd) (gm : gM G m cd) (ok : okP Y) (d : p_Dd) (hl : (p_D Y).length < 40) (hd : okd (a_n (p_B Y)) d) (hA : okA (ab_act (p_A Y) d))
    (h1 : ∀ σ, CR G x σ Y → ∀ v σ', fX3_carryOut G x (p_code d) σ = some (v, σ') → fc σ = some (v, σ'))
    (h2 : ∀ σ σ1, MR G m σ Y → fX4_does G m σ = some σ1 → rM σ1 (mm_R G m 5) (p_A Y) 0 → ∃ σ2, fm σ = some (av_act (p_A Y) d, σ2) ∧ rM σ2 (mm_R G m 5) (ab_act (p_A Y) d) 0 ∧ mm_sm (fun b => b = mm_R G m 5) σ1 σ2) : Jc G x m cd fc fm Y := by
  refine ⟨av_act (p_A Y) d, y_deed Y (p_D Y ++ [d]), okP_deed ok (okL_s ok.2.2.2.1 hl hd hA), fun σ hc => ?_, fun σ hc => ?_⟩
  · obtain ⟨σ', e, c, s⟩ := cx_deed gx ok hl hd σ hc
    exact ⟨σ', h1 σ hc _ _ e, c, s⟩
  · obtain ⟨σ1, e1, z1, z2, z3, z4, z5⟩ := ml_does gm ok hl σ hc
    obtain ⟨-, e0, -, -, -, -, -, ⟨e26, eN5⟩, -, -, -, ⟨e30, eN9⟩, -⟩ := id gm
    have hr1 : rM σ1 (mm_R G m 5) (p_A Y) 0 := rM_sm z5 (fun q => by
      rcases q with q | q
      · rw [q, e0] at e26; omega
      · rw [q, e30] at e26; omega) (okP_n ok).2 hc.2.2.1
    obtain ⟨σ2, e2, r2, m2⟩ := h2 σ σ1 hc e1 hr1
    obtain ⟨c, s⟩ := ml_deed gm ok hl hc z1 z2 z3 z4 z5 m2 r2
    exact ⟨σ2, e2, c, s⟩
theorem J_slot (gx : gX G x cd) (gm : gM G m cd) (ok : okP Y) : Jc G x m cd (fX3_slot G x) (fX4_slot G m) Y := by
  obtain ⟨-, e0, -, -, -, -, -, ⟨e26, eN5⟩, -⟩ := id gm
  obtain ⟨t, ht, et, ho, hlt⟩ := okP_A ok
  have hn7 := ho.1
  have hl40 := ok.2.2.2.1.1
  have n0 : ∀ σ : mm_M, ¬ ((1 : Int32), σ).1 = 0 := fun _ => (by decide : ¬ (1 : Int32) = 0)
  have cs : ∀ σ, CR G x σ Y → fX3_slot G x σ = if nI (a_n (p_A Y)) = 0 then some (-4, σ) else (if nI t < 199 then (fX1_hasRoomFor G (mm_R G x 6) (nI 1) σ).bind (fun q31 => if q31.1 = 0 then (some (-2, q31.2)) else ((fX3_deedOf G (nI 1) (nI 0) (nI 0) q31.2).bind (fun q44 => (fX3_carryOut G x q44.1 q44.2).bind (fun q47 => some (q47.1, q47.2))))) else some (-4, σ)) := by
    intro σ hc
    unfold fX3_slot
    rw [hc.2.2.1.1, hc.2.2.1.2.1, et]
    rfl
  have mst : ∀ σ, MR G m σ Y → fX4_slot G m σ = if nI (a_n (p_A Y)) = 0 then some (-4, σ) else (if nI t = 199 then some (-4, σ) else (if nI (p_D Y).length = 40 then some (-2, σ) else ((fX4_does G m σ).bind (fun q38 => (fX4_goes G (mm_R G m 5) q38).bind (fun q45 => (fX4_ones G q45.1 q45.2).bind (fun q48 => some (q48.1, q48.2))))))) := by
    intro σ hc
    unfold fX4_slot
    rw [eN5, tc32, if_neg kc32, tc0, if_neg kc0, hc.2.2.1.1, hc.2.2.1.2.1, et, hc.2.2.2.1.1]
  by_cases hn : a_n (p_A Y) = 0
  · have e : nI (a_n (p_A Y)) = 0 := by rw [hn]; rfl
    exact J_same (-4) ok (fun σ hc => by rw [cs σ hc, if_pos e]) (fun σ hc => by rw [mst σ hc, if_pos e])
  · have e : ¬ nI (a_n (p_A Y)) = 0 := nI_ne0 (by omega) (by omega)
    by_cases h199 : t = 199
    · subst h199
      exact J_same (-4) ok (fun σ hc => by rw [cs σ hc, if_neg e, if_neg (by decide)]) (fun σ hc => by rw [mst σ hc, if_neg e, if_pos (show nI 199 = 199 from rfl)])
    · have l1 : nI t < 199 := nI_lt (b := 199) (by omega) (by decide)
      have l2 : ¬ nI t = 199 := fun q => h199 ((nI_eq (b := 199) (by omega) (by decide)).mp q)
      by_cases hf : (p_D Y).length = 40
      · refine J_same (-2) ok (fun σ hc => ?_) (fun σ hc => ?_)
        · rw [cs σ hc, if_neg e, if_pos l1, cx_room gx hc ok (by decide), if_pos (by omega)]; rfl
        · rw [mst σ hc, if_neg e, if_neg l2, if_pos (by rw [hf]; rfl)]
      · refine J_deed gx gm ok (1, 0, 0) (by omega) ⟨show 1 ≤ 4 by decide, show 0 < a_n (p_B Y) by rw [← ab_acts_n (p_D Y) (p_B Y)]; exact Nat.pos_of_ne_zero hn, show 0 ≤ 9 by decide⟩ (okA_go (by omega) et ho hlt) (fun σ hc v σ' e1 => ?_) (fun σ σ1 hc e1 r1 => ?_)
        · rw [cs σ hc, if_neg e, if_pos l1, cx_room gx hc ok (by decide), if_neg (by omega), Option.bind_some, if_neg (n0 σ), deed_code, Option.bind_some, be]
          exact e1
        · obtain ⟨σ2, f2, r2, m2⟩ := ml_goes eN5 r1 ho (by omega)
          refine ⟨σ2, ?_, r2, m2⟩
          rw [mst σ hc, if_neg e, if_neg l2, if_neg (show ¬ nI (p_D Y).length = 40 from fun q => hf ((nI_eq (b := 40) (by omega) (by decide)).mp q)), e1, Option.bind_some, f2, Option.bind_some, ml_ones]
          rfl
theorem J_talks (gx : gX G x cd) (gm : gM G m cd) (ok : okP Y) : Jc G x m cd (fX3_talks G x) (fX4_talks G m) Y := by
  obtain ⟨-, e0, -, -, -, -, -, ⟨e26, eN5⟩, -⟩ := id gm
  obtain ⟨t, ht, et, ho, hlt⟩ := okP_A ok
  refine ⟨ab_who (p_A Y) 0, y_ask Y (if ab_ones (ab_who (p_A Y) 0) = 1 then 1 else 0), okP_7 ok, fun σ hc => ⟨_, ?_, cx_ask gx ok _ σ hc⟩, fun σ hc => ⟨_, ?_, ml_ask gm _ σ hc⟩⟩
  · unfold fX3_talks fX3_talks_b23
    rw [ca_talkers 0 (gX_ga5 gx) hc.2.2.1 ho, Option.bind_some]
    show (fJ6_bitCount_0f7a4 G (ab_who (p_A Y) 0) σ).bind _ = _
    rw [show fJ6_bitCount_0f7a4 G (ab_who (p_A Y) 0) σ = some (ab_ones (ab_who (p_A Y) 0), σ) from jd_cnt ho.1 G σ]
    rfl
  · unfold fX4_talks fX4_talks_b22
    rw [ml_talkers eN5 ho.1 hc.2.2.1, Option.bind_some, ml_ones]
    rfl
theorem cx_gst (gx : gX G x cd) {i : Nat} {σ : mm_M} (hc : CR G x σ Y) (hi : i < a_n (p_A Y)) (hn : a_n (p_A Y) ≤ 7) : mm_N G (mm_R G (mm_R G x 5) 0) = 7 ∧ σ.1 (mm_R G (mm_R G (mm_R G x 5) 0) i) 3 = s_lt (a_st (p_A Y) i) ∧ σ.1 (mm_R G (mm_R G (mm_R G x 5) 0) i) 1 = s_fw (a_st (p_A Y) i) := by
  have hs := hc.2.2.1.2.2.2.2.2 i hi
  exact ⟨(gX_ga5 gx).1, congrArg (fun s : ab_S => s_lt s) hs, congrArg (fun s : ab_S => s_fw s) hs⟩
theorem J_give (gx : gX G x cd) (gm : gM G m cd) (ok : okP Y) (i n : Int32) : Jc G x m cd (fX3_give G x i n) (fX4_give G m i n) Y := by
  obtain ⟨-, e0, -, -, -, -, -, ⟨e26, eN5⟩, -⟩ := id gm
  obtain ⟨t, ht, et, ho, hlt⟩ := okP_A ok
  have hn7 := ho.1
  have hl40 := ok.2.2.2.1.1
  have n0 : ∀ σ : mm_M, ¬ ((1 : Int32), σ).1 = 0 := fun _ => (by decide : ¬ (1 : Int32) = 0)
  have y0 : ∀ σ : mm_M, ((0 : Int32), σ).1 = 0 := fun _ => rfl
  rcases pk_ix i (n := a_n (p_A Y)) (by omega) with hi | hi | ⟨k, hk, rfl⟩
  · exact J_same (-1) ok (fun σ hc => by unfold fX3_give; rw [ca_has0 hc.2.2.1 (Or.inl hi)]; rfl) (fun σ hc => by unfold fX4_give; rw [ml_st0 gm ok hc (Or.inl hi)]; rfl)
  · exact J_same (-1) ok (fun σ hc => by unfold fX3_give; rw [ca_has0 hc.2.2.1 (Or.inr hi)]; rfl) (fun σ hc => by unfold fX4_give; rw [ml_st0 gm ok hc (Or.inr hi)]; rfl)
  · obtain ⟨l, hl, el⟩ := hlt k hk
    have cs : ∀ σ, CR G x σ Y → fX3_give G x (nI k) n σ = if n < 1 then some (-1, σ) else (if 9 < n then some (-1, σ) else (if 30 < nI l + n then some (-6, σ) else ((fX1_hasRoomFor G (mm_R G x 6) (nI 1) σ).bind (fun q51 => if q51.1 = 0 then (some (-2, q51.2)) else ((fX3_deedOf G (nI 2) (nI k) n q51.2).bind (fun q64 => (fX3_carryOut G x q64.1 q64.2).bind (fun q67 => some (q67.1, q67.2)))))))) := by
      intro σ hc
      obtain ⟨g1, g2, g3⟩ := cx_gst gx hc hk hn7
      unfold fX3_give
      rw [ca_has1 hc.2.2.1 hn7 hk, Option.bind_some, if_neg (n0 σ), g1, nI_clamp (by omega : k < 2 ^ 31), if_neg (ck_n (by omega) (by omega)), g2, el]
      rfl
    have mst : ∀ σ, MR G m σ Y → fX4_give G m (nI k) n σ = (fX4_in G n 1 9 σ).bind (fun q12 => if q12.1 = 0 then (some (-1, q12.2)) else (if 30 < q12.2.1 (mm_R G m 5) (11 + k) + n then (some (-6, q12.2)) else (if q12.2.1 m 10 = 40 then (some (-2, q12.2)) else ((fX4_does G m q12.2).bind (fun q52 => some ((mm_up q52 (mm_R G m 5) (11 + k) (q52.1 (mm_R G m 5) (11 + k) + n)).1 (mm_R G m 5) (11 + k), mm_up q52 (mm_R G m 5) (11 + k) (q52.1 (mm_R G m 5) (11 + k) + n))))))) := by
      intro σ hc
      unfold fX4_give
      rw [ml_st1 gm ok hc hk, Option.bind_some, if_neg (n0 σ), eN5, ad11, nI_clamp (by omega : 11 + k < 2 ^ 31)]
      simp only [if_neg (kcn (show 11 + k < 48 by omega))]
    by_cases h1 : n < 1
    · exact J_same (-1) ok (fun σ hc => by rw [cs σ hc, if_pos h1]) (fun σ hc => by rw [mst σ hc, ml_in, if_pos h1]; rfl)
    · by_cases h9 : 9 < n
      · exact J_same (-1) ok (fun σ hc => by rw [cs σ hc, if_neg h1, if_pos h9]) (fun σ hc => by rw [mst σ hc, ml_in, if_neg h1, if_pos h9]; rfl)
      · have h0 : ¬ n < 0 := fun q => h1 (Int32.lt_of_lt_of_le q (by decide))
        obtain ⟨v, hv, rfl⟩ := nI_of2 (M := 9) (n := 9) (by decide) h0 (Int32.not_lt.mp h9)
        have elt : ∀ σ, MR G m σ Y → σ.1 (mm_R G m 5) (11 + k) = nI l := fun σ hc => (congrArg (fun s : ab_S => s_lt s) (hc.2.2.1.2.2.2.2.2.2 k hk)).trans el
        have mst2 : ∀ σ, MR G m σ Y → fX4_give G m (nI k) (nI v) σ = if 30 < nI l + nI v then (some (-6, σ)) else (if nI (p_D Y).length = 40 then (some (-2, σ)) else ((fX4_does G m σ).bind (fun q52 => some ((mm_up q52 (mm_R G m 5) (11 + k) (q52.1 (mm_R G m 5) (11 + k) + nI v)).1 (mm_R G m 5) (11 + k), mm_up q52 (mm_R G m 5) (11 + k) (q52.1 (mm_R G m 5) (11 + k) + nI v))))) := by
          intro σ hc
          rw [mst σ hc, ml_in, if_neg h1, if_neg h9, Option.bind_some, if_neg (n0 σ)]
          show (if 30 < σ.1 (mm_R G m 5) (11 + k) + nI v then _ else (if σ.1 m 10 = 40 then _ else _)) = _
          rw [elt σ hc, hc.2.2.2.1.1]
        have es : nI l + nI v = nI (l + v) := nI_add l v
        by_cases h30 : 30 < l + v
        · have q : (30 : Int32) < nI l + nI v := by rw [es]; exact nI_lt h30 (by omega)
          exact J_same (-6) ok (fun σ hc => by rw [cs σ hc, if_neg h1, if_neg h9, if_pos q]) (fun σ hc => by rw [mst2 σ hc, if_pos q])
        · have q : ¬ (30 : Int32) < nI l + nI v := by rw [es]; exact nI_nlt (show l + v ≤ 30 by omega) (by decide)
          by_cases hf : (p_D Y).length = 40
          · refine J_same (-2) ok (fun σ hc => ?_) (fun σ hc => ?_)
            · rw [cs σ hc, if_neg h1, if_neg h9, if_neg q, cx_room gx hc ok (by decide), if_pos (by omega)]; rfl
            · rw [mst2 σ hc, if_neg q, if_pos (by rw [hf]; rfl)]
          · obtain ⟨kk, f, p, l2, w, c, es2, b1, b2, b3, b4, b5, b6, b7⟩ := ho.2.2.2 k hk
            refine J_deed gx gm ok (2, k, v) (by omega) ⟨show 2 ≤ 4 by decide, show k < a_n (p_B Y) by rw [← ab_acts_n (p_D Y) (p_B Y)]; exact hk, hv⟩ ?_ (fun σ hc u σ' e1 => ?_) (fun σ σ1 hc e1 r1 => ?_)
            · refine okA_set (l := l + v) ht et ho hlt ?_ (by omega) ?_
              · refine ⟨kk, f, p, l + v, w, c, ?_, b1, b2, b3, b4, by omega, b6, b7⟩
                have el2 : nI l2 = nI l := by rw [← el, es2]
                show s_give (a_st (p_A Y) k) (nI v) = _
                rw [es2]
                show (nI kk, nI f, nI p, nI l2 + nI v, nI w, nI c) = _
                rw [el2, es]
              · show s_lt (a_st (p_A Y) k) + nI v = _
                rw [el, es]
            · rw [cs σ hc, if_neg h1, if_neg h9, if_neg q, cx_room gx hc ok (by decide), if_neg (by omega), Option.bind_some, if_neg (n0 σ), deed_code, Option.bind_some, be]
              exact e1
            · have e11 : σ1.1 (mm_R G m 5) (11 + k) = s_lt (a_st (p_A Y) k) := congrArg (fun s : ab_S => s_lt s) (r1.2.2.2.2.2.2 k hk)
              refine ⟨mm_up σ1 (mm_R G m 5) (11 + k) (s_lt (a_st (p_A Y) k) + nI v), ?_, ml_set hn7 hk r1 ?_ (fun j _ h11 _ _ _ _ => mm_gk h11), mm_sm_up (mm_sm_rf _ _) rfl⟩
              · rw [mst2 σ hc, if_neg q, if_neg (show ¬ nI (p_D Y).length = 40 from fun z => hf ((nI_eq (b := 40) (by omega) (by decide)).mp z)), e1, Option.bind_some, e11, mm_gs]; rfl
              · rw [show a_st (p_A Y) (2, k, v).2.1 = a_st (p_A Y) k from rfl, ← r1.2.2.2.2.2.2 k hk]
                unfold ms
                rw [mm_gk (show 33 + k ≠ 11 + k by omega), mm_gk (show 4 + k ≠ 11 + k by omega), mm_gk (show 40 + k ≠ 11 + k by omega), mm_gk (show 18 + k ≠ 11 + k by omega), mm_gk (show 25 + k ≠ 11 + k by omega), mm_gs]
                rfl
end AC
