/-! drop, first, station, mark -/
section AE
variable {G : mm_G} {x m : Nat} {cd : Nat → Nat} {Y : Ps}
theorem n01 (σ : mm_M) : ¬ ((1 : Int32), σ).1 = 0 := (by decide : ¬ (1 : Int32) = 0)
theorem okP_D40 (ok : okP Y) : (p_D Y).length ≤ 40 := ok.2.2.2.1.1
theorem J_drop (gx : gX G x cd) (gm : gM G m cd) (ok : okP Y) (i : Int32) : Jc G x m cd (fX3_drop G x i) (fX4_drop G m i) Y := by
  obtain ⟨-, e0, -, -, -, -, -, ⟨e26, eN5⟩, -⟩ := id gm
  obtain ⟨t, ht, et, ho, hlt⟩ := okP_A ok
  have hn7 := ho.1
  have hl40 := ok.2.2.2.1.1
  rcases pk_ix i (n := a_n (p_A Y)) (by omega) with hi | hi | ⟨k, hk, rfl⟩
  · exact J_same (-1) ok (fun σ hc => by unfold fX3_drop; rw [ca_has0 hc.2.2.1 (Or.inl hi)]; rfl) (fun σ hc => by unfold fX4_drop; rw [ml_st0 gm ok hc (Or.inl hi)]; rfl)
  · exact J_same (-1) ok (fun σ hc => by unfold fX3_drop; rw [ca_has0 hc.2.2.1 (Or.inr hi)]; rfl) (fun σ hc => by unfold fX4_drop; rw [ml_st0 gm ok hc (Or.inr hi)]; rfl)
  · obtain ⟨l, hl, el⟩ := hlt k hk
    have cs : ∀ σ, CR G x σ Y → fX3_drop G x (nI k) σ = if nI l = 0 then some (-4, σ) else ((fX1_hasRoomFor G (mm_R G x 6) (nI 1) σ).bind (fun q51 => if q51.1 = 0 then (some (-2, q51.2)) else ((fX3_deedOf G (nI 3) (nI k) (nI 0) q51.2).bind (fun q64 => (fX3_carryOut G x q64.1 q64.2).bind (fun q67 => some (q67.1, q67.2)))))) := by
      intro σ hc
      obtain ⟨g1, g2, g3⟩ := cx_gst gx hc hk hn7
      unfold fX3_drop
      rw [ca_has1 hc.2.2.1 hn7 hk, Option.bind_some, if_neg (n01 σ), g1, nI_clamp (by omega : k < 2 ^ 31), if_neg (ck_n (by omega) (by omega)), g2, el]
      rfl
    have elt : ∀ σ, MR G m σ Y → σ.1 (mm_R G m 5) (11 + k) = nI l := fun σ hc => (congrArg (fun s : ab_S => s_lt s) (hc.2.2.1.2.2.2.2.2.2 k hk)).trans el
    have mst : ∀ σ, MR G m σ Y → fX4_drop G m (nI k) σ = if nI l = 0 then some (-4, σ) else (if nI (p_D Y).length = 40 then (some (-2, σ)) else ((fX4_does G m σ).bind (fun q38 => some (q38.1 (mm_R G m 5) (11 + k), mm_up (mm_up (mm_up q38 (mm_R G m 5) (11 + k) 0) (mm_R G m 5) (18 + k) 0) (mm_R G m 5) (25 + k) 0)))) := by
      intro σ hc
      have hdr : ∀ q : mm_M, fX4_drops G (mm_R G m 5) (nI k) q = some (mm_up (mm_up (mm_up q (mm_R G m 5) (11 + k) 0) (mm_R G m 5) (18 + k) 0) (mm_R G m 5) (25 + k) 0) := by
        intro q
        unfold fX4_drops
        rw [eN5, ad11, ad18, ad25, nI_clamp (by omega : 11 + k < 2 ^ 31), nI_clamp (by omega : 18 + k < 2 ^ 31), nI_clamp (by omega : 25 + k < 2 ^ 31), if_neg (kcn (by omega)), if_neg (kcn (by omega)), if_neg (kcn (by omega))]
      unfold fX4_drop
      rw [ml_st1 gm ok hc hk, Option.bind_some, if_neg (n01 σ), eN5, ad11, nI_clamp (by omega : 11 + k < 2 ^ 31)]
      simp only [if_neg (kcn (show 11 + k < 48 by omega)), hdr, Option.bind_some, elt σ hc, hc.2.2.2.1.1]
    by_cases h0 : l = 0
    · have q : nI l = 0 := by rw [h0]; rfl
      exact J_same (-4) ok (fun σ hc => by rw [cs σ hc, if_pos q]) (fun σ hc => by rw [mst σ hc, if_pos q])
    · have q : ¬ nI l = 0 := nI_ne0 (by omega) (by omega)
      by_cases hf : (p_D Y).length = 40
      · refine J_same (-2) ok (fun σ hc => ?_) (fun σ hc => ?_)
        · rw [cs σ hc, if_neg q, cx_room gx hc ok (by decide), if_pos (by omega)]; rfl
        · rw [mst σ hc, if_neg q, if_pos (by rw [hf]; rfl)]
      · obtain ⟨kk, f, p, l2, w, c, es2, b1, b2, b3, b4, b5, b6, b7⟩ := ho.2.2.2 k hk
        refine J_deed gx gm ok (3, k, 0) (by omega) ⟨show 3 ≤ 4 by decide, show k < a_n (p_B Y) by rw [← ab_acts_n (p_D Y) (p_B Y)]; exact hk, show 0 ≤ 9 by decide⟩ ?_ (fun σ hc u σ' e1 => ?_) (fun σ σ1 hc e1 r1 => ?_)
        · refine okA_set (l := 0) ht et ho hlt ?_ (by omega) ?_
          · refine ⟨kk, f, p, 0, 0, 0, ?_, b1, b2, b3, b4, by omega, by omega, by omega⟩
            show s_drop (a_st (p_A Y) k) = _
            rw [es2]
            rfl
          · rfl
        · rw [cs σ hc, if_neg q, cx_room gx hc ok (by decide), if_neg (by omega), Option.bind_some, if_neg (n01 σ), deed_code, Option.bind_some, be]
          exact e1
        · have e11 : σ1.1 (mm_R G m 5) (11 + k) = s_lt (a_st (p_A Y) k) := congrArg (fun s : ab_S => s_lt s) (r1.2.2.2.2.2.2 k hk)
          refine ⟨mm_up (mm_up (mm_up σ1 (mm_R G m 5) (11 + k) 0) (mm_R G m 5) (18 + k) 0) (mm_R G m 5) (25 + k) 0, ?_, ml_set hn7 hk r1 ?_ (fun j _ h11 h18 h25 _ _ => by rw [mm_gk h25, mm_gk h18, mm_gk h11]), mm_sm_up (mm_sm_up (mm_sm_up (mm_sm_rf _ _) rfl) rfl) rfl⟩
          · rw [mst σ hc, if_neg q, if_neg (show ¬ nI (p_D Y).length = 40 from fun z => hf ((nI_eq (b := 40) (by omega) (by decide)).mp z)), e1, Option.bind_some, e11]; rfl
          · rw [show a_st (p_A Y) (3, k, 0).2.1 = a_st (p_A Y) k from rfl, ← r1.2.2.2.2.2.2 k hk]
            unfold ms
            rw [mm_gk (show 33 + k ≠ 25 + k by omega), mm_gk (show 33 + k ≠ 18 + k by omega), mm_gk (show 33 + k ≠ 11 + k by omega), mm_gk (show 4 + k ≠ 25 + k by omega), mm_gk (show 4 + k ≠ 18 + k by omega), mm_gk (show 4 + k ≠ 11 + k by omega), mm_gk (show 40 + k ≠ 25 + k by omega), mm_gk (show 40 + k ≠ 18 + k by omega), mm_gk (show 40 + k ≠ 11 + k by omega), mm_gk (show 11 + k ≠ 25 + k by omega), mm_gk (show 11 + k ≠ 18 + k by omega), mm_gs, mm_gk (show 18 + k ≠ 25 + k by omega), mm_gs, mm_gs]
            rfl
theorem J_first (gx : gX G x cd) (gm : gM G m cd) (ok : okP Y) (i n : Int32) : Jc G x m cd (fX3_first G x i n) (fX4_first G m i n) Y := by
  obtain ⟨-, e0, -, -, -, -, -, ⟨e26, eN5⟩, -⟩ := id gm
  obtain ⟨t, ht, et, ho, hlt⟩ := okP_A ok
  have hn7 := ho.1
  have hl40 := ok.2.2.2.1.1
  rcases pk_ix i (n := a_n (p_A Y)) (by omega) with hi | hi | ⟨k, hk, rfl⟩
  · exact J_same (-1) ok (fun σ hc => by unfold fX3_first; rw [ca_has0 hc.2.2.1 (Or.inl hi)]; rfl) (fun σ hc => by unfold fX4_first; rw [ml_st0 gm ok hc (Or.inl hi)]; rfl)
  · exact J_same (-1) ok (fun σ hc => by unfold fX3_first; rw [ca_has0 hc.2.2.1 (Or.inr hi)]; rfl) (fun σ hc => by unfold fX4_first; rw [ml_st0 gm ok hc (Or.inr hi)]; rfl)
  · obtain ⟨kk, f, p, l2, w, c, es2, b1, b2, b3, b4, b5, b6, b7⟩ := ho.2.2.2 k hk
    have ef : s_fw (a_st (p_A Y) k) = nI f := by rw [es2]
    have cs : ∀ σ, CR G x σ Y → fX3_first G x (nI k) n σ = if n < 0 then some (-1, σ) else (if n < 10 then (if nI f = n then some (-4, σ) else ((fX1_hasRoomFor G (mm_R G x 6) (nI 1) σ).bind (fun q51 => if q51.1 = 0 then (some (-2, q51.2)) else ((fX3_deedOf G (nI 4) (nI k) n q51.2).bind (fun q64 => (fX3_carryOut G x q64.1 q64.2).bind (fun q67 => some (q67.1, q67.2))))))) else some (-1, σ)) := by
      intro σ hc
      obtain ⟨g1, g2, g3⟩ := cx_gst gx hc hk hn7
      unfold fX3_first
      rw [ca_has1 hc.2.2.1 hn7 hk, Option.bind_some, if_neg (n01 σ), g1, nI_clamp (by omega : k < 2 ^ 31), if_neg (ck_n (by omega) (by omega)), g3, ef]
      rfl
    have elt : ∀ σ, MR G m σ Y → σ.1 (mm_R G m 5) (4 + k) = nI f := fun σ hc => (congrArg (fun s : ab_S => s_fw s) (hc.2.2.1.2.2.2.2.2.2 k hk)).trans ef
    have mst : ∀ σ, MR G m σ Y → fX4_first G m (nI k) n σ = (if (if n < 0 then (0 : Int32) else if 9 < n then 0 else 1) = 0 then some (-1, σ) else (if nI f = n then some (-4, σ) else (if nI (p_D Y).length = 40 then (some (-2, σ)) else ((fX4_does G m σ).bind (fun q48 => some (q48.1 (mm_R G m 5) (4 + k), mm_up q48 (mm_R G m 5) (4 + k) n)))))) := by
      intro σ hc
      unfold fX4_first
      rw [ml_st1 gm ok hc hk, Option.bind_some, if_neg (n01 σ), ml_in, Option.bind_some, eN5, ad4, nI_clamp (by omega : 4 + k < 2 ^ 31)]
      simp only [if_neg (kcn (show 4 + k < 48 by omega)), elt σ hc, hc.2.2.2.1.1]
    by_cases h1 : n < 0
    · exact J_same (-1) ok (fun σ hc => by rw [cs σ hc, if_pos h1]) (fun σ hc => by rw [mst σ hc, if_pos h1]; rfl)
    · by_cases h9 : 9 < n
      · exact J_same (-1) ok (fun σ hc => by rw [cs σ hc, if_neg h1, if_neg (show ¬ n < 10 from fun q => by
          rw [Int32.lt_iff_toInt_lt] at h9 q
          have a1 : (9 : Int32).toInt = 9 := rfl
          have a2 : (10 : Int32).toInt = 10 := rfl
          omega)]) (fun σ hc => by rw [mst σ hc, if_neg h1, if_pos h9]; rfl)
      · obtain ⟨v, hv, rfl⟩ := nI_of2 (M := 9) (n := 9) (by decide) h1 (Int32.not_lt.mp h9)
        have h10 : nI v < 10 := nI_lt (show v < 10 by omega) (by decide)
        have m1 : ¬ (if nI v < 0 then (0 : Int32) else if 9 < nI v then 0 else 1) = 0 := by rw [if_neg h1, if_neg h9]; decide
        by_cases hfv : nI f = nI v
        · exact J_same (-4) ok (fun σ hc => by rw [cs σ hc, if_neg h1, if_pos h10, if_pos hfv]) (fun σ hc => by rw [mst σ hc, if_neg m1, if_pos hfv])
        · by_cases hf : (p_D Y).length = 40
          · refine J_same (-2) ok (fun σ hc => ?_) (fun σ hc => ?_)
            · rw [cs σ hc, if_neg h1, if_pos h10, if_neg hfv, cx_room gx hc ok (by decide), if_pos (by omega)]; rfl
            · rw [mst σ hc, if_neg m1, if_neg hfv, if_pos (by rw [hf]; rfl)]
          · obtain ⟨l, hl, el⟩ := hlt k hk
            refine J_deed gx gm ok (4, k, v) (by omega) ⟨show 4 ≤ 4 by decide, show k < a_n (p_B Y) by rw [← ab_acts_n (p_D Y) (p_B Y)]; exact hk, hv⟩ ?_ (fun σ hc u σ' e1 => ?_) (fun σ σ1 hc e1 r1 => ?_)
            · refine okA_set (l := l) ht et ho hlt ?_ (by omega) ?_
              · refine ⟨kk, v, p, l2, w, c, ?_, b1, hv, b3, b4, b5, b6, b7⟩
                show s_first (a_st (p_A Y) k) (nI v) = _
                rw [es2]
                rfl
              · show s_lt (a_st (p_A Y) k) = _
                exact el
            · rw [cs σ hc, if_neg h1, if_pos h10, if_neg hfv, cx_room gx hc ok (by decide), if_neg (by omega), Option.bind_some, if_neg (n01 σ), deed_code, Option.bind_some, be]
              exact e1
            · have e11 : σ1.1 (mm_R G m 5) (4 + k) = s_fw (a_st (p_A Y) k) := congrArg (fun s : ab_S => s_fw s) (r1.2.2.2.2.2.2 k hk)
              refine ⟨mm_up σ1 (mm_R G m 5) (4 + k) (nI v), ?_, ml_set hn7 hk r1 ?_ (fun j h4 _ _ _ _ _ => mm_gk h4), mm_sm_up (mm_sm_rf _ _) rfl⟩
              · rw [mst σ hc, if_neg m1, if_neg hfv, if_neg (show ¬ nI (p_D Y).length = 40 from fun z => hf ((nI_eq (b := 40) (by omega) (by decide)).mp z)), e1, Option.bind_some, e11]; rfl
              · rw [show a_st (p_A Y) (4, k, v).2.1 = a_st (p_A Y) k from rfl, ← r1.2.2.2.2.2.2 k hk]
                unfold ms
                rw [mm_gk (show 33 + k ≠ 4 + k by omega), mm_gk (show 11 + k ≠ 4 + k by omega), mm_gk (show 40 + k ≠ 4 + k by omega), mm_gk (show 18 + k ≠ 4 + k by omega), mm_gk (show 25 + k ≠ 4 + k by omega), mm_gs]
                rfl
/-! what a station tells -/
def s_tell (s : ab_S) (t x : Int32) : Int32 := if x = 0 then s_kd s else if x = 1 then s_fw s else if x = 2 then s_sp s else if x = 3 then s_lt s else if x = 4 then s_wt s else if x = 5 then s_cl s else if ab_wants s t then 1 else 0
theorem cx_kd (ok : okP Y) {i : Nat} (hi : i < a_n (p_A Y)) {σ : mm_M} (hc : CR G x σ Y) : ∃ kk, kk ≤ 5 ∧ σ.1 (sa G (mm_R G x 5) i) 0 = nI kk := by
  obtain ⟨t, ht, et, ho, hlt⟩ := okP_A ok
  obtain ⟨kk, b1, e⟩ := ab_okS_kd (ho.2.2.2 i hi)
  exact ⟨kk, b1, (congrArg (fun s : ab_S => s_kd s) (hc.2.2.1.2.2.2.2.2 i hi)).trans e⟩
theorem cx_tell (gx : gX G x cd) (ok : okP Y) {i : Nat} (hi : i < a_n (p_A Y)) (v : Int32) {σ : mm_M} (hc : CR G x σ Y) : fX2_told G (sa G (mm_R G x 5) i) v (σ.1 (mm_R G x 5) 5) σ = some (s_tell (a_st (p_A Y) i) (a_tk (p_A Y)) v, σ) := by
  obtain ⟨kk, b1, e⟩ := cx_kd ok hi hc
  rw [cs_told G b1 e v, hc.2.2.1.2.2.2.2.2 i hi, hc.2.2.1.2.2.2.2.1]
  rfl
theorem ml_tell (gm : gM G m cd) (ok : okP Y) {i : Nat} (hi : i < a_n (p_A Y)) (v : Int32) {σ : mm_M} (hc : MR G m σ Y) : fX4_of G m (nI i) v σ = some (s_tell (a_st (p_A Y) i) (a_tk (p_A Y)) v, σ) := by
  obtain ⟨-, e0, -, -, -, -, -, ⟨e26, eN5⟩, -⟩ := id gm
  have hn7 := (okP_n ok).2
  have hs := hc.2.2.1.2.2.2.2.2.2 i hi
  have hw := ml_wants G (c := mm_R G m 5) (i := i) (σ := σ) eN5 (by omega)
  rw [hs, hc.2.2.1.2.2.2.2.2.1, hc.2.2.1.2.2.1, b_0] at hw
  unfold fX4_of s_tell
  rw [← hs]
  rw [hs, hw, ← hs, eN5, ad33, ad4, ad40, ad11, ad18, ad25, nI_clamp (by omega : 33 + i < 2 ^ 31), nI_clamp (by omega : 4 + i < 2 ^ 31), nI_clamp (by omega : 40 + i < 2 ^ 31), nI_clamp (by omega : 11 + i < 2 ^ 31), nI_clamp (by omega : 18 + i < 2 ^ 31), nI_clamp (by omega : 25 + i < 2 ^ 31), if_neg (kcn (by omega)), if_neg (kcn (by omega)), if_neg (kcn (by omega)), if_neg (kcn (by omega)), if_neg (kcn (by omega)), if_neg (kcn (by omega))]
  by_cases h0 : v = 0
  · simp only [if_pos h0]; rfl
  · by_cases h1 : v = 1
    · simp only [if_neg h0, if_pos h1]; rfl
    · by_cases h2 : v = 2
      · simp only [if_neg h0, if_neg h1, if_pos h2]; rfl
      · by_cases h3 : v = 3
        · simp only [if_neg h0, if_neg h1, if_neg h2, if_pos h3]; rfl
        · by_cases h4 : v = 4
          · simp only [if_neg h0, if_neg h1, if_neg h2, if_neg h3, if_pos h4]; rfl
          · by_cases h5 : v = 5
            · simp only [if_neg h0, if_neg h1, if_neg h2, if_neg h3, if_neg h4, if_pos h5]; rfl
            · simp only [if_neg h0, if_neg h1, if_neg h2, if_neg h3, if_neg h4, if_neg h5, Option.bind_some]
              rw [hs]
              cases ab_wants (a_st (p_A Y) i) (a_tk (p_A Y)) <;> rfl
theorem J_station (gx : gX G x cd) (gm : gM G m cd) (ok : okP Y) (i v : Int32) : Jc G x m cd (fX3_station G x i v) (fX4_station G m i v) Y := by
  have hn7 := (okP_n ok).2
  rcases pk_ix i (n := a_n (p_A Y)) (by omega) with hi | hi | ⟨k, hk, rfl⟩
  · exact J_same (-1) ok (fun σ hc => by unfold fX3_station; rw [ca_has0 hc.2.2.1 (Or.inl hi)]; rfl) (fun σ hc => by unfold fX4_station; rw [ml_st0 gm ok hc (Or.inl hi)]; rfl)
  · exact J_same (-1) ok (fun σ hc => by unfold fX3_station; rw [ca_has0 hc.2.2.1 (Or.inr hi)]; rfl) (fun σ hc => by unfold fX4_station; rw [ml_st0 gm ok hc (Or.inr hi)]; rfl)
  · have g1 : mm_N G (mm_R G (mm_R G x 5) 0) = 7 := (gX_ga5 gx).1
    have cs : ∀ σ, CR G x σ Y → fX3_station G x (nI k) v σ = if v < 0 then some (-1, σ) else (if v < 7 then some (1, mm_up σ x 12 (s_tell (a_st (p_A Y) k) (a_tk (p_A Y)) v)) else some (-1, σ)) := by
      intro σ hc
      unfold fX3_station
      rw [ca_has1 hc.2.2.1 hn7 hk, Option.bind_some, if_neg (n01 σ), g1, nI_clamp (by omega : k < 2 ^ 31), if_neg (ck_n (by omega) (by omega))]
      show (if v < 0 then _ else if v < 7 then (fX2_told G (sa G (mm_R G x 5) k) v (σ.1 (mm_R G x 5) 5) σ).bind _ else _) = _
      rw [cx_tell gx ok hk v hc]
      rfl
    have mst : ∀ σ, MR G m σ Y → fX4_station G m (nI k) v σ = if (if v < 0 then (0 : Int32) else if 6 < v then 0 else 1) = 0 then some (-1, σ) else some (1, mm_up σ m 14 (s_tell (a_st (p_A Y) k) (a_tk (p_A Y)) v)) := by
      intro σ hc
      unfold fX4_station
      rw [ml_st1 gm ok hc hk, Option.bind_some, if_neg (n01 σ), ml_in, Option.bind_some]
      show (if _ then _ else (fX4_of G m (nI k) v σ).bind _) = _
      rw [ml_tell gm ok hk v hc]
      rfl
    by_cases h1 : v < 0
    · exact J_same (-1) ok (fun σ hc => by rw [cs σ hc, if_pos h1]) (fun σ hc => by rw [mst σ hc, if_pos h1]; rfl)
    · by_cases h6 : 6 < v
      · exact J_same (-1) ok (fun σ hc => by rw [cs σ hc, if_neg h1, if_neg (show ¬ v < 7 from fun q => by
          rw [Int32.lt_iff_toInt_lt] at h6 q
          have a1 : (6 : Int32).toInt = 6 := rfl
          have a2 : (7 : Int32).toInt = 7 := rfl
          omega)]) (fun σ hc => by rw [mst σ hc, if_neg h1, if_pos h6]; rfl)
      · have h7 : v < 7 := by
          rw [Int32.lt_iff_toInt_lt] at h6 ⊢
          have a1 : (6 : Int32).toInt = 6 := rfl
          have a2 : (7 : Int32).toInt = 7 := rfl
          omega
        refine ⟨1, y_ask Y (s_tell (a_st (p_A Y) k) (a_tk (p_A Y)) v), okP_7 ok, fun σ hc => ⟨_, ?_, cx_ask gx ok _ σ hc⟩, fun σ hc => ⟨_, ?_, ml_ask gm _ σ hc⟩⟩
        · rw [cs σ hc, if_neg h1, if_pos h7]
        · rw [mst σ hc, if_neg h1, if_neg h6]; rfl
end AE
