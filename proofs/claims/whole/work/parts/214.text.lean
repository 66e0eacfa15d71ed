/-! TEXTS: text, put -/
section TX
variable {G : mm_G} {x m : Nat} {cd : Nat → Nat} {Y : Ps}
theorem cx_txt1 {j : Nat} (h : j < 4) (σ : mm_M) : fX3_isText G (nI j) σ = some (1, σ) := by
  have e : (if nI j < 0 then (0 : Int32) else if nI j < 4 then 1 else 0) = 1 := by rw [if_neg (nI_pos (by omega)), if_pos (show nI j < 4 from nI_lt h (by decide))]
  unfold fX3_isText
  rw [e]
  rfl
theorem cx_txt0 {r : Int32} (h : r < 0 ∨ nI 4 ≤ r) (σ : mm_M) : fX3_isText G r σ = some (0, σ) := by
  have e : (if r < 0 then (0 : Int32) else if r < 4 then 1 else 0) = 0 := by
    by_cases h0 : r < 0
    · rw [if_pos h0]
    · rw [if_neg h0, if_neg (show ¬ r < 4 from Int32.not_lt.mpr (h.resolve_left h0))]
  unfold fX3_isText
  rw [e]
  rfl
theorem ml_txt1 {j : Nat} (h : j < 4) (σ : mm_M) : fX4_isText G (nI j) σ = some (1, σ) := by
  unfold fX4_isText
  rw [ml_in, if_neg (nI_pos (by omega)), if_neg (show ¬ (3 : Int32) < nI j from nI_nlt (show j ≤ 3 by omega) (by decide))]
  rfl
theorem ml_txt0 {r : Int32} (h : r < 0 ∨ nI 4 ≤ r) (σ : mm_M) : fX4_isText G r σ = some (0, σ) := by
  unfold fX4_isText
  rw [ml_in]
  by_cases h0 : r < 0
  · rw [if_pos h0]; rfl
  · have h5 : (3 : Int32) < r := Int32.lt_of_lt_of_le (show (3 : Int32) < nI 4 by decide) (h.resolve_left h0)
    rw [if_neg h0, if_pos h5]; rfl
def y_text (Y : Ps) (ts : Nat → Int32) (tv : Nat → Nat → Int32) : Ps := (p_rs Y, p_rv Y, ts, tv, p_B Y, p_D Y, p_K Y, p_as Y, p_up Y, p_lo Y, p_fi Y, p_fo Y)
theorem CR_2 {σ σ' : mm_M} {ts : Nat → Int32} {tv : Nat → Nat → Int32} (g : gX G x cd) (ok : okP Y) (h : ∀ i b, 1 ≤ i → ¬ i = 2 → i ≤ 8 → rg cd i b → σ'.1 b = σ.1 b) (h2 : σ'.2 x = σ.2 x) (hc : CR G x σ Y) (hr : c_text G x σ' (y_text Y ts tv)) : CR G x σ' (y_text Y ts tv) :=
  ⟨fr_rows g (fun b => h 1 b (by decide) (by decide) (by decide)) (show c_rows G x σ (y_text Y ts tv) from hc.1), hr, fr_air (fun b hb => gX_ic5 g hb) (okP_n ok).2 (fun b => h 3 b (by decide) (by decide) (by decide)) (show c_now G x σ (y_text Y ts tv) from hc.2.2.1), fr_air (fun b hb => gX_ic4 g hb) (okP_n ok).1 (fun b => h 4 b (by decide) (by decide) (by decide)) (show c_start G x σ (y_text Y ts tv) from hc.2.2.2.1), fr_deeds g (fun b => h 5 b (by decide) (by decide) (by decide)) (show c_deeds G x σ (y_text Y ts tv) from hc.2.2.2.2.1), fr_kept g (fun b => h 6 b (by decide) (by decide) (by decide)) (show c_kept G x σ (y_text Y ts tv) from hc.2.2.2.2.2.1), fr_told g (fun b => h 7 b (by decide) (by decide) (by decide)) h2 (show c_told x σ (y_text Y ts tv) from hc.2.2.2.2.2.2.1), fr_found g (fun b => h 8 b (by decide) (by decide) (by decide)) (show c_found G x σ (y_text Y ts tv) from hc.2.2.2.2.2.2.2)⟩
theorem MR_2 {σ σ' : mm_M} {ts : Nat → Int32} {tv : Nat → Nat → Int32} (g : gM G m cd) (h : ∀ i b, 20 ≤ i → ¬ i = 24 → ¬ i = 25 → rg cd i b → σ'.1 b = σ.1 b) (h2 : σ'.2 m = σ.2 m) (hc : MR G m σ Y) (hr : m_text G m σ' (y_text Y ts tv)) : MR G m σ' (y_text Y ts tv) :=
  ⟨fm_rows g (fun b => h 21 b (by decide) (by decide) (by decide)) (fun b => h 22 b (by decide) (by decide) (by decide)) (show m_rows G m σ (y_text Y ts tv) from hc.1), hr, fm_now g (fun b => h 26 b (by decide) (by decide) (by decide)) (show m_now G m σ (y_text Y ts tv) from hc.2.2.1), fm_deeds g (fun b => h 20 b (by decide) (by decide) (by decide)) (fun b => h 30 b (by decide) (by decide) (by decide)) (show m_deeds G m σ (y_text Y ts tv) from hc.2.2.2.1), fm_kept g (fun b => h 31 b (by decide) (by decide) (by decide)) (fun b => h 32 b (by decide) (by decide) (by decide)) (fun b => h 33 b (by decide) (by decide) (by decide)) (show m_kept G m σ (y_text Y ts tv) from hc.2.2.2.2.1), fm_told g (fun b => h 20 b (by decide) (by decide) (by decide)) h2 (show m_told m σ (y_text Y ts tv) from hc.2.2.2.2.2.1), fm_found g (fun b => h 34 b (by decide) (by decide) (by decide)) (show m_found G m σ (y_text Y ts tv) from hc.2.2.2.2.2.2)⟩
theorem ix60 {j k : Nat} (hj : j < 4) (hk : k < 60) : (60 : Int32) * nI j + nI k = nI (60 * j + k) ∧ 60 * j + k < 240 := by
  refine ⟨?_, by omega⟩
  rw [show (60 : Int32) = nI 60 from rfl, pk_mul, nI_add]
theorem ck60 {j k : Nat} (hj : j < 4) (hk : k < 60) : ¬ ((60 : Int32) * nI j + nI k < 0 ∨ 240 ≤ ((60 : Int32) * nI j + nI k).toNatClampNeg) := by
  rw [(ix60 hj hk).1]; exact ck_no (ix60 hj hk).2 (by decide)
theorem cl60 {j k : Nat} (hj : j < 4) (hk : k < 60) : ((60 : Int32) * nI j + nI k).toNatClampNeg = 60 * j + k := by
  rw [(ix60 hj hk).1]; exact nI_clamp (by omega)
theorem ts_cases (ok : okP Y) {j : Nat} (hj : j < 4) : (p_ts Y j = -1 ∧ p_ts Y j < 0) ∨ ∃ n, n ≤ 60 ∧ p_ts Y j = nI n ∧ ¬ p_ts Y j < 0 ∧ ¬ p_ts Y j = -1 := by
  rcases ok.2.1 j hj with h | ⟨n, hn, h⟩
  · exact Or.inl ⟨h, by rw [h]; decide⟩
  · exact Or.inr ⟨n, hn, h, by rw [h]; exact nI_pos (by omega), by rw [h]; exact nI_ne1 (by omega)⟩
theorem okP_text (ok : okP Y) {j : Nat} {s : Int32} {tv : Nat → Nat → Int32} (hs : s = -1 ∨ ∃ n, n ≤ 60 ∧ s = nI n) (hv : ∀ t i, (tv t i).toInt8.toInt32 = tv t i) : okP (y_text Y (fun a => if a = j then s else p_ts Y a) tv) := by
  refine ⟨ok.1, fun r hr => ?_, hv, ok.2.2.2⟩
  show (if r = j then s else p_ts Y r) = -1 ∨ ∃ n, n ≤ 60 ∧ (if r = j then s else p_ts Y r) = nI n
  by_cases h : r = j
  · rw [if_pos h]; exact hs
  · rw [if_neg h]; exact ok.2.1 r hr
theorem cx_textset (g : gX G x cd) (ok : okP Y) {σ σ' : mm_M} {j : Nat} {s : Int32} {rv : Nat → Nat → Int32} (hj : j < 4) (hc : CR G x σ Y) (hsm : mm_sm (fun b => b = mm_R G x 3 ∨ b = mm_R G (mm_R G x 2) j) σ σ') (hsz : ∀ a, a < 4 → σ'.1 (mm_R G x 3) a = if a = j then s else p_ts Y a) (hv : ∀ i, nI i < s → i < 60 → σ'.1 (mm_R G (mm_R G x 2) j) i = rv j i) (ho : ∀ a, a ≠ j → rv a = p_tv Y a) : CR G x σ' (y_text Y (fun a => if a = j then s else p_ts Y a) rv) ∧ mm_sn (rX cd) σ σ' := by
  obtain ⟨-, ex, -, -, ⟨-, eR⟩, ⟨-, e1⟩, -⟩ := id g
  refine ⟨CR_2 g ok (fun i b hi h2 hi8 hb => hsm.1 b (fun q => ?_)) (by rw [hsm.2]) hc (fun r hr => ⟨hsz r hr, fun i hi h40 => ?_⟩), (mm_sm_mono hsm (fun b q => ?_)).sn⟩
  · unfold rg at hb
    rcases q with rfl | rfl
    · rw [e1] at hb; omega
    · rw [(eR j hj).1] at hb; omega
  · by_cases h : r = j
    · subst h
      exact hv i (by have h2 : nI i < (if r = r then s else p_ts Y r) := hi; rw [if_pos rfl] at h2; exact h2) h40
    · have hi' : nI i < p_ts Y r := by have h2 : nI i < (if r = j then s else p_ts Y r) := hi; rw [if_neg h] at h2; exact h2
      have e := hsm.1 (mm_R G (mm_R G x 2) r) (fun q => by
        have a1 := (eR r hr).1
        have a2 := (eR j hj).1
        rcases q with q | q
        · rw [q, e1] at a1; omega
        · rw [q, a2] at a1; omega)
      show σ'.1 (mm_R G (mm_R G x 2) r) i = rv r i
      rw [e, ho r h]
      exact (hc.2.1 r hr).2 i hi' h40
  · unfold rX
    rcases q with rfl | rfl
    · rw [e1]; omega
    · rw [(eR j hj).1]; omega
theorem ml_textset (g : gM G m cd) {σ σ' : mm_M} {j : Nat} {s : Int32} {rv : Nat → Nat → Int32} (hj : j < 4) (hc : MR G m σ Y) (hsm : mm_sm (fun b => b = mm_R G m 3 ∨ b = mm_R G m 4) σ σ') (hsz : ∀ a, a < 4 → σ'.1 (mm_R G m 3) a = if a = j then s else p_ts Y a) (hv : ∀ i, nI i < s → i < 60 → σ'.1 (mm_R G m 4) (60 * j + i) = rv j i) (hk : ∀ a i, a < 4 → i < 60 → a ≠ j → σ'.1 (mm_R G m 4) (60 * a + i) = σ.1 (mm_R G m 4) (60 * a + i)) (ho : ∀ a, a ≠ j → rv a = p_tv Y a) : MR G m σ' (y_text Y (fun a => if a = j then s else p_ts Y a) rv) ∧ mm_sn (rY cd) σ σ' := by
  obtain ⟨-, ex, -, -, -, ⟨e0, -⟩, ⟨e1, -⟩, -⟩ := id g
  refine ⟨MR_2 g (fun i b hi h24 h25 hb => hsm.1 b (fun q => ?_)) (by rw [hsm.2]) hc (fun r hr => ⟨hsz r hr, fun i hi h40 => ?_⟩), (mm_sm_mono hsm (fun b q => ?_)).sn⟩
  · unfold rg at hb
    rcases q with rfl | rfl
    · rw [e0] at hb; omega
    · rw [e1] at hb; omega
  · by_cases h : r = j
    · subst h
      exact hv i (by have h2 : nI i < (if r = r then s else p_ts Y r) := hi; rw [if_pos rfl] at h2; exact h2) h40
    · have hi' : nI i < p_ts Y r := by have h2 : nI i < (if r = j then s else p_ts Y r) := hi; rw [if_neg h] at h2; exact h2
      show σ'.1 (mm_R G m 4) (60 * r + i) = rv r i
      rw [hk r i hr h40 h, ho r h]
      exact (hc.2.1 r hr).2 i hi' h40
  · unfold rY
    rcases q with rfl | rfl
    · rw [e0]; omega
    · rw [e1]; omega
theorem gX_r3 (g : gX G x cd) {j : Nat} (hj : j < 4) : mm_R G x 3 ≠ mm_R G (mm_R G x 2) j := by
  obtain ⟨-, ex, -, -, ⟨-, eR⟩, ⟨-, e1⟩, -⟩ := g
  intro e
  have := (eR j hj).1
  rw [← e, e1] at this; omega
theorem gM_34 (g : gM G m cd) : mm_R G m 3 ≠ mm_R G m 4 := by
  obtain ⟨-, ex, -, -, -, ⟨e0, -⟩, ⟨e1, -⟩, -⟩ := g
  intro e; rw [e, e1] at e0; omega
theorem nar32 : vp_nar .byte 32 = 32 := by decide
theorem J_text (gx : gX G x cd) (gm : gM G m cd) (ok : okP Y) (r v : Int32) : Jc G x m cd (fX3_text G x r v) (fX4_text G m r v) Y := by
  obtain ⟨-, eM, -, -, -, ⟨-, eN0⟩, ⟨-, eN1⟩, -⟩ := id gm
  obtain ⟨-, -, -, -, ⟨eR0, eR⟩, ⟨eS, -⟩, -⟩ := id gx
  rcases pk_ix r (n := 4) (by decide) with hr | hr | ⟨j, hj, rfl⟩
  · exact J_same (-1) ok (fun σ _ => by unfold fX3_text fX3_text_b0; rw [cx_txt0 (Or.inl hr)]; rfl) (fun σ _ => by unfold fX4_text fX4_text_b0; rw [ml_txt0 (Or.inl hr)]; rfl)
  · exact J_same (-1) ok (fun σ _ => by unfold fX3_text fX3_text_b0; rw [cx_txt0 (Or.inr hr)]; rfl) (fun σ _ => by unfold fX4_text fX4_text_b0; rw [ml_txt0 (Or.inr hr)]; rfl)
  · have cs : ∀ σ, fX3_text G x (nI j) v σ = mm_run (if 60 < v then some (.inl (-1, σ)) else (if v < 0 then ((fX3_found G x 5 σ).bind (fun q21 => some (.inl (q21.1, q21.2)))) else some (.inr (0, σ)))) (fX3_text_s G x (nI j) v) := by
      intro σ
      unfold fX3_text fX3_text_b0
      rw [cx_txt1 hj, Option.bind_some, if_neg (show ¬ ((1 : Int32), σ).1 = 0 from (by decide : ¬ (1 : Int32) = 0))]
    have mst : ∀ σ, fX4_text G m (nI j) v σ = mm_run (if 60 < v then some (.inl (-1, σ)) else (if v < 0 then ((fX4_finds G m 5 σ).bind (fun q21 => some (.inl (q21.1, q21.2)))) else some (.inr (0, mm_up σ (mm_R G m 3) j v)))) (fX4_text_s G m (nI j) v) := by
      intro σ
      unfold fX4_text fX4_text_b0
      rw [ml_txt1 hj, Option.bind_some, if_neg (show ¬ ((1 : Int32), σ).1 = 0 from (by decide : ¬ (1 : Int32) = 0)), eN0, nI_clamp (by omega : j < 2 ^ 31), if_neg (ck_n hj (by omega))]
    by_cases h40 : 60 < v
    · exact J_same (-1) ok (fun σ _ => by rw [cs σ, if_pos h40]; rfl) (fun σ _ => by rw [mst σ, if_pos h40]; rfl)
    · by_cases hv0 : v < 0
      · exact J_fnd gx gm ok 5 (by decide) (by decide) (fun σ hc σ' e => by rw [cs σ, if_neg h40, if_pos hv0, bel (show fX3_found G x 5 σ = some (-3, σ') from e)]; rfl) (fun σ hc σ' e => by rw [mst σ, if_neg h40, if_pos hv0, bel (show fX4_finds G m 5 σ = some (-3, σ') from e)]; rfl)
      · obtain ⟨n, hn, rfl⟩ := nI_of2 (M := 60) (n := 60) (by decide) hv0 (Int32.not_lt.mp h40)
        refine ⟨nI n, y_text Y (fun a => if a = j then nI n else p_ts Y a) (fun a => if a = j then (fun _ => 32) else p_tv Y a), okP_text ok (Or.inr ⟨n, hn, rfl⟩) (fun t i => ?_), fun σ hc => ?_, fun σ hc => ?_⟩
        · by_cases h : t = j
          · rw [if_pos h]; decide
          · rw [if_neg h]; exact ok.2.2.1 t i
        · obtain ⟨⟨y, σ1⟩, e1, hx, hz, hm⟩ := mm_loop (f := fX3_text_s G x (nI j) (nI n)) (fun i s => s.1 = nI i ∧ (∀ k, k < i → s.2.1 (mm_R G (mm_R G x 2) j) k = 32) ∧ mm_sm (fun b => b = mm_R G (mm_R G x 2) j) σ s.2) n (fun i s hi hI => by
            obtain ⟨y, σ1⟩ := s
            obtain ⟨hx, hz, hm⟩ := hI
            dsimp only at hx hz hm
            subst hx
            refine ⟨(nI i + 1, mm_up σ1 (mm_R G (mm_R G x 2) j) i 32), mm_lim_go ?_, nI_1 i, fun k hk => ?_, mm_sm_up hm rfl⟩
            · show fX3_text_b27 G x (nI j) (nI n) (nI i) σ1 = _
              unfold fX3_text_b27
              rw [if_pos (nI_lt hi (by omega)), eR0, nI_clamp (by omega : j < 2 ^ 31), if_neg (ck_n hj (by omega)), (eR j hj).2, nI_clamp (by omega : i < 2 ^ 31), if_neg (ck_n (by omega) (by omega)), nar32]
            · show (mm_up σ1 (mm_R G (mm_R G x 2) j) i 32).1 (mm_R G (mm_R G x 2) j) k = 32
              by_cases hki : k = i
              · subst hki; exact mm_gs ..
              · rw [mm_gk hki]; exact hz k (by omega)) ((0 : Int32), σ) ⟨rfl, fun k h => absurd h (Nat.not_lt_zero k), mm_sm_rf _ _⟩
          dsimp only at hx hz hm
          subst hx
          refine ⟨mm_up σ1 (mm_R G x 3) j (nI n), ?_, cx_textset gx ok hj hc (mm_sm_up (mm_sm_mono hm (fun b q => Or.inr q)) (Or.inl rfl)) (fun a ha => ?_) (fun i hi _ => ?_) (fun a ha => if_neg ha)⟩
          · rw [cs σ, if_neg h40, if_neg hv0, mm_run_go, e1]
            refine mm_lim_ret ?_
            show fX3_text_b27 G x (nI j) (nI n) (nI n) σ1 = _
            unfold fX3_text_b27
            rw [if_neg Int32.lt_irrefl, eS, nI_clamp (by omega : j < 2 ^ 31), if_neg (ck_n hj (by omega))]
          · by_cases h : a = j
            · subst h; rw [if_pos rfl, mm_gs]
            · rw [if_neg h, mm_gk h, hm.1 _ (gX_r3 gx hj)]; exact (hc.2.1 a ha).1
          · rw [mm_ga (Ne.symm (gX_r3 gx hj)), if_pos rfl]
            exact hz i ((nI_ltI (by omega) (by omega)).mp hi)
        · have hne := gM_34 gm
          obtain ⟨⟨y, σ1⟩, e1, hx, hz, hk1, hm⟩ := mm_loop (f := fX4_text_s G m (nI j) (nI n)) (fun i s => s.1 = nI i ∧ (∀ k, k < i → s.2.1 (mm_R G m 4) (60 * j + k) = 32) ∧ (∀ k, (k < 60 * j ∨ 60 * j + 60 ≤ k) → s.2.1 (mm_R G m 4) k = σ.1 (mm_R G m 4) k) ∧ mm_sm (fun b => b = mm_R G m 4) (mm_up σ (mm_R G m 3) j (nI n)) s.2) 60 (fun i s hi hI => by
            obtain ⟨y, σ1⟩ := s
            obtain ⟨hx, hz, hk1, hm⟩ := hI
            dsimp only at hx hz hk1 hm
            subst hx
            refine ⟨(nI i + 1, mm_up σ1 (mm_R G m 4) (60 * j + i) 32), mm_lim_go ?_, nI_1 i, fun k hk => ?_, fun k hk => ?_, mm_sm_up hm rfl⟩
            · show fX4_text_b34 G m (nI j) (nI n) (nI i) σ1 = _
              unfold fX4_text_b34
              rw [if_pos (show nI i < (60 : Int32) from nI_lt hi (by decide)), eN1, if_neg (ck60 hj hi), cl60 hj hi, nar32]
            · show (mm_up σ1 (mm_R G m 4) (60 * j + i) 32).1 (mm_R G m 4) (60 * j + k) = 32
              by_cases hki : k = i
              · subst hki; exact mm_gs ..
              · rw [mm_gk (by omega)]; exact hz k (by omega)
            · show (mm_up σ1 (mm_R G m 4) (60 * j + i) 32).1 (mm_R G m 4) k = _
              rw [mm_gk (by omega)]; exact hk1 k hk) ((0 : Int32), mm_up σ (mm_R G m 3) j (nI n)) ⟨rfl, fun k h => absurd h (Nat.not_lt_zero k), fun k _ => by show (mm_up σ (mm_R G m 3) j (nI n)).1 (mm_R G m 4) k = _; rw [mm_ga (Ne.symm hne)], mm_sm_rf _ _⟩
          dsimp only at hx hz hk1 hm
          subst hx
          refine ⟨σ1, ?_, ml_textset gm hj hc (mm_sm_tr (mm_sm_up (mm_sm_rf _ _) (Or.inl rfl)) (mm_sm_mono hm (fun b q => Or.inr q))) (fun a ha => ?_) (fun i hi h40' => ?_) (fun a i ha hi haj => hk1 _ (by omega)) (fun a ha => if_neg ha)⟩
          · rw [mst σ, if_neg h40, if_neg hv0, mm_run_go, e1]
            refine mm_lim_ret ?_
            show fX4_text_b34 G m (nI j) (nI n) (nI 60) σ1 = _
            unfold fX4_text_b34
            rw [if_neg (show ¬ nI 60 < (60 : Int32) by decide)]
          · rw [hm.1 _ hne]
            by_cases h : a = j
            · subst h; rw [if_pos rfl, mm_gs]
            · rw [if_neg h, mm_gk h]; exact (hc.2.1 a ha).1
          · rw [if_pos rfl]; exact hz i h40'
theorem nar_b (x : Int32) : vp_nar .byte x.toInt8.toInt32 = x.toInt8.toInt32 := pk_vb x
theorem i8_i8 (x : Int32) : (x.toInt8.toInt32).toInt8.toInt32 = x.toInt8.toInt32 := by
  have := pk_vb x
  rw [vp_nar_byte] at this
  exact this
theorem J_put (gx : gX G x cd) (gm : gM G m cd) (ok : okP Y) (r i v : Int32) : Jc G x m cd (fX3_put G x r i v) (fX4_put G m r i v) Y := by
  obtain ⟨-, eM, -, -, -, ⟨-, eN0⟩, ⟨-, eN1⟩, -⟩ := id gm
  obtain ⟨-, -, -, -, ⟨eR0, eR⟩, ⟨eS, -⟩, -⟩ := id gx
  have n0 : ∀ σ : mm_M, ¬ ((1 : Int32), σ).1 = 0 := fun _ => (by decide : ¬ (1 : Int32) = 0)
  rcases pk_ix r (n := 4) (by decide) with hr | hr | ⟨j, hj, rfl⟩
  · exact J_same (-1) ok (fun σ _ => by unfold fX3_put; rw [cx_txt0 (Or.inl hr)]; rfl) (fun σ _ => by unfold fX4_put; rw [ml_txt0 (Or.inl hr)]; rfl)
  · exact J_same (-1) ok (fun σ _ => by unfold fX3_put; rw [cx_txt0 (Or.inr hr)]; rfl) (fun σ _ => by unfold fX4_put; rw [ml_txt0 (Or.inr hr)]; rfl)
  · have cs : ∀ σ, CR G x σ Y → fX3_put G x (nI j) i v σ = if p_ts Y j = -1 then fX3_found G x 1 σ else (if i < 0 then fX3_found G x 2 σ else (if i < p_ts Y j then (if i < 0 ∨ 60 ≤ i.toNatClampNeg then none else (if i < 0 ∨ 60 ≤ i.toNatClampNeg then none else (some (σ.1 (mm_R G (mm_R G x 2) j) i.toNatClampNeg + 1000, mm_up σ (mm_R G (mm_R G x 2) j) i.toNatClampNeg v.toInt8.toInt32)))) else fX3_found G x 2 σ)) := by
      intro σ hc
      unfold fX3_put fX3_put_b39
      simp only [be]
      rw [cx_txt1 hj, Option.bind_some, if_neg (n0 σ), eS, eR0, nI_clamp (by omega : j < 2 ^ 31), (eR j hj).2, nar_b]
      simp only [if_neg (ck_n hj (show j < 2 ^ 31 by omega))]
      rw [(hc.2.1 j hj).1]
    have mst : ∀ σ, MR G m σ Y → fX4_put G m (nI j) i v σ = if p_ts Y j < 0 then fX4_finds G m 1 σ else (fX4_in G i 0 (p_ts Y j - 1) σ).bind (fun q34 => if q34.1 = 0 then fX4_finds G m 2 q34.2 else (if (60 : Int32) * nI j + i < 0 ∨ 240 ≤ ((60 : Int32) * nI j + i).toNatClampNeg then none else (if (60 : Int32) * nI j + i < 0 ∨ 240 ≤ ((60 : Int32) * nI j + i).toNatClampNeg then none else (some (q34.2.1 (mm_R G m 4) ((60 : Int32) * nI j + i).toNatClampNeg + 1000, mm_up q34.2 (mm_R G m 4) ((60 : Int32) * nI j + i).toNatClampNeg v.toInt8.toInt32))))) := by
      intro σ hc
      unfold fX4_put
      simp only [be]
      rw [ml_txt1 hj, Option.bind_some, if_neg (n0 σ), eN0, eN1, nI_clamp (by omega : j < 2 ^ 31), nar_b]
      simp only [if_neg (ck_n hj (show j < 2 ^ 31 by omega))]
      rw [(hc.2.1 j hj).1]
    rcases ts_cases ok hj with ⟨h1, h0⟩ | ⟨n, hn, hs, h0, h1⟩
    · exact J_fnd gx gm ok 1 (by decide) (by decide) (fun σ hc σ' e => by rw [cs σ hc, if_pos h1]; exact e) (fun σ hc σ' e => by rw [mst σ hc, if_pos h0]; exact e)
    · rcases ix_row (i := i) hs (by omega) with hi | hi | ⟨k, hk, rfl⟩
      · refine J_fnd gx gm ok 2 (by decide) (by decide) (fun σ hc σ' e => ?_) (fun σ hc σ' e => ?_)
        · rw [cs σ hc, if_neg h1, if_pos hi]; exact e
        · rw [mst σ hc, if_neg h0, (ml_inR hs (by omega) σ).1 (Or.inl hi), Option.bind_some, if_pos (show ((0 : Int32), σ).1 = 0 from rfl)]; exact e
      · refine J_fnd gx gm ok 2 (by decide) (by decide) (fun σ hc σ' e => ?_) (fun σ hc σ' e => ?_)
        · rw [cs σ hc, if_neg h1, if_neg hi, ite_self]; exact e
        · rw [mst σ hc, if_neg h0, (ml_inR hs (by omega) σ).1 (Or.inr hi), Option.bind_some, if_pos (show ((0 : Int32), σ).1 = 0 from rfl)]; exact e
      · have hlt : nI k < p_ts Y j := by rw [hs]; exact nI_lt hk (by omega)
        refine ⟨p_tv Y j k + 1000, y_text Y (fun a => if a = j then p_ts Y j else p_ts Y a) (fun a b => if a = j ∧ b = k then v.toInt8.toInt32 else p_tv Y a b), okP_text ok (Or.inr ⟨n, hn, hs⟩) (fun t b => ?_), fun σ hc => ?_, fun σ hc => ?_⟩
        · by_cases h : t = j ∧ b = k
          · rw [if_pos h]; exact i8_i8 v
          · rw [if_neg h]; exact ok.2.2.1 t b
        · refine ⟨mm_up σ (mm_R G (mm_R G x 2) j) k v.toInt8.toInt32, ?_, cx_textset gx ok hj hc (mm_sm_up (mm_sm_rf _ _) (Or.inr rfl)) (fun a ha => ?_) (fun b hb h40 => ?_) (fun a ha => funext fun b => if_neg (fun q => ha q.1))⟩
          · rw [cs σ hc, if_neg h1, if_neg (nI_pos (by omega)), if_pos hlt, nI_clamp (by omega : k < 2 ^ 31), if_neg (ck_n (by omega) (by omega)), if_neg (ck_n (by omega) (by omega)), (hc.2.1 j hj).2 k hlt (by omega)]
          · rw [mm_ga (gX_r3 gx hj), (hc.2.1 a ha).1]
            by_cases h : a = j
            · subst h; rw [if_pos rfl]
            · rw [if_neg h]
          · by_cases h : b = k
            · subst h; rw [mm_gs, if_pos ⟨rfl, rfl⟩]
            · rw [mm_gk h, if_neg (fun q => h q.2)]; exact (hc.2.1 j hj).2 b hb h40
        · refine ⟨mm_up σ (mm_R G m 4) (60 * j + k) v.toInt8.toInt32, ?_, ml_textset gm hj hc (mm_sm_up (mm_sm_rf _ _) (Or.inr rfl)) (fun a ha => ?_) (fun b hb h40 => ?_) (fun a b ha hb haj => by rw [mm_gk (by omega)]) (fun a ha => funext fun b => if_neg (fun q => ha q.1))⟩
          · rw [mst σ hc, if_neg h0, (ml_inR hs (by omega) σ).2 k hk rfl, Option.bind_some, if_neg (n0 σ), if_neg (ck60 hj (by omega)), if_neg (ck60 hj (by omega)), cl60 hj (by omega)]
            show some (σ.1 (mm_R G m 4) (60 * j + k) + 1000, mm_up σ (mm_R G m 4) (60 * j + k) v.toInt8.toInt32) = _
            rw [(hc.2.1 j hj).2 k hlt (by omega)]
          · rw [mm_ga (gM_34 gm), (hc.2.1 a ha).1]
            by_cases h : a = j
            · subst h; rw [if_pos rfl]
            · rw [if_neg h]
          · by_cases h : b = k
            · subst h; rw [mm_gs, if_pos ⟨rfl, rfl⟩]
            · rw [mm_gk (by omega), if_neg (fun q => h q.2)]; exact (hc.2.1 j hj).2 b hb h40
end TX
