/-! ROWS: row, lay, tear, copy, mean; findings -/
section RX
variable {G : mm_G} {x m : Nat} {cd : Nat → Nat} {Y : Ps}
theorem okP_rows (ok : okP Y) {j : Nat} {s : Int32} {rv : Nat → Nat → Int32} (hs : s = -1 ∨ ∃ n, n ≤ 40 ∧ s = nI n) : okP (y_rows Y (fun a => if a = j then s else p_rs Y a) rv) := by
  refine ⟨fun r hr => ?_, ok.2⟩
  show (if r = j then s else p_rs Y r) = -1 ∨ ∃ n, n ≤ 40 ∧ (if r = j then s else p_rs Y r) = nI n
  by_cases h : r = j
  · rw [if_pos h]; exact hs
  · rw [if_neg h]; exact ok.1 r hr
theorem cx_rowset (g : gX G x cd) (ok : okP Y) {σ σ' : mm_M} {j : Nat} {s : Int32} {rv : Nat → Nat → Int32} (hj : j < 6) (hc : CR G x σ Y) (hsm : mm_sm (fun b => b = mm_R G x 1 ∨ b = mm_R G (mm_R G x 0) j) σ σ') (hsz : ∀ a, a < 6 → σ'.1 (mm_R G x 1) a = if a = j then s else p_rs Y a) (hv : ∀ i, nI i < s → i < 40 → σ'.1 (mm_R G (mm_R G x 0) j) i = rv j i) (ho : ∀ a, a ≠ j → rv a = p_rv Y a) : CR G x σ' (y_rows Y (fun a => if a = j then s else p_rs Y a) rv) ∧ mm_sn (rX cd) σ σ' := by
  obtain ⟨-, ex, ⟨-, eR⟩, ⟨-, e1⟩, -⟩ := id g
  refine ⟨CR_1 g ok (fun i b hi hi8 hb => hsm.1 b (fun q => ?_)) (by rw [hsm.2]) hc (fun r hr => ⟨hsz r hr, fun i hi h40 => ?_⟩), (mm_sm_mono hsm (fun b q => ?_)).sn⟩
  · unfold rg at hb
    rcases q with rfl | rfl
    · rw [e1] at hb; omega
    · rw [(eR j hj).1] at hb; omega
  · by_cases h : r = j
    · subst h
      exact hv i (by have h2 : nI i < (if r = r then s else p_rs Y r) := hi; rw [if_pos rfl] at h2; exact h2) h40
    · have hi' : nI i < p_rs Y r := by have h2 : nI i < (if r = j then s else p_rs Y r) := hi; rw [if_neg h] at h2; exact h2
      have e := hsm.1 (mm_R G (mm_R G x 0) r) (fun q => by
        have a1 := (eR r hr).1
        have a2 := (eR j hj).1
        rcases q with q | q
        · rw [q, e1] at a1; omega
        · rw [q, a2] at a1; omega)
      show σ'.1 (mm_R G (mm_R G x 0) r) i = rv r i
      rw [e, ho r h]
      exact (hc.1 r hr).2 i hi' h40
  · unfold rX
    rcases q with rfl | rfl
    · rw [e1]; omega
    · rw [(eR j hj).1]; omega
theorem ml_rowset (g : gM G m cd) {σ σ' : mm_M} {j : Nat} {s : Int32} {rv : Nat → Nat → Int32} (hj : j < 6) (hc : MR G m σ Y) (hsm : mm_sm (fun b => b = mm_R G m 0 ∨ b = mm_R G m 1 ∨ b = mm_R G m 2) σ σ') (hsz : ∀ a, a < 6 → σ'.1 (mm_R G m 0) a = if a = j then s else p_rs Y a) (hv : ∀ i, nI i < s → i < 40 → σ'.1 (mm_R G m 1) (40 * j + i) = rv j i) (hk : ∀ a i, a < 6 → i < 40 → a ≠ j → σ'.1 (mm_R G m 1) (40 * a + i) = σ.1 (mm_R G m 1) (40 * a + i)) (ho : ∀ a, a ≠ j → rv a = p_rv Y a) : MR G m σ' (y_rows Y (fun a => if a = j then s else p_rs Y a) rv) ∧ mm_sn (rY cd) σ σ' := by
  obtain ⟨-, ex, ⟨e0, -⟩, ⟨e1, -⟩, ⟨e2, -⟩, -⟩ := id g
  refine ⟨MR_1 g (fun i b hi h21 h22 h23 hb => hsm.1 b (fun q => ?_)) (by rw [hsm.2]) hc (fun r hr => ⟨hsz r hr, fun i hi h40 => ?_⟩), (mm_sm_mono hsm (fun b q => ?_)).sn⟩
  · unfold rg at hb
    rcases q with rfl | rfl | rfl
    · rw [e0] at hb; omega
    · rw [e1] at hb; omega
    · rw [e2] at hb; omega
  · by_cases h : r = j
    · subst h
      exact hv i (by have h2 : nI i < (if r = r then s else p_rs Y r) := hi; rw [if_pos rfl] at h2; exact h2) h40
    · have hi' : nI i < p_rs Y r := by have h2 : nI i < (if r = j then s else p_rs Y r) := hi; rw [if_neg h] at h2; exact h2
      show σ'.1 (mm_R G m 1) (40 * r + i) = rv r i
      rw [hk r i hr h40 h, ho r h]
      exact (hc.1 r hr).2 i hi' h40
  · unfold rY
    rcases q with rfl | rfl | rfl
    · rw [e0]; omega
    · rw [e1]; omega
    · rw [e2]; omega
theorem gX_r1 (g : gX G x cd) {j : Nat} (hj : j < 6) : mm_R G x 1 ≠ mm_R G (mm_R G x 0) j := by
  obtain ⟨-, ex, ⟨-, eR⟩, ⟨-, e1⟩, -⟩ := g
  intro e
  have := (eR j hj).1
  rw [← e, e1] at this; omega
theorem gM_01 (g : gM G m cd) : mm_R G m 0 ≠ mm_R G m 1 := by
  obtain ⟨-, ex, ⟨e0, -⟩, ⟨e1, -⟩, -⟩ := g
  intro e; rw [e, e1] at e0; omega
theorem nlt1 {i : Nat} (h : i < 40) : ¬ nI i < (-1 : Int32) := by
  intro q
  have h0 := nI_pos' (n := i) (by omega)
  have := Int32.lt_of_le_of_lt h0 q
  exact absurd this (by decide)
theorem J_tear (gx : gX G x cd) (gm : gM G m cd) (ok : okP Y) (r : Int32) : Jc G x m cd (fX3_tear G x r) (fX4_tear G m r) Y := by
  obtain ⟨-, eM, ⟨-, eN0⟩, ⟨-, eN1⟩, -⟩ := id gm
  obtain ⟨-, -, ⟨eR0, eR⟩, ⟨eS, -⟩, -⟩ := id gx
  rcases pk_ix r (n := 6) (by decide) with hr | hr | ⟨j, hj, rfl⟩
  · exact J_same (-1) ok (fun σ _ => by unfold fX3_tear; rw [cx_row0 (Or.inl hr)]; rfl) (fun σ _ => by unfold fX4_tear; rw [ml_row0 (Or.inl hr)]; rfl)
  · exact J_same (-1) ok (fun σ _ => by unfold fX3_tear; rw [cx_row0 (Or.inr hr)]; rfl) (fun σ _ => by unfold fX4_tear; rw [ml_row0 (Or.inr hr)]; rfl)
  · have cs : ∀ σ, CR G x σ Y → fX3_tear G x (nI j) σ = if p_rs Y j = -1 then fX3_found G x 1 σ else some (1, mm_up σ (mm_R G x 1) j (-1)) := by
      intro σ hc
      unfold fX3_tear
      rw [cx_row1 hj, Option.bind_some, if_neg (show ¬ ((1 : Int32), σ).1 = 0 from (by decide : ¬ (1 : Int32) = 0)), eS, nI_clamp (by omega), if_neg (ck_n hj (by omega)), (hc.1 j hj).1, if_neg (ck_n hj (by omega)), be]
    have mst : ∀ σ, MR G m σ Y → fX4_tear G m (nI j) σ = if p_rs Y j < 0 then fX4_finds G m 1 σ else some (1, mm_up σ (mm_R G m 0) j (-1)) := by
      intro σ hc
      unfold fX4_tear
      rw [ml_row1 hj, Option.bind_some, if_neg (show ¬ ((1 : Int32), σ).1 = 0 from (by decide : ¬ (1 : Int32) = 0)), eN0, nI_clamp (by omega), if_neg (ck_n hj (by omega)), (hc.1 j hj).1, if_neg (ck_n hj (by omega)), be]
    rcases rs_cases ok hj with ⟨h1, h0, -⟩ | ⟨n, hn, hs, h0, h1⟩
    · exact J_fnd gx gm ok 1 (by decide) (by decide) (fun σ hc σ' e => by rw [cs σ hc, if_pos h1]; exact e) (fun σ hc σ' e => by rw [mst σ hc, if_pos h0]; exact e)
    · refine ⟨1, y_rows Y (fun a => if a = j then -1 else p_rs Y a) (p_rv Y), okP_rows ok (Or.inl rfl), fun σ hc => ?_, fun σ hc => ?_⟩
      · refine ⟨mm_up σ (mm_R G x 1) j (-1), by rw [cs σ hc, if_neg h1], cx_rowset gx ok hj hc (mm_sm_up (mm_sm_rf _ _) (Or.inl rfl)) (fun a ha => ?_) (fun i hi h40 => absurd hi (nlt1 h40)) (fun a _ => rfl)⟩
        by_cases h : a = j
        · subst h; rw [if_pos rfl, mm_gs]
        · rw [if_neg h, mm_gk h]; exact (hc.1 a ha).1
      · refine ⟨mm_up σ (mm_R G m 0) j (-1), by rw [mst σ hc, if_neg h0], ml_rowset gm hj hc (mm_sm_up (mm_sm_rf _ _) (Or.inl rfl)) (fun a ha => ?_) (fun i hi h40 => absurd hi (nlt1 h40)) (fun a i _ _ _ => by rw [mm_ga (Ne.symm (gM_01 gm))]) (fun a _ => rfl)⟩
        by_cases h : a = j
        · subst h; rw [if_pos rfl, mm_gs]
        · rw [if_neg h, mm_gk h]; exact (hc.1 a ha).1
theorem J_row (gx : gX G x cd) (gm : gM G m cd) (ok : okP Y) (r v : Int32) : Jc G x m cd (fX3_row G x r v) (fX4_row G m r v) Y := by
  obtain ⟨-, eM, ⟨-, eN0⟩, ⟨-, eN1⟩, -⟩ := id gm
  obtain ⟨-, -, ⟨eR0, eR⟩, ⟨eS, -⟩, -⟩ := id gx
  rcases pk_ix r (n := 6) (by decide) with hr | hr | ⟨j, hj, rfl⟩
  · exact J_same (-1) ok (fun σ _ => by unfold fX3_row fX3_row_b0; rw [cx_row0 (Or.inl hr)]; rfl) (fun σ _ => by unfold fX4_row; rw [ml_row0 (Or.inl hr)]; rfl)
  · exact J_same (-1) ok (fun σ _ => by unfold fX3_row fX3_row_b0; rw [cx_row0 (Or.inr hr)]; rfl) (fun σ _ => by unfold fX4_row; rw [ml_row0 (Or.inr hr)]; rfl)
  · have cs : ∀ σ, fX3_row G x (nI j) v σ = mm_run (if 40 < v then some (.inl (-1, σ)) else (if v < 0 then ((fX3_found G x 5 σ).bind (fun q21 => some (.inl (q21.1, q21.2)))) else some (.inr (0, σ)))) (fX3_row_s G x (nI j) v) := by
      intro σ
      unfold fX3_row fX3_row_b0
      rw [cx_row1 hj, Option.bind_some, if_neg (show ¬ ((1 : Int32), σ).1 = 0 from (by decide : ¬ (1 : Int32) = 0))]
    have mst : ∀ σ, fX4_row G m (nI j) v σ = if 40 < v then some (-1, σ) else (if v < 0 then fX4_finds G m 5 σ else (fX4_anew G m (nI j) v σ).bind (fun q28 => some (v, q28))) := by
      intro σ
      unfold fX4_row
      rw [ml_row1 hj, Option.bind_some, if_neg (show ¬ ((1 : Int32), σ).1 = 0 from (by decide : ¬ (1 : Int32) = 0)), be]
    by_cases h40 : 40 < v
    · exact J_same (-1) ok (fun σ _ => by rw [cs σ, if_pos h40]; rfl) (fun σ _ => by rw [mst σ, if_pos h40])
    · by_cases hv0 : v < 0
      · exact J_fnd gx gm ok 5 (by decide) (by decide) (fun σ hc σ' e => by rw [cs σ, if_neg h40, if_pos hv0, bel (show fX3_found G x 5 σ = some (-3, σ') from e)]; rfl) (fun σ hc σ' e => by rw [mst σ, if_neg h40, if_pos hv0]; exact e)
      · obtain ⟨n, hn, rfl⟩ := nI_of2 (M := 40) (n := 40) (by decide) hv0 (Int32.not_lt.mp h40)
        refine ⟨nI n, y_rows Y (fun a => if a = j then nI n else p_rs Y a) (fun a => if a = j then (fun _ => 0) else p_rv Y a), okP_rows ok (Or.inr ⟨n, hn, rfl⟩), fun σ hc => ?_, fun σ hc => ?_⟩
        · obtain ⟨⟨y, σ1⟩, e1, hx, hz, hm⟩ := mm_loop (f := fX3_row_s G x (nI j) (nI n)) (fun i s => s.1 = nI i ∧ (∀ k, k < i → s.2.1 (mm_R G (mm_R G x 0) j) k = 0) ∧ mm_sm (fun b => b = mm_R G (mm_R G x 0) j) σ s.2) n (fun i s hi hI => by
            obtain ⟨y, σ1⟩ := s
            obtain ⟨hx, hz, hm⟩ := hI
            dsimp only at hx hz hm
            subst hx
            refine ⟨(nI i + 1, mm_up σ1 (mm_R G (mm_R G x 0) j) i 0), mm_lim_go ?_, nI_1 i, fun k hk => ?_, mm_sm_up hm rfl⟩
            · show fX3_row_b27 G x (nI j) (nI n) (nI i) σ1 = _
              unfold fX3_row_b27
              rw [if_pos (nI_lt hi (by omega)), eR0, nI_clamp (by omega : j < 2 ^ 31), if_neg (ck_n hj (by omega)), (eR j hj).2, nI_clamp (by omega : i < 2 ^ 31), if_neg (ck_n (by omega) (by omega))]
            · show (mm_up σ1 (mm_R G (mm_R G x 0) j) i 0).1 (mm_R G (mm_R G x 0) j) k = 0
              by_cases hki : k = i
              · subst hki; exact mm_gs ..
              · rw [mm_gk hki]; exact hz k (by omega)) ((0 : Int32), σ) ⟨rfl, fun k h => absurd h (Nat.not_lt_zero k), mm_sm_rf _ _⟩
          dsimp only at hx hz hm
          subst hx
          refine ⟨mm_up σ1 (mm_R G x 1) j (nI n), ?_, cx_rowset gx ok hj hc (mm_sm_up (mm_sm_mono hm (fun b q => Or.inr q)) (Or.inl rfl)) (fun a ha => ?_) (fun i hi _ => ?_) (fun a ha => if_neg ha)⟩
          · rw [cs σ, if_neg h40, if_neg hv0, mm_run_go, e1]
            refine mm_lim_ret ?_
            show fX3_row_b27 G x (nI j) (nI n) (nI n) σ1 = _
            unfold fX3_row_b27
            rw [if_neg Int32.lt_irrefl, eS, nI_clamp (by omega : j < 2 ^ 31), if_neg (ck_n hj (by omega))]
          · by_cases h : a = j
            · subst h; rw [if_pos rfl, mm_gs]
            · rw [if_neg h, mm_gk h, hm.1 _ (gX_r1 gx hj)]; exact (hc.1 a ha).1
          · rw [mm_ga (Ne.symm (gX_r1 gx hj)), if_pos rfl]
            exact hz i ((nI_ltI (by omega) (by omega)).mp hi)
        · have hne := gM_01 gm
          obtain ⟨⟨y, σ1⟩, e1, hx, hz, hk1, hm⟩ := mm_loop (f := fX4_anew_s G m (nI j) (nI n)) (fun i s => s.1 = nI i ∧ (∀ k, k < i → s.2.1 (mm_R G m 1) (40 * j + k) = 0) ∧ (∀ k, (k < 40 * j ∨ 40 * j + 40 ≤ k) → s.2.1 (mm_R G m 1) k = σ.1 (mm_R G m 1) k) ∧ mm_sm (fun b => b = mm_R G m 1) (mm_up σ (mm_R G m 0) j (nI n)) s.2) 40 (fun i s hi hI => by
            obtain ⟨y, σ1⟩ := s
            obtain ⟨hx, hz, hk1, hm⟩ := hI
            dsimp only at hx hz hk1 hm
            subst hx
            refine ⟨(nI i + 1, mm_up σ1 (mm_R G m 1) (40 * j + i) 0), mm_lim_go ?_, nI_1 i, fun k hk => ?_, fun k hk => ?_, mm_sm_up hm rfl⟩
            · show fX4_anew_b9 G m (nI j) (nI n) (nI i) σ1 = _
              unfold fX4_anew_b9
              rw [if_pos (show nI i < (40 : Int32) from nI_lt hi (by decide)), eN1, if_neg (ck40 hj hi), cl40 hj hi]
            · show (mm_up σ1 (mm_R G m 1) (40 * j + i) 0).1 (mm_R G m 1) (40 * j + k) = 0
              by_cases hki : k = i
              · subst hki; exact mm_gs ..
              · rw [mm_gk (by omega)]; exact hz k (by omega)
            · show (mm_up σ1 (mm_R G m 1) (40 * j + i) 0).1 (mm_R G m 1) k = _
              rw [mm_gk (by omega)]; exact hk1 k hk) ((0 : Int32), mm_up σ (mm_R G m 0) j (nI n)) ⟨rfl, fun k h => absurd h (Nat.not_lt_zero k), fun k _ => by show (mm_up σ (mm_R G m 0) j (nI n)).1 (mm_R G m 1) k = _; rw [mm_ga (Ne.symm hne)], mm_sm_rf _ _⟩
          dsimp only at hx hz hk1 hm
          subst hx
          have e2 : fX4_anew G m (nI j) (nI n) σ = some σ1 := by
            unfold fX4_anew fX4_anew_b0
            rw [eN0, nI_clamp (by omega : j < 2 ^ 31), if_neg (ck_n hj (by omega)), mm_run_go, e1]
            refine mm_lim_ret ?_
            show fX4_anew_b9 G m (nI j) (nI n) (nI 40) σ1 = _
            unfold fX4_anew_b9
            rw [if_neg (show ¬ nI 40 < (40 : Int32) by decide)]
          refine ⟨σ1, by rw [mst σ, if_neg h40, if_neg hv0, e2]; rfl, ml_rowset gm hj hc (mm_sm_tr (mm_sm_up (mm_sm_rf _ _) (Or.inl rfl)) (mm_sm_mono hm (fun b q => Or.inr (Or.inl q)))) (fun a ha => ?_) (fun i hi h40' => ?_) (fun a i ha hi haj => hk1 _ (by omega)) (fun a ha => if_neg ha)⟩
          · rw [hm.1 _ hne]
            by_cases h : a = j
            · subst h; rw [if_pos rfl, mm_gs]
            · rw [if_neg h, mm_gk h]; exact (hc.1 a ha).1
          · rw [if_pos rfl]; exact hz i h40'
end RX
