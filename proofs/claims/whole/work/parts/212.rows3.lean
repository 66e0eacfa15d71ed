/-! ROWS: lay, copy, mean; findings -/
section RZ
variable {G : mm_G} {x m : Nat} {cd : Nat → Nat} {Y : Ps}
theorem J_findings (gx : gX G x cd) (gm : gM G m cd) (ok : okP Y) (f : Int32) : Jc G x m cd (fX3_findings G x f) (fX4_findings G m f) Y := by
  obtain ⟨-, ex, -, -, -, -, -, -, -, -, -, -, -, -, ⟨ef, eN⟩⟩ := id gx
  obtain ⟨-, ex, -, -, -, -, -, -, -, -, -, -, -, -, -, ⟨ef, eM⟩, -⟩ := id gm
  by_cases h1 : f < 1
  · exact J_same (-1) ok (fun σ _ => by unfold fX3_findings; rw [if_pos h1]) (fun σ _ => by unfold fX4_findings; rw [ml_in, if_pos h1]; rfl)
  · by_cases h5 : 5 < f
    · exact J_same (-1) ok (fun σ _ => by unfold fX3_findings; rw [if_neg h1, if_pos h5]) (fun σ _ => by unfold fX4_findings; rw [ml_in, if_neg h1, if_pos h5]; rfl)
    · have h0 : ¬ f < 0 := fun q => h1 (Int32.lt_of_lt_of_le q (by decide))
      obtain ⟨k, hk, rfl⟩ := nI_of2 (M := 5) (n := 5) (by decide) h0 (Int32.not_lt.mp h5)
      have hk1 : 1 ≤ k := by
        rcases Nat.eq_zero_or_pos k with h | h
        · subst h; exact absurd (by decide : nI 0 < (1 : Int32)) h1
        · exact h
      refine J_same (p_fo Y k) ok (fun σ hc => ?_) (fun σ hc => ?_)
      · unfold fX3_findings
        rw [if_neg h1, if_neg h5, eN, nI_clamp (by omega), if_neg (ck_n (by omega) (by omega)), hc.2.2.2.2.2.2.2 k hk1 (by omega)]
      · unfold fX4_findings
        rw [ml_in, if_neg h1, if_neg h5, Option.bind_some, if_neg (show ¬ ((1 : Int32), σ).1 = 0 from (by decide : ¬ (1 : Int32) = 0)), eM, nI_clamp (by omega), if_neg (ck_n (by omega) (by omega))]
        show some (σ.1 (mm_R G m 18) k, σ) = _
        rw [hc.2.2.2.2.2.2 k hk1 (by omega)]
theorem J_lay (gx : gX G x cd) (gm : gM G m cd) (ok : okP Y) (r i v : Int32) : Jc G x m cd (fX3_lay G x r i v) (fX4_lay G m r i v) Y := by
  obtain ⟨-, eM, ⟨-, eN0⟩, ⟨e22, eN1⟩, -⟩ := id gm
  obtain ⟨-, ex, ⟨eR0, eR⟩, ⟨eS, eS1⟩, -⟩ := id gx
  rcases pk_ix r (n := 6) (by decide) with hr | hr | ⟨j, hj, rfl⟩
  · exact J_same (-1) ok (fun σ _ => by unfold fX3_lay fX3_refusedPlace; rw [cx_row0 (Or.inl hr)]; rfl) (fun σ _ => by unfold fX4_lay; rw [ml_row0 (Or.inl hr)]; rfl)
  · exact J_same (-1) ok (fun σ _ => by unfold fX3_lay fX3_refusedPlace; rw [cx_row0 (Or.inr hr)]; rfl) (fun σ _ => by unfold fX4_lay; rw [ml_row0 (Or.inr hr)]; rfl)
  · have mstart : ∀ σ, MR G m σ Y → fX4_lay G m (nI j) i v σ = if p_rs Y j < 0 then fX4_finds G m 1 σ else (fX4_in G i 0 (p_rs Y j - 1) σ).bind (fun q34 => if q34.1 = 0 then ((fX4_finds G m 2 q34.2).bind (fun q42 => some (q42.1, q42.2))) else (if (40 : Int32) * nI j + i < 0 ∨ 240 ≤ ((40 : Int32) * nI j + i).toNatClampNeg then none else (if (40 : Int32) * nI j + i < 0 ∨ 240 ≤ ((40 : Int32) * nI j + i).toNatClampNeg then none else ((fX4_tells G m (q34.2.1 (mm_R G m 1) ((40 : Int32) * nI j + i).toNatClampNeg) (mm_up q34.2 (mm_R G m 1) ((40 : Int32) * nI j + i).toNatClampNeg v)).bind (fun q74 => some (q74.1, q74.2)))))) := by
      intro σ hc
      unfold fX4_lay
      rw [ml_row1 hj, Option.bind_some, if_neg (show ¬ ((1 : Int32), σ).1 = 0 from (by decide : ¬ (1 : Int32) = 0)), eN0, nI_clamp (by omega), if_neg (ck_n hj (by omega)), (hc.1 j hj).1, if_neg (ck_n hj (by omega)), be, eN1]
    rcases rs_cases ok hj with ⟨h1, h0, -⟩ | ⟨n, hn, hs, h0, h1⟩
    · refine J_fnd gx gm ok 1 (by decide) (by decide) (fun σ hc σ' e => ?_) (fun σ hc σ' e => ?_)
      · unfold fX3_lay
        rw [cx_place1 gx hj hc h1, show (1 : Int32) = nI 1 from rfl, e]; rfl
      · rw [mstart σ hc, if_pos h0]; exact e
    · rcases ix_row (i := i) hs (by omega) with hi | hi | ⟨k, hk, rfl⟩
      · refine J_fnd gx gm ok 2 (by decide) (by decide) (fun σ hc σ' e => ?_) (fun σ hc σ' e => ?_)
        · unfold fX3_lay
          rw [cx_place2 gx hj hc hs hn (Or.inl hi), show (2 : Int32) = nI 2 from rfl, e]; rfl
        · rw [mstart σ hc, if_neg h0, (ml_inR hs (by omega) σ).1 (Or.inl hi), Option.bind_some, if_pos (show ((0 : Int32), σ).1 = 0 from rfl), be]; exact e
      · refine J_fnd gx gm ok 2 (by decide) (by decide) (fun σ hc σ' e => ?_) (fun σ hc σ' e => ?_)
        · unfold fX3_lay
          rw [cx_place2 gx hj hc hs hn (Or.inr hi), show (2 : Int32) = nI 2 from rfl, e]; rfl
        · rw [mstart σ hc, if_neg h0, (ml_inR hs (by omega) σ).1 (Or.inr hi), Option.bind_some, if_pos (show ((0 : Int32), σ).1 = 0 from rfl), be]; exact e
      · have hlt : nI k < p_rs Y j := by rw [hs]; exact nI_lt hk (by omega)
        have hx16 : mm_R G (mm_R G x 0) j ≠ x := fun e => by have := (eR j hj).1; rw [e, ex] at this; omega
        have hxm : mm_R G m 1 ≠ m := fun e => by rw [e, eM] at e22; omega
        refine ⟨1, y_rows (y_ask Y (p_rv Y j k)) (fun a => if a = j then p_rs Y j else p_rs Y a) (fun a b => if a = j ∧ b = k then v else p_rv Y a b), okP_rows (okP_7 ok) (Or.inr ⟨n, hn, hs⟩), fun σ hc => ?_, fun σ hc => ?_⟩
        · obtain ⟨c1, s1⟩ := cx_ask gx ok (p_rv Y j k) σ hc
          have c2 := cx_rowset gx (okP_7 ok) (s := p_rs Y j) (rv := fun a b => if a = j ∧ b = k then v else p_rv Y a b) (σ' := mm_up (mm_up σ x 12 (p_rv Y j k)) (mm_R G (mm_R G x 0) j) k v) hj c1 (mm_sm_up (mm_sm_rf _ _) (Or.inr rfl)) (fun a ha => by
              rw [mm_ga (gX_r1 gx hj), (c1.1 a ha).1]
              by_cases h : a = j
              · subst h; rw [if_pos rfl]; rfl
              · rw [if_neg h]; rfl) (fun b hb h40 => by
              by_cases h : b = k
              · subst h; rw [mm_gs, if_pos ⟨rfl, rfl⟩]
              · rw [mm_gk h, if_neg (fun q => h q.2)]; exact (c1.1 j hj).2 b hb h40) (fun a ha => funext fun b => if_neg (fun q => ha q.1))
          refine ⟨_, ?_, c2.1, mm_sn_tr s1 c2.2⟩
          unfold fX3_lay
          rw [cx_place3 gx hj hc hs hn hk, Option.bind_some, if_pos (show ((0 : Int32), σ).1 = 0 from rfl), eR0, nI_clamp (by omega : j < 2 ^ 31), if_neg (ck_n hj (by omega)), (eR j hj).2, nI_clamp (by omega : k < 2 ^ 31), if_neg (ck_n (by omega) (by omega)), if_neg (ck_n hj (by omega)), if_neg (ck_n (by omega) (by omega))]
          show some ((1 : Int32), mm_up (mm_up σ x 12 (σ.1 (mm_R G (mm_R G x 0) j) k)) (mm_R G (mm_R G x 0) j) k v) = _
          rw [(hc.1 j hj).2 k hlt (by omega)]
        · have c2 := ml_rowset gm (s := p_rs Y j) (rv := fun a b => if a = j ∧ b = k then v else p_rv Y a b) (σ' := mm_up σ (mm_R G m 1) (40 * j + k) v) hj hc (mm_sm_up (mm_sm_rf _ _) (Or.inr (Or.inl rfl))) (fun a ha => by
              rw [mm_ga (gM_01 gm), (hc.1 a ha).1]
              by_cases h : a = j
              · subst h; rw [if_pos rfl]
              · rw [if_neg h]) (fun b hb h40 => by
              by_cases h : b = k
              · subst h; rw [mm_gs, if_pos ⟨rfl, rfl⟩]
              · rw [mm_gk (by omega), if_neg (fun q => h q.2)]; exact (hc.1 j hj).2 b hb h40) (fun a b ha hb haj => by rw [mm_gk (by omega)]) (fun a ha => funext fun b => if_neg (fun q => ha q.1))
          obtain ⟨c3, s3⟩ := ml_ask gm (p_rv Y j k) _ c2.1
          refine ⟨_, ?_, c3, mm_sn_tr c2.2 s3⟩
          rw [mstart σ hc, if_neg h0, (ml_inR hs (by omega) σ).2 k hk rfl, Option.bind_some, if_neg (show ¬ ((1 : Int32), σ).1 = 0 from (by decide : ¬ (1 : Int32) = 0)), if_neg (ck40 hj (by omega)), if_neg (ck40 hj (by omega)), cl40 hj (by omega), be]
          show fX4_tells G m (σ.1 (mm_R G m 1) (40 * j + k)) (mm_up σ (mm_R G m 1) (40 * j + k) v) = _
          rw [(hc.1 j hj).2 k hlt (by omega)]
          rfl
def s_sum (f : Nat → Int32) : Nat → Int64
  | 0 => 0
  | n + 1 => s_sum f n + (f n).toInt64
theorem s_sum_congr {f g : Nat → Int32} : ∀ n, (∀ i, i < n → f i = g i) → s_sum f n = s_sum g n
  | 0, _ => rfl
  | n + 1, h => by unfold s_sum; rw [s_sum_congr n (fun i hi => h i (by omega)), h n (by omega)]
theorem nI64 {n : Nat} (h0 : 0 < n) (h : n < 2 ^ 31) : ¬ (nI n).toInt64 = 0 := by
  rw [nI_l h]
  intro e
  have := (lN_eq (a := n) (b := 0) h (by decide)).mp e
  omega
theorem J_mean (gx : gX G x cd) (gm : gM G m cd) (ok : okP Y) (r : Int32) : Jc G x m cd (fX3_mean G x r) (fX4_mean G m r) Y := by
  obtain ⟨-, eM, ⟨-, eN0⟩, ⟨e22, eN1⟩, -⟩ := id gm
  obtain ⟨-, ex, ⟨eR0, eR⟩, ⟨eS, eS1⟩, -⟩ := id gx
  rcases pk_ix r (n := 6) (by decide) with hr | hr | ⟨j, hj, rfl⟩
  · exact J_same (-1) ok (fun σ _ => by unfold fX3_mean fX3_mean_b0; rw [cx_row0 (Or.inl hr)]; rfl) (fun σ _ => by unfold fX4_mean fX4_mean_b0; rw [ml_row0 (Or.inl hr)]; rfl)
  · exact J_same (-1) ok (fun σ _ => by unfold fX3_mean fX3_mean_b0; rw [cx_row0 (Or.inr hr)]; rfl) (fun σ _ => by unfold fX4_mean fX4_mean_b0; rw [ml_row0 (Or.inr hr)]; rfl)
  · have cs : ∀ σ, CR G x σ Y → fX3_mean G x (nI j) σ = mm_run (if p_rs Y j = -1 then ((fX3_found G x 1 σ).bind (fun q23 => some (.inl (q23.1, q23.2)))) else (if p_rs Y j < 1 then ((fX3_found G x 4 σ).bind (fun q34 => some (.inl (q34.1, q34.2)))) else (some (.inr (p_rs Y j, (0 : Int64), 0, σ))))) (fX3_mean_s G x (nI j)) := by
      intro σ hc
      unfold fX3_mean fX3_mean_b0
      rw [cx_row1 hj, Option.bind_some, if_neg (show ¬ ((1 : Int32), σ).1 = 0 from (by decide : ¬ (1 : Int32) = 0)), eS, nI_clamp (by omega), if_neg (ck_n hj (by omega)), (hc.1 j hj).1]
    have mst : ∀ σ, MR G m σ Y → fX4_mean G m (nI j) σ = mm_run (if p_rs Y j < 0 then ((fX4_finds G m 1 σ).bind (fun q20 => some (.inl (q20.1, q20.2)))) else (if p_rs Y j = 0 then ((fX4_finds G m 4 σ).bind (fun q35 => some (.inl (q35.1, q35.2)))) else (some (.inr ((0 : Int64), 0, σ))))) (fX4_mean_s G m (nI j)) := by
      intro σ hc
      unfold fX4_mean fX4_mean_b0
      rw [ml_row1 hj, Option.bind_some, if_neg (show ¬ ((1 : Int32), σ).1 = 0 from (by decide : ¬ (1 : Int32) = 0)), eN0, nI_clamp (by omega), if_neg (ck_n hj (by omega)), (hc.1 j hj).1, if_neg (ck_n hj (by omega))]
    rcases rs_cases ok hj with ⟨h1, h0, -⟩ | ⟨n, hn, hs, h0, h1⟩
    · exact J_fnd gx gm ok 1 (by decide) (by decide) (fun σ hc σ' e => by rw [cs σ hc, if_pos h1, bel (show fX3_found G x 1 σ = some (-3, σ') from e)]; rfl) (fun σ hc σ' e => by rw [mst σ hc, if_pos h0, bel (show fX4_finds G m 1 σ = some (-3, σ') from e)]; rfl)
    · rcases Nat.eq_zero_or_pos n with hn0 | hn0
      · subst hn0
        have e0 : p_rs Y j = 0 := hs
        exact J_fnd gx gm ok 4 (by decide) (by decide) (fun σ hc σ' e => by rw [cs σ hc, if_neg h1, if_pos (by rw [e0]; decide), bel (show fX3_found G x 4 σ = some (-3, σ') from e)]; rfl) (fun σ hc σ' e => by rw [mst σ hc, if_neg h0, if_pos e0, bel (show fX4_finds G m 4 σ = some (-3, σ') from e)]; rfl)
      · have n1 : ¬ p_rs Y j < 1 := by rw [hs]; exact nI_nlt (show 1 ≤ n from hn0) (by omega)
        have ne0 : ¬ p_rs Y j = 0 := by rw [hs]; exact nI_ne0 hn0 (by omega)
        have hq : ¬ (p_rs Y j).toInt64 = 0 := by rw [hs]; exact nI64 hn0 (by omega)
        refine ⟨1, y_ask Y ((s_sum (p_rv Y j) n / (p_rs Y j).toInt64).toInt32), okP_7 ok, fun σ hc => ?_, fun σ hc => ?_⟩
        · have step : ∀ i, i < n → fX3_mean_s G x (nI j) (p_rs Y j, s_sum (p_rv Y j) i, nI i, σ) = some (.inr (p_rs Y j, s_sum (p_rv Y j) (i + 1), nI (i + 1), σ)) := by
            intro i hi
            show fX3_mean_b43 G x (nI j) (p_rs Y j) (s_sum (p_rv Y j) i) (nI i) σ = _
            unfold fX3_mean_b43
            have hlt : nI i < p_rs Y j := by rw [hs]; exact nI_lt hi (by omega)
            rw [if_pos hlt, eR0, nI_clamp (by omega : j < 2 ^ 31), if_neg (ck_n hj (by omega)), (eR j hj).2, nI_clamp (by omega : i < 2 ^ 31), if_neg (ck_n (by omega) (by omega)), (hc.1 j hj).2 i hlt (by omega), nI_1]
            rfl
          refine ⟨mm_up σ x 12 _, ?_, cx_ask gx ok _ σ hc⟩
          rw [cs σ hc, if_neg h1, if_neg n1, mm_run_go]
          show mm_lim (fX3_mean_s G x (nI j)) (p_rs Y j, s_sum (p_rv Y j) 0, nI 0, σ) = _
          rw [mm_for (f := fX3_mean_s G x (nI j)) (fun i => (p_rs Y j, s_sum (p_rv Y j) i, nI i, σ)) n step]
          refine mm_lim_ret ?_
          show fX3_mean_b43 G x (nI j) (p_rs Y j) (s_sum (p_rv Y j) n) (nI n) σ = _
          unfold fX3_mean_b43
          rw [if_neg (by rw [hs]; exact Int32.lt_irrefl), if_neg hq]
        · have step : ∀ i, i < n → fX4_mean_s G m (nI j) (s_sum (p_rv Y j) i, nI i, σ) = some (.inr (s_sum (p_rv Y j) (i + 1), nI (i + 1), σ)) := by
            intro i hi
            show fX4_mean_b44 G m (nI j) (s_sum (p_rv Y j) i) (nI i) σ = _
            unfold fX4_mean_b44
            have hlt : nI i < p_rs Y j := by rw [hs]; exact nI_lt hi (by omega)
            rw [eN0, nI_clamp (by omega : j < 2 ^ 31), if_neg (ck_n hj (by omega)), (hc.1 j hj).1, if_pos hlt, eN1, if_neg (ck40 hj (by omega)), cl40 hj (by omega), (hc.1 j hj).2 i hlt (by omega), nI_1]
            rfl
          refine ⟨mm_up σ m 14 _, ?_, ml_ask gm _ σ hc⟩
          rw [mst σ hc, if_neg h0, if_neg ne0, mm_run_go]
          show mm_lim (fX4_mean_s G m (nI j)) (s_sum (p_rv Y j) 0, nI 0, σ) = _
          rw [mm_for (f := fX4_mean_s G m (nI j)) (fun i => (s_sum (p_rv Y j) i, nI i, σ)) n step]
          refine mm_lim_ret ?_
          show fX4_mean_b44 G m (nI j) (s_sum (p_rv Y j) n) (nI n) σ = _
          unfold fX4_mean_b44
          rw [eN0, nI_clamp (by omega : j < 2 ^ 31), if_neg (ck_n hj (by omega)), (hc.1 j hj).1, if_neg (by rw [hs]; exact Int32.lt_irrefl), if_neg (ck_n hj (by omega)), if_neg hq]
          rfl
end RZ
