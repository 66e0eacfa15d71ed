/-! ROWS: copy -/
section RC
variable {G : mm_G} {x m : Nat} {cd : Nat → Nat} {Y : Ps}
/-- do n places from i on lie within a size -/
def hold (s i n : Int32) : Prop := ¬ i < 0 ∧ ¬ s < n ∧ ¬ s - n < i
theorem cx_holds (s i n : Int32) (σ : mm_M) : fX3_holds G s i n σ = some (if i < 0 then 0 else if s < n then 0 else if s - n < i then 0 else 1, σ) := by
  unfold fX3_holds
  by_cases h1 : i < 0
  · simp [h1]
  · by_cases h2 : s < n
    · simp [h1, h2]
    · by_cases h3 : s - n < i
      · simp [h1, h2, h3]
      · simp [h1, h2, h3]
theorem cx_holds1 {s i n : Int32} (h : hold s i n) (σ : mm_M) : fX3_holds G s i n σ = some (1, σ) := by rw [cx_holds, if_neg h.1, if_neg h.2.1, if_neg h.2.2]
theorem cx_holds0 {s i n : Int32} (h : ¬ hold s i n) (σ : mm_M) : fX3_holds G s i n σ = some (0, σ) := by
  rw [cx_holds]
  by_cases h1 : i < 0
  · rw [if_pos h1]
  · by_cases h2 : s < n
    · rw [if_neg h1, if_pos h2]
    · by_cases h3 : s - n < i
      · rw [if_neg h1, if_neg h2, if_pos h3]
      · exact absurd ⟨h1, h2, h3⟩ h
theorem ml_lies (gm : gM G m cd) {j : Nat} (hj : j < 6) {i n : Int32} {σ : mm_M} (hc : MR G m σ Y) : (hold (p_rs Y j) i n → fX4_lies G m (nI j) i n σ = some (1, σ)) ∧ (¬ hold (p_rs Y j) i n → fX4_lies G m (nI j) i n σ = some (0, σ)) := by
  obtain ⟨-, eM, ⟨-, eN0⟩, ⟨e22, eN1⟩, -⟩ := id gm
  have e : fX4_lies G m (nI j) i n σ = some (if i < 0 then 0 else if p_rs Y j < n then 0 else if p_rs Y j - n < i then 0 else 1, σ) := by
    unfold fX4_lies
    rw [eN0, nI_clamp (by omega : j < 2 ^ 31), if_neg (ck_n hj (by omega)), (hc.1 j hj).1, if_neg (ck_n hj (by omega))]
    by_cases h1 : i < 0
    · simp [h1]
    · by_cases h2 : p_rs Y j < n
      · simp [h1, h2]
      · by_cases h3 : p_rs Y j - n < i
        · simp [h1, h2, h3]
        · simp [h1, h2, h3]
  rw [e]
  constructor
  · intro h; rw [if_neg h.1, if_neg h.2.1, if_neg h.2.2]
  · intro h
    by_cases h1 : i < 0
    · rw [if_pos h1]
    · by_cases h2 : p_rs Y j < n
      · rw [if_neg h1, if_pos h2]
      · by_cases h3 : p_rs Y j - n < i
        · rw [if_neg h1, if_neg h2, if_pos h3]
        · exact absurd ⟨h1, h2, h3⟩ h
/-- what lies within, in numbers -/
theorem hold_n {s i : Int32} {S N : Nat} (hs : s = nI S) (hS : S ≤ 40) (hN : N < 2 ^ 31) (h : hold s i (nI N)) : N ≤ S ∧ ∃ k, i = nI k ∧ k + N ≤ S := by
  obtain ⟨h1, h2, h3⟩ := h
  subst hs
  have hNS : N ≤ S := by
    rcases Nat.lt_or_ge S N with q | q
    · exact absurd (nI_lt q hN) h2
    · exact q
  refine ⟨hNS, ?_⟩
  obtain ⟨k, hk, rfl⟩ := nI_of h1
  refine ⟨k, rfl, ?_⟩
  rw [pk_sub hNS] at h3
  rcases Nat.lt_or_ge (S - N) k with q | q
  · exact absurd (nI_lt q hk) h3
  · omega
/-- the rows behind a copy -/
def cp_rv (rv : Nat → Nat → Int32) (a i b j n : Nat) : Nat → Nat → Int32 := fun c k => if c = b ∧ j ≤ k ∧ k < j + n then rv a (i + (k - j)) else rv c k
theorem J_copy (gx : gX G x cd) (gm : gM G m cd) (ok : okP Y) (r i t u v : Int32) : Jc G x m cd (fX3_copy G x r i t u v) (fX4_copy G m r i t u v) Y := by
  obtain ⟨-, eM, ⟨-, eN0⟩, ⟨e22, eN1⟩, ⟨e23, eN2⟩, -⟩ := id gm
  obtain ⟨-, ex, ⟨eR0, eR⟩, ⟨eS, eS1⟩, -⟩ := id gx
  have n0 : ∀ σ : mm_M, ¬ ((1 : Int32), σ).1 = 0 := fun _ => (by decide : ¬ (1 : Int32) = 0)
  have y0 : ∀ σ : mm_M, ((0 : Int32), σ).1 = 0 := fun _ => rfl
  by_cases hr : r < 0 ∨ nI 6 ≤ r
  · exact J_same (-1) ok (fun σ _ => by unfold fX3_copy; rw [cx_row0 hr]; rfl) (fun σ _ => by unfold fX4_copy fX4_copy_b0; rw [ml_row0 hr]; rfl)
  obtain ⟨a, ha, rfl⟩ : ∃ a, a < 6 ∧ r = nI a := by
    rcases pk_ix r (n := 6) (by decide) with q | q | q
    · exact absurd (Or.inl q) hr
    · exact absurd (Or.inr q) hr
    · exact q
  by_cases ht : t < 0 ∨ nI 6 ≤ t
  · exact J_same (-1) ok (fun σ _ => by unfold fX3_copy; rw [cx_row1 ha, Option.bind_some, if_neg (n0 σ), cx_row0 ht]; rfl) (fun σ _ => by unfold fX4_copy fX4_copy_b0; rw [ml_row1 ha, Option.bind_some, if_neg (n0 σ), ml_row0 ht]; rfl)
  obtain ⟨b, hb, rfl⟩ : ∃ b, b < 6 ∧ t = nI b := by
    rcases pk_ix t (n := 6) (by decide) with q | q | q
    · exact absurd (Or.inl q) ht
    · exact absurd (Or.inr q) ht
    · exact q
  by_cases hv : v < 0
  · refine J_fnd gx gm ok 5 (by decide) (by decide) (fun σ hc σ' e => ?_) (fun σ hc σ' e => ?_)
    · unfold fX3_copy
      rw [cx_row1 ha, Option.bind_some, if_neg (n0 σ), cx_row1 hb, Option.bind_some, if_neg (n0 σ), if_pos hv, be]; exact e
    · unfold fX4_copy fX4_copy_b0
      rw [ml_row1 ha, Option.bind_some, if_neg (n0 σ), ml_row1 hb, Option.bind_some, if_neg (n0 σ), if_pos hv, bel (show fX4_finds G m 5 σ = some (-3, σ') from e)]; rfl
  have cs : ∀ σ, CR G x σ Y → fX3_copy G x (nI a) i (nI b) u v σ = if p_rs Y a = -1 then fX3_found G x 1 σ else if p_rs Y b = -1 then fX3_found G x 1 σ else (fX3_holds G (p_rs Y a) i v σ).bind (fun q62 => if q62.1 = 0 then fX3_found G x 2 q62.2 else ((fX3_holds G (q62.2.1 (mm_R G x 1) b) u v q62.2).bind (fun q78 => if q78.1 = 0 then fX3_found G x 2 q78.2 else (if i < 0 ∨ u < 0 ∨ v < 0 ∨ 40 < i.toNatClampNeg + v.toNatClampNeg ∨ 40 < u.toNatClampNeg + v.toNatClampNeg then none else (some (1, mm_cpy q78.2 (mm_R G (mm_R G x 0) a) (mm_R G (mm_R G x 0) b) i.toNatClampNeg u.toNatClampNeg v.toNatClampNeg)))))) := by
    intro σ hc
    unfold fX3_copy fX3_copy_b47 fX3_copy_b84
    simp only [be]
    rw [cx_row1 ha, Option.bind_some, if_neg (n0 σ), cx_row1 hb, Option.bind_some, if_neg (n0 σ), if_neg hv, eS, eR0, nI_clamp (by omega : a < 2 ^ 31), nI_clamp (by omega : b < 2 ^ 31), if_neg (ck_n ha (by omega)), if_neg (ck_n hb (by omega)), if_neg (ck_n ha (by omega)), (eR a ha).2, (eR b hb).2]
    simp only [if_neg (ck_n ha (show a < 2 ^ 31 by omega)), if_neg (ck_n hb (show b < 2 ^ 31 by omega))]
    rw [(hc.1 a ha).1, (hc.1 b hb).1]
  have mst : ∀ σ, MR G m σ Y → fX4_copy G m (nI a) i (nI b) u v σ = mm_run (if p_rs Y a < 0 then ((fX4_finds G m 1 σ).bind (fun q47 => some (.inl (q47.1, q47.2)))) else (if p_rs Y b < 0 then ((fX4_finds G m 1 σ).bind (fun q47 => some (.inl (q47.1, q47.2)))) else ((fX4_lies G m (nI a) i v σ).bind (fun q56 => if q56.1 = 0 then ((fX4_finds G m 2 q56.2).bind (fun q76 => some (.inl (q76.1, q76.2)))) else ((fX4_lies G m (nI b) u v q56.2).bind (fun q68 => if q68.1 = 0 then ((fX4_finds G m 2 q68.2).bind (fun q76 => some (.inl (q76.1, q76.2)))) else (some (.inr (.inl (0, q68.2)))))))))) (fX4_copy_s G m (nI a) i (nI b) u v) := by
    intro σ hc
    unfold fX4_copy fX4_copy_b0 fX4_copy_b45 fX4_copy_b74
    rw [ml_row1 ha, Option.bind_some, if_neg (n0 σ), ml_row1 hb, Option.bind_some, if_neg (n0 σ), if_neg hv, eN0, nI_clamp (by omega : a < 2 ^ 31), nI_clamp (by omega : b < 2 ^ 31), if_neg (ck_n ha (by omega)), if_neg (ck_n hb (by omega)), (hc.1 a ha).1, (hc.1 b hb).1]
  rcases rs_cases ok ha with ⟨a1, a0, -⟩ | ⟨sa', hsa, esa, a0, a1⟩
  · exact J_fnd gx gm ok 1 (by decide) (by decide) (fun σ hc σ' e => by rw [cs σ hc, if_pos a1]; exact e) (fun σ hc σ' e => by rw [mst σ hc, if_pos a0, bel (show fX4_finds G m 1 σ = some (-3, σ') from e)]; rfl)
  rcases rs_cases ok hb with ⟨b1, b0, -⟩ | ⟨sb', hsb, esb, b0, b1⟩
  · exact J_fnd gx gm ok 1 (by decide) (by decide) (fun σ hc σ' e => by rw [cs σ hc, if_neg a1, if_pos b1]; exact e) (fun σ hc σ' e => by rw [mst σ hc, if_neg a0, if_pos b0, bel (show fX4_finds G m 1 σ = some (-3, σ') from e)]; rfl)
  by_cases h1 : hold (p_rs Y a) i v
  · by_cases h2 : hold (p_rs Y b) u v
    · obtain ⟨N, hN, rfl⟩ := nI_of hv
      obtain ⟨hNa, k, rfl, hk⟩ := hold_n esa hsa hN h1
      obtain ⟨hNb, l, rfl, hl⟩ := hold_n esb hsb hN h2
      refine ⟨1, y_rows Y (fun c => if c = b then p_rs Y b else p_rs Y c) (cp_rv (p_rv Y) a k b l N), okP_rows ok (Or.inr ⟨sb', hsb, esb⟩), fun σ hc => ?_, fun σ hc => ?_⟩
      · refine ⟨mm_cpy σ (mm_R G (mm_R G x 0) a) (mm_R G (mm_R G x 0) b) k l N, ?_, cx_rowset gx ok hb hc ⟨fun c hc' => funext fun q => if_neg (fun e => hc' (Or.inr e)), rfl⟩ (fun c hc' => ?_) (fun q hq h40 => ?_) (fun c hc' => funext fun q => if_neg (fun z => hc' z.1))⟩
        · rw [cs σ hc, if_neg a1, if_neg b1, cx_holds1 h1, Option.bind_some, if_neg (n0 σ)]
          show ((fX3_holds G (σ.1 (mm_R G x 1) b) (nI l) (nI N) σ).bind _) = _
          rw [(hc.1 b hb).1, cx_holds1 h2, Option.bind_some, if_neg (n0 σ), nI_clamp (by omega : k < 2 ^ 31), nI_clamp (by omega : l < 2 ^ 31), nI_clamp hN, if_neg]
          rintro (q | q | q | q | q)
          · exact nI_pos (by omega) q
          · exact nI_pos (by omega) q
          · exact nI_pos hN q
          · omega
          · omega
        · show (if mm_R G x 1 = mm_R G (mm_R G x 0) b then _ else σ.1 (mm_R G x 1) c) = _
          rw [if_neg (gX_r1 gx hb), (hc.1 c hc').1]
          by_cases h : c = b
          · subst h; rw [if_pos rfl]
          · rw [if_neg h]
        · show (if mm_R G (mm_R G x 0) b = mm_R G (mm_R G x 0) b then va_cpy (σ.1 (mm_R G (mm_R G x 0) a)) (σ.1 (mm_R G (mm_R G x 0) b)) k l N q else _) = cp_rv (p_rv Y) a k b l N b q
          rw [if_pos rfl]
          unfold va_cpy cp_rv
          by_cases h : l ≤ q ∧ q < l + N
          · rw [if_pos h, if_pos ⟨rfl, h⟩]
            exact (hc.1 a ha).2 _ (by rw [esa]; exact nI_lt (by omega) (by omega)) (by omega)
          · rw [if_neg h, if_neg (fun z => h z.2)]
            exact (hc.1 b hb).2 q hq h40
      · have hne01 := gM_01 gm
        have hne12 : mm_R G m 1 ≠ mm_R G m 2 := fun e => by rw [e, e23] at e22; omega
        have hne02 : mm_R G m 0 ≠ mm_R G m 2 := fun e => by have := gm.2.2.1.1; rw [e, e23] at this; omega
        have ixa : ∀ q, q < N → (40 : Int32) * nI a + nI k + nI q = nI (40 * a + k + q) := fun q hq => by rw [show (40 : Int32) = nI 40 from rfl, pk_mul, nI_add, nI_add]
        have ixb : ∀ q, q < N → (40 : Int32) * nI b + nI l + nI q = nI (40 * b + l + q) := fun q hq => by rw [show (40 : Int32) = nI 40 from rfl, pk_mul, nI_add, nI_add]
        obtain ⟨s1, e1, hI1⟩ := mm_loop (f := fX4_copy_s G m (nI a) (nI k) (nI b) (nI l) (nI N)) (fun q s => ∃ σ1, s = .inl (nI q, σ1) ∧ (∀ z, z < q → σ1.1 (mm_R G m 2) z = σ.1 (mm_R G m 1) (40 * a + k + z)) ∧ mm_sm (fun b => b = mm_R G m 2) σ σ1) N (fun q s hq hI => by
          obtain ⟨σ1, rfl, hz, hm⟩ := hI
          refine ⟨.inl (nI q + 1, mm_up σ1 (mm_R G m 2) q (σ1.1 (mm_R G m 1) (40 * a + k + q))), mm_lim_go ?_, _, by rw [nI_1], fun z hz' => ?_, mm_sm_up hm rfl⟩
          · show fX4_copy_b83 G m (nI a) (nI k) (nI b) (nI l) (nI N) (nI q) σ1 = _
            unfold fX4_copy_b83
            rw [if_pos (nI_lt hq hN), ixa q hq, eN1, nI_clamp (by omega : 40 * a + k + q < 2 ^ 31), if_neg (ck_n (by omega) (by omega)), eN2, nI_clamp (by omega : q < 2 ^ 31), if_neg (ck_n (by omega) (by omega))]
          · by_cases h : z = q
            · subst h; rw [mm_gs, hm.1 _ hne12]
            · rw [mm_gk h]; exact hz z (by omega)) (.inl ((0 : Int32), σ)) ⟨σ, rfl, fun z h => absurd h (Nat.not_lt_zero z), mm_sm_rf _ _⟩
        obtain ⟨σ1, rfl, hz1, hm1⟩ := hI1
        have emid : fX4_copy_s G m (nI a) (nI k) (nI b) (nI l) (nI N) (.inl (nI N, σ1)) = some (.inr (.inr (0, σ1))) := by
          show fX4_copy_b83 G m (nI a) (nI k) (nI b) (nI l) (nI N) (nI N) σ1 = _
          unfold fX4_copy_b83
          rw [if_neg Int32.lt_irrefl]
        obtain ⟨s2, e2, hI2⟩ := mm_loop (f := fX4_copy_s G m (nI a) (nI k) (nI b) (nI l) (nI N)) (fun q s => ∃ σ2, s = .inr (nI q, σ2) ∧ (∀ z, z < q → σ2.1 (mm_R G m 1) (40 * b + l + z) = σ.1 (mm_R G m 1) (40 * a + k + z)) ∧ (∀ z, (z < 40 * b + l ∨ 40 * b + l + q ≤ z) → σ2.1 (mm_R G m 1) z = σ.1 (mm_R G m 1) z) ∧ mm_sm (fun b => b = mm_R G m 1) σ1 σ2) N (fun q s hq hI => by
          obtain ⟨σ2, rfl, hz, hk2, hm⟩ := hI
          refine ⟨.inr (nI q + 1, mm_up σ2 (mm_R G m 1) (40 * b + l + q) (σ2.1 (mm_R G m 2) q)), mm_lim_go ?_, _, by rw [nI_1], fun z hz' => ?_, fun z hz' => ?_, mm_sm_up hm rfl⟩
          · show fX4_copy_b120 G m (nI a) (nI k) (nI b) (nI l) (nI N) (nI q) σ2 = _
            unfold fX4_copy_b120
            rw [if_pos (nI_lt hq hN), ixb q hq, eN1, nI_clamp (by omega : 40 * b + l + q < 2 ^ 31), eN2, nI_clamp (by omega : q < 2 ^ 31), if_neg (ck_n (by omega) (by omega)), if_neg (ck_n (by omega) (by omega))]
          · by_cases h : z = q
            · subst h; rw [mm_gs, hm.1 _ (Ne.symm hne12)]; exact hz1 z hq
            · rw [mm_gk (by omega)]; exact hz z (by omega)
          · rw [mm_gk (by omega)]; exact hk2 z (by omega)) (.inr ((0 : Int32), σ1)) ⟨σ1, rfl, fun z h => absurd h (Nat.not_lt_zero z), fun z _ => by rw [hm1.1 _ hne12], mm_sm_rf _ _⟩
        obtain ⟨σ2, rfl, hz2, hk2, hm2⟩ := hI2
        refine ⟨σ2, ?_, ml_rowset gm hb hc (mm_sm_tr (mm_sm_mono hm1 (fun c q => Or.inr (Or.inr q))) (mm_sm_mono hm2 (fun c q => Or.inr (Or.inl q)))) (fun c hc' => ?_) (fun q hq h40 => ?_) (fun c q hc' hq hcb => hk2 _ (by omega)) (fun c hc' => funext fun q => if_neg (fun z => hc' z.1))⟩
        · rw [mst σ hc, if_neg a0, if_neg b0, (ml_lies gm ha hc).1 h1, Option.bind_some, if_neg (n0 σ), (ml_lies gm hb hc).1 h2, Option.bind_some, if_neg (n0 σ), mm_run_go]
          show mm_lim _ (Sum.inl ((0 : Int32), σ)) = _
          rw [e1, mm_lim_go emid, e2]
          refine mm_lim_ret ?_
          show fX4_copy_b120 G m (nI a) (nI k) (nI b) (nI l) (nI N) (nI N) σ2 = _
          unfold fX4_copy_b120
          rw [if_neg Int32.lt_irrefl]
        · rw [hm2.1 _ hne01, hm1.1 _ hne02, (hc.1 c hc').1]
          by_cases h : c = b
          · subst h; rw [if_pos rfl]
          · rw [if_neg h]
        · unfold cp_rv
          by_cases h : l ≤ q ∧ q < l + N
          · rw [if_pos ⟨rfl, h⟩]
            have := hz2 (q - l) (by omega)
            rw [show 40 * b + l + (q - l) = 40 * b + q by omega] at this
            rw [this, Nat.add_assoc]
            exact (hc.1 a ha).2 _ (by rw [esa]; exact nI_lt (by omega) (by omega)) (by omega)
          · rw [if_neg (fun z => h z.2), hk2 _ (by omega)]
            exact (hc.1 b hb).2 q hq h40
    · refine J_fnd gx gm ok 2 (by decide) (by decide) (fun σ hc σ' e => ?_) (fun σ hc σ' e => ?_)
      · rw [cs σ hc, if_neg a1, if_neg b1, cx_holds1 h1, Option.bind_some, if_neg (n0 σ)]
        show ((fX3_holds G (σ.1 (mm_R G x 1) b) u v σ).bind _) = _
        rw [(hc.1 b hb).1, cx_holds0 h2, Option.bind_some, if_pos (y0 σ)]; exact e
      · rw [mst σ hc, if_neg a0, if_neg b0, (ml_lies gm ha hc).1 h1, Option.bind_some, if_neg (n0 σ), (ml_lies gm hb hc).2 h2, Option.bind_some, if_pos (y0 σ)]
        show mm_run ((fX4_finds G m 2 σ).bind _) _ = _
        rw [bel (show fX4_finds G m 2 σ = some (-3, σ') from e)]; rfl
  · refine J_fnd gx gm ok 2 (by decide) (by decide) (fun σ hc σ' e => ?_) (fun σ hc σ' e => ?_)
    · rw [cs σ hc, if_neg a1, if_neg b1, cx_holds0 h1, Option.bind_some, if_pos (y0 σ)]; exact e
    · rw [mst σ hc, if_neg a0, if_neg b0, (ml_lies gm ha hc).2 h1, Option.bind_some, if_pos (y0 σ)]
      show mm_run ((fX4_finds G m 2 σ).bind _) _ = _
      rw [bel (show fX4_finds G m 2 σ = some (-3, σ') from e)]; rfl
end RC
