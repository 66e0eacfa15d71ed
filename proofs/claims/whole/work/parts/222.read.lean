/-! READING A TEXT -/
def rd_kd (v : Int32) : Int32 := if v = 112 then 0 else if v = 100 then 1 else if v = 111 then 2 else if v = 115 then 3 else if v = 108 then 4 else if v = 121 then 5 else -1
def rd_fok (tx : Nat → Int32) (n p k : Nat) : Bool := decide (p + k < n) && (!decide (tx (p + k) - 48 < (if k = 2 then 1 else 0)) && !decide (9 < tx (p + k) - 48))
def ab_add (A : ab_A) (s : ab_S) : ab_A := (a_n A + 1, A.2.1, fun j => if j = a_n A then s else a_st A j)
def rd_st (tx : Nat → Int32) (p : Nat) : ab_S := (rd_kd (tx p), tx (p + 1) - 48, tx (p + 2) - 48, tx (p + 3) - 48, 0, 0)
def rd_stp (tx : Nat → Int32) (n : Nat) (s : Nat × ab_A) : Option ((Int32 × ab_A) ⊕ (Nat × ab_A)) :=
  if s.1 < n then (if tx s.1 = 32 then some (.inr (s.1 + 1, s.2)) else if a_n s.2 < 7 ∧ ¬ rd_kd (tx s.1) = -1 then (if rd_fok tx n s.1 1 then (if rd_fok tx n s.1 2 then (if rd_fok tx n s.1 3 then some (.inr (s.1 + 4, ab_add s.2 (rd_st tx s.1))) else some (.inl (nI (s.1 + 3), s.2))) else some (.inl (nI (s.1 + 2), s.2))) else some (.inl (nI (s.1 + 1), s.2))) else some (.inl (nI s.1, s.2))) else some (.inl (if a_n s.2 < 2 then nI n else -9, s.2))
def rd_A0 : ab_A := (0, (0, 0, 0, 0), fun _ => (0, 0, 0, 0, 0, 0))
/-! bytes -/
theorem by_i {v : Int32} (h : v.toInt8.toInt32 = v) : -128 ≤ v.toInt ∧ v.toInt ≤ 127 := by
  rw [← h, Int8.toInt_toInt32]
  have h1 := Int8.le_toInt v.toInt8
  have h2 := Int8.toInt_lt v.toInt8
  constructor
  · simpa using h1
  · have : (v.toInt8).toInt < 128 := by simpa using h2
    omega
theorem by_sub {v : Int32} (h : v.toInt8.toInt32 = v) : (v - 48).toInt = v.toInt - 48 := by
  obtain ⟨h1, h2⟩ := by_i h
  rw [Int32.toInt_sub]
  have : (48 : Int32).toInt = 48 := rfl
  rw [this]
  exact Int.bmod_eq_of_le (by omega) (by omega)
theorem fig_n {v : Int32} (h : v.toInt8.toInt32 = v) {lo : Nat} (hl : lo ≤ 1) (h1 : ¬ v - 48 < nI lo) (h2 : ¬ 9 < v - 48) : ∃ d, lo ≤ d ∧ d ≤ 9 ∧ v - 48 = nI d := by
  have h0 : ¬ v - 48 < 0 := fun q => h1 (Int32.lt_of_lt_of_le q (by rcases (show lo = 0 ∨ lo = 1 by omega) with rfl | rfl <;> decide))
  obtain ⟨d, hd, e⟩ := nI_of2 (M := 9) (n := 9) (by decide) h0 (Int32.not_lt.mp h2)
  refine ⟨d, ?_, hd, e⟩
  rw [e] at h1
  rcases Nat.lt_or_ge d lo with q | q
  · exact absurd (nI_lt q (by omega)) h1
  · exact q
theorem fig_m {v : Int32} (h : v.toInt8.toInt32 = v) (k2 : Bool) : ((v < (if k2 then 49 else 48)) ↔ (v - 48 < (if k2 then 1 else 0))) ∧ ((57 < v) ↔ (9 < v - 48)) := by
  have e := by_sub h
  have a1 : (49 : Int32).toInt = 49 := rfl
  have a2 : (48 : Int32).toInt = 48 := rfl
  have a3 : (57 : Int32).toInt = 57 := rfl
  have a4 : (9 : Int32).toInt = 9 := rfl
  have a5 : (1 : Int32).toInt = 1 := rfl
  have a6 : (0 : Int32).toInt = 0 := rfl
  cases k2
  · simp only [Bool.false_eq_true, if_false, Int32.lt_iff_toInt_lt, e, a2, a3, a4, a6]
    omega
  · simp only [if_true, Int32.lt_iff_toInt_lt, e, a1, a3, a4, a5]
    omega
theorem rd_kd_n {v : Int32} (h : ¬ rd_kd v = -1) : ∃ k, k ≤ 5 ∧ rd_kd v = nI k := by
  unfold rd_kd at h ⊢
  split at h
  · exact ⟨0, by decide, by rw [if_pos (by assumption)]; rfl⟩
  · rename_i h1
    rw [if_neg h1]
    split at h
    · exact ⟨1, by decide, by rw [if_pos (by assumption)]; rfl⟩
    · rename_i h2
      rw [if_neg h2]
      split at h
      · exact ⟨2, by decide, by rw [if_pos (by assumption)]; rfl⟩
      · rename_i h3
        rw [if_neg h3]
        split at h
        · exact ⟨3, by decide, by rw [if_pos (by assumption)]; rfl⟩
        · rename_i h4
          rw [if_neg h4]
          split at h
          · exact ⟨4, by decide, by rw [if_pos (by assumption)]; rfl⟩
          · rename_i h5
            rw [if_neg h5]
            split at h
            · exact ⟨5, by decide, by rw [if_pos (by assumption)]; rfl⟩
            · exact absurd rfl h
/-- an air as a text tells it -/
def rd_ok (A : ab_A) : Prop := a_n A ≤ 7 ∧ A.2.1 = (0, 0, 0, 0) ∧ ∀ i, i < a_n A → ∃ k f p l : Nat, a_st A i = (nI k, nI f, nI p, nI l, 0, 0) ∧ k ≤ 5 ∧ f ≤ 9 ∧ 1 ≤ p ∧ p ≤ 9 ∧ l ≤ 9
theorem rd_ok_okA {A : ab_A} (h : rd_ok A) : okA A := by
  obtain ⟨h1, h2, h3⟩ := h
  refine ⟨0, by decide, ?_, ⟨h1, ⟨0, Nat.le_refl _, ?_⟩, Or.inl ?_, fun i hi => ?_⟩, fun i hi => ?_⟩
  · show A.2.1.1 = _; rw [h2]; rfl
  · show A.2.1.1 = _; rw [h2]; rfl
  · show A.2.1.2.2.2 = _; rw [h2]
  · obtain ⟨k, f, p, l, e, b1, b2, b3, b4, b5⟩ := h3 i hi
    exact ⟨k, f, p, l, 0, 0, e, b1, b2, b3, b4, by omega, by omega, by omega⟩
  · obtain ⟨k, f, p, l, e, b1, b2, b3, b4, b5⟩ := h3 i hi
    exact ⟨l, by omega, by rw [e]⟩
theorem rd_ok_add {A : ab_A} {tx : Nat → Int32} {n p : Nat} (hb : ∀ i, (tx i).toInt8.toInt32 = tx i) (h : rd_ok A) (h7 : a_n A < 7) (hk : ¬ rd_kd (tx p) = -1) (h1 : rd_fok tx n p 1 = true) (h2 : rd_fok tx n p 2 = true) (h3 : rd_fok tx n p 3 = true) : rd_ok (ab_add A (rd_st tx p)) := by
  refine ⟨h7, h.2.1, fun i hi => ?_⟩
  have hi' : i < a_n A + 1 := hi
  show ∃ k f p' l : Nat, (if i = a_n A then rd_st tx p else a_st A i) = _ ∧ _
  by_cases e : i = a_n A
  · rw [if_pos e]
    obtain ⟨k, hk5, ek⟩ := rd_kd_n hk
    unfold rd_fok at h1 h2 h3
    simp at h1 h2 h3
    obtain ⟨f, -, f9, ef⟩ := fig_n (lo := 0) (hb (p + 1)) (by decide) (Int32.not_lt.mpr h1.2.1) (Int32.not_lt.mpr h1.2.2)
    obtain ⟨q, q1, q9, eq⟩ := fig_n (lo := 1) (hb (p + 2)) (by decide) (Int32.not_lt.mpr h2.2.1) (Int32.not_lt.mpr h2.2.2)
    obtain ⟨l, -, l9, el⟩ := fig_n (lo := 0) (hb (p + 3)) (by decide) (Int32.not_lt.mpr h3.2.1) (Int32.not_lt.mpr h3.2.2)
    refine ⟨k, f, q, l, ?_, hk5, f9, q1, q9, l9⟩
    unfold rd_st
    rw [ek, ef, eq, el]
  · rw [if_neg e]
    exact h.2.2 i (by omega)
/-! on the class's side -/
section RC
variable {G : mm_G}
theorem ca_kind (v : Int32) (σ : mm_M) : fX0_kindOf G v σ = some (rd_kd v, σ) := by
  have go : ∀ k, k < 6 → ¬ v = mm_tab 1 k → fX0_kindOf_s G v (nI k, σ) = some (.inr (nI (k + 1), σ)) := by
    intro k hk hne
    show fX0_kindOf_b2 G v (nI k) σ = _
    unfold fX0_kindOf_b2
    rw [if_pos (show nI k < (6 : Int32) from nI_lt hk (by decide)), nI_clamp (by omega : k < 2 ^ 31), if_neg (ck_n hk (by omega)), if_neg (fun e => hne e.symm), nI_1]
  have ret : ∀ k, k < 6 → v = mm_tab 1 k → fX0_kindOf_s G v (nI k, σ) = some (.inl (nI k, σ)) := by
    intro k hk e
    show fX0_kindOf_b2 G v (nI k) σ = _
    unfold fX0_kindOf_b2
    rw [if_pos (show nI k < (6 : Int32) from nI_lt hk (by decide)), nI_clamp (by omega : k < 2 ^ 31), if_neg (ck_n hk (by omega)), if_pos e.symm]
  unfold fX0_kindOf fX0_kindOf_b0 rd_kd
  rw [mm_run_go]
  show mm_lim _ (nI 0, σ) = _
  by_cases h0 : v = 112
  · rw [if_pos h0]; exact mm_lim_ret (ret 0 (by decide) h0)
  · rw [if_neg h0, mm_lim_go (go 0 (by decide) h0)]
    by_cases h1 : v = 100
    · rw [if_pos h1]; exact mm_lim_ret (ret 1 (by decide) h1)
    · rw [if_neg h1, mm_lim_go (go 1 (by decide) h1)]
      by_cases h2 : v = 111
      · rw [if_pos h2]; exact mm_lim_ret (ret 2 (by decide) h2)
      · rw [if_neg h2, mm_lim_go (go 2 (by decide) h2)]
        by_cases h3 : v = 115
        · rw [if_pos h3]; exact mm_lim_ret (ret 3 (by decide) h3)
        · rw [if_neg h3, mm_lim_go (go 3 (by decide) h3)]
          by_cases h4 : v = 108
          · rw [if_pos h4]; exact mm_lim_ret (ret 4 (by decide) h4)
          · rw [if_neg h4, mm_lim_go (go 4 (by decide) h4)]
            by_cases h5 : v = 121
            · rw [if_pos h5]; exact mm_lim_ret (ret 5 (by decide) h5)
            · rw [if_neg h5, mm_lim_go (go 5 (by decide) h5)]
              refine mm_lim_ret ?_
              show fX0_kindOf_b2 G v (nI 6) σ = _
              unfold fX0_kindOf_b2
              rw [if_neg (by decide)]
theorem ca_fig {a b n p k : Nat} {tx : Nat → Int32} {σ : mm_M} {kd : Int32} (hN : mm_N G b = 60) (hn : n ≤ 60) (hp : p + k ≤ n) (hk1 : 1 ≤ k) (hk : k < 4) (ht : ∀ i, i < n → σ.1 b i = tx i) : fX0_readStation_s G a b (nI n) (nI p) (kd, nI k, σ) = if rd_fok tx n p k then some (.inr (kd, nI (k + 1), σ)) else some (.inl (nI (p + k), σ)) := by
  show fX0_readStation_b28 G a b (nI n) (nI p) kd (nI k) σ = _
  unfold fX0_readStation_b28
  rw [if_pos (show nI k < (4 : Int32) from nI_lt hk (by decide)), nI_add]
  unfold rd_fok
  by_cases h : p + k < n
  · rw [if_pos (nI_lt h (by omega)), hN, nI_clamp (by omega : p + k < 2 ^ 31), if_neg (ck_n (by omega) (by omega)), ht _ h]
    unfold fX0_readStation_b68 fX0_readStation_b78
    have e2 : (if nI k = 2 then (1 : Int32) else 0) = if k = 2 then 1 else 0 := by
      by_cases hk2 : k = 2
      · rw [if_pos hk2, if_pos (by rw [hk2]; rfl)]
      · rw [if_neg hk2, if_neg (show ¬ nI k = 2 from fun q => hk2 ((nI_eq (b := 2) (by omega) (by decide)).mp q))]
    rw [e2, nI_1, nI_add, decide_eq_true h]
    by_cases c1 : tx (p + k) - 48 < (if k = 2 then 1 else 0)
    · rw [if_pos c1, decide_eq_true c1]; rfl
    · rw [if_neg c1, decide_eq_false c1]
      by_cases c2 : 9 < tx (p + k) - 48
      · rw [if_pos c2, decide_eq_true c2]; rfl
      · rw [if_neg c2, decide_eq_false c2]; rfl
  · rw [if_neg (nI_nlt (by omega) (by omega)), decide_eq_false h, show p + k = n by omega]
    rfl
theorem ca_item {a b n p : Nat} {tx : Nat → Int32} {A : ab_A} {σ : mm_M} (hg : ga G a) (hN : mm_N G b = 60) (hn : n ≤ 60) (hb : ¬ ic G a b) (hp : p < n) (ht : ∀ i, i < n → σ.1 b i = tx i) (hr : rA G σ a A) (h7 : a_n A ≤ 7) (h32 : ¬ tx p = 32) :
    (∃ v, fX0_readStation G a b (nI n) (nI p) σ = some (nI v, σ) ∧ v ≤ 60 ∧ rd_stp tx n (p, A) = some (.inl (nI v, A))) ∨ (a_n A < 7 ∧ ¬ rd_kd (tx p) = -1 ∧ rd_fok tx n p 1 = true ∧ rd_fok tx n p 2 = true ∧ rd_fok tx n p 3 = true ∧ p + 4 ≤ n ∧ rd_stp tx n (p, A) = some (.inr (p + 4, ab_add A (rd_st tx p))) ∧ ∃ σ', fX0_readStation G a b (nI n) (nI p) σ = some (-9, σ') ∧ rA G σ' a (ab_add A (rd_st tx p)) ∧ mm_sm (ic G a) σ σ') := by
  have hst : rd_stp tx n (p, A) = if a_n A < 7 ∧ ¬ rd_kd (tx p) = -1 then (if rd_fok tx n p 1 then (if rd_fok tx n p 2 then (if rd_fok tx n p 3 then some (.inr (p + 4, ab_add A (rd_st tx p))) else some (.inl (nI (p + 3), A))) else some (.inl (nI (p + 2), A))) else some (.inl (nI (p + 1), A))) else some (.inl (nI p, A)) := by
    unfold rd_stp
    rw [if_pos hp, if_neg h32]
  have h0 : fX0_readStation_b0 G a b (nI n) (nI p) σ = if a_n A < 7 ∧ ¬ rd_kd (tx p) = -1 then some (.inr (rd_kd (tx p), nI 1, σ)) else some (.inl (nI p, σ)) := by
    unfold fX0_readStation_b0
    rw [hN, nI_clamp (by omega : p < 2 ^ 31), if_neg (ck_n (by omega) (by omega)), ht p hp, ca_kind, Option.bind_some]
    show (if σ.1 a 1 < 7 then _ else _) = _
    rw [hr.1]
    by_cases c7 : a_n A < 7
    · rw [if_pos (show nI (a_n A) < (7 : Int32) from nI_lt c7 (by decide))]
      by_cases ck : rd_kd (tx p) = -1
      · rw [if_pos ck, if_neg (fun q => q.2 ck)]
      · rw [if_neg ck, if_pos ⟨c7, ck⟩]; rfl
    · rw [if_neg (show ¬ nI (a_n A) < (7 : Int32) from nI_nlt (show 7 ≤ a_n A by omega) (by omega)), if_neg (fun q => c7 q.1)]
  by_cases c : a_n A < 7 ∧ ¬ rd_kd (tx p) = -1
  · rw [if_pos c] at h0 hst
    have f1 := ca_fig (G := G) (a := a) (kd := rd_kd (tx p)) hN hn (show p + 1 ≤ n by omega) (Nat.le_refl 1) (by decide) ht
    by_cases k1 : rd_fok tx n p 1 = true
    · rw [if_pos k1] at f1 hst
      have l1 : p + 1 < n := by unfold rd_fok at k1; simp at k1; exact k1.1
      have f2 := ca_fig (G := G) (a := a) (kd := rd_kd (tx p)) hN hn (show p + 2 ≤ n by omega) (by decide) (by decide) ht
      by_cases k2 : rd_fok tx n p 2 = true
      · rw [if_pos k2] at f2 hst
        have l2 : p + 2 < n := by unfold rd_fok at k2; simp at k2; exact k2.1
        have f3 := ca_fig (G := G) (a := a) (kd := rd_kd (tx p)) hN hn (show p + 3 ≤ n by omega) (by decide) (by decide) ht
        by_cases k3 : rd_fok tx n p 3 = true
        · rw [if_pos k3] at f3 hst
          have l3 : p + 3 < n := by unfold rd_fok at k3; simp at k3; exact k3.1
          refine Or.inr ⟨c.1, c.2, k1, k2, k3, by omega, hst, ?_⟩
          have hsb : b ≠ sa G a (a_n A) := fun e => hb (Or.inr ⟨a_n A, c.1, e⟩)
          have hba : b ≠ a := fun e => hb (Or.inl e)
          have hne : sa G a (a_n A) ≠ a := hg.2.1 _ c.1
          have ha1 : ∀ q : mm_M, ∀ j v, (mm_up q (sa G a (a_n A)) j v).1 a = q.1 a := fun q j v => mm_ga (Ne.symm hne)
          have hb1 : ∀ q : mm_M, ∀ j v, (mm_up q (sa G a (a_n A)) j v).1 b = q.1 b := fun q j v => mm_ga hsb
          let σ4 : mm_M := mm_up (mm_up (mm_up (mm_up (mm_up (mm_up σ (sa G a (a_n A)) 0 (rd_kd (tx p))) (sa G a (a_n A)) 1 (tx (p + 1) - 48)) (sa G a (a_n A)) 2 (tx (p + 2) - 48)) (sa G a (a_n A)) 3 (tx (p + 3) - 48)) (sa G a (a_n A)) 5 0) (sa G a (a_n A)) 4 0
          have hσ4a : σ4.1 a = σ.1 a := by
            show (mm_up (mm_up (mm_up (mm_up (mm_up (mm_up σ (sa G a (a_n A)) 0 (rd_kd (tx p))) (sa G a (a_n A)) 1 (tx (p + 1) - 48)) (sa G a (a_n A)) 2 (tx (p + 2) - 48)) (sa G a (a_n A)) 3 (tx (p + 3) - 48)) (sa G a (a_n A)) 5 0) (sa G a (a_n A)) 4 0).1 a = _
            rw [ha1, ha1, ha1, ha1, ha1, ha1]
          have hs4 : mm_sm (fun q => q = sa G a (a_n A)) σ σ4 := mm_sm_up (mm_sm_up (mm_sm_up (mm_sm_up (mm_sm_up (mm_sm_up (mm_sm_rf _ _) rfl) rfl) rfl) rfl) rfl) rfl
          refine ⟨mm_up σ4 a 1 (σ4.1 a 1 + 1), ?_, ⟨?_, ?_, ?_, ?_, ?_, fun i hi => ?_⟩, ?_⟩
          · unfold fX0_readStation
            rw [h0, mm_run_go, mm_lim_go f1, mm_lim_go f2, mm_lim_go f3]
            refine mm_lim_ret ?_
            show fX0_readStation_b28 G a b (nI n) (nI p) (rd_kd (tx p)) (nI 4) σ = _
            unfold fX0_readStation_b28
            rw [if_neg (show ¬ nI 4 < (4 : Int32) by decide), hr.1, hg.1, nI_clamp (by omega : a_n A < 2 ^ 31), if_neg (ck_n c.1 (by omega)), show nI p + 1 = nI (p + 1) from nI_add p 1, show nI p + 2 = nI (p + 2) from nI_add p 2, show nI p + 3 = nI (p + 3) from nI_add p 3, hN, nI_clamp (by omega : p + 1 < 2 ^ 31), nI_clamp (by omega : p + 2 < 2 ^ 31), nI_clamp (by omega : p + 3 < 2 ^ 31), if_neg (ck_n (by omega) (by omega)), if_neg (ck_n (by omega) (by omega)), if_neg (ck_n (by omega) (by omega))]
            show (fX2_rest G (sa G a (a_n A)) _).bind _ = _
            rw [show mm_R G (mm_R G a 0) (a_n A) = sa G a (a_n A) from rfl]
            simp only [hb1]
            rw [ht _ (show p + 1 < n by omega), ht _ (show p + 2 < n by omega), ht _ (show p + 3 < n by omega), cs_rest]
            rfl
          · rw [mm_gs, hσ4a, hr.1]; exact nI_1 _
          · rw [mm_gk (by decide), hσ4a]; exact hr.2.1
          · rw [mm_gk (by decide), hσ4a]; exact hr.2.2.1
          · rw [mm_gk (by decide), hσ4a]; exact hr.2.2.2.1
          · rw [mm_gk (by decide), hσ4a]; exact hr.2.2.2.2.1
          · have hi' : i < a_n A + 1 := hi
            have hso : so (mm_up σ4 a 1 (σ4.1 a 1 + 1)) (sa G a i) = so σ4 (sa G a i) := by unfold so; rw [mm_ga (hg.2.1 i (by omega))]
            rw [hso]
            show _ = if i = a_n A then rd_st tx p else a_st A i
            by_cases e : i = a_n A
            · rw [if_pos e, e]
              simp [σ4, so, mm_up, rd_st]
            · rw [if_neg e, so_sm hs4 (fun q => e (hg.2.2 i _ (by omega) c.1 q))]
              exact hr.2.2.2.2.2 i (by omega)
          · exact mm_sm_up (mm_sm_mono hs4 (fun q hq => Or.inr ⟨a_n A, c.1, hq⟩)) (Or.inl rfl)
        · rw [if_neg k3] at f3 hst
          refine Or.inl ⟨p + 3, ?_, by omega, hst⟩
          unfold fX0_readStation
          rw [h0, mm_run_go, mm_lim_go f1, mm_lim_go f2]
          exact mm_lim_ret f3
      · rw [if_neg k2] at f2 hst
        refine Or.inl ⟨p + 2, ?_, by omega, hst⟩
        unfold fX0_readStation
        rw [h0, mm_run_go, mm_lim_go f1]
        exact mm_lim_ret f2
    · rw [if_neg k1] at f1 hst
      refine Or.inl ⟨p + 1, ?_, by omega, hst⟩
      unfold fX0_readStation
      rw [h0, mm_run_go]
      exact mm_lim_ret f1
  · rw [if_neg c] at h0 hst
    refine Or.inl ⟨p, ?_, by omega, hst⟩
    unfold fX0_readStation
    rw [h0]
    rfl
theorem ca_readF {a b n : Nat} {tx : Nat → Int32} (hg : ga G a) (hN : mm_N G b = 60) (hn : n ≤ 60) (hb : ¬ ic G a b) (hby : ∀ i, (tx i).toInt8.toInt32 = tx i) : ∀ (r p : Nat) (A : ab_A) (σ : mm_M), n - p < r → p ≤ n → (∀ i, i < n → σ.1 b i = tx i) → rA G σ a A → rd_ok A → ∃ v A' σ', mm_lim (rd_stp tx n) (p, A) = some (v, A') ∧ mm_lim (fX0_read_s G a b (nI n)) (nI p, σ) = some (v, σ') ∧ rA G σ' a A' ∧ rd_ok A' ∧ mm_sm (ic G a) σ σ'
  | 0, p, A, σ, h, _, _, _, _ => absurd h (Nat.not_lt_zero _)
  | r + 1, p, A, σ, h, hpn, ht, hr, hok => by
    have hs : fX0_read_s G a b (nI n) (nI p, σ) = fX0_read_b27 G a b (nI n) (nI p) σ := rfl
    by_cases hp : p < n
    · by_cases h32 : tx p = 32
      · obtain ⟨v, A', σ', e1, e2, r', o', m'⟩ := ca_readF hg hN hn hb hby r (p + 1) A σ (by omega) (by omega) ht hr hok
        refine ⟨v, A', σ', ?_, ?_, r', o', m'⟩
        · rw [mm_lim_go (show rd_stp tx n (p, A) = some (.inr (p + 1, A)) from by unfold rd_stp; rw [if_pos hp, if_pos h32])]; exact e1
        · rw [mm_lim_go (show fX0_read_s G a b (nI n) (nI p, σ) = some (.inr (nI (p + 1), σ)) from by
            rw [hs]; unfold fX0_read_b27
            rw [if_pos (nI_lt hp (by omega)), hN, nI_clamp (by omega : p < 2 ^ 31), if_neg (ck_n (by omega) (by omega)), ht p hp, if_pos h32, nI_1])]; exact e2
      · have hrd : fX0_read_b27 G a b (nI n) (nI p) σ = (fX0_readStation G a b (nI n) (nI p) σ).bind (fun q50 => if q50.1 = -9 then (some (.inr (nI p + 4, q50.2))) else (some (.inl (q50.1, q50.2)))) := by
          unfold fX0_read_b27
          rw [if_pos (nI_lt hp (by omega)), hN, nI_clamp (by omega : p < 2 ^ 31), if_neg (ck_n (by omega) (by omega)), ht p hp, if_neg h32]
        rcases ca_item hg hN hn hb hp ht hr hok.1 h32 with ⟨v, f, hv, st⟩ | ⟨c7, ck, k1, k2, k3, h4, st, σ1, f, r1, m1⟩
        · refine ⟨nI v, A, σ, mm_lim_ret st, mm_lim_ret ?_, hr, hok, mm_sm_rf _ _⟩
          rw [hs, hrd, f, Option.bind_some]
          have : ¬ nI v = -9 := fun q => by
            have h1 : ¬ nI v < 0 := nI_pos (by omega)
            rw [q] at h1
            exact h1 (by decide)
          rw [if_neg (show ¬ (nI v, σ).1 = -9 from this)]
        · obtain ⟨v, A', σ', e1, e2, r', o', m'⟩ := ca_readF hg hN hn hb hby r (p + 4) (ab_add A (rd_st tx p)) σ1 (by omega) h4 (fun i hi => by rw [m1.1 b hb]; exact ht i hi) r1 (rd_ok_add hby hok c7 ck k1 k2 k3)
          refine ⟨v, A', σ', ?_, ?_, r', o', mm_sm_tr m1 m'⟩
          · rw [mm_lim_go st]; exact e1
          · rw [mm_lim_go (show fX0_read_s G a b (nI n) (nI p, σ) = some (.inr (nI (p + 4), σ1)) from by
              rw [hs, hrd, f, Option.bind_some, if_pos (show ((-9 : Int32), σ1).1 = -9 from rfl), show nI p + 4 = nI (p + 4) from nI_add p 4])]; exact e2
    · refine ⟨if a_n A < 2 then nI n else -9, A, σ, mm_lim_ret ?_, mm_lim_ret ?_, hr, hok, mm_sm_rf _ _⟩
      · unfold rd_stp; rw [if_neg hp]
      · rw [hs]; unfold fX0_read_b27
        rw [if_neg (nI_nlt (by omega) (by omega)), hr.1]
        have := hok.1
        by_cases c : a_n A < 2
        · rw [if_pos c, if_pos (show nI (a_n A) < (2 : Int32) from nI_lt c (by decide))]
        · rw [if_neg c, if_neg (show ¬ nI (a_n A) < (2 : Int32) from nI_nlt (show 2 ≤ a_n A by omega) (by omega))]
theorem rd_ok0 : rd_ok rd_A0 := ⟨by decide, rfl, fun i hi => absurd hi (Nat.not_lt_zero i)⟩
theorem ca_read {a b n : Nat} {tx : Nat → Int32} {σ : mm_M} (hg : ga G a) (hN : mm_N G b = 60) (hn : n ≤ 60) (hb : ¬ ic G a b) (hby : ∀ i, (tx i).toInt8.toInt32 = tx i) (ht : ∀ i, i < n → σ.1 b i = tx i) : ∃ v A' σ', mm_lim (rd_stp tx n) (0, rd_A0) = some (v, A') ∧ fX0_read G a b (nI n) σ = some (v, σ') ∧ rA G σ' a A' ∧ rd_ok A' ∧ mm_sm (ic G a) σ σ' := by
  have hba : b ≠ a := fun e => hb (Or.inl e)
  obtain ⟨v, A', σ', e1, e2, r', o', m'⟩ := ca_readF hg hN hn hb hby (n + 1) 0 rd_A0 (mm_up (mm_up (mm_up (mm_up (mm_up σ a 1 0) a 2 0) a 3 0) a 4 0) a 5 0) (by omega) (by omega) (fun i hi => by rw [mm_ga hba, mm_ga hba, mm_ga hba, mm_ga hba, mm_ga hba]; exact ht i hi) ⟨by rw [mm_gk (by decide), mm_gk (by decide), mm_gk (by decide), mm_gk (by decide), mm_gs]; rfl, by rw [mm_gk (by decide), mm_gk (by decide), mm_gk (by decide), mm_gs]; rfl, by rw [mm_gk (by decide), mm_gk (by decide), mm_gs]; rfl, by rw [mm_gk (by decide), mm_gs]; rfl, by rw [mm_gs]; rfl, fun i hi => absurd hi (Nat.not_lt_zero i)⟩ rd_ok0
  exact ⟨v, A', σ', e1, e2, r', o', mm_sm_tr (mm_sm_up (mm_sm_up (mm_sm_up (mm_sm_up (mm_sm_up (mm_sm_rf _ _) (Or.inl rfl)) (Or.inl rfl)) (Or.inl rfl)) (Or.inl rfl)) (Or.inl rfl)) m'⟩
end RC
