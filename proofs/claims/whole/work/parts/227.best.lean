/-! best, silence -/
section BE
variable {G : mm_G} {x m : Nat} {cd : Nat → Nat} {Y : Ps}
def be_E (A : ab_A) (i n : Nat) : Int32 := (ab_end (ab_set A i (s_first (a_st A i) (nI n)))).1
def be_p (A : ab_A) (i : Nat) : Nat → Int32 × Int32
  | 0 => (-9, 201)
  | n + 1 => if be_E A i n = -9 then be_p A i n else if be_E A i n < (be_p A i n).2 then (nI n, be_E A i n) else be_p A i n
theorem ab_set_ok {N : Nat} {A : ab_A} {i : Nat} {s : ab_S} (ho : ab_ok N A) (hs : ab_okS N s) : ab_ok N (ab_set A i s) := ⟨ho.1, ho.2.1, ho.2.2.1, fun j hj => by
  show ab_okS N (if j = i then s else a_st A j)
  by_cases h : j = i
  · rw [if_pos h]; exact hs
  · rw [if_neg h]; exact ho.2.2.2 j hj⟩
theorem s_first_ok {N : Nat} {s : ab_S} (h : ab_okS N s) {n : Nat} (hn : n ≤ 9) : ab_okS N (s_first s (nI n)) := by
  obtain ⟨k, f, p, l, w, c, rfl, b1, b2, b3, b4, b5, b6, b7⟩ := h
  exact ⟨k, n, p, l, w, c, rfl, b1, hn, b3, b4, b5, b6, b7⟩
theorem cx_best (gx : gX G x cd) (ok : okP Y) {i : Nat} (hi : i < a_n (p_A Y)) (σ : mm_M) (hc : CR G x σ Y) : ∃ σ', fX3_best G x (nI i) σ = (if (be_p (p_A Y) i 10).1 = -9 then some ((be_p (p_A Y) i 10).1, σ') else some ((be_p (p_A Y) i 10).1, mm_up σ' x 12 (be_p (p_A Y) i 10).2)) ∧ mm_sm (qX cd) σ σ' := by
  obtain ⟨t, ht, et, ho, hlt⟩ := okP_A ok
  have hn7 := ho.1
  obtain ⟨s, l1, σ1, rfl, m1⟩ := mm_loop (f := fX3_best_s G x (nI i)) (fun n s => ∃ σ', s = ((be_p (p_A Y) i n).1, (be_p (p_A Y) i n).2, nI n, σ') ∧ mm_sm (ic G (mm_R G x 8)) σ σ') 10 (fun n s hn hI => by
    obtain ⟨σ1, rfl, m1⟩ := hI
    obtain ⟨σ2, f2, r2, m2⟩ := cx_aside gx ok (x5_sm gx ok m1 hc.2.2.1)
    have r3 : rA G (mm_up σ2 (sa G (mm_R G x 8) i) 1 (nI n)) (mm_R G x 8) (ab_set (p_A Y) i (s_first (a_st (p_A Y) i) (nI n))) := ca_set (gX_ga8 gx) r2 hn7 hi (by rw [← r2.2.2.2.2.2 i hi]; simp [so, mm_up, s_first]) (mm_sm_up (mm_sm_rf _ _) rfl)
    obtain ⟨σ4, f4, -, m4⟩ := ca_end (gX_ga8 gx) r3 (ab_set_ok ho (s_first_ok (ho.2.2.2 i hi) (by omega))) (by omega)
    refine ⟨((be_p (p_A Y) i (n + 1)).1, (be_p (p_A Y) i (n + 1)).2, nI (n + 1), σ4), mm_lim_go ?_, σ4, rfl, mm_sm_tr m1 (mm_sm_tr m2 (mm_sm_tr (mm_sm_up (mm_sm_rf _ _) (Or.inr ⟨i, by omega, rfl⟩)) m4))⟩
    show fX3_best_b23 G x (nI i) _ _ (nI n) σ1 = _
    unfold fX3_best_b23
    rw [if_pos (show nI n < (10 : Int32) from nI_lt hn (by decide)), f2, Option.bind_some, (gX_ga8 gx).1, nI_clamp (by omega : i < 2 ^ 31), if_neg (ck_n (by omega) (by omega))]
    show (fX0_goToEnd G (mm_R G x 8) (mm_up σ2 (sa G (mm_R G x 8) i) 1 (nI n))).bind _ = _
    rw [f4, Option.bind_some, nI_1]
    have e : be_p (p_A Y) i (n + 1) = if be_E (p_A Y) i n = -9 then be_p (p_A Y) i n else if be_E (p_A Y) i n < (be_p (p_A Y) i n).2 then (nI n, be_E (p_A Y) i n) else be_p (p_A Y) i n := rfl
    rw [e]
    show some (Sum.inr (if be_E (p_A Y) i n = -9 then (be_p (p_A Y) i n).1 else if be_E (p_A Y) i n < (be_p (p_A Y) i n).2 then nI n else (be_p (p_A Y) i n).1, if be_E (p_A Y) i n = -9 then (be_p (p_A Y) i n).2 else if be_E (p_A Y) i n < (be_p (p_A Y) i n).2 then be_E (p_A Y) i n else (be_p (p_A Y) i n).2, nI (n + 1), σ4)) = _
    by_cases c1 : be_E (p_A Y) i n = -9
    · rw [if_pos c1, if_pos c1, if_pos c1]
    · rw [if_neg c1, if_neg c1, if_neg c1]
      by_cases c2 : be_E (p_A Y) i n < (be_p (p_A Y) i n).2
      · rw [if_pos c2, if_pos c2, if_pos c2]
      · rw [if_neg c2, if_neg c2, if_neg c2]) (-9, 201, nI 0, σ) ⟨σ, rfl, mm_sm_rf _ _⟩
  refine ⟨σ1, ?_, mm_sm_mono m1 (ic8_q gx)⟩
  unfold fX3_best
  rw [show fX3_best_b0 G x (nI i) σ = some (.inr (-9, 201, nI 0, σ)) from by
    unfold fX3_best_b0
    rw [ca_has1 hc.2.2.1 hn7 hi, Option.bind_some, if_neg (n01 σ)]
    rfl, mm_run_go, l1]
  have hfin : fX3_best_s G x (nI i) ((be_p (p_A Y) i 10).1, (be_p (p_A Y) i 10).2, nI 10, σ1) = if (be_p (p_A Y) i 10).1 = -9 then some (.inl ((be_p (p_A Y) i 10).1, σ1)) else some (.inl ((be_p (p_A Y) i 10).1, mm_up σ1 x 12 (be_p (p_A Y) i 10).2)) := by
    show fX3_best_b23 G x (nI i) _ _ (nI 10) σ1 = _
    unfold fX3_best_b23
    rw [if_neg (show ¬ nI 10 < (10 : Int32) by decide)]
  by_cases c : (be_p (p_A Y) i 10).1 = -9
  · rw [if_pos c] at hfin ⊢
    exact mm_lim_ret hfin
  · rw [if_neg c] at hfin ⊢
    exact mm_lim_ret hfin
theorem ml_best (gm : gM G m cd) (ok : okP Y) {i : Nat} (hi : i < a_n (p_A Y)) (σ : mm_M) (hc : MR G m σ Y) : ∃ σ', fX4_best G m (nI i) σ = some ((be_p (p_A Y) i 10).1, mm_up σ' m 14 (if (be_p (p_A Y) i 10).1 = -9 then σ'.1 m 14 else (be_p (p_A Y) i 10).2)) ∧ mm_sm (qY cd) σ σ' := by
  obtain ⟨t, ht, et, ho, hlt⟩ := okP_A ok
  have hn7 := ho.1
  obtain ⟨n57, M5, M7, q7⟩ := gM_57 gm
  obtain ⟨s, l1, σ1, rfl, m1⟩ := mm_loop (f := fX4_best_s G m (nI i)) (fun n s => ∃ σ', s = ((be_p (p_A Y) i n).1, (be_p (p_A Y) i n).2, nI n, σ') ∧ mm_sm (fun b => b = mm_R G m 7) σ σ') 10 (fun n s hn hI => by
    obtain ⟨σ1, rfl, m1⟩ := hI
    obtain ⟨σ2, f2, r2, m2⟩ := ml_aside gm ok (m5_sm gm ok m1 hc.2.2.1)
    have r3 : rM (mm_up σ2 (mm_R G m 7) (4 + i) (nI n)) (mm_R G m 7) (ab_set (p_A Y) i (s_first (a_st (p_A Y) i) (nI n))) 0 := ml_set hn7 hi r2 (by
      rw [← r2.2.2.2.2.2.2 i hi]
      unfold ms
      rw [mm_gk (show 33 + i ≠ 4 + i by omega), mm_gk (show 11 + i ≠ 4 + i by omega), mm_gk (show 40 + i ≠ 4 + i by omega), mm_gk (show 18 + i ≠ 4 + i by omega), mm_gk (show 25 + i ≠ 4 + i by omega), mm_gs]
      rfl) (fun j h4 _ _ _ _ _ => mm_gk h4)
    obtain ⟨σ4, f4, -, m4⟩ := ml_end M7 r3 (ab_set_ok ho (s_first_ok (ho.2.2.2 i hi) (by omega))) (by omega)
    refine ⟨((be_p (p_A Y) i (n + 1)).1, (be_p (p_A Y) i (n + 1)).2, nI (n + 1), σ4), mm_lim_go ?_, σ4, rfl, mm_sm_tr m1 (mm_sm_tr m2 (mm_sm_tr (mm_sm_up (mm_sm_rf _ _) rfl) m4))⟩
    show fX4_best_b20 G m (nI i) _ _ (nI n) σ1 = _
    unfold fX4_best_b20
    rw [if_pos (show nI n < (10 : Int32) from nI_lt hn (by decide)), f2, Option.bind_some, M7, ad4, nI_clamp (by omega : 4 + i < 2 ^ 31), if_neg (kcn (by omega)), f4, Option.bind_some]
    unfold fX4_best_b75 fX4_best_b88
    rw [nI_1]
    have e : be_p (p_A Y) i (n + 1) = if be_E (p_A Y) i n = -9 then be_p (p_A Y) i n else if be_E (p_A Y) i n < (be_p (p_A Y) i n).2 then (nI n, be_E (p_A Y) i n) else be_p (p_A Y) i n := rfl
    rw [e]
    show some (Sum.inr (if (if be_E (p_A Y) i n = -9 then (0 : Int32) else if be_E (p_A Y) i n < (be_p (p_A Y) i n).2 then 1 else 0) = 0 then (be_p (p_A Y) i n).1 else nI n, if (if be_E (p_A Y) i n = -9 then (0 : Int32) else if be_E (p_A Y) i n < (be_p (p_A Y) i n).2 then 1 else 0) = 0 then (be_p (p_A Y) i n).2 else be_E (p_A Y) i n, nI (n + 1), σ4)) = _
    by_cases c1 : be_E (p_A Y) i n = -9
    · rw [if_pos c1, if_pos c1]; rfl
    · rw [if_neg c1, if_neg c1]
      by_cases c2 : be_E (p_A Y) i n < (be_p (p_A Y) i n).2
      · rw [if_pos c2, if_pos c2]; rfl
      · rw [if_neg c2, if_neg c2]; rfl) (-9, 201, nI 0, σ) ⟨σ, rfl, mm_sm_rf _ _⟩
  refine ⟨σ1, ?_, mm_sm_mono m1 (fun b q => by rw [q]; exact q7)⟩
  unfold fX4_best
  rw [show fX4_best_b0 G m (nI i) σ = some (.inr (-9, 201, nI 0, σ)) from by
    unfold fX4_best_b0
    rw [ml_st1 gm ok hc hi, Option.bind_some, if_neg (n01 σ)]
    rfl, mm_run_go, l1]
  refine mm_lim_ret ?_
  show fX4_best_b20 G m (nI i) _ _ (nI 10) σ1 = _
  unfold fX4_best_b20 fX4_best_b122
  rw [if_neg (show ¬ nI 10 < (10 : Int32) by decide)]
theorem J_best (gx : gX G x cd) (gm : gM G m cd) (ok : okP Y) (i : Int32) : Jc G x m cd (fX3_best G x i) (fX4_best G m i) Y := by
  have hn7 := (okP_n ok).2
  rcases pk_ix i (n := a_n (p_A Y)) (by omega) with hi | hi | ⟨k, hk, rfl⟩
  · exact J_same (-1) ok (fun σ hc => by unfold fX3_best fX3_best_b0; rw [ca_has0 hc.2.2.1 (Or.inl hi)]; rfl) (fun σ hc => by unfold fX4_best fX4_best_b0; rw [ml_st0 gm ok hc (Or.inl hi)]; rfl)
  · exact J_same (-1) ok (fun σ hc => by unfold fX3_best fX3_best_b0; rw [ca_has0 hc.2.2.1 (Or.inr hi)]; rfl) (fun σ hc => by unfold fX4_best fX4_best_b0; rw [ml_st0 gm ok hc (Or.inr hi)]; rfl)
  · by_cases c : (be_p (p_A Y) k 10).1 = -9
    · refine J_try gx gm ok (be_p (p_A Y) k 10).1 (fun σ hc => ?_) (fun σ hc => ?_)
      · obtain ⟨σ', f, s⟩ := cx_best gx ok hk σ hc
        exact ⟨σ', by rw [f, if_pos c], s⟩
      · obtain ⟨σ', f, s⟩ := ml_best gm ok hk σ hc
        exact ⟨σ', by rw [f, if_pos c, mm_up_id], s⟩
    · refine J_tryt gx gm ok (be_p (p_A Y) k 10).1 (be_p (p_A Y) k 10).2 (fun σ hc => ?_) (fun σ hc => ?_)
      · obtain ⟨σ', f, s⟩ := cx_best gx ok hk σ hc
        exact ⟨σ', by rw [f, if_neg c], s⟩
      · obtain ⟨σ', f, s⟩ := ml_best gm ok hk σ hc
        exact ⟨σ', by rw [f, if_neg c], s⟩
/-! silence -/
def hv (A : ab_A) (n : Nat) (z : Int32) : Int32 := a_hd (ab_it A z n) - a_hd A
def sl (A : ab_A) (n : Nat) : Nat → Int32 × Int32
  | 0 => (0, -1)
  | s + 1 => if (sl A n s).2 < hv A n (nI s) then (nI s, hv A n (nI s)) else if hv A n (nI s) = (sl A n s).2 then (if ab_ones (nI s) < ab_ones (sl A n s).1 then (nI s, hv A n (nI s)) else sl A n s) else sl A n s
theorem sl_n (A : ab_A) (n : Nat) : ∀ s, ∃ k, k ≤ s ∧ (sl A n s).1 = nI k
  | 0 => ⟨0, Nat.le_refl _, rfl⟩
  | s + 1 => by
    obtain ⟨k, hk, e⟩ := sl_n A n s
    have ee : sl A n (s + 1) = if (sl A n s).2 < hv A n (nI s) then (nI s, hv A n (nI s)) else if hv A n (nI s) = (sl A n s).2 then (if ab_ones (nI s) < ab_ones (sl A n s).1 then (nI s, hv A n (nI s)) else sl A n s) else sl A n s := rfl
    rw [ee]
    split
    · exact ⟨s, by omega, rfl⟩
    · split
      · split
        · exact ⟨s, by omega, rfl⟩
        · exact ⟨k, by omega, e⟩
      · exact ⟨k, by omega, e⟩
theorem sets_n {n : Nat} (h : n ≤ 7) : (1 : Int32) <<< (nI n &&& 31) = nI (2 ^ n) ∧ 2 ^ n ≤ 128 := by
  rcases (show n = 0 ∨ n = 1 ∨ n = 2 ∨ n = 3 ∨ n = 4 ∨ n = 5 ∨ n = 6 ∨ n = 7 by omega) with rfl | rfl | rfl | rfl | rfl | rfl | rfl | rfl <;> decide
theorem cx_silence (gx : gX G x cd) (ok : okP Y) {n : Nat} (h1 : 1 ≤ n) (hn : n ≤ 40) (hz : ¬ a_n (p_A Y) = 0) (σ : mm_M) (hc : CR G x σ Y) : ∃ σ', fX3_silence G x (nI n) σ = some ((sl (p_A Y) n (2 ^ a_n (p_A Y))).1, mm_up σ' x 12 (sl (p_A Y) n (2 ^ a_n (p_A Y))).2) ∧ mm_sm (qX cd) σ σ' := by
  obtain ⟨t, ht, et, ho, hlt⟩ := okP_A ok
  have hn7 := ho.1
  obtain ⟨e2, h128⟩ := sets_n hn7
  have hset : ∀ σ', mm_sm (ic G (mm_R G x 8)) σ σ' → fX0_sets G (mm_R G x 5) σ' = some (nI (2 ^ a_n (p_A Y)), σ') := fun σ' s => by
    unfold fX0_sets
    rw [(x5_sm gx ok s hc.2.2.1).1, e2]
  obtain ⟨s, l1, σ1, rfl, m1⟩ := mm_loop (f := fX3_silence_s G x (nI n)) (fun k s => ∃ σ', s = ((sl (p_A Y) n k).1, (sl (p_A Y) n k).2, nI k, σ') ∧ mm_sm (ic G (mm_R G x 8)) σ σ') (2 ^ a_n (p_A Y)) (fun k s hk hI => by
    obtain ⟨σ1, rfl, m1⟩ := hI
    obtain ⟨σ2, B, f2, -, -, -, -, m2⟩ := cx_hAside gx ok (n := n) (nI k) (by omega) ht ho (x5_sm gx ok m1 hc.2.2.1)
    obtain ⟨kb, hkb, eb⟩ := sl_n (p_A Y) n k
    refine ⟨((sl (p_A Y) n (k + 1)).1, (sl (p_A Y) n (k + 1)).2, nI (k + 1), σ2), mm_lim_go ?_, σ2, rfl, mm_sm_tr m1 m2⟩
    show fX3_silence_b33 G x (nI n) _ _ (nI k) σ1 = _
    unfold fX3_silence_b33
    rw [hset σ1 m1, Option.bind_some, if_pos (show nI k < (nI (2 ^ a_n (p_A Y)), σ1).1 from nI_lt hk (by omega))]
    show (fX3_heardAside G x (nI n) (nI k) σ1).bind _ = _
    rw [f2, Option.bind_some, jd_count k (by omega), Option.bind_some]
    show (fJ6_bitCount_0f7a4 G (sl (p_A Y) n k).1 σ2).bind _ = _
    rw [show fJ6_bitCount_0f7a4 G (sl (p_A Y) n k).1 σ2 = some (ab_ones (sl (p_A Y) n k).1, σ2) from by rw [eb]; exact jd_count kb (by omega) G σ2, Option.bind_some]
    unfold fX3_silence_b71
    rw [nI_1]
    have e : sl (p_A Y) n (k + 1) = if (sl (p_A Y) n k).2 < hv (p_A Y) n (nI k) then (nI k, hv (p_A Y) n (nI k)) else if hv (p_A Y) n (nI k) = (sl (p_A Y) n k).2 then (if ab_ones (nI k) < ab_ones (sl (p_A Y) n k).1 then (nI k, hv (p_A Y) n (nI k)) else sl (p_A Y) n k) else sl (p_A Y) n k := rfl
    rw [e]
    show some (Sum.inr (if (sl (p_A Y) n k).2 < hv (p_A Y) n (nI k) then nI k else if hv (p_A Y) n (nI k) = (sl (p_A Y) n k).2 then if (if ab_ones (nI k) < ab_ones (sl (p_A Y) n k).1 then (1 : Int32) else 0) = 0 then (sl (p_A Y) n k).1 else nI k else (sl (p_A Y) n k).1, if (sl (p_A Y) n k).2 < hv (p_A Y) n (nI k) then hv (p_A Y) n (nI k) else if hv (p_A Y) n (nI k) = (sl (p_A Y) n k).2 then if (if ab_ones (nI k) < ab_ones (sl (p_A Y) n k).1 then (1 : Int32) else 0) = 0 then (sl (p_A Y) n k).2 else hv (p_A Y) n (nI k) else (sl (p_A Y) n k).2, nI (k + 1), σ2)) = _
    by_cases c1 : (sl (p_A Y) n k).2 < hv (p_A Y) n (nI k)
    · rw [if_pos c1, if_pos c1, if_pos c1]
    · rw [if_neg c1, if_neg c1, if_neg c1]
      by_cases c2 : hv (p_A Y) n (nI k) = (sl (p_A Y) n k).2
      · rw [if_pos c2, if_pos c2, if_pos c2]
        by_cases c3 : ab_ones (nI k) < ab_ones (sl (p_A Y) n k).1
        · rw [if_pos c3, if_pos c3]; rfl
        · rw [if_neg c3, if_neg c3]; rfl
      · rw [if_neg c2, if_neg c2, if_neg c2]) (0, -1, nI 0, σ) ⟨σ, rfl, mm_sm_rf _ _⟩
  refine ⟨σ1, ?_, mm_sm_mono m1 (ic8_q gx)⟩
  unfold fX3_silence
  rw [show fX3_silence_b0 G x (nI n) σ = some (.inr (0, -1, nI 0, σ)) from by
    unfold fX3_silence_b0
    rw [if_neg (show ¬ nI n < 1 from nI_nlt (show 1 ≤ n from h1) (by omega)), if_neg (show ¬ (40 : Int32) < nI n from nI_nlt (show n ≤ 40 from hn) (by decide)), if_neg (show ¬ σ.1 (mm_R G x 5) 1 = 0 by rw [hc.2.2.1.1]; exact nI_ne0 (by omega) (by omega))]
    rfl, mm_run_go, l1]
  refine mm_lim_ret ?_
  show fX3_silence_b33 G x (nI n) _ _ (nI (2 ^ a_n (p_A Y))) σ1 = _
  unfold fX3_silence_b33
  rw [hset σ1 m1, Option.bind_some, if_neg (show ¬ nI (2 ^ a_n (p_A Y)) < (nI (2 ^ a_n (p_A Y)), σ1).1 from Int32.lt_irrefl)]
theorem rM_z {σ : mm_M} {c : Nat} {A : ab_A} {z : Int32} (hn : a_n A ≤ 7) (h : rM σ c A 0) : rM (mm_up σ c 47 z) c A z := by
  obtain ⟨h1, h2, h3, h4, h5, h6, h7⟩ := h
  refine ⟨by rw [mm_gk (by decide)]; exact h1, by rw [mm_gk (by decide)]; exact h2, by rw [mm_gk (by decide)]; exact h3, by rw [mm_gk (by decide)]; exact h4, by rw [mm_gk (by decide)]; exact h5, mm_gs .., fun i hi => ?_⟩
  rw [← h7 i hi]
  unfold ms
  rw [mm_gk (by omega), mm_gk (by omega), mm_gk (by omega), mm_gk (by omega), mm_gk (by omega), mm_gk (by omega)]
theorem ml_silence (gm : gM G m cd) (ok : okP Y) {n : Nat} (h1 : 1 ≤ n) (hn : n ≤ 40) (hz : ¬ a_n (p_A Y) = 0) (σ : mm_M) (hc : MR G m σ Y) : ∃ σ', fX4_silence G m (nI n) σ = some ((sl (p_A Y) n (2 ^ a_n (p_A Y))).1, mm_up σ' m 14 (sl (p_A Y) n (2 ^ a_n (p_A Y))).2) ∧ mm_sm (qY cd) σ σ' := by
  obtain ⟨t, ht, et, ho, hlt⟩ := okP_A ok
  have hn7 := ho.1
  obtain ⟨n57, M5, M7, q7⟩ := gM_57 gm
  obtain ⟨e2, h128⟩ := sets_n hn7
  obtain ⟨s, l1, σ1, rfl, m1⟩ := mm_loop (f := fX4_silence_s G m (nI n)) (fun k s => ∃ σ', s = Sum.inl ((sl (p_A Y) n k).1, (sl (p_A Y) n k).2, nI k, σ') ∧ mm_sm (fun b => b = mm_R G m 7) σ σ') (2 ^ a_n (p_A Y)) (fun k s hk hI => by
    obtain ⟨σ1, rfl, m1⟩ := hI
    have r51 := m5_sm gm ok m1 hc.2.2.1
    obtain ⟨σ2, f2, r2, m2⟩ := ml_aside gm ok r51
    have r3 := rM_z (z := nI k) hn7 r2
    obtain ⟨s, l4, σ4, rfl, r4, m4⟩ := mm_loop (f := fX4_silence_s G m (nI n)) (fun i s => ∃ σ', s = Sum.inr ((sl (p_A Y) n k).1, (sl (p_A Y) n k).2, nI k, nI i, σ') ∧ rM σ' (mm_R G m 7) (ab_it (p_A Y) (nI k) i) (nI k) ∧ mm_sm (fun b => b = mm_R G m 7) (mm_up σ2 (mm_R G m 7) 47 (nI k)) σ') n (fun i s hi hI => by
      obtain ⟨σ4, rfl, r4, m4⟩ := hI
      obtain ⟨σ5, f5, r5, m5⟩ := ml_goes M7 r4 (ab_it_ok (nI k) ho i (by omega)) (by omega)
      refine ⟨Sum.inr ((sl (p_A Y) n k).1, (sl (p_A Y) n k).2, nI k, nI (i + 1), σ5), mm_lim_go ?_, σ5, rfl, r5, mm_sm_tr m4 m5⟩
      show fX4_silence_b69 G m (nI n) _ _ (nI k) (nI i) σ4 = _
      unfold fX4_silence_b69
      rw [if_pos (nI_lt hi (by omega)), f5, nI_1]
      rfl) (Sum.inr ((sl (p_A Y) n k).1, (sl (p_A Y) n k).2, nI k, nI 0, mm_up σ2 (mm_R G m 7) 47 (nI k))) ⟨_, rfl, r3, mm_sm_rf _ _⟩
    have m14 : mm_sm (fun b => b = mm_R G m 7) σ σ4 := mm_sm_tr m1 (mm_sm_tr m2 (mm_sm_tr (mm_sm_up (mm_sm_rf _ _) rfl) m4))
    have r54 := m5_sm gm ok m14 hc.2.2.1
    refine ⟨Sum.inl ((sl (p_A Y) n (k + 1)).1, (sl (p_A Y) n (k + 1)).2, nI (k + 1), σ4), ?_, σ4, rfl, m14⟩
    rw [mm_lim_go (show fX4_silence_s G m (nI n) (Sum.inl ((sl (p_A Y) n k).1, (sl (p_A Y) n k).2, nI k, σ1)) = some (.inr (.inr ((sl (p_A Y) n k).1, (sl (p_A Y) n k).2, nI k, nI 0, mm_up σ2 (mm_R G m 7) 47 (nI k)))) from by
      show fX4_silence_b32 G m (nI n) _ _ (nI k) σ1 = _
      unfold fX4_silence_b32
      rw [M5, tc32, if_neg kc32, r51.1, e2, if_pos (nI_lt hk (by omega)), f2, Option.bind_some, M7, tc47, if_neg kc47]
      rfl), l4]
    refine mm_lim_go ?_
    show fX4_silence_b69 G m (nI n) _ _ (nI k) (nI n) σ4 = _
    unfold fX4_silence_b69
    rw [if_neg Int32.lt_irrefl, M7, M5, tc2, if_neg kc2, if_neg kc2, r4.2.2.2.1, r54.2.2.2.1, ml_ones, Option.bind_some]
    show (if (sl (p_A Y) n k).2 < hv (p_A Y) n (nI k) then fX4_silence_b128 G m (nI n) (sl (p_A Y) n k).1 (sl (p_A Y) n k).2 (nI k) (hv (p_A Y) n (nI k)) σ4 else if hv (p_A Y) n (nI k) = (sl (p_A Y) n k).2 then (fX4_ones G (sl (p_A Y) n k).1 σ4).bind _ else fX4_silence_b132 G m (nI n) (sl (p_A Y) n k).1 (sl (p_A Y) n k).2 (nI k) (hv (p_A Y) n (nI k)) σ4) = _
    rw [ml_ones, Option.bind_some]
    unfold fX4_silence_b128 fX4_silence_b132 fX4_silence_b133 fX4_silence_b146
    rw [nI_1]
    have e : sl (p_A Y) n (k + 1) = if (sl (p_A Y) n k).2 < hv (p_A Y) n (nI k) then (nI k, hv (p_A Y) n (nI k)) else if hv (p_A Y) n (nI k) = (sl (p_A Y) n k).2 then (if ab_ones (nI k) < ab_ones (sl (p_A Y) n k).1 then (nI k, hv (p_A Y) n (nI k)) else sl (p_A Y) n k) else sl (p_A Y) n k := rfl
    rw [e]
    by_cases c1 : (sl (p_A Y) n k).2 < hv (p_A Y) n (nI k)
    · rw [if_pos c1, if_pos c1]; rfl
    · rw [if_neg c1, if_neg c1]
      by_cases c2 : hv (p_A Y) n (nI k) = (sl (p_A Y) n k).2
      · rw [if_pos c2, if_pos c2]
        by_cases c3 : ab_ones (nI k) < ab_ones (sl (p_A Y) n k).1
        · rw [if_pos c3, if_pos c3]; rfl
        · rw [if_neg c3, if_neg c3]; rfl
      · rw [if_neg c2, if_neg c2]; rfl) (Sum.inl (0, -1, nI 0, σ)) ⟨σ, rfl, mm_sm_rf _ _⟩
  have r51 := m5_sm gm ok m1 hc.2.2.1
  refine ⟨σ1, ?_, mm_sm_mono m1 (fun b q => by rw [q]; exact q7)⟩
  unfold fX4_silence
  rw [show fX4_silence_b0 G m (nI n) σ = some (.inr (.inl (0, -1, nI 0, σ))) from by
    unfold fX4_silence_b0
    rw [ml_in, if_neg (show ¬ nI n < 1 from nI_nlt (show 1 ≤ n from h1) (by omega)), if_neg (show ¬ (40 : Int32) < nI n from nI_nlt (show n ≤ 40 from hn) (by decide)), Option.bind_some, if_neg (n01 σ), M5, tc32, if_neg kc32, if_neg (show ¬ σ.1 (mm_R G m 5) 32 = 0 by rw [hc.2.2.1.1]; exact nI_ne0 (by omega) (by omega))]
    rfl, mm_run_go, l1]
  refine mm_lim_ret ?_
  show fX4_silence_b32 G m (nI n) _ _ (nI (2 ^ a_n (p_A Y))) σ1 = _
  unfold fX4_silence_b32
  rw [M5, tc32, if_neg kc32, r51.1, e2, if_neg Int32.lt_irrefl]
theorem J_silence (gx : gX G x cd) (gm : gM G m cd) (ok : okP Y) (v : Int32) : Jc G x m cd (fX3_silence G x v) (fX4_silence G m v) Y := by
  obtain ⟨n57, M5, M7, q7⟩ := gM_57 gm
  by_cases h1 : v < 1
  · refine J_same (-1) ok (fun σ hc => ?_) (fun σ hc => ?_)
    · unfold fX3_silence fX3_silence_b0; rw [if_pos h1]; rfl
    · unfold fX4_silence fX4_silence_b0; rw [ml_in, if_pos h1]; rfl
  · by_cases h40 : 40 < v
    · refine J_same (-1) ok (fun σ hc => ?_) (fun σ hc => ?_)
      · unfold fX3_silence fX3_silence_b0; rw [if_neg h1, if_pos h40]; rfl
      · unfold fX4_silence fX4_silence_b0; rw [ml_in, if_neg h1, if_pos h40]; rfl
    · by_cases hz : a_n (p_A Y) = 0
      · refine J_same (-4) ok (fun σ hc => ?_) (fun σ hc => ?_)
        · unfold fX3_silence fX3_silence_b0; rw [if_neg h1, if_neg h40, if_pos (show σ.1 (mm_R G x 5) 1 = 0 by rw [hc.2.2.1.1, hz]; rfl)]; rfl
        · unfold fX4_silence fX4_silence_b0; rw [ml_in, if_neg h1, if_neg h40, Option.bind_some, if_neg (n01 σ), M5, tc32, if_neg kc32, if_pos (show σ.1 (mm_R G m 5) 32 = 0 by rw [hc.2.2.1.1, hz]; rfl)]; rfl
      · have h0 : ¬ v < 0 := fun q => h1 (Int32.lt_of_lt_of_le q (by decide))
        obtain ⟨n, hn, rfl⟩ := nI_of2 (M := 40) (n := 40) (by decide) h0 (Int32.not_lt.mp h40)
        have hn1 : 1 ≤ n := by
          rcases Nat.eq_zero_or_pos n with h | h
          · subst h; exact absurd (show nI 0 < 1 by decide) h1
          · exact h
        exact J_tryt gx gm ok _ _ (fun σ hc => cx_silence gx ok hn1 hn hz σ hc) (fun σ hc => ml_silence gm ok hn1 hn hz σ hc)
end BE
