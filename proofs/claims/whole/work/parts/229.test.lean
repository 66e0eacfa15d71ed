/-! test -/
def cn (F : Nat → Bool) (w : Nat → Nat) : Nat → Nat → Nat
  | 0, _ => 0
  | k + 1, c => cn F w k c + if F k = true ∧ w k = c then 1 else 0
theorem cn_s (F : Nat → Bool) (w : Nat → Nat) (k c : Nat) : cn F w (k + 1) c = cn F w k c + if F k = true ∧ w k = c then 1 else 0 := rfl
def gp (F : Nat → Bool) (w : Nat → Nat) : Nat → Nat
  | 0 => 0
  | k + 1 => if F k = true then max (gp F w k) (cn F w 6 (w k)) else gp F w k
theorem gp_s (F : Nat → Bool) (w : Nat → Nat) (k : Nat) : gp F w (k + 1) = if F k = true then max (gp F w k) (cn F w 6 (w k)) else gp F w k := rfl
def hp (F : Nat → Bool) (w : Nat → Nat) : Nat → Nat
  | 0 => 0
  | k + 1 => max (hp F w k) (cn F w (k + 1) (w k))
theorem hp_s (F : Nat → Bool) (w : Nat → Nat) (k : Nat) : hp F w (k + 1) = max (hp F w k) (cn F w (k + 1) (w k)) := rfl
theorem cn_le (F : Nat → Bool) (w : Nat → Nat) (c : Nat) : ∀ k, cn F w k c ≤ k
  | 0 => Nat.le_refl _
  | k + 1 => by
    have := cn_le F w c k
    rw [cn_s]
    split <;> omega
theorem cn_mono (F : Nat → Bool) (w : Nat → Nat) (c k : Nat) : ∀ r, cn F w k c ≤ cn F w (k + r) c
  | 0 => Nat.le_refl _
  | r + 1 => by
    have := cn_mono F w c k r
    show _ ≤ cn F w (k + r) c + _
    omega
theorem cn_pos (F : Nat → Bool) (w : Nat → Nat) (c : Nat) : ∀ k, 0 < cn F w k c → ∃ o, o < k ∧ F o = true ∧ w o = c
  | 0, h => absurd h (Nat.lt_irrefl 0)
  | k + 1, h => by
    rw [cn_s] at h
    by_cases e : F k = true ∧ w k = c
    · exact ⟨k, Nat.lt_succ_self k, e.1, e.2⟩
    · rw [if_neg e] at h
      obtain ⟨o, h1, h2, h3⟩ := cn_pos F w c k h
      exact ⟨o, by omega, h2, h3⟩
theorem gp_ge (F : Nat → Bool) (w : Nat → Nat) {o : Nat} (hF : F o = true) : ∀ k, o < k → cn F w 6 (w o) ≤ gp F w k
  | 0, h => absurd h (Nat.not_lt_zero _)
  | k + 1, h => by
    rw [gp_s]
    by_cases e : o = k
    · subst e; rw [if_pos hF]; omega
    · have := gp_ge F w hF k (by omega)
      split <;> omega
theorem hp_ge (F : Nat → Bool) (w : Nat → Nat) (c : Nat) : ∀ k, cn F w k c ≤ hp F w k
  | 0 => Nat.le_refl _
  | k + 1 => by
    have := hp_ge F w c k
    rw [cn_s, hp_s]
    by_cases e : F k = true ∧ w k = c
    · have e2 : cn F w (k + 1) (w k) = cn F w k c + 1 := by rw [cn_s, if_pos ⟨e.1, rfl⟩, e.2]
      rw [if_pos e, e2]; omega
    · rw [if_neg e]; omega
theorem hp_le (F : Nat → Bool) (w : Nat → Nat) : ∀ k, k ≤ 6 → hp F w k ≤ gp F w 6
  | 0, _ => Nat.zero_le _
  | k + 1, hk => by
    have h1 := hp_le F w k (by omega)
    rw [hp_s]
    have h2 : cn F w (k + 1) (w k) ≤ gp F w 6 := by
      rcases Nat.eq_zero_or_pos (cn F w (k + 1) (w k)) with h | h
      · omega
      · obtain ⟨o, o1, o2, o3⟩ := cn_pos F w (w k) (k + 1) h
        have g := gp_ge F w o2 6 (by omega)
        have m := cn_mono F w (w k) (k + 1) (6 - (k + 1))
        rw [show k + 1 + (6 - (k + 1)) = 6 by omega] at m
        rw [o3] at g
        omega
    omega
theorem gp_le (F : Nat → Bool) (w : Nat → Nat) : ∀ k, gp F w k ≤ hp F w 6
  | 0 => Nat.zero_le _
  | k + 1 => by
    have h1 := gp_le F w k
    have h2 := hp_ge F w (w k) 6
    rw [gp_s]
    split <;> omega
theorem gp_hp (F : Nat → Bool) (w : Nat → Nat) : gp F w 6 = hp F w 6 := Nat.le_antisymm (gp_le F w 6) (hp_le F w 6 (Nat.le_refl 6))
theorem gp_6 (F : Nat → Bool) (w : Nat → Nat) : ∀ k, gp F w k ≤ 6
  | 0 => by show 0 ≤ 6; omega
  | k + 1 => by
    have h1 := gp_6 F w k
    have h2 := cn_le F w (w k) 6
    rw [gp_s]
    split <;> omega
theorem hp_6 (F : Nat → Bool) (w : Nat → Nat) : ∀ k, k ≤ 6 → hp F w k ≤ 6
  | 0, _ => by show 0 ≤ 6; omega
  | k + 1, hk => by
    have h1 := hp_6 F w k (by omega)
    have h2 := cn_le F w (w k) (k + 1)
    rw [hp_s]; omega
theorem ab_cnt_n (x : Int32) : ∀ n, ∃ d, d ≤ n ∧ ab_cnt x n = nI d
  | 0 => ⟨0, Nat.le_refl _, rfl⟩
  | n + 1 => by
    obtain ⟨d, hd, e⟩ := ab_cnt_n x n
    show ∃ d', d' ≤ n + 1 ∧ ab_cnt x n + (if bt x n = true then 1 else 0) = nI d'
    rw [e]
    by_cases h : bt x n = true
    · rw [if_pos h]; exact ⟨d + 1, by omega, nI_1 d⟩
    · rw [if_neg h]; exact ⟨d, by omega, Int32.add_zero _⟩
theorem ab_ones_n (x : Int32) : (ab_ones x).toNatClampNeg ≤ 7 ∧ ab_ones x = nI (ab_ones x).toNatClampNeg := by
  obtain ⟨d, hd, e⟩ := ab_cnt_n x 7
  have e' : ab_ones x = nI d := e
  rw [e', nI_clamp (by omega)]
  exact ⟨hd, rfl⟩
/-- how many talk behind s slots, were station i of kind k -/
def wN (A : ab_A) (i s k : Nat) : Nat := (ab_ones (ab_who (ab_it (ab_set A i (s_kind (a_st A i) (nI k))) 0 s) 0)).toNatClampNeg
theorem wN_e (A : ab_A) (i s k : Nat) : ab_ones (ab_who (ab_it (ab_set A i (s_kind (a_st A i) (nI k))) 0 s) 0) = nI (wN A i s k) ∧ wN A i s k ≤ 7 := ⟨(ab_ones_n _).2, (ab_ones_n _).1⟩
/-- the slot that tells best: p the parts -/
def tb (p : Nat → Nat) (b0 l0 : Int32) : Nat → Int32 × Int32
  | 0 => (b0, l0)
  | n + 1 => if nI (p n) < (tb p b0 l0 n).2 then (nI (n + 1), nI (p n)) else tb p b0 l0 n
theorem tb_s (p : Nat → Nat) (b0 l0 : Int32) (n : Nat) : tb p b0 l0 (n + 1) = if nI (p n) < (tb p b0 l0 n).2 then (nI (n + 1), nI (p n)) else tb p b0 l0 n := rfl
theorem tb_eq {p : Nat → Nat} {b0 b1 l0 l1 : Int32} (h0 : nI (p 0) < l0) (h1 : nI (p 0) < l1) : ∀ n, tb p b0 l0 (n + 1) = tb p b1 l1 (n + 1)
  | 0 => by
    rw [tb_s, tb_s]
    show (if nI (p 0) < l0 then _ else _) = if nI (p 0) < l1 then _ else _
    rw [if_pos h0, if_pos h1]
  | n + 1 => by
    rw [tb_s p b0 l0 (n + 1), tb_s p b1 l1 (n + 1), tb_eq h0 h1 n]
theorem tb_ne {p : Nat → Nat} {l0 : Int32} {b0 : Int32} (h0 : nI (p 0) < l0) : ∀ n, n < 100 → ∃ k, k < 200 ∧ (tb p b0 l0 (n + 1)).1 = nI k
  | 0, _ => by
    rw [tb_s]
    show ∃ k, k < 200 ∧ (if nI (p 0) < l0 then (nI 1, nI (p 0)) else (b0, l0)).1 = nI k
    rw [if_pos h0]
    exact ⟨1, by decide, rfl⟩
  | n + 1, hn => by
    rw [tb_s]
    by_cases c : nI (p (n + 1)) < (tb p b0 l0 (n + 1)).2
    · rw [if_pos c]; exact ⟨n + 1 + 1, by omega, rfl⟩
    · rw [if_neg c]; exact tb_ne h0 n (by omega)
section TE
variable {G : mm_G} {x m : Nat} {cd : Nat → Nat} {Y : Ps}
theorem x11_q (gx : gX G x cd) : mm_N G (mm_R G x 11) = 6 ∧ (∀ k, k < 6 → mm_N G (mm_R G (mm_R G x 11) k) = 20 ∧ qX cd (mm_R G (mm_R G x 11) k) ∧ (∀ b, ic G (mm_R G x 8) b → b ≠ mm_R G (mm_R G x 11) k) ∧ (∀ b, ic G (mm_R G x 5) b → b ≠ mm_R G (mm_R G x 11) k)) ∧ (∀ k l, k < 6 → l < 6 → mm_R G (mm_R G x 11) k = mm_R G (mm_R G x 11) l → k = l) := by
  obtain ⟨-, ex, -, -, -, -, -, -, -, -, -, -, -, ⟨N11, e11⟩, -⟩ := id gx
  refine ⟨N11, fun k hk => ?_, fun k l hk hl e => ?_⟩
  · obtain ⟨c, N⟩ := e11 k hk
    refine ⟨N, ?_, fun b q e => ?_, fun b q e => ?_⟩
    · unfold qX; omega
    · have := gX_ic8 gx q
      unfold rg at this
      rw [e] at this
      omega
    · have := gX_ic5 gx q
      unfold rg at this
      rw [e] at this
      omega
  · have c1 := (e11 k hk).1
    have c2 := (e11 l hl).1
    rw [e] at c1
    omega
/-- what the class notes of the kinds in a set -/
theorem cx_watch (gx : gX G x cd) (ok : okP Y) {i : Nat} (fit : Int32) (hi : i < a_n (p_A Y)) {σ : mm_M} (r5 : rA G σ (mm_R G x 5) (p_A Y)) : ∃ σ', fX3_watch G x (nI i) fit σ = some σ' ∧ (∀ k, k < 6 → bt fit k = true → ∀ s, s < 20 → σ'.1 (mm_R G (mm_R G x 11) k) s = nI (wN (p_A Y) i s k)) ∧ mm_sm (qX cd) σ σ' := by
  obtain ⟨t, ht, et, ho, hlt⟩ := okP_A ok
  have hn7 := ho.1
  obtain ⟨N11, e11, inj⟩ := x11_q gx
  obtain ⟨s, l1, σ1, rfl, v1, r51, m1⟩ := mm_loop (f := fX3_watch_s G x (nI i) fit) (fun k s => ∃ σ', s = Sum.inl (nI k, σ') ∧ (∀ q, q < k → bt fit q = true → ∀ s, s < 20 → σ'.1 (mm_R G (mm_R G x 11) q) s = nI (wN (p_A Y) i s q)) ∧ rA G σ' (mm_R G x 5) (p_A Y) ∧ mm_sm (qX cd) σ σ') 6 (fun k s hk hI => by
    obtain ⟨σ1, rfl, v1, r51, m1⟩ := hI
    obtain ⟨Nk, qk, n8, n5⟩ := e11 k hk
    by_cases hb : bt fit k = true
    · obtain ⟨σ2, f2, r2, m2⟩ := cx_aside gx ok r51
      have m3 : mm_sm (ic G (mm_R G x 8)) σ1 (mm_up σ2 (sa G (mm_R G x 8) i) 0 (nI k)) := mm_sm_up m2 (Or.inr ⟨i, by omega, rfl⟩)
      have r3 : rA G (mm_up σ2 (sa G (mm_R G x 8) i) 0 (nI k)) (mm_R G x 8) (ab_set (p_A Y) i (s_kind (a_st (p_A Y) i) (nI k))) := ca_set (gX_ga8 gx) r2 hn7 hi (by rw [← r2.2.2.2.2.2 i hi]; simp [so, mm_up, s_kind]) (mm_sm_up (mm_sm_rf _ _) rfl)
      have ho3 := ab_set_ok (i := i) ho (s_kind_ok (ho.2.2.2 i hi) (show k ≤ 5 by omega))
      obtain ⟨s, l4, σ4, rfl, v4, r4, m4⟩ := mm_loop (f := fX3_watch_s G x (nI i) fit) (fun q s => ∃ σ', s = Sum.inr (nI k, nI q, σ') ∧ (∀ s, s < q → σ'.1 (mm_R G (mm_R G x 11) k) s = nI (wN (p_A Y) i s k)) ∧ rA G σ' (mm_R G x 8) (ab_it (ab_set (p_A Y) i (s_kind (a_st (p_A Y) i) (nI k))) 0 q) ∧ mm_sm (fun b => ic G (mm_R G x 8) b ∨ b = mm_R G (mm_R G x 11) k) σ1 σ') 20 (fun q s hq hI => by
        obtain ⟨σ4, rfl, v4, r4, m4⟩ := hI
        have hoq := ab_it_ok 0 ho3 q (by omega)
        obtain ⟨σ5, f5, r5', m5⟩ := ca_goBy 0 (gX_ga8 gx) r4 hoq (by omega)
        refine ⟨Sum.inr (nI k, nI (q + 1), mm_up σ5 (mm_R G (mm_R G x 11) k) q (nI (wN (p_A Y) i q k))), mm_lim_go ?_, _, rfl, fun s hs => ?_, rA_sm (mm_sm_up (S := fun b => b = mm_R G (mm_R G x 11) k) (mm_sm_rf _ _) rfl) hoq.1 (fun b hb => n8 b hb) r5', mm_sm_up (mm_sm_tr m4 (mm_sm_mono m5 (fun b hb => Or.inl hb))) (Or.inr rfl)⟩
        · show fX3_watch_b46 G x (nI i) fit (nI k) (nI q) σ4 = _
          unfold fX3_watch_b46
          rw [if_pos (show nI q < (20 : Int32) from nI_lt hq (by decide)), N11, nI_clamp (by omega : k < 2 ^ 31), if_neg (ck_n hk (by omega)), f5, Option.bind_some]
          show (fJ6_bitCount_0f7a4 G (ab_who (ab_it (ab_set (p_A Y) i (s_kind (a_st (p_A Y) i) (nI k))) 0 q) 0) σ5).bind _ = _
          rw [show fJ6_bitCount_0f7a4 G (ab_who (ab_it (ab_set (p_A Y) i (s_kind (a_st (p_A Y) i) (nI k))) 0 q) 0) σ5 = some (nI (wN (p_A Y) i q k), σ5) from by rw [← (wN_e (p_A Y) i q k).1]; exact jd_cnt hoq.1 G σ5, Option.bind_some, Nk, nI_clamp (by omega : q < 2 ^ 31), if_neg (ck_n hq (by omega)), nI_1]
        · by_cases e : s = q
          · subst e; exact mm_gs ..
          · rw [mm_gk e, m5.1 _ (fun z => n8 _ z rfl)]; exact v4 s (by omega)) (Sum.inr (nI k, nI 0, mm_up σ2 (sa G (mm_R G x 8) i) 0 (nI k))) ⟨_, rfl, fun s hs => absurd hs (Nat.not_lt_zero s), r3, mm_sm_mono m3 (fun b hb => Or.inl hb)⟩
      refine ⟨Sum.inl (nI (k + 1), σ4), ?_, σ4, rfl, fun q hq hbq s hs => ?_, rA_sm m4 hn7 (fun b hb hor => ?_) r51, mm_sm_tr m1 (mm_sm_mono m4 (fun b hb => ?_))⟩
      · rw [mm_lim_go (show fX3_watch_s G x (nI i) fit (Sum.inl (nI k, σ1)) = some (.inr (.inr (nI k, nI 0, mm_up σ2 (sa G (mm_R G x 8) i) 0 (nI k)))) from by
          show fX3_watch_b2 G x (nI i) fit (nI k) σ1 = _
          unfold fX3_watch_b2
          rw [if_pos (show nI k < (6 : Int32) from nI_lt hk (by decide)), if_neg (show ¬ (fit >>> (nI k &&& 31)) &&& 1 = 0 by rw [b_ask0 fit (by omega), hb]; decide), f2, Option.bind_some, (gX_ga8 gx).1, nI_clamp (by omega : i < 2 ^ 31), if_neg (ck_n (by omega) (by omega))]
          rfl), l4]
        refine mm_lim_go ?_
        show fX3_watch_b46 G x (nI i) fit (nI k) (nI 20) σ4 = _
        unfold fX3_watch_b46
        rw [if_neg (show ¬ nI 20 < (20 : Int32) by decide), nI_1]
      · by_cases e : q = k
        · subst e; exact v4 s hs
        · rw [m4.1 _ (fun z => by
            rcases z with z | z
            · exact (e11 q (by omega)).2.2.1 _ z rfl
            · exact e (inj q k (by omega) hk z))]
          exact v1 q (by omega) hbq s hs
      · rcases hor with z | z
        · exact x5_8 gx b hb z
        · exact n5 b hb z
      · rcases hb with z | z
        · exact ic8_q gx b z
        · rw [z]; exact qk
    · have hb' : bt fit k = false := by simpa using hb
      refine ⟨Sum.inl (nI (k + 1), σ1), mm_lim_go ?_, σ1, rfl, fun q hq hbq s hs => ?_, r51, m1⟩
      · show fX3_watch_b2 G x (nI i) fit (nI k) σ1 = _
        unfold fX3_watch_b2
        rw [if_pos (show nI k < (6 : Int32) from nI_lt hk (by decide)), if_pos ((b_ask0 fit (by omega)).mpr hb'), nI_1]
      · by_cases e : q = k
        · subst e; exact absurd hbq hb
        · exact v1 q (by omega) hbq s hs) (Sum.inl (nI 0, σ)) ⟨σ, rfl, fun q hq => absurd hq (Nat.not_lt_zero q), r5, mm_sm_rf _ _⟩
  refine ⟨σ1, ?_, v1, m1⟩
  unfold fX3_watch fX3_watch_b0
  rw [mm_run_go]
  show mm_lim _ (Sum.inl (nI 0, σ)) = _
  rw [l1]
  refine mm_lim_ret ?_
  show fX3_watch_b2 G x (nI i) fit (nI 6) σ1 = _
  unfold fX3_watch_b2
  rw [if_neg (show ¬ nI 6 < (6 : Int32) by decide)]
def cnv (F : Nat → Bool) (w : Nat → Nat) (v : Int32) : Nat → Nat
  | 0 => 0
  | k + 1 => cnv F w v k + if F k = true ∧ nI (w k) = v then 1 else 0
theorem cnv_le (F : Nat → Bool) (w : Nat → Nat) (v : Int32) : ∀ k, cnv F w v k ≤ k
  | 0 => Nat.le_refl _
  | k + 1 => by
    have := cnv_le F w v k
    show cnv F w v k + _ ≤ _
    split <;> omega
theorem cnv_cn {F : Nat → Bool} {w : Nat → Nat} (hw : ∀ k, w k ≤ 7) (c : Nat) (hc : c ≤ 7) : ∀ k, cnv F w (nI c) k = cn F w k c
  | 0 => rfl
  | k + 1 => by
    show cnv F w (nI c) k + (if F k = true ∧ nI (w k) = nI c then 1 else 0) = cn F w k c + _
    rw [cnv_cn hw c hc k]
    have := hw k
    have e : (nI (w k) = nI c) ↔ (w k = c) := nI_eq (by omega) (by omega)
    simp only [e]
theorem cx_part (gx : gX G x cd) {fit : Int32} {w : Nat → Nat} {s : Nat} (hs : s < 20) (hw : ∀ k, w k ≤ 7) {σ : mm_M} (hv : ∀ k, k < 6 → bt fit k = true → σ.1 (mm_R G (mm_R G x 11) k) s = nI (w k)) : fX3_greatestPart G x fit (nI s) σ = some (nI (gp (fun k => bt fit k) w 6), σ) := by
  obtain ⟨N11, e11, inj⟩ := x11_q gx
  have step : ∀ k, k < 6 → mm_lim (fX3_greatestPart_s G x fit (nI s)) (Sum.inl (nI (gp (fun k => bt fit k) w k), nI k, σ)) = mm_lim (fX3_greatestPart_s G x fit (nI s)) (Sum.inl (nI (gp (fun k => bt fit k) w (k + 1)), nI (k + 1), σ)) := by
    intro k hk
    have hg6 := gp_6 (fun k => bt fit k) w k
    have hfor := mm_for (f := fX3_greatestPart_s G x fit (nI s)) (fun o => Sum.inr (nI (gp (fun k => bt fit k) w k), nI k, nI (cnv (fun k => bt fit k) w (σ.1 (mm_R G (mm_R G x 11) k) s) o), nI o, σ)) 6 (fun o ho => by
      show fX3_greatestPart_b18 G x fit (nI s) _ (nI k) _ (nI o) σ = _
      unfold fX3_greatestPart_b18
      rw [if_pos (show nI o < (6 : Int32) from nI_lt ho (by decide)), N11, nI_clamp (by omega : o < 2 ^ 31), nI_clamp (by omega : k < 2 ^ 31), nI_clamp (by omega : s < 2 ^ 31), (e11 o ho).1, (e11 k hk).1, if_neg (ck_n ho (by omega)), if_neg (ck_n hs (by omega)), if_neg (ck_n hk (by omega)), if_neg (ck_n hs (by omega)), nI_1]
      have e : cnv (fun k => bt fit k) w (σ.1 (mm_R G (mm_R G x 11) k) s) (o + 1) = cnv (fun k => bt fit k) w (σ.1 (mm_R G (mm_R G x 11) k) s) o + if bt fit o = true ∧ nI (w o) = σ.1 (mm_R G (mm_R G x 11) k) s then 1 else 0 := rfl
      rw [e]
      by_cases hb : bt fit o = true
      · rw [if_neg (show ¬ (fit >>> (nI o &&& 31)) &&& 1 = 0 by rw [b_ask0 fit (by omega), hb]; decide), hv o ho hb]
        by_cases c : nI (w o) = σ.1 (mm_R G (mm_R G x 11) k) s
        · rw [if_pos c, if_pos ⟨hb, c⟩, nI_1]
        · rw [if_neg c, if_neg (fun q => c q.2)]; rfl
      · rw [if_pos ((b_ask0 fit (by omega)).mpr (by simpa using hb)), if_neg (fun q => hb q.1)]; rfl)
    rw [mm_lim_go (show fX3_greatestPart_s G x fit (nI s) (Sum.inl (nI (gp (fun k => bt fit k) w k), nI k, σ)) = some (.inr (.inr (nI (gp (fun k => bt fit k) w k), nI k, nI (cnv (fun k => bt fit k) w (σ.1 (mm_R G (mm_R G x 11) k) s) 0), nI 0, σ))) from by
      show fX3_greatestPart_b5 G x fit (nI s) _ (nI k) σ = _
      unfold fX3_greatestPart_b5
      rw [if_pos (show nI k < (6 : Int32) from nI_lt hk (by decide))]
      rfl), hfor]
    refine mm_lim_go ?_
    show fX3_greatestPart_b18 G x fit (nI s) _ (nI k) _ (nI 6) σ = _
    unfold fX3_greatestPart_b18
    rw [if_neg (show ¬ nI 6 < (6 : Int32) by decide), nI_1, gp_s]
    by_cases hb : bt fit k = true
    · rw [if_neg (show ¬ (fit >>> (nI k &&& 31)) &&& 1 = 0 by rw [b_ask0 fit (by omega), hb]; decide), if_pos hb, hv k hk hb, cnv_cn hw (w k) (hw k) 6]
      have hc6 := cn_le (fun k => bt fit k) w (w k) 6
      by_cases c : gp (fun k => bt fit k) w k < cn (fun k => bt fit k) w 6 (w k)
      · rw [if_pos (nI_lt c (by omega)), Nat.max_eq_right (by omega)]
      · rw [if_neg (nI_nlt (by omega) (by omega)), Nat.max_eq_left (by omega)]
    · rw [if_pos ((b_ask0 fit (by omega)).mpr (by simpa using hb)), if_neg hb]
  unfold fX3_greatestPart fX3_greatestPart_b0
  rw [mm_run_go]
  show mm_lim _ (Sum.inl (nI (gp (fun k => bt fit k) w 0), nI 0, σ)) = _
  rw [step 0 (by decide), step 1 (by decide), step 2 (by decide), step 3 (by decide), step 4 (by decide), step 5 (by decide)]
  refine mm_lim_ret ?_
  show fX3_greatestPart_b5 G x fit (nI s) _ (nI 6) σ = _
  unfold fX3_greatestPart_b5
  rw [if_neg (show ¬ nI 6 < (6 : Int32) by decide)]
end TE
