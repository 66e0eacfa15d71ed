/-! duel -/
def ab_inc (A : ab_A) (i : Nat) : ab_A := ab_set A i (s_give (a_st A i) 1)
def eN (A : ab_A) : Nat := if (ab_end A).1 = -9 then 201 else (ab_end A).1.toNatClampNeg
theorem ab_endF_v : ∀ (f k : Nat) (A : ab_A), k + f ≤ 201 → (ab_endF f k A).1 = -9 ∨ ∃ q, q ≤ 200 ∧ (ab_endF f k A).1 = nI q
  | 0, _, _, _ => Or.inl rfl
  | f + 1, k, A, h => by
    unfold ab_endF
    by_cases c : ab_let A 0 (a_n A) = 0
    · rw [if_pos c]; exact Or.inr ⟨k, by omega, rfl⟩
    · rw [if_neg c]; exact ab_endF_v f (k + 1) (ab_go A 0) (by omega)
theorem eN_e (A : ab_A) : (if (ab_end A).1 = -9 then (201 : Int32) else (ab_end A).1) = nI (eN A) ∧ eN A ≤ 201 := by
  unfold eN
  by_cases c : (ab_end A).1 = -9
  · rw [if_pos c, if_pos c]; exact ⟨rfl, by omega⟩
  · rw [if_neg c, if_neg c]
    rcases ab_endF_v 201 0 A (by omega) with h | ⟨q, hq, e⟩
    · exact absurd h c
    · rw [show (ab_end A).1 = nI q from e, nI_clamp (by omega)]
      exact ⟨rfl, by omega⟩
def mxx (f : Nat → Nat) : Nat → Nat
  | 0 => 0
  | n + 1 => max (mxx f n) (f n)
def mnn (f : Nat → Nat) : Nat → Nat
  | 0 => 201
  | n + 1 => min (mnn f n) (f n)
theorem mxx_s (f : Nat → Nat) (n : Nat) : mxx f (n + 1) = max (mxx f n) (f n) := rfl
theorem mnn_s (f : Nat → Nat) (n : Nat) : mnn f (n + 1) = min (mnn f n) (f n) := rfl
theorem mxx_le {f : Nat → Nat} (h : ∀ i, f i ≤ 201) : ∀ n, mxx f n ≤ 201
  | 0 => by show 0 ≤ 201; omega
  | n + 1 => by have := mxx_le h n; have := h n; rw [mxx_s]; omega
theorem mnn_le (f : Nat → Nat) : ∀ n, mnn f n ≤ 201
  | 0 => Nat.le_refl _
  | n + 1 => by have := mnn_le f n; rw [mnn_s]; omega
theorem mxx_up (f : Nat → Nat) (i : Nat) : ∀ r, mxx f i ≤ mxx f (i + r)
  | 0 => Nat.le_refl _
  | r + 1 => by have := mxx_up f i r; show _ ≤ max (mxx f (i + r)) _; omega
theorem mnn_dn (f : Nat → Nat) (i : Nat) : ∀ r, mnn f (i + r) ≤ mnn f i
  | 0 => Nat.le_refl _
  | r + 1 => by have := mnn_dn f i r; show min (mnn f (i + r)) _ ≤ _; omega
/-- by turns: the first wants it late -/
def mv : Nat → Bool → ab_A → Nat
  | 0, _, A => eN A
  | d + 1, true, A => mxx (fun i => mv d false (ab_inc A i)) (a_n A)
  | d + 1, false, A => mnn (fun i => mv d true (ab_inc A i)) (a_n A)
theorem mv_le : ∀ (d : Nat) (l : Bool) (A : ab_A), mv d l A ≤ 201
  | 0, _, A => (eN_e A).2
  | d + 1, true, A => mxx_le (fun i => mv_le d false _) _
  | d + 1, false, A => mnn_le _ _
def clp (v l h : Nat) : Nat := max l (min v h)
def lt_ok (b : Nat) (A : ab_A) : Prop := ∀ i, i < a_n A → ∃ l, l ≤ b ∧ s_lt (a_st A i) = nI l
theorem inc_ok {t b : Nat} {A : ab_A} (ho : ab_ok t A) (hl : lt_ok b A) (hb : b < 40) {i : Nat} (hi : i < a_n A) : ab_ok t (ab_inc A i) ∧ lt_ok (b + 1) (ab_inc A i) := by
  obtain ⟨l, h1, e1⟩ := hl i hi
  obtain ⟨k, f, p, l2, w, c, es, b1, b2, b3, b4, b5, b6, b7⟩ := ho.2.2.2 i hi
  have el : nI l2 = nI l := by rw [← e1, es]
  have eg : s_give (a_st A i) 1 = (nI k, nI f, nI p, nI (l + 1), nI w, nI c) := by
    rw [es]
    show (nI k, nI f, nI p, nI l2 + 1, nI w, nI c) = _
    rw [el, nI_1]
  refine ⟨ab_set_ok ho (by rw [eg]; exact ⟨k, f, p, l + 1, w, c, rfl, b1, b2, b3, b4, by omega, b6, b7⟩), fun j hj => ?_⟩
  show ∃ l, l ≤ b + 1 ∧ s_lt (if j = i then s_give (a_st A i) 1 else a_st A j) = nI l
  by_cases h : j = i
  · rw [if_pos h, eg]; exact ⟨l + 1, by omega, rfl⟩
  · rw [if_neg h]
    obtain ⟨l', q1, q2⟩ := hl j hj
    exact ⟨l', by omega, q2⟩
section DU
variable {G : mm_G} {x m : Nat} {cd : Nat → Nat} {Y : Ps}
def u89 (G : mm_G) (x : Nat) : Nat → Prop := fun b => ic G (mm_R G x 8) b ∨ ic G (mm_R G x 9) b
theorem x9_8 (gx : gX G x cd) : ∀ b, ic G (mm_R G x 9) b → ¬ ic G (mm_R G x 8) b := fun b q1 q2 => by
  have w1 := gX_ic9 gx q1
  have w2 := gX_ic8 gx q2
  unfold rg at w1 w2
  omega
theorem ca_inc {a i : Nat} {A : ab_A} {σ : mm_M} (hg : ga G a) (hn : a_n A ≤ 7) (hi : i < a_n A) (hr : rA G σ a A) : rA G (mm_up σ (sa G a i) 3 (σ.1 (sa G a i) 3 + 1)) a (ab_inc A i) := ca_set hg hr hn hi (by rw [← hr.2.2.2.2.2 i hi]; simp [so, mm_up, s_give]) (mm_sm_up (mm_sm_rf _ _) rfl)
theorem ca_dec {a i : Nat} {A : ab_A} {σ : mm_M} (hg : ga G a) (hn : a_n A ≤ 7) (hi : i < a_n A) (hr : rA G σ a (ab_inc A i)) : rA G (mm_up σ (sa G a i) 3 (σ.1 (sa G a i) 3 - 1)) a A := by
  have h := ca_set (s := a_st A i) hg hr hn hi (σ' := mm_up σ (sa G a i) 3 (σ.1 (sa G a i) 3 - 1)) (by
    have e := hr.2.2.2.2.2 i hi
    have e2 : a_st (ab_inc A i) i = s_give (a_st A i) 1 := if_pos rfl
    rw [e2] at e
    have e3 : σ.1 (sa G a i) 3 = s_lt (a_st A i) + 1 := congrArg (fun s : ab_S => s_lt s) e
    have e0 : σ.1 (sa G a i) 0 = s_kd (a_st A i) := congrArg (fun s : ab_S => s_kd s) e
    have e1 : σ.1 (sa G a i) 1 = s_fw (a_st A i) := congrArg (fun s : ab_S => s_fw s) e
    have e2' : σ.1 (sa G a i) 2 = s_sp (a_st A i) := congrArg (fun s : ab_S => s_sp s) e
    have e4 : σ.1 (sa G a i) 4 = s_wt (a_st A i) := congrArg (fun s : ab_S => s_wt s) e
    have e5 : σ.1 (sa G a i) 5 = s_cl (a_st A i) := congrArg (fun s : ab_S => s_cl s) e
    unfold so
    rw [mm_gk (by decide), mm_gk (by decide), mm_gk (by decide), mm_gs, mm_gk (by decide), mm_gk (by decide), e0, e1, e2', e3, e4, e5, Int32.add_sub_cancel]) (mm_sm_up (mm_sm_rf _ _) rfl)
  refine ⟨h.1, h.2.1, h.2.2.1, h.2.2.2.1, h.2.2.2.2.1, fun j hj => ?_⟩
  rw [h.2.2.2.2.2 j hj]
  show (if j = i then a_st A i else (if j = i then s_give (a_st A i) 1 else a_st A j)) = _
  by_cases e : j = i
  · rw [if_pos e, e]
  · rw [if_neg e, if_neg e]
/-- what a level of turns answers, within a window -/
def DC (G : mm_G) (x : Nat) (F : Int32 → Int32 → Int32 → Int32 → mm_M → Option (Int32 × mm_M)) (k : Nat) : Prop := ∀ (d : Nat) (late : Bool) (lo hi b t : Nat) (A : ab_A) (σ : mm_M), d ≤ k → lo ≤ hi → hi ≤ 201 → t ≤ 199 → b + d ≤ 40 → 1 ≤ a_n A → ab_ok t A → lt_ok b A → rA G σ (mm_R G x 9) A → ∃ r σ', F (nI d) (if late then 1 else 0) (nI lo) (nI hi) σ = some (nI r, σ') ∧ r ≤ 201 ∧ clp r lo hi = clp (mv d late A) lo hi ∧ rA G σ' (mm_R G x 9) A ∧ mm_sm (u89 G x) σ σ'
theorem cx_leaf (gx : gX G x cd) {t : Nat} {A : ab_A} {σ : mm_M} (ht : t ≤ 199) (ho : ab_ok t A) (hr : rA G σ (mm_R G x 9) A) : ∃ σ', ((fX0_become G (mm_R G x 8) (mm_R G x 9) σ).bind (fun q12 => (fX0_goToEnd G (mm_R G x 8) q12).bind (fun q19 => some (Sum.inl (β := Int32 × Int32 × Int32 × mm_M) (if q19.1 = -9 then (201 : Int32) else q19.1, q19.2))))) = some (.inl (nI (eN A), σ')) ∧ rA G σ' (mm_R G x 9) A ∧ mm_sm (u89 G x) σ σ' := by
  obtain ⟨σ1, f1, r1, m1⟩ := ca_become (gX_ga8 gx) (gX_ga9 gx) (fun b q1 q2 => x9_8 gx b q2 q1) hr ho
  obtain ⟨σ2, f2, r2, m2⟩ := ca_end (gX_ga8 gx) r1 ho (by omega)
  refine ⟨σ2, ?_, rA_sm (mm_sm_tr m1 m2) ho.1 (x9_8 gx) hr, mm_sm_mono (mm_sm_tr m1 m2) (fun b q => Or.inl q)⟩
  rw [f1, Option.bind_some, f2, Option.bind_some]
  show some (Sum.inl (if (ab_end A).1 = -9 then (201 : Int32) else (ab_end A).1, σ2)) = _
  rw [(eN_e A).1]
theorem dc0 (gx : gX G x cd) : DC G x (fX3_endByTurnsL0 G x) 0 := by
  intro d late lo hi b t A σ hd hlh hh ht hb hn ho hl hr
  obtain rfl : d = 0 := by omega
  obtain ⟨σ', f, r, s⟩ := cx_leaf gx ht ho hr
  refine ⟨eN A, σ', ?_, (eN_e A).2, rfl, r, s⟩
  unfold fX3_endByTurnsL0 fX3_endByTurnsL0_b0
  rw [if_neg (show ¬ (0 : Int32) < nI 0 by decide), f]
  rfl
theorem dc1 (gx : gX G x cd) : DC G x (fX3_endByTurnsL1 G x) 1 := by
  intro d late lo hi b t A σ hd hlh hh ht hb hn ho hl hr
  rcases Nat.eq_zero_or_pos d with h0 | hpos
  · subst h0
    obtain ⟨σ', f, r, s⟩ := cx_leaf gx ht ho hr
    refine ⟨eN A, σ', ?_, (eN_e A).2, rfl, r, s⟩
    unfold fX3_endByTurnsL1 fX3_endByTurnsL1_b0
    rw [if_neg (show ¬ (0 : Int32) < nI 0 by decide), f]
    rfl
  · obtain ⟨e, rfl⟩ : ∃ e, d = e + 1 := ⟨d - 1, by omega⟩
    have h7 := ho.1
    have hrun : fX3_endByTurnsL1 G x (nI (e + 1)) (if late then 1 else 0) (nI lo) (nI hi) σ = mm_lim (fX3_endByTurnsL1_s G x (nI (e + 1)) (if late then 1 else 0) (nI lo) (nI hi)) (nI lo, nI hi, nI 0, σ) := by
      unfold fX3_endByTurnsL1 fX3_endByTurnsL1_b0
      rw [if_pos (show (0 : Int32) < nI (e + 1) from nI_lt (show 0 < e + 1 by omega) (by omega)), mm_run_go]
      rfl
    rw [hrun]
    have g1 : mm_N G (mm_R G (mm_R G x 9) 0) = 7 := (gX_ga9 gx).1
    have es : nI (e + 1) - 1 = nI e := by
      rw [show (1 : Int32) = nI 1 from rfl, pk_sub (by omega)]; rfl
    cases late with
    | true =>
      have key : ∀ (r i least : Nat) (σ : mm_M), i + r = a_n A → lo ≤ least → least ≤ 201 → clp least lo hi = clp (mxx (fun i => mv e false (ab_inc A i)) i) lo hi → rA G σ (mm_R G x 9) A → ∃ v σ', mm_lim (fX3_endByTurnsL1_s G x (nI (e + 1)) (if true then 1 else 0) (nI lo) (nI hi)) (nI least, nI hi, nI i, σ) = some (nI v, σ') ∧ v ≤ 201 ∧ clp v lo hi = clp (mxx (fun i => mv e false (ab_inc A i)) (a_n A)) lo hi ∧ rA G σ' (mm_R G x 9) A ∧ mm_sm (u89 G x) σ σ' := by
        intro r
        induction r with
        | zero =>
          intro i least σ hin h1 h2 hcl hr
          obtain rfl : i = a_n A := by omega
          refine ⟨least, σ, mm_lim_ret ?_, h2, hcl, hr, mm_sm_rf _ _⟩
          show fX3_endByTurnsL1_b50 G x (nI (e + 1)) (if true then 1 else 0) (nI lo) (nI hi) (nI least) (nI hi) (nI (a_n A)) σ = _
          unfold fX3_endByTurnsL1_b50 fX3_endByTurnsL1_b160
          rw [hr.1, if_neg Int32.lt_irrefl]
          rfl
        | succ r ih =>
          intro i least σ hin h1 h2 hcl hr
          by_cases hlt : least < hi
          · obtain ⟨hoi, hli⟩ := inc_ok ho hl (by omega) (show i < a_n A by omega)
            obtain ⟨v, σ1, f1, v1, c1, r1, m1⟩ := dc0 gx e false least hi (b + 1) t (ab_inc A i) (mm_up σ (sa G (mm_R G x 9) i) 3 (σ.1 (sa G (mm_R G x 9) i) 3 + 1)) (by omega) (by omega) hh ht (by omega) hn hoi hli (ca_inc (gX_ga9 gx) h7 (by omega) hr)
            have r2 := ca_dec (gX_ga9 gx) h7 (show i < a_n A by omega) r1
            have hmax : (if nI least < nI v then nI v else nI least) = nI (max least v) := by
              by_cases c : least < v
              · rw [if_pos (nI_lt c (by omega)), Nat.max_eq_right (by omega)]
              · rw [if_neg (nI_nlt (by omega) (by omega)), Nat.max_eq_left (by omega)]
            have hst : fX3_endByTurnsL1_s G x (nI (e + 1)) (if true then 1 else 0) (nI lo) (nI hi) (nI least, nI hi, nI i, σ) = some (.inr (nI (max least v), nI hi, nI (i + 1), mm_up σ1 (sa G (mm_R G x 9) i) 3 (σ1.1 (sa G (mm_R G x 9) i) 3 - 1))) := by
              show fX3_endByTurnsL1_b50 G x (nI (e + 1)) 1 (nI lo) (nI hi) (nI least) (nI hi) (nI i) σ = _
              unfold fX3_endByTurnsL1_b50
              rw [hr.1, if_pos (nI_lt (by omega) (by omega)), if_pos (nI_lt hlt (by omega)), g1, nI_clamp (by omega : i < 2 ^ 31), if_neg (ck_n (by omega) (by omega)), if_neg (show ¬ (1 : Int32) = 0 by decide), es]
              unfold fX3_endByTurnsL1_b101
              show (fX3_endByTurnsL0 G x (nI e) (if false then 1 else 0) (nI least) (nI hi) (mm_up σ (sa G (mm_R G x 9) i) 3 (σ.1 (sa G (mm_R G x 9) i) 3 + 1))).bind _ = _
              rw [f1, Option.bind_some, g1, nI_clamp (by omega : i < 2 ^ 31), if_neg (ck_n (by omega) (by omega)), if_neg (show ¬ (1 : Int32) = 0 by decide), nI_1]
              show some (Sum.inr ((if nI least < nI v then nI v else nI least), nI hi, nI (i + 1), mm_up σ1 (sa G (mm_R G x 9) i) 3 (σ1.1 (sa G (mm_R G x 9) i) 3 - 1))) = _
              rw [hmax]
            obtain ⟨w, σ', f2, w2, c2, r3, m3⟩ := ih (i + 1) (max least v) _ (by omega) (by omega) (by omega) (by
              rw [mxx_s]
              unfold clp at c1 hcl ⊢
              omega) r2
            refine ⟨w, σ', by rw [mm_lim_go hst]; exact f2, w2, c2, r3, mm_sm_tr (mm_sm_tr (mm_sm_tr (mm_sm_up (mm_sm_rf _ _) (Or.inr (Or.inr ⟨i, by omega, rfl⟩))) m1) (mm_sm_up (mm_sm_rf _ _) (Or.inr (Or.inr ⟨i, by omega, rfl⟩)))) m3⟩
          · refine ⟨least, σ, mm_lim_ret ?_, h2, ?_, hr, mm_sm_rf _ _⟩
            · show fX3_endByTurnsL1_b50 G x (nI (e + 1)) (if true then 1 else 0) (nI lo) (nI hi) (nI least) (nI hi) (nI i) σ = _
              unfold fX3_endByTurnsL1_b50 fX3_endByTurnsL1_b160
              rw [hr.1, if_pos (nI_lt (by omega) (by omega)), if_neg (nI_nlt (by omega) (by omega))]
              rfl
            · have hup := mxx_up (fun i => mv e false (ab_inc A i)) i (r + 1)
              rw [hin] at hup
              unfold clp at hcl ⊢
              omega
      exact key (a_n A) 0 lo σ (by omega) (Nat.le_refl _) (by omega) (by unfold clp; show max lo (min lo hi) = max lo (min 0 hi); omega) hr
    | false =>
      have key : ∀ (r i gr : Nat) (σ : mm_M), i + r = a_n A → gr ≤ hi → clp gr lo hi = clp (mnn (fun i => mv e true (ab_inc A i)) i) lo hi → rA G σ (mm_R G x 9) A → ∃ v σ', mm_lim (fX3_endByTurnsL1_s G x (nI (e + 1)) (if false then 1 else 0) (nI lo) (nI hi)) (nI lo, nI gr, nI i, σ) = some (nI v, σ') ∧ v ≤ 201 ∧ clp v lo hi = clp (mnn (fun i => mv e true (ab_inc A i)) (a_n A)) lo hi ∧ rA G σ' (mm_R G x 9) A ∧ mm_sm (u89 G x) σ σ' := by
        intro r
        induction r with
        | zero =>
          intro i gr σ hin h1 hcl hr
          obtain rfl : i = a_n A := by omega
          refine ⟨gr, σ, mm_lim_ret ?_, by omega, hcl, hr, mm_sm_rf _ _⟩
          show fX3_endByTurnsL1_b50 G x (nI (e + 1)) (if false then 1 else 0) (nI lo) (nI hi) (nI lo) (nI gr) (nI (a_n A)) σ = _
          unfold fX3_endByTurnsL1_b50 fX3_endByTurnsL1_b160
          rw [hr.1, if_neg Int32.lt_irrefl]
          rfl
        | succ r ih =>
          intro i gr σ hin h1 hcl hr
          by_cases hlt : lo < gr
          · obtain ⟨hoi, hli⟩ := inc_ok ho hl (by omega) (show i < a_n A by omega)
            obtain ⟨v, σ1, f1, v1, c1, r1, m1⟩ := dc0 gx e true lo gr (b + 1) t (ab_inc A i) (mm_up σ (sa G (mm_R G x 9) i) 3 (σ.1 (sa G (mm_R G x 9) i) 3 + 1)) (by omega) (by omega) (by omega) ht (by omega) hn hoi hli (ca_inc (gX_ga9 gx) h7 (by omega) hr)
            have r2 := ca_dec (gX_ga9 gx) h7 (show i < a_n A by omega) r1
            have hmin : (if nI v < nI gr then nI v else nI gr) = nI (min gr v) := by
              by_cases c : v < gr
              · rw [if_pos (nI_lt c (by omega)), Nat.min_eq_right (by omega)]
              · rw [if_neg (nI_nlt (by omega) (by omega)), Nat.min_eq_left (by omega)]
            have hst : fX3_endByTurnsL1_s G x (nI (e + 1)) (if false then 1 else 0) (nI lo) (nI hi) (nI lo, nI gr, nI i, σ) = some (.inr (nI lo, nI (min gr v), nI (i + 1), mm_up σ1 (sa G (mm_R G x 9) i) 3 (σ1.1 (sa G (mm_R G x 9) i) 3 - 1))) := by
              show fX3_endByTurnsL1_b50 G x (nI (e + 1)) 0 (nI lo) (nI hi) (nI lo) (nI gr) (nI i) σ = _
              unfold fX3_endByTurnsL1_b50
              rw [hr.1, if_pos (nI_lt (by omega) (by omega)), if_pos (nI_lt hlt (by omega)), g1, nI_clamp (by omega : i < 2 ^ 31), if_neg (ck_n (by omega) (by omega)), if_pos (show (0 : Int32) = 0 from rfl), es]
              unfold fX3_endByTurnsL1_b101
              show (fX3_endByTurnsL0 G x (nI e) (if true then 1 else 0) (nI lo) (nI gr) (mm_up σ (sa G (mm_R G x 9) i) 3 (σ.1 (sa G (mm_R G x 9) i) 3 + 1))).bind _ = _
              rw [f1, Option.bind_some, g1, nI_clamp (by omega : i < 2 ^ 31), if_neg (ck_n (by omega) (by omega)), if_pos (show (0 : Int32) = 0 from rfl), nI_1]
              show some (Sum.inr (nI lo, (if nI v < nI gr then nI v else nI gr), nI (i + 1), mm_up σ1 (sa G (mm_R G x 9) i) 3 (σ1.1 (sa G (mm_R G x 9) i) 3 - 1))) = _
              rw [hmin]
            obtain ⟨w, σ', f2, w2, c2, r3, m3⟩ := ih (i + 1) (min gr v) _ (by omega) (by omega) (by
              rw [mnn_s]
              unfold clp at c1 hcl ⊢
              omega) r2
            refine ⟨w, σ', by rw [mm_lim_go hst]; exact f2, w2, c2, r3, mm_sm_tr (mm_sm_tr (mm_sm_tr (mm_sm_up (mm_sm_rf _ _) (Or.inr (Or.inr ⟨i, by omega, rfl⟩))) m1) (mm_sm_up (mm_sm_rf _ _) (Or.inr (Or.inr ⟨i, by omega, rfl⟩)))) m3⟩
          · refine ⟨gr, σ, mm_lim_ret ?_, by omega, ?_, hr, mm_sm_rf _ _⟩
            · show fX3_endByTurnsL1_b50 G x (nI (e + 1)) (if false then 1 else 0) (nI lo) (nI hi) (nI lo) (nI gr) (nI i) σ = _
              unfold fX3_endByTurnsL1_b50 fX3_endByTurnsL1_b160
              rw [hr.1, if_pos (nI_lt (by omega) (by omega)), if_neg (nI_nlt (by omega) (by omega))]
              rfl
            · have hdn := mnn_dn (fun i => mv e true (ab_inc A i)) i (r + 1)
              rw [hin] at hdn
              unfold clp at hcl ⊢
              omega
      exact key (a_n A) 0 hi σ (by omega) (Nat.le_refl _) (by unfold clp; show max lo (min hi hi) = max lo (min 201 hi); omega) hr
theorem dc2 (gx : gX G x cd) : DC G x (fX3_endByTurnsL2 G x) 2 := by
  intro d late lo hi b t A σ hd hlh hh ht hb hn ho hl hr
  rcases Nat.eq_zero_or_pos d with h0 | hpos
  · subst h0
    obtain ⟨σ', f, r, s⟩ := cx_leaf gx ht ho hr
    refine ⟨eN A, σ', ?_, (eN_e A).2, rfl, r, s⟩
    unfold fX3_endByTurnsL2 fX3_endByTurnsL2_b0
    rw [if_neg (show ¬ (0 : Int32) < nI 0 by decide), f]
    rfl
  · obtain ⟨e, rfl⟩ : ∃ e, d = e + 1 := ⟨d - 1, by omega⟩
    have h7 := ho.1
    have hrun : fX3_endByTurnsL2 G x (nI (e + 1)) (if late then 1 else 0) (nI lo) (nI hi) σ = mm_lim (fX3_endByTurnsL2_s G x (nI (e + 1)) (if late then 1 else 0) (nI lo) (nI hi)) (nI lo, nI hi, nI 0, σ) := by
      unfold fX3_endByTurnsL2 fX3_endByTurnsL2_b0
      rw [if_pos (show (0 : Int32) < nI (e + 1) from nI_lt (show 0 < e + 1 by omega) (by omega)), mm_run_go]
      rfl
    rw [hrun]
    have g1 : mm_N G (mm_R G (mm_R G x 9) 0) = 7 := (gX_ga9 gx).1
    have es : nI (e + 1) - 1 = nI e := by
      rw [show (1 : Int32) = nI 1 from rfl, pk_sub (by omega)]; rfl
    cases late with
    | true =>
      have key : ∀ (r i least : Nat) (σ : mm_M), i + r = a_n A → lo ≤ least → least ≤ 201 → clp least lo hi = clp (mxx (fun i => mv e false (ab_inc A i)) i) lo hi → rA G σ (mm_R G x 9) A → ∃ v σ', mm_lim (fX3_endByTurnsL2_s G x (nI (e + 1)) (if true then 1 else 0) (nI lo) (nI hi)) (nI least, nI hi, nI i, σ) = some (nI v, σ') ∧ v ≤ 201 ∧ clp v lo hi = clp (mxx (fun i => mv e false (ab_inc A i)) (a_n A)) lo hi ∧ rA G σ' (mm_R G x 9) A ∧ mm_sm (u89 G x) σ σ' := by
        intro r
        induction r with
        | zero =>
          intro i least σ hin h1 h2 hcl hr
          obtain rfl : i = a_n A := by omega
          refine ⟨least, σ, mm_lim_ret ?_, h2, hcl, hr, mm_sm_rf _ _⟩
          show fX3_endByTurnsL2_b50 G x (nI (e + 1)) (if true then 1 else 0) (nI lo) (nI hi) (nI least) (nI hi) (nI (a_n A)) σ = _
          unfold fX3_endByTurnsL2_b50 fX3_endByTurnsL2_b160
          rw [hr.1, if_neg Int32.lt_irrefl]
          rfl
        | succ r ih =>
          intro i least σ hin h1 h2 hcl hr
          by_cases hlt : least < hi
          · obtain ⟨hoi, hli⟩ := inc_ok ho hl (by omega) (show i < a_n A by omega)
            obtain ⟨v, σ1, f1, v1, c1, r1, m1⟩ := dc1 gx e false least hi (b + 1) t (ab_inc A i) (mm_up σ (sa G (mm_R G x 9) i) 3 (σ.1 (sa G (mm_R G x 9) i) 3 + 1)) (by omega) (by omega) hh ht (by omega) hn hoi hli (ca_inc (gX_ga9 gx) h7 (by omega) hr)
            have r2 := ca_dec (gX_ga9 gx) h7 (show i < a_n A by omega) r1
            have hmax : (if nI least < nI v then nI v else nI least) = nI (max least v) := by
              by_cases c : least < v
              · rw [if_pos (nI_lt c (by omega)), Nat.max_eq_right (by omega)]
              · rw [if_neg (nI_nlt (by omega) (by omega)), Nat.max_eq_left (by omega)]
            have hst : fX3_endByTurnsL2_s G x (nI (e + 1)) (if true then 1 else 0) (nI lo) (nI hi) (nI least, nI hi, nI i, σ) = some (.inr (nI (max least v), nI hi, nI (i + 1), mm_up σ1 (sa G (mm_R G x 9) i) 3 (σ1.1 (sa G (mm_R G x 9) i) 3 - 1))) := by
              show fX3_endByTurnsL2_b50 G x (nI (e + 1)) 1 (nI lo) (nI hi) (nI least) (nI hi) (nI i) σ = _
              unfold fX3_endByTurnsL2_b50
              rw [hr.1, if_pos (nI_lt (by omega) (by omega)), if_pos (nI_lt hlt (by omega)), g1, nI_clamp (by omega : i < 2 ^ 31), if_neg (ck_n (by omega) (by omega)), if_neg (show ¬ (1 : Int32) = 0 by decide), es]
              unfold fX3_endByTurnsL2_b101
              show (fX3_endByTurnsL1 G x (nI e) (if false then 1 else 0) (nI least) (nI hi) (mm_up σ (sa G (mm_R G x 9) i) 3 (σ.1 (sa G (mm_R G x 9) i) 3 + 1))).bind _ = _
              rw [f1, Option.bind_some, g1, nI_clamp (by omega : i < 2 ^ 31), if_neg (ck_n (by omega) (by omega)), if_neg (show ¬ (1 : Int32) = 0 by decide), nI_1]
              show some (Sum.inr ((if nI least < nI v then nI v else nI least), nI hi, nI (i + 1), mm_up σ1 (sa G (mm_R G x 9) i) 3 (σ1.1 (sa G (mm_R G x 9) i) 3 - 1))) = _
              rw [hmax]
            obtain ⟨w, σ', f2, w2, c2, r3, m3⟩ := ih (i + 1) (max least v) _ (by omega) (by omega) (by omega) (by
              rw [mxx_s]
              unfold clp at c1 hcl ⊢
              omega) r2
            refine ⟨w, σ', by rw [mm_lim_go hst]; exact f2, w2, c2, r3, mm_sm_tr (mm_sm_tr (mm_sm_tr (mm_sm_up (mm_sm_rf _ _) (Or.inr (Or.inr ⟨i, by omega, rfl⟩))) m1) (mm_sm_up (mm_sm_rf _ _) (Or.inr (Or.inr ⟨i, by omega, rfl⟩)))) m3⟩
          · refine ⟨least, σ, mm_lim_ret ?_, h2, ?_, hr, mm_sm_rf _ _⟩
            · show fX3_endByTurnsL2_b50 G x (nI (e + 1)) (if true then 1 else 0) (nI lo) (nI hi) (nI least) (nI hi) (nI i) σ = _
              unfold fX3_endByTurnsL2_b50 fX3_endByTurnsL2_b160
              rw [hr.1, if_pos (nI_lt (by omega) (by omega)), if_neg (nI_nlt (by omega) (by omega))]
              rfl
            · have hup := mxx_up (fun i => mv e false (ab_inc A i)) i (r + 1)
              rw [hin] at hup
              unfold clp at hcl ⊢
              omega
      exact key (a_n A) 0 lo σ (by omega) (Nat.le_refl _) (by omega) (by unfold clp; show max lo (min lo hi) = max lo (min 0 hi); omega) hr
    | false =>
      have key : ∀ (r i gr : Nat) (σ : mm_M), i + r = a_n A → gr ≤ hi → clp gr lo hi = clp (mnn (fun i => mv e true (ab_inc A i)) i) lo hi → rA G σ (mm_R G x 9) A → ∃ v σ', mm_lim (fX3_endByTurnsL2_s G x (nI (e + 1)) (if false then 1 else 0) (nI lo) (nI hi)) (nI lo, nI gr, nI i, σ) = some (nI v, σ') ∧ v ≤ 201 ∧ clp v lo hi = clp (mnn (fun i => mv e true (ab_inc A i)) (a_n A)) lo hi ∧ rA G σ' (mm_R G x 9) A ∧ mm_sm (u89 G x) σ σ' := by
        intro r
        induction r with
        | zero =>
          intro i gr σ hin h1 hcl hr
          obtain rfl : i = a_n A := by omega
          refine ⟨gr, σ, mm_lim_ret ?_, by omega, hcl, hr, mm_sm_rf _ _⟩
          show fX3_endByTurnsL2_b50 G x (nI (e + 1)) (if false then 1 else 0) (nI lo) (nI hi) (nI lo) (nI gr) (nI (a_n A)) σ = _
          unfold fX3_endByTurnsL2_b50 fX3_endByTurnsL2_b160
          rw [hr.1, if_neg Int32.lt_irrefl]
          rfl
        | succ r ih =>
          intro i gr σ hin h1 hcl hr
          by_cases hlt : lo < gr
          · obtain ⟨hoi, hli⟩ := inc_ok ho hl (by omega) (show i < a_n A by omega)
            obtain ⟨v, σ1, f1, v1, c1, r1, m1⟩ := dc1 gx e true lo gr (b + 1) t (ab_inc A i) (mm_up σ (sa G (mm_R G x 9) i) 3 (σ.1 (sa G (mm_R G x 9) i) 3 + 1)) (by omega) (by omega) (by omega) ht (by omega) hn hoi hli (ca_inc (gX_ga9 gx) h7 (by omega) hr)
            have r2 := ca_dec (gX_ga9 gx) h7 (show i < a_n A by omega) r1
            have hmin : (if nI v < nI gr then nI v else nI gr) = nI (min gr v) := by
              by_cases c : v < gr
              · rw [if_pos (nI_lt c (by omega)), Nat.min_eq_right (by omega)]
              · rw [if_neg (nI_nlt (by omega) (by omega)), Nat.min_eq_left (by omega)]
            have hst : fX3_endByTurnsL2_s G x (nI (e + 1)) (if false then 1 else 0) (nI lo) (nI hi) (nI lo, nI gr, nI i, σ) = some (.inr (nI lo, nI (min gr v), nI (i + 1), mm_up σ1 (sa G (mm_R G x 9) i) 3 (σ1.1 (sa G (mm_R G x 9) i) 3 - 1))) := by
              show fX3_endByTurnsL2_b50 G x (nI (e + 1)) 0 (nI lo) (nI hi) (nI lo) (nI gr) (nI i) σ = _
              unfold fX3_endByTurnsL2_b50
              rw [hr.1, if_pos (nI_lt (by omega) (by omega)), if_pos (nI_lt hlt (by omega)), g1, nI_clamp (by omega : i < 2 ^ 31), if_neg (ck_n (by omega) (by omega)), if_pos (show (0 : Int32) = 0 from rfl), es]
              unfold fX3_endByTurnsL2_b101
              show (fX3_endByTurnsL1 G x (nI e) (if true then 1 else 0) (nI lo) (nI gr) (mm_up σ (sa G (mm_R G x 9) i) 3 (σ.1 (sa G (mm_R G x 9) i) 3 + 1))).bind _ = _
              rw [f1, Option.bind_some, g1, nI_clamp (by omega : i < 2 ^ 31), if_neg (ck_n (by omega) (by omega)), if_pos (show (0 : Int32) = 0 from rfl), nI_1]
              show some (Sum.inr (nI lo, (if nI v < nI gr then nI v else nI gr), nI (i + 1), mm_up σ1 (sa G (mm_R G x 9) i) 3 (σ1.1 (sa G (mm_R G x 9) i) 3 - 1))) = _
              rw [hmin]
            obtain ⟨w, σ', f2, w2, c2, r3, m3⟩ := ih (i + 1) (min gr v) _ (by omega) (by omega) (by
              rw [mnn_s]
              unfold clp at c1 hcl ⊢
              omega) r2
            refine ⟨w, σ', by rw [mm_lim_go hst]; exact f2, w2, c2, r3, mm_sm_tr (mm_sm_tr (mm_sm_tr (mm_sm_up (mm_sm_rf _ _) (Or.inr (Or.inr ⟨i, by omega, rfl⟩))) m1) (mm_sm_up (mm_sm_rf _ _) (Or.inr (Or.inr ⟨i, by omega, rfl⟩)))) m3⟩
          · refine ⟨gr, σ, mm_lim_ret ?_, by omega, ?_, hr, mm_sm_rf _ _⟩
            · show fX3_endByTurnsL2_b50 G x (nI (e + 1)) (if false then 1 else 0) (nI lo) (nI hi) (nI lo) (nI gr) (nI i) σ = _
              unfold fX3_endByTurnsL2_b50 fX3_endByTurnsL2_b160
              rw [hr.1, if_pos (nI_lt (by omega) (by omega)), if_neg (nI_nlt (by omega) (by omega))]
              rfl
            · have hdn := mnn_dn (fun i => mv e true (ab_inc A i)) i (r + 1)
              rw [hin] at hdn
              unfold clp at hcl ⊢
              omega
      exact key (a_n A) 0 hi σ (by omega) (Nat.le_refl _) (by unfold clp; show max lo (min hi hi) = max lo (min 201 hi); omega) hr
theorem dc3 (gx : gX G x cd) : DC G x (fX3_endByTurnsL3 G x) 3 := by
  intro d late lo hi b t A σ hd hlh hh ht hb hn ho hl hr
  rcases Nat.eq_zero_or_pos d with h0 | hpos
  · subst h0
    obtain ⟨σ', f, r, s⟩ := cx_leaf gx ht ho hr
    refine ⟨eN A, σ', ?_, (eN_e A).2, rfl, r, s⟩
    unfold fX3_endByTurnsL3 fX3_endByTurnsL3_b0
    rw [if_neg (show ¬ (0 : Int32) < nI 0 by decide), f]
    rfl
  · obtain ⟨e, rfl⟩ : ∃ e, d = e + 1 := ⟨d - 1, by omega⟩
    have h7 := ho.1
    have hrun : fX3_endByTurnsL3 G x (nI (e + 1)) (if late then 1 else 0) (nI lo) (nI hi) σ = mm_lim (fX3_endByTurnsL3_s G x (nI (e + 1)) (if late then 1 else 0) (nI lo) (nI hi)) (nI lo, nI hi, nI 0, σ) := by
      unfold fX3_endByTurnsL3 fX3_endByTurnsL3_b0
      rw [if_pos (show (0 : Int32) < nI (e + 1) from nI_lt (show 0 < e + 1 by omega) (by omega)), mm_run_go]
      rfl
    rw [hrun]
    have g1 : mm_N G (mm_R G (mm_R G x 9) 0) = 7 := (gX_ga9 gx).1
    have es : nI (e + 1) - 1 = nI e := by
      rw [show (1 : Int32) = nI 1 from rfl, pk_sub (by omega)]; rfl
    cases late with
    | true =>
      have key : ∀ (r i least : Nat) (σ : mm_M), i + r = a_n A → lo ≤ least → least ≤ 201 → clp least lo hi = clp (mxx (fun i => mv e false (ab_inc A i)) i) lo hi → rA G σ (mm_R G x 9) A → ∃ v σ', mm_lim (fX3_endByTurnsL3_s G x (nI (e + 1)) (if true then 1 else 0) (nI lo) (nI hi)) (nI least, nI hi, nI i, σ) = some (nI v, σ') ∧ v ≤ 201 ∧ clp v lo hi = clp (mxx (fun i => mv e false (ab_inc A i)) (a_n A)) lo hi ∧ rA G σ' (mm_R G x 9) A ∧ mm_sm (u89 G x) σ σ' := by
        intro r
        induction r with
        | zero =>
          intro i least σ hin h1 h2 hcl hr
          obtain rfl : i = a_n A := by omega
          refine ⟨least, σ, mm_lim_ret ?_, h2, hcl, hr, mm_sm_rf _ _⟩
          show fX3_endByTurnsL3_b50 G x (nI (e + 1)) (if true then 1 else 0) (nI lo) (nI hi) (nI least) (nI hi) (nI (a_n A)) σ = _
          unfold fX3_endByTurnsL3_b50 fX3_endByTurnsL3_b160
          rw [hr.1, if_neg Int32.lt_irrefl]
          rfl
        | succ r ih =>
          intro i least σ hin h1 h2 hcl hr
          by_cases hlt : least < hi
          · obtain ⟨hoi, hli⟩ := inc_ok ho hl (by omega) (show i < a_n A by omega)
            obtain ⟨v, σ1, f1, v1, c1, r1, m1⟩ := dc2 gx e false least hi (b + 1) t (ab_inc A i) (mm_up σ (sa G (mm_R G x 9) i) 3 (σ.1 (sa G (mm_R G x 9) i) 3 + 1)) (by omega) (by omega) hh ht (by omega) hn hoi hli (ca_inc (gX_ga9 gx) h7 (by omega) hr)
            have r2 := ca_dec (gX_ga9 gx) h7 (show i < a_n A by omega) r1
            have hmax : (if nI least < nI v then nI v else nI least) = nI (max least v) := by
              by_cases c : least < v
              · rw [if_pos (nI_lt c (by omega)), Nat.max_eq_right (by omega)]
              · rw [if_neg (nI_nlt (by omega) (by omega)), Nat.max_eq_left (by omega)]
            have hst : fX3_endByTurnsL3_s G x (nI (e + 1)) (if true then 1 else 0) (nI lo) (nI hi) (nI least, nI hi, nI i, σ) = some (.inr (nI (max least v), nI hi, nI (i + 1), mm_up σ1 (sa G (mm_R G x 9) i) 3 (σ1.1 (sa G (mm_R G x 9) i) 3 - 1))) := by
              show fX3_endByTurnsL3_b50 G x (nI (e + 1)) 1 (nI lo) (nI hi) (nI least) (nI hi) (nI i) σ = _
              unfold fX3_endByTurnsL3_b50
              rw [hr.1, if_pos (nI_lt (by omega) (by omega)), if_pos (nI_lt hlt (by omega)), g1, nI_clamp (by omega : i < 2 ^ 31), if_neg (ck_n (by omega) (by omega)), if_neg (show ¬ (1 : Int32) = 0 by decide), es]
              unfold fX3_endByTurnsL3_b101
              show (fX3_endByTurnsL2 G x (nI e) (if false then 1 else 0) (nI least) (nI hi) (mm_up σ (sa G (mm_R G x 9) i) 3 (σ.1 (sa G (mm_R G x 9) i) 3 + 1))).bind _ = _
              rw [f1, Option.bind_some, g1, nI_clamp (by omega : i < 2 ^ 31), if_neg (ck_n (by omega) (by omega)), if_neg (show ¬ (1 : Int32) = 0 by decide), nI_1]
              show some (Sum.inr ((if nI least < nI v then nI v else nI least), nI hi, nI (i + 1), mm_up σ1 (sa G (mm_R G x 9) i) 3 (σ1.1 (sa G (mm_R G x 9) i) 3 - 1))) = _
              rw [hmax]
            obtain ⟨w, σ', f2, w2, c2, r3, m3⟩ := ih (i + 1) (max least v) _ (by omega) (by omega) (by omega) (by
              rw [mxx_s]
              unfold clp at c1 hcl ⊢
              omega) r2
            refine ⟨w, σ', by rw [mm_lim_go hst]; exact f2, w2, c2, r3, mm_sm_tr (mm_sm_tr (mm_sm_tr (mm_sm_up (mm_sm_rf _ _) (Or.inr (Or.inr ⟨i, by omega, rfl⟩))) m1) (mm_sm_up (mm_sm_rf _ _) (Or.inr (Or.inr ⟨i, by omega, rfl⟩)))) m3⟩
          · refine ⟨least, σ, mm_lim_ret ?_, h2, ?_, hr, mm_sm_rf _ _⟩
            · show fX3_endByTurnsL3_b50 G x (nI (e + 1)) (if true then 1 else 0) (nI lo) (nI hi) (nI least) (nI hi) (nI i) σ = _
              unfold fX3_endByTurnsL3_b50 fX3_endByTurnsL3_b160
              rw [hr.1, if_pos (nI_lt (by omega) (by omega)), if_neg (nI_nlt (by omega) (by omega))]
              rfl
            · have hup := mxx_up (fun i => mv e false (ab_inc A i)) i (r + 1)
              rw [hin] at hup
              unfold clp at hcl ⊢
              omega
      exact key (a_n A) 0 lo σ (by omega) (Nat.le_refl _) (by omega) (by unfold clp; show max lo (min lo hi) = max lo (min 0 hi); omega) hr
    | false =>
      have key : ∀ (r i gr : Nat) (σ : mm_M), i + r = a_n A → gr ≤ hi → clp gr lo hi = clp (mnn (fun i => mv e true (ab_inc A i)) i) lo hi → rA G σ (mm_R G x 9) A → ∃ v σ', mm_lim (fX3_endByTurnsL3_s G x (nI (e + 1)) (if false then 1 else 0) (nI lo) (nI hi)) (nI lo, nI gr, nI i, σ) = some (nI v, σ') ∧ v ≤ 201 ∧ clp v lo hi = clp (mnn (fun i => mv e true (ab_inc A i)) (a_n A)) lo hi ∧ rA G σ' (mm_R G x 9) A ∧ mm_sm (u89 G x) σ σ' := by
        intro r
        induction r with
        | zero =>
          intro i gr σ hin h1 hcl hr
          obtain rfl : i = a_n A := by omega
          refine ⟨gr, σ, mm_lim_ret ?_, by omega, hcl, hr, mm_sm_rf _ _⟩
          show fX3_endByTurnsL3_b50 G x (nI (e + 1)) (if false then 1 else 0) (nI lo) (nI hi) (nI lo) (nI gr) (nI (a_n A)) σ = _
          unfold fX3_endByTurnsL3_b50 fX3_endByTurnsL3_b160
          rw [hr.1, if_neg Int32.lt_irrefl]
          rfl
        | succ r ih =>
          intro i gr σ hin h1 hcl hr
          by_cases hlt : lo < gr
          · obtain ⟨hoi, hli⟩ := inc_ok ho hl (by omega) (show i < a_n A by omega)
            obtain ⟨v, σ1, f1, v1, c1, r1, m1⟩ := dc2 gx e true lo gr (b + 1) t (ab_inc A i) (mm_up σ (sa G (mm_R G x 9) i) 3 (σ.1 (sa G (mm_R G x 9) i) 3 + 1)) (by omega) (by omega) (by omega) ht (by omega) hn hoi hli (ca_inc (gX_ga9 gx) h7 (by omega) hr)
            have r2 := ca_dec (gX_ga9 gx) h7 (show i < a_n A by omega) r1
            have hmin : (if nI v < nI gr then nI v else nI gr) = nI (min gr v) := by
              by_cases c : v < gr
              · rw [if_pos (nI_lt c (by omega)), Nat.min_eq_right (by omega)]
              · rw [if_neg (nI_nlt (by omega) (by omega)), Nat.min_eq_left (by omega)]
            have hst : fX3_endByTurnsL3_s G x (nI (e + 1)) (if false then 1 else 0) (nI lo) (nI hi) (nI lo, nI gr, nI i, σ) = some (.inr (nI lo, nI (min gr v), nI (i + 1), mm_up σ1 (sa G (mm_R G x 9) i) 3 (σ1.1 (sa G (mm_R G x 9) i) 3 - 1))) := by
              show fX3_endByTurnsL3_b50 G x (nI (e + 1)) 0 (nI lo) (nI hi) (nI lo) (nI gr) (nI i) σ = _
              unfold fX3_endByTurnsL3_b50
              rw [hr.1, if_pos (nI_lt (by omega) (by omega)), if_pos (nI_lt hlt (by omega)), g1, nI_clamp (by omega : i < 2 ^ 31), if_neg (ck_n (by omega) (by omega)), if_pos (show (0 : Int32) = 0 from rfl), es]
              unfold fX3_endByTurnsL3_b101
              show (fX3_endByTurnsL2 G x (nI e) (if true then 1 else 0) (nI lo) (nI gr) (mm_up σ (sa G (mm_R G x 9) i) 3 (σ.1 (sa G (mm_R G x 9) i) 3 + 1))).bind _ = _
              rw [f1, Option.bind_some, g1, nI_clamp (by omega : i < 2 ^ 31), if_neg (ck_n (by omega) (by omega)), if_pos (show (0 : Int32) = 0 from rfl), nI_1]
              show some (Sum.inr (nI lo, (if nI v < nI gr then nI v else nI gr), nI (i + 1), mm_up σ1 (sa G (mm_R G x 9) i) 3 (σ1.1 (sa G (mm_R G x 9) i) 3 - 1))) = _
              rw [hmin]
            obtain ⟨w, σ', f2, w2, c2, r3, m3⟩ := ih (i + 1) (min gr v) _ (by omega) (by omega) (by
              rw [mnn_s]
              unfold clp at c1 hcl ⊢
              omega) r2
            refine ⟨w, σ', by rw [mm_lim_go hst]; exact f2, w2, c2, r3, mm_sm_tr (mm_sm_tr (mm_sm_tr (mm_sm_up (mm_sm_rf _ _) (Or.inr (Or.inr ⟨i, by omega, rfl⟩))) m1) (mm_sm_up (mm_sm_rf _ _) (Or.inr (Or.inr ⟨i, by omega, rfl⟩)))) m3⟩
          · refine ⟨gr, σ, mm_lim_ret ?_, by omega, ?_, hr, mm_sm_rf _ _⟩
            · show fX3_endByTurnsL3_b50 G x (nI (e + 1)) (if false then 1 else 0) (nI lo) (nI hi) (nI lo) (nI gr) (nI i) σ = _
              unfold fX3_endByTurnsL3_b50 fX3_endByTurnsL3_b160
              rw [hr.1, if_pos (nI_lt (by omega) (by omega)), if_neg (nI_nlt (by omega) (by omega))]
              rfl
            · have hdn := mnn_dn (fun i => mv e true (ab_inc A i)) i (r + 1)
              rw [hin] at hdn
              unfold clp at hcl ⊢
              omega
      exact key (a_n A) 0 hi σ (by omega) (Nat.le_refl _) (by unfold clp; show max lo (min hi hi) = max lo (min 201 hi); omega) hr
theorem cx_duel (gx : gX G x cd) (ok : okP Y) {d : Nat} (hd : d ≤ 3) (hz : ¬ a_n (p_A Y) = 0) (σ : mm_M) (hc : CR G x σ Y) : ∃ σ', fX3_duel G x (nI d) σ = some (nI (mv d true (p_A Y)), σ') ∧ mm_sm (qX cd) σ σ' := by
  obtain ⟨t, ht, et, ho, hlt⟩ := okP_A ok
  have h7 := ho.1
  obtain ⟨σ1, f1, r1, m1⟩ := ca_become (gX_ga9 gx) (gX_ga5 gx) (fun b q1 q2 => by
    have w1 := gX_ic9 gx q1
    have w2 := gX_ic5 gx q2
    unfold rg at w1 w2
    omega) hc.2.2.1 ho
  obtain ⟨r, σ2, f2, v2, c2, -, m2⟩ := dc3 gx d true 0 201 30 t (p_A Y) σ1 hd (by omega) (by omega) ht (by omega) (by omega) ho hlt r1
  have e : r = mv d true (p_A Y) := by
    have := mv_le d true (p_A Y)
    unfold clp at c2
    omega
  refine ⟨σ2, ?_, mm_sm_tr (mm_sm_mono m1 (ic9_q gx)) (mm_sm_mono m2 (fun b q => by
    rcases q with q | q
    · exact ic8_q gx b q
    · exact ic9_q gx b q))⟩
  unfold fX3_duel
  rw [if_neg (nI_pos (by omega)), if_neg (show ¬ (3 : Int32) < nI d from nI_nlt (show d ≤ 3 from hd) (by decide)), if_neg (show ¬ σ.1 (mm_R G x 5) 1 = 0 by rw [hc.2.2.1.1]; exact nI_ne0 (by omega) (by omega)), f1, Option.bind_some, be, ← e]
  exact f2
end DU
