/-! lots -/
def lotN (l : Nat) : Nat := l * 48271 % 2147483647
def lotd (A : ab_A) (l : Nat) : p_Dd := if l % 8 < 2 then (if s_lt (a_st A (l / 8 % a_n A)) < 30 then (2, l / 8 % a_n A, 1) else (0, 0, 0)) else if l % 8 = 2 then (3, l / 8 % a_n A, 0) else if a_sl A < 199 then (1, 0, 0) else (0, 0, 0)
theorem lotN_lt (l : Nat) : lotN l < 2147483647 := Nat.mod_lt _ (by decide)
section LO
variable {G : mm_G} {x m : Nat} {cd : Nat → Nat} {Y : Ps}
def y_lot (Y : Ps) (l : Nat) : Ps := y_deed Y (p_D Y ++ [lotd (p_A Y) l])
def y_lots (Y : Ps) (l : Nat) : Nat → Ps
  | 0 => Y
  | k + 1 => y_lot (y_lots Y l k) (Nat.repeat lotN (k + 1) l)
theorem lotd_okd {A : ab_A} {l : Nat} (hn : 1 ≤ a_n A) : okd (a_n A) (lotd A l) := by
  have h := Nat.mod_lt (l / 8) (show a_n A > 0 by omega)
  unfold lotd
  split
  · split
    · exact ⟨show 2 ≤ 4 by decide, h, show 1 ≤ 9 by decide⟩
    · exact ⟨show 0 ≤ 4 by decide, show 0 < a_n A by omega, show 0 ≤ 9 by decide⟩
  · split
    · exact ⟨show 3 ≤ 4 by decide, h, show 0 ≤ 9 by decide⟩
    · split
      · exact ⟨show 1 ≤ 4 by decide, show 0 < a_n A by omega, show 0 ≤ 9 by decide⟩
      · exact ⟨show 0 ≤ 4 by decide, show 0 < a_n A by omega, show 0 ≤ 9 by decide⟩
theorem lotd_okA {A : ab_A} {l : Nat} (hn : 1 ≤ a_n A) (h : okA A) : okA (ab_act A (lotd A l)) := by
  have hm := Nat.mod_lt (l / 8) (show a_n A > 0 by omega)
  obtain ⟨t, ht, et, ho, hlt⟩ := id h
  obtain ⟨kk, f, p, l2, w, c, es, b1, b2, b3, b4, b5, b6, b7⟩ := ho.2.2.2 (l / 8 % a_n A) hm
  obtain ⟨l3, hl3, el3⟩ := hlt (l / 8 % a_n A) hm
  unfold lotd
  split
  · split
    · rename_i hc
      rw [el3] at hc
      have h30 : l3 < 30 := by
        rcases Nat.lt_or_ge l3 30 with q | q
        · exact q
        · exact absurd hc (nI_nlt q (by omega))
      refine okA_set (l := l3 + 1) ht et ho hlt ?_ (by omega) ?_
      · refine ⟨kk, f, p, l3 + 1, w, c, ?_, b1, b2, b3, b4, by omega, b6, b7⟩
        have el : nI l2 = nI l3 := by rw [← el3, es]
        show s_give (a_st A (l / 8 % a_n A)) (nI 1) = _
        rw [es]
        show (nI kk, nI f, nI p, nI l2 + nI 1, nI w, nI c) = _
        rw [el, nI_add]
      · show s_lt (a_st A (l / 8 % a_n A)) + nI 1 = _
        rw [el3, nI_add]
    · exact h
  · split
    · refine okA_set (l := 0) ht et ho hlt ?_ (by omega) rfl
      refine ⟨kk, f, p, 0, 0, 0, ?_, b1, b2, b3, b4, by omega, by omega, by omega⟩
      show s_drop (a_st A (l / 8 % a_n A)) = _
      rw [es]
      rfl
    · split
      · rename_i hc
        rw [et] at hc
        refine okA_go ?_ et ho hlt
        rcases Nat.lt_or_ge t 199 with q | q
        · exact q
        · exact absurd hc (nI_nlt q (by omega))
      · exact h
theorem cx_lotd (gx : gX G x cd) (ok : okP Y) {l : Nat} (hl : l < 2 ^ 31) (hn : 1 ≤ a_n (p_A Y)) {σ : mm_M} (hc : CR G x σ Y) : fX3_deedByLot G x (nI l) σ = some (p_code (lotd (p_A Y) l), σ) := by
  obtain ⟨t, ht, et, ho, hlt⟩ := okP_A ok
  have h7 := ho.1
  have hm := Nat.mod_lt (l / 8) (show a_n (p_A Y) > 0 by omega)
  have e8 : nI l / 8 = nI (l / 8) := pk_div hl (d := 8) (by decide) (by decide)
  have r8 : nI l - nI l / 8 * 8 = nI (l % 8) := pk_rem hl (d := 8) (by decide) (by decide)
  have hlt8 : l % 8 < 8 := Nat.mod_lt _ (by decide)
  have hd8 : l / 8 < 2 ^ 31 := by omega
  have hst := hc.2.2.1.2.2.2.2.2 (l / 8 % a_n (p_A Y)) hm
  have e3 : σ.1 (mm_R G (mm_R G (mm_R G x 5) 0) (l / 8 % a_n (p_A Y))) 3 = s_lt (a_st (p_A Y) (l / 8 % a_n (p_A Y))) := congrArg (fun s : ab_S => s_lt s) hst
  have d0 : ∀ σ, fX3_deedOf G 0 0 0 σ = some (p_code (0, 0, 0), σ) := fun σ => deed_code σ
  have d1 : ∀ σ, fX3_deedOf G 1 0 0 σ = some (p_code (1, 0, 0), σ) := fun σ => deed_code σ
  have d2 : ∀ σ, fX3_deedOf G 2 (nI (l / 8 % a_n (p_A Y))) 1 σ = some (p_code (2, l / 8 % a_n (p_A Y), 1), σ) := fun σ => deed_code σ
  have d3 : ∀ σ, fX3_deedOf G 3 (nI (l / 8 % a_n (p_A Y))) 0 σ = some (p_code (3, l / 8 % a_n (p_A Y), 0), σ) := fun σ => deed_code σ
  unfold fX3_deedByLot
  rw [hc.2.2.1.1, if_neg (show ¬ nI (a_n (p_A Y)) < 1 from nI_nlt (show 1 ≤ a_n (p_A Y) from hn) (by omega)), if_neg (show ¬ (8 : Int32) = 0 by decide), if_neg (nI_ne0 (by omega) (by omega)), e8, pk_rem hd8 (by omega) (by omega)]
  unfold fX3_deedByLot_b27 fX3_deedByLot_b60
  rw [if_neg (show ¬ (8 : Int32) = 0 by decide), r8, (gX_ga5 gx).1, nI_clamp (by omega : l / 8 % a_n (p_A Y) < 2 ^ 31), if_neg (ck_n (by omega) (by omega)), e3, hc.2.2.1.2.1, d0, d1, d2, d3]
  unfold lotd
  by_cases c2 : l % 8 < 2
  · rw [if_neg (show ¬ (1 : Int32) < nI (l % 8) from nI_nlt (show l % 8 ≤ 1 by omega) (by decide)), if_pos c2]
    by_cases c30 : s_lt (a_st (p_A Y) (l / 8 % a_n (p_A Y))) < 30
    · rw [if_pos c30, if_pos c30]; rfl
    · rw [if_neg c30, if_neg c30]; rfl
  · rw [if_pos (show (1 : Int32) < nI (l % 8) from nI_lt (show 1 < l % 8 by omega) (by omega)), if_neg c2]
    by_cases c3 : l % 8 = 2
    · rw [if_pos (show nI (l % 8) = 2 by rw [c3]; rfl), if_pos c3]; rfl
    · rw [if_neg (show ¬ nI (l % 8) = 2 from fun q => c3 ((nI_eq (b := 2) (by omega) (by decide)).mp q)), if_neg c3]
      by_cases c199 : a_sl (p_A Y) < 199
      · rw [if_pos c199, if_pos c199]; rfl
      · rw [if_neg c199, if_neg c199]; rfl
theorem rep_s (l k : Nat) : Nat.repeat lotN (k + 1) l = lotN (Nat.repeat lotN k l) := rfl
theorem yl_n (Y : Ps) (l : Nat) : ∀ k, a_n (p_A (y_lots Y l k)) = a_n (p_A Y) ∧ (p_D (y_lots Y l k)).length = (p_D Y).length + k ∧ p_B (y_lots Y l k) = p_B Y
  | 0 => ⟨rfl, rfl, rfl⟩
  | k + 1 => by
    obtain ⟨h1, h2, h3⟩ := yl_n Y l k
    refine ⟨?_, ?_, h3⟩
    · show a_n (ab_acts (p_B (y_lots Y l k)) (p_D (y_lots Y l k) ++ [lotd (p_A (y_lots Y l k)) (Nat.repeat lotN (k + 1) l)])) = _
      rw [ab_acts_s, ab_act_n]; exact h1
    · show (p_D (y_lots Y l k) ++ [lotd (p_A (y_lots Y l k)) (Nat.repeat lotN (k + 1) l)]).length = _
      rw [List.length_append, h2]; rfl
theorem yl_ok (ok : okP Y) {l : Nat} (hn : 1 ≤ a_n (p_A Y)) : ∀ k, (p_D Y).length + k ≤ 40 → okP (y_lots Y l k)
  | 0, _ => ok
  | k + 1, h => by
    have ih := yl_ok ok (l := l) hn k (by omega)
    obtain ⟨h1, h2, h3⟩ := yl_n Y l k
    have hn' : 1 ≤ a_n (p_A (y_lots Y l k)) := by rw [h1]; exact hn
    refine okP_deed ih (okL_s ih.2.2.2.1 (by omega) ?_ (lotd_okA hn' (okP_A ih)))
    have := lotd_okd (l := Nat.repeat lotN (k + 1) l) hn'
    rw [show a_n (p_A (y_lots Y l k)) = a_n (p_B (y_lots Y l k)) from ab_acts_n _ _] at this
    exact this
theorem lot64 {l : Nat} (hl : l < 2147483647) : lN l * (48271 : Int64) - lN l * (48271 : Int64) / (2147483647 : Int64) * (2147483647 : Int64) = lN (lotN l) := by
  rw [show (48271 : Int64) = lN 48271 from rfl, show (2147483647 : Int64) = lN 2147483647 from rfl, lN_mul, pk_lRem (by omega) (by decide) (by decide)]
  rfl
theorem cx_lots (gx : gX G x cd) (ok : okP Y) {n l : Nat} (hn20 : n ≤ 20) (hl : l < 2147483647) (x2 : Int32) (hn : 1 ≤ a_n (p_A Y)) (hlen : (p_D Y).length + n ≤ 40) (σ : mm_M) (hc : CR G x σ Y) : ∃ σ', mm_lim (fX3_lots_s G x (nI n) x2) (lN l, nI 0, σ) = some (a_hd (p_A (y_lots Y l n)), σ') ∧ CR G x σ' (y_lots Y l n) ∧ mm_sn (rX cd) σ σ' := by
  obtain ⟨s, l1, σ1, rfl, c1, s1⟩ := mm_loop (f := fX3_lots_s G x (nI n) x2) (fun k s => ∃ σ', s = (lN (Nat.repeat lotN k l), nI k, σ') ∧ CR G x σ' (y_lots Y l k) ∧ mm_sn (rX cd) σ σ') n (fun k s hk hI => by
    obtain ⟨σ1, rfl, c1, s1⟩ := hI
    have okk := yl_ok ok (l := l) hn k (by omega)
    obtain ⟨h1, h2, h3⟩ := yl_n Y l k
    have hn' : 1 ≤ a_n (p_A (y_lots Y l k)) := by rw [h1]; exact hn
    have hlk : Nat.repeat lotN k l < 2147483647 := by
      cases k with
      | zero => exact hl
      | succ k => exact lotN_lt _
    have hd := lotd_okd (l := Nat.repeat lotN (k + 1) l) hn'
    rw [show a_n (p_A (y_lots Y l k)) = a_n (p_B (y_lots Y l k)) from ab_acts_n _ _] at hd
    obtain ⟨σ2, f2, c2, s2⟩ := cx_deed gx okk (by omega) hd σ1 c1
    refine ⟨_, mm_lim_go (s' := (lN (Nat.repeat lotN (k + 1) l), nI (k + 1), σ2)) ?_, σ2, rfl, c2, mm_sn_tr s1 s2⟩
    have hl1 := lotN_lt (Nat.repeat lotN k l)
    show fX3_lots_b60 G x (nI n) x2 (lN (Nat.repeat lotN k l)) (nI k) σ1 = _
    unfold fX3_lots_b60
    rw [if_pos (nI_lt hk (by omega)), if_neg (show ¬ (2147483647 : Int64) = 0 by decide), lot64 hlk, lN_i, ← rep_s, cx_lotd gx okk (by rw [rep_s]; omega) hn' c1, Option.bind_some]
    show (fX3_carryOut G x (p_code (lotd (p_A (y_lots Y l k)) (Nat.repeat lotN (k + 1) l))) σ1).bind _ = _
    rw [f2, nI_1]
    rfl) (lN l, nI 0, σ) ⟨σ, rfl, hc, mm_sn_rf _ _⟩
  refine ⟨σ1, ?_, c1, s1⟩
  rw [l1]
  refine mm_lim_ret ?_
  show fX3_lots_b60 G x (nI n) x2 _ (nI n) σ1 = _
  unfold fX3_lots_b60
  rw [if_neg Int32.lt_irrefl, c1.2.2.1.2.2.1]
/-- a deed by lot, on the model's side -/
theorem ml_lotd (gm : gM G m cd) (ok : okP Y) {n k l : Nat} {x2 : Int32} (hk : k < n) (hn20 : n ≤ 20) (hl : l < 2147483647) (hn : 1 ≤ a_n (p_A Y)) (hlen : (p_D Y).length < 40) (σ : mm_M) (hc : MR G m σ Y) : ∃ σ', fX4_lots_s G m (nI n) x2 (lN l, nI k, σ) = some (.inr (lN (lotN l), nI (k + 1), σ')) ∧ MR G m σ' (y_lot Y (lotN l)) ∧ mm_sn (rY cd) σ σ' := by
  obtain ⟨t, ht, et, ho, hlt⟩ := okP_A ok
  have h7 := ho.1
  obtain ⟨-, e0, -, -, -, -, -, ⟨e26, eN5⟩, -, -, -, ⟨e30, eN9⟩, -⟩ := id gm
  have hL := lotN_lt l
  generalize hLL : lotN l = L at hL
  have hm := Nat.mod_lt (L / 8) (show a_n (p_A Y) > 0 by omega)
  generalize hi : L / 8 % a_n (p_A Y) = i at hm
  have hm8 : L % 8 < 8 := Nat.mod_lt _ (by decide)
  obtain ⟨σ1, e1, z1, z2, z3, z4, z5⟩ := ml_does gm ok hlen σ hc
  have hr1 : rM σ1 (mm_R G m 5) (p_A Y) 0 := rM_sm z5 (fun q => by
    rcases q with q | q
    · rw [q, e0] at e26; omega
    · rw [q, e30] at e26; omega) h7 hc.2.2.1
  have e11 : σ1.1 (mm_R G m 5) (11 + i) = s_lt (a_st (p_A Y) i) := congrArg (fun s : ab_S => s_lt s) (hr1.2.2.2.2.2.2 i hm)
  have hb : fX4_lots_s G m (nI n) x2 (lN l, nI k, σ) = if nI (L % 8) < 2 then some (.inr (lN L, nI (k + 1), mm_up σ1 (mm_R G m 5) (11 + i) (s_lt (a_st (p_A Y) i) + (if s_lt (a_st (p_A Y) i) < 30 then 1 else 0)))) else if nI (L % 8) = 2 then some (.inr (lN L, nI (k + 1), mm_up (mm_up (mm_up σ1 (mm_R G m 5) (11 + i) 0) (mm_R G m 5) (18 + i) 0) (mm_R G m 5) (25 + i) 0)) else if a_sl (p_A Y) < 199 then (fX4_goes G (mm_R G m 5) σ1).bind (fun q => some (.inr (lN L, nI (k + 1), q.2))) else some (.inr (lN L, nI (k + 1), σ1)) := by
    have hdr : fX4_drops G (mm_R G m 5) (nI i) σ1 = some (mm_up (mm_up (mm_up σ1 (mm_R G m 5) (11 + i) 0) (mm_R G m 5) (18 + i) 0) (mm_R G m 5) (25 + i) 0) := by
      unfold fX4_drops
      rw [eN5, ad11, ad18, ad25, nI_clamp (by omega : 11 + i < 2 ^ 31), nI_clamp (by omega : 18 + i < 2 ^ 31), nI_clamp (by omega : 25 + i < 2 ^ 31), if_neg (kcn (by omega)), if_neg (kcn (by omega)), if_neg (kcn (by omega))]
    show fX4_lots_b55 G m (nI n) x2 (lN l) (nI k) σ = _
    unfold fX4_lots_b55 fX4_lots_b137
    rw [if_pos (nI_lt hk (by omega)), if_neg (show ¬ (2147483647 : Int64) = 0 by decide), if_neg (show ¬ (8 : Int64) = 0 by decide), eN5, tc32, if_neg kc32, hc.2.2.1.1, nI_l (show a_n (p_A Y) < 2 ^ 31 by omega), if_neg (lN0 (by omega) (by omega)), if_neg (show ¬ (8 : Int64) = 0 by decide), lot64 hl, hLL, show (8 : Int64) = lN 8 from rfl, pk_lDiv (show L < 2 ^ 63 by omega) (by decide) (by decide), pk_lRem (show L / 8 < 2 ^ 63 by omega) (show 0 < a_n (p_A Y) by omega) (by omega), hi, lN_mul, show lN L - lN (L / 8 * 8) = lN (L % 8) from by rw [lN_sub (Nat.div_mul_le_self L 8)]; congr 1; omega, lN_i, lN_i, e1, Option.bind_some, ad11, nI_clamp (by omega : 11 + i < 2 ^ 31), if_neg (kcn (by omega)), if_neg (kcn (by omega)), if_neg (kcn (by omega)), e11, hdr, tc0, if_neg kc0, hr1.2.1, nI_1]
    rfl
  have hdeed : lotd (p_A Y) L = if L % 8 < 2 then (if s_lt (a_st (p_A Y) i) < 30 then (2, i, 1) else (0, 0, 0)) else if L % 8 = 2 then (3, i, 0) else if a_sl (p_A Y) < 199 then (1, 0, 0) else (0, 0, 0) := by
    unfold lotd
    rw [hi]
  have fin : ∀ σ2, fX4_lots_s G m (nI n) x2 (lN l, nI k, σ) = some (.inr (lN L, nI (k + 1), σ2)) → rM σ2 (mm_R G m 5) (ab_act (p_A Y) (lotd (p_A Y) L)) 0 → mm_sm (fun b => b = mm_R G m 5) σ1 σ2 → ∃ σ', fX4_lots_s G m (nI n) x2 (lN l, nI k, σ) = some (.inr (lN L, nI (k + 1), σ')) ∧ MR G m σ' (y_lot Y L) ∧ mm_sn (rY cd) σ σ' := fun σ2 f2 r2 m2 => by
    obtain ⟨c, s⟩ := ml_deed gm ok hlen hc z1 z2 z3 z4 z5 m2 r2
    exact ⟨σ2, f2, c, s⟩
  by_cases c2 : L % 8 < 2
  · rw [if_pos (show nI (L % 8) < 2 from nI_lt (b := 2) c2 (by decide))] at hb
    rw [if_pos c2] at hdeed
    by_cases c30 : s_lt (a_st (p_A Y) i) < 30
    · rw [if_pos c30] at hb hdeed
      refine fin _ hb ?_ (mm_sm_up (mm_sm_rf _ _) rfl)
      rw [hdeed]
      refine ml_set h7 hm hr1 ?_ (fun j _ h11 _ _ _ _ => mm_gk h11)
      show _ = s_give (a_st (p_A Y) i) (nI 1)
      rw [← hr1.2.2.2.2.2.2 i hm]
      unfold ms
      rw [mm_gk (show 33 + i ≠ 11 + i by omega), mm_gk (show 4 + i ≠ 11 + i by omega), mm_gk (show 40 + i ≠ 11 + i by omega), mm_gk (show 18 + i ≠ 11 + i by omega), mm_gk (show 25 + i ≠ 11 + i by omega), mm_gs]
      rfl
    · rw [if_neg c30] at hb hdeed
      refine fin _ hb ?_ (mm_sm_up (mm_sm_rf _ _) rfl)
      rw [hdeed, Int32.add_zero, ← e11, mm_up_id]
      exact hr1
  · rw [if_neg (show ¬ nI (L % 8) < 2 from nI_nlt (show 2 ≤ L % 8 by omega) (by omega))] at hb
    rw [if_neg c2] at hdeed
    by_cases c3 : L % 8 = 2
    · rw [if_pos (show nI (L % 8) = 2 by rw [c3]; rfl)] at hb
      rw [if_pos c3] at hdeed
      refine fin _ hb ?_ (mm_sm_up (mm_sm_up (mm_sm_up (mm_sm_rf _ _) rfl) rfl) rfl)
      rw [hdeed]
      refine ml_set h7 hm hr1 ?_ (fun j _ h11 h18 h25 _ _ => by rw [mm_gk h25, mm_gk h18, mm_gk h11])
      show _ = s_drop (a_st (p_A Y) i)
      rw [← hr1.2.2.2.2.2.2 i hm]
      unfold ms
      rw [mm_gk (show 33 + i ≠ 25 + i by omega), mm_gk (show 33 + i ≠ 18 + i by omega), mm_gk (show 33 + i ≠ 11 + i by omega), mm_gk (show 4 + i ≠ 25 + i by omega), mm_gk (show 4 + i ≠ 18 + i by omega), mm_gk (show 4 + i ≠ 11 + i by omega), mm_gk (show 40 + i ≠ 25 + i by omega), mm_gk (show 40 + i ≠ 18 + i by omega), mm_gk (show 40 + i ≠ 11 + i by omega), mm_gk (show 11 + i ≠ 25 + i by omega), mm_gk (show 11 + i ≠ 18 + i by omega), mm_gs, mm_gk (show 18 + i ≠ 25 + i by omega), mm_gs, mm_gs]
      rfl
    · rw [if_neg (show ¬ nI (L % 8) = 2 from fun q => c3 ((nI_eq (b := 2) (by omega) (by decide)).mp q))] at hb
      rw [if_neg c3] at hdeed
      by_cases c199 : a_sl (p_A Y) < 199
      · rw [if_pos c199] at hb hdeed
        obtain ⟨σ2, f2, r2, m2⟩ := ml_goes eN5 hr1 ho (by omega)
        rw [f2] at hb
        refine fin σ2 hb ?_ m2
        rw [hdeed]
        exact r2
      · rw [if_neg c199] at hb hdeed
        refine fin _ hb ?_ (mm_sm_rf _ _)
        rw [hdeed]
        exact hr1
theorem ml_lots (gm : gM G m cd) (ok : okP Y) {n l : Nat} (hn20 : n ≤ 20) (hl : l < 2147483647) (x2 : Int32) (hn : 1 ≤ a_n (p_A Y)) (hlen : (p_D Y).length + n ≤ 40) (σ : mm_M) (hc : MR G m σ Y) : ∃ σ', mm_lim (fX4_lots_s G m (nI n) x2) (lN l, nI 0, σ) = some (a_hd (p_A (y_lots Y l n)), σ') ∧ MR G m σ' (y_lots Y l n) ∧ mm_sn (rY cd) σ σ' := by
  obtain ⟨n57, M5, M7, q7⟩ := gM_57 gm
  obtain ⟨s, l1, σ1, rfl, c1, s1⟩ := mm_loop (f := fX4_lots_s G m (nI n) x2) (fun k s => ∃ σ', s = (lN (Nat.repeat lotN k l), nI k, σ') ∧ MR G m σ' (y_lots Y l k) ∧ mm_sn (rY cd) σ σ') n (fun k s hk hI => by
    obtain ⟨σ1, rfl, c1, s1⟩ := hI
    have okk := yl_ok ok (l := l) hn k (by omega)
    obtain ⟨h1, h2, h3⟩ := yl_n Y l k
    have hlk : Nat.repeat lotN k l < 2147483647 := by
      cases k with
      | zero => exact hl
      | succ k => exact lotN_lt _
    obtain ⟨σ2, f2, c2, s2⟩ := ml_lotd gm okk (x2 := x2) hk hn20 hlk (by rw [h1]; exact hn) (by omega) σ1 c1
    exact ⟨_, mm_lim_go f2, σ2, rfl, c2, mm_sn_tr s1 s2⟩) (lN l, nI 0, σ) ⟨σ, rfl, hc, mm_sn_rf _ _⟩
  refine ⟨σ1, ?_, c1, s1⟩
  rw [l1]
  refine mm_lim_ret ?_
  show fX4_lots_b55 G m (nI n) x2 _ (nI n) σ1 = _
  unfold fX4_lots_b55
  rw [if_neg Int32.lt_irrefl, M5, tc2, if_neg kc2, c1.2.2.1.2.2.2.1]
theorem J_lots (gx : gX G x cd) (gm : gM G m cd) (ok : okP Y) (v w : Int32) : Jc G x m cd (fX3_lots G x v w) (fX4_lots G m v w) Y := by
  obtain ⟨n57, M5, M7, q7⟩ := gM_57 gm
  have hn7 := (okP_n ok).2
  have hl40 := okP_D40 ok
  have hcmp : (lg_cmp w.toInt64 (2147483647 : Int64) < 0) ↔ ¬ 2147483646 < w := by
    rw [lg_cmp_lt, Int64.lt_iff_toInt_lt, Int32.toInt_toInt64, Int32.lt_iff_toInt_lt]
    have a1 : (2147483647 : Int64).toInt = 2147483647 := by decide
    have a2 : (2147483646 : Int32).toInt = 2147483646 := by decide
    rw [a1, a2]
    omega
  have cb : ∀ σ, CR G x σ Y → fX3_lots_b0 G x v w σ = if v < 1 then some (.inl (-1, σ)) else if 20 < v then some (.inl (-1, σ)) else if w < 1 then some (.inl (-1, σ)) else if lg_cmp w.toInt64 (2147483647 : Int64) < 0 then (if nI (a_n (p_A Y)) = 0 then some (.inl (-4, σ)) else (fX1_hasRoomFor G (mm_R G x 6) v σ).bind (fun q45 => if q45.1 = 0 then (some (.inl (-2, q45.2))) else (some (.inr (w.toInt64, 0, q45.2))))) else some (.inl (-1, σ)) := fun σ hc => by
    unfold fX3_lots_b0
    rw [hc.2.2.1.1]
  have mb : ∀ σ, MR G m σ Y → fX4_lots_b0 G m v w σ = if (if v < 1 then (0 : Int32) else if 20 < v then 0 else 1) = 0 then some (.inl (-1, σ)) else if (if w < 1 then (0 : Int32) else if 2147483646 < w then 0 else 1) = 0 then some (.inl (-1, σ)) else if nI (a_n (p_A Y)) = 0 then some (.inl (-4, σ)) else if 40 < nI (p_D Y).length + v then some (.inl (-2, σ)) else some (.inr (w.toInt64, 0, σ)) := fun σ hc => by
    unfold fX4_lots_b0
    rw [ml_in, Option.bind_some, ml_in, Option.bind_some, M5, tc32, if_neg kc32]
    show (if (if v < 1 then (0 : Int32) else if 20 < v then 0 else 1) = 0 then some (Sum.inl (-1, σ)) else if (if w < 1 then (0 : Int32) else if 2147483646 < w then 0 else 1) = 0 then some (.inl (-1, σ)) else if σ.1 (mm_R G m 5) 32 = 0 then some (.inl (-4, σ)) else if 40 < σ.1 m 10 + v then some (.inl (-2, σ)) else some (.inr (w.toInt64, 0, σ))) = _
    rw [hc.2.2.1.1, hc.2.2.2.1.1]
  by_cases v1 : v < 1
  · exact J_same (-1) ok (fun σ hc => by unfold fX3_lots; rw [cb σ hc, if_pos v1]; rfl) (fun σ hc => by unfold fX4_lots; rw [mb σ hc, if_pos v1]; rfl)
  by_cases v20 : 20 < v
  · exact J_same (-1) ok (fun σ hc => by unfold fX3_lots; rw [cb σ hc, if_neg v1, if_pos v20]; rfl) (fun σ hc => by unfold fX4_lots; rw [mb σ hc, if_neg v1, if_pos v20]; rfl)
  have mv1 : ¬ (if v < 1 then (0 : Int32) else if 20 < v then 0 else 1) = 0 := by rw [if_neg v1, if_neg v20]; decide
  by_cases w1 : w < 1
  · exact J_same (-1) ok (fun σ hc => by unfold fX3_lots; rw [cb σ hc, if_neg v1, if_neg v20, if_pos w1]; rfl) (fun σ hc => by unfold fX4_lots; rw [mb σ hc, if_neg mv1, if_pos w1]; rfl)
  by_cases wb : 2147483646 < w
  · exact J_same (-1) ok (fun σ hc => by unfold fX3_lots; rw [cb σ hc, if_neg v1, if_neg v20, if_neg w1, if_neg (fun q => hcmp.mp q wb)]; rfl) (fun σ hc => by unfold fX4_lots; rw [mb σ hc, if_neg mv1, if_neg w1, if_pos wb]; rfl)
  have mw1 : ¬ (if w < 1 then (0 : Int32) else if 2147483646 < w then 0 else 1) = 0 := by rw [if_neg w1, if_neg wb]; decide
  have hw := hcmp.mpr wb
  by_cases hz : a_n (p_A Y) = 0
  · have e : nI (a_n (p_A Y)) = 0 := by rw [hz]; rfl
    exact J_same (-4) ok (fun σ hc => by unfold fX3_lots; rw [cb σ hc, if_neg v1, if_neg v20, if_neg w1, if_pos hw, if_pos e]; rfl) (fun σ hc => by unfold fX4_lots; rw [mb σ hc, if_neg mv1, if_neg mw1, if_pos e]; rfl)
  · have e : ¬ nI (a_n (p_A Y)) = 0 := nI_ne0 (by omega) (by omega)
    have v0 : ¬ v < 0 := fun q => v1 (Int32.lt_of_lt_of_le q (by decide))
    have w0 : ¬ w < 0 := fun q => w1 (Int32.lt_of_lt_of_le q (by decide))
    obtain ⟨n, hn, rfl⟩ := nI_of2 (M := 20) (n := 20) (by decide) v0 (Int32.not_lt.mp v20)
    obtain ⟨l, hl31, rfl⟩ := nI_of w0
    have hl : l < 2147483647 := by
      rcases Nat.lt_or_ge l 2147483647 with q | q
      · exact q
      · exact absurd (show (2147483646 : Int32) < nI l from nI_lt (show 2147483646 < l by omega) hl31) wb
    by_cases hf : 40 < (p_D Y).length + n
    · have hm : 40 < nI (p_D Y).length + nI n := by rw [nI_add]; exact nI_lt (a := 40) hf (by omega)
      exact J_same (-2) ok (fun σ hc => by unfold fX3_lots; rw [cb σ hc, if_neg v1, if_neg v20, if_neg w1, if_pos hw, if_neg e, cx_room gx hc ok hn, if_pos hf]; rfl) (fun σ hc => by unfold fX4_lots; rw [mb σ hc, if_neg mv1, if_neg mw1, if_neg e, if_pos hm]; rfl)
    · have hm : ¬ 40 < nI (p_D Y).length + nI n := by rw [nI_add]; exact nI_nlt (show (p_D Y).length + n ≤ 40 by omega) (by decide)
      refine ⟨a_hd (p_A (y_lots Y l n)), y_lots Y l n, yl_ok ok (by omega) n (by omega), fun σ hc => ?_, fun σ hc => ?_⟩
      · obtain ⟨σ', f, c, s⟩ := cx_lots gx ok hn hl (nI l) (by omega) (by omega) σ hc
        refine ⟨σ', ?_, c, s⟩
        unfold fX3_lots
        rw [cb σ hc, if_neg v1, if_neg v20, if_neg w1, if_pos hw, if_neg e, cx_room gx hc ok hn, if_neg hf, Option.bind_some, if_neg (n01 σ), mm_run_go, nI_l hl31]
        exact f
      · obtain ⟨σ', f, c, s⟩ := ml_lots gm ok hn hl (nI l) (by omega) (by omega) σ hc
        refine ⟨σ', ?_, c, s⟩
        unfold fX4_lots
        rw [mb σ hc, if_neg mv1, if_neg mw1, if_neg e, if_neg hm, mm_run_go, nI_l hl31]
        exact f
end LO
