/-! DEEDS: what each does to the air, on both sides -/
theorem ab_acts_s (B : ab_A) (D : List p_Dd) (d : p_Dd) : ab_acts B (D ++ [d]) = ab_act (ab_acts B D) d := by unfold ab_acts; rw [List.foldl_append]; rfl
/-- what a deed's call answers -/
def av_act (A : ab_A) (d : p_Dd) : Int32 := if d.1 = 1 then ab_ones (ab_who A 0) else if d.1 = 2 then s_lt (a_st A d.2.1) + nI d.2.2 else if d.1 = 3 then s_lt (a_st A d.2.1) else if d.1 = 4 then s_fw (a_st A d.2.1) else 0
theorem ab_act_n (A : ab_A) (d : p_Dd) : a_n (ab_act A d) = a_n A := by
  unfold ab_act
  split
  · rfl
  · split
    · rfl
    · split
      · rfl
      · split <;> rfl
theorem ab_acts_n : ∀ (D : List p_Dd) (B : ab_A), a_n (ab_acts B D) = a_n B
  | [], _ => rfl
  | d :: D, B => by
    show a_n (ab_acts (ab_act B d) D) = _
    rw [ab_acts_n D, ab_act_n]
section DD
variable {G : mm_G} {x m : Nat} {cd : Nat → Nat} {Y : Ps}
theorem ca_has1 {a i : Nat} {A : ab_A} {σ : mm_M} (hr : rA G σ a A) (hn : a_n A ≤ 7) (hi : i < a_n A) : fX0_has G a (nI i) σ = some (1, σ) := by
  have e : (if nI i < 0 then (0 : Int32) else if nI i < σ.1 a 1 then 1 else 0) = 1 := by rw [if_neg (nI_pos (by omega)), hr.1, if_pos (nI_lt hi (by omega))]
  unfold fX0_has
  rw [e]; rfl
theorem ca_has0 {a : Nat} {v : Int32} {A : ab_A} {σ : mm_M} (hr : rA G σ a A) (h : v < 0 ∨ nI (a_n A) ≤ v) : fX0_has G a v σ = some (0, σ) := by
  have e : (if v < 0 then (0 : Int32) else if v < σ.1 a 1 then 1 else 0) = 0 := by
    by_cases h0 : v < 0
    · rw [if_pos h0]
    · rw [if_neg h0, hr.1, if_neg (Int32.not_lt.mpr (h.resolve_left h0))]
  unfold fX0_has
  rw [e]; rfl
theorem ca_set {a i : Nat} {A : ab_A} {s : ab_S} {σ σ' : mm_M} (hg : ga G a) (hr : rA G σ a A) (hn : a_n A ≤ 7) (hi : i < a_n A) (hs : so σ' (sa G a i) = s) (hm : mm_sm (fun b => b = sa G a i) σ σ') : rA G σ' a (ab_set A i s) := by
  have e : σ'.1 a = σ.1 a := hm.1 a (fun q => hg.2.1 i (by omega) q.symm)
  refine ⟨by rw [e]; exact hr.1, by rw [e]; exact hr.2.1, by rw [e]; exact hr.2.2.1, by rw [e]; exact hr.2.2.2.1, by rw [e]; exact hr.2.2.2.2.1, fun j hj => ?_⟩
  have hj' : j < a_n A := hj
  show so σ' (sa G a j) = if j = i then s else a_st A j
  by_cases h : j = i
  · subst h; rw [if_pos rfl]; exact hs
  · rw [if_neg h, so_sm hm (fun q => h (hg.2.2 j i (by omega) (by omega) q))]
    exact hr.2.2.2.2.2 j hj'
theorem p_code_dec {d : p_Dd} {n : Nat} (hd : okd n d) (hn : n ≤ 7) : p_code d / 100 = nI d.1 ∧ (p_code d / 10) - (p_code d / 10) / 10 * 10 = nI d.2.1 ∧ p_code d - p_code d / 10 * 10 = nI d.2.2 := by
  obtain ⟨h1, h2, h3⟩ := hd
  unfold p_code
  rw [show (100 : Int32) = nI 100 from rfl, show (10 : Int32) = nI 10 from rfl]
  refine ⟨?_, ?_, ?_⟩
  · rw [pk_div (by omega) (by decide) (by decide)]; congr 1; omega
  · rw [pk_div (by omega) (by decide) (by decide), pk_rem (by omega) (by decide) (by decide)]; congr 1; omega
  · rw [pk_rem (by omega) (by decide) (by decide)]; congr 1; omega
theorem ca_act {a N : Nat} {A : ab_A} {d : p_Dd} {σ : mm_M} (hg : ga G a) (hr : rA G σ a A) (ho : ab_ok N A) (hN : N < 2 ^ 19) (hd : okd (a_n A) d) : ∃ σ', fX0_act G a (p_code d) σ = some (av_act A d, σ') ∧ rA G σ' a (ab_act A d) ∧ mm_sm (ic G a) σ σ' := by
  have hn7 : a_n A ≤ 7 := ho.1
  obtain ⟨e1, e2, e3⟩ := p_code_dec hd hn7
  obtain ⟨w, i, n⟩ := d
  obtain ⟨hw, hi, hn⟩ := hd
  dsimp only at hw hi hn e1 e2 e3
  have hin : ic G a (sa G a i) := Or.inr ⟨i, by omega, rfl⟩
  have hsi := hr.2.2.2.2.2 i hi
  have e3' : σ.1 (sa G a i) 3 = s_lt (a_st A i) := congrArg (fun s : ab_S => s_lt s) hsi
  have e1' : σ.1 (sa G a i) 1 = s_fw (a_st A i) := congrArg (fun s : ab_S => s_fw s) hsi
  have key : fX0_act G a (p_code (w, i, n)) σ = if nI w = 1 then ((fX0_goBy G a 0 σ).bind (fun q86 => (fJ6_bitCount_0f7a4 G q86.1 q86.2).bind (fun q89 => some (q89.1, q89.2)))) else (if nI w = 2 then (some ((mm_up σ (sa G a i) 3 (s_lt (a_st A i) + nI n)).1 (sa G a i) 3, mm_up σ (sa G a i) 3 (s_lt (a_st A i) + nI n))) else (if nI w = 3 then ((fX2_rest G (sa G a i) (mm_up σ (sa G a i) 3 0)).bind (fun q117 => some (s_lt (a_st A i), q117))) else (if nI w = 4 then (some (s_fw (a_st A i), mm_up σ (sa G a i) 1 (nI n))) else (some (0, σ))))) := by
    unfold fX0_act
    rw [if_neg (by decide), if_neg (by decide), if_neg (by decide), if_neg (by decide), e1, e2, e3, ca_has1 hr hn7 hi, Option.bind_some, if_neg (show ¬ ((1 : Int32), σ).1 = 0 from (by decide : ¬ (1 : Int32) = 0)), hg.1, nI_clamp (by omega : i < 2 ^ 31), if_neg (ck_n (by omega) (by omega)), show mm_R G (mm_R G a 0) i = sa G a i from rfl]
    show (if _ then _ else if _ then some ((mm_up σ (sa G a i) 3 (σ.1 (sa G a i) 3 + nI n)).1 (sa G a i) 3, mm_up σ (sa G a i) 3 (σ.1 (sa G a i) 3 + nI n)) else if _ then (fX2_rest G (sa G a i) (mm_up σ (sa G a i) 3 0)).bind (fun q117 => some (σ.1 (sa G a i) 3, q117)) else if _ then some (σ.1 (sa G a i) 1, mm_up σ (sa G a i) 1 (nI n)) else some (0, σ)) = _
    rw [e3', e1']
  rw [key]
  unfold av_act ab_act
  dsimp only
  rcases (show w = 0 ∨ w = 1 ∨ w = 2 ∨ w = 3 ∨ w = 4 by omega) with rfl | rfl | rfl | rfl | rfl
  · exact ⟨σ, rfl, hr, mm_sm_rf _ _⟩
  · obtain ⟨σ1, f1, r1, m1⟩ := ca_goBy 0 hg hr ho hN
    refine ⟨σ1, ?_, r1, m1⟩
    rw [if_pos (show nI 1 = 1 from rfl), f1, Option.bind_some]
    show (fJ6_bitCount_0f7a4 G (ab_who A 0) σ1).bind _ = _
    rw [show fJ6_bitCount_0f7a4 G (ab_who A 0) σ1 = some (ab_ones (ab_who A 0), σ1) from jd_cnt hn7 G σ1]
    rfl
  · refine ⟨mm_up σ (sa G a i) 3 (s_lt (a_st A i) + nI n), ?_, ca_set hg hr hn7 hi ?_ (mm_sm_up (mm_sm_rf _ _) rfl), mm_sm_up (mm_sm_rf _ _) hin⟩
    · rw [if_neg (show ¬ nI 2 = 1 by decide), if_pos (show nI 2 = 2 from rfl), mm_gs]; rfl
    · rw [← hsi]; simp [so, mm_up, s_give]
  · refine ⟨mm_up (mm_up (mm_up σ (sa G a i) 3 0) (sa G a i) 5 0) (sa G a i) 4 0, ?_, ca_set hg hr hn7 hi ?_ (mm_sm_up (mm_sm_up (mm_sm_up (mm_sm_rf _ _) rfl) rfl) rfl), mm_sm_up (mm_sm_up (mm_sm_up (mm_sm_rf _ _) hin) hin) hin⟩
    · rw [if_neg (show ¬ nI 3 = 1 by decide), if_neg (show ¬ nI 3 = 2 by decide), if_pos (show nI 3 = 3 from rfl), cs_rest]; rfl
    · rw [← hsi]; simp [so, mm_up, s_drop]
  · refine ⟨mm_up σ (sa G a i) 1 (nI n), ?_, ca_set hg hr hn7 hi ?_ (mm_sm_up (mm_sm_rf _ _) rfl), mm_sm_up (mm_sm_rf _ _) hin⟩
    · rw [if_neg (show ¬ nI 4 = 1 by decide), if_neg (show ¬ nI 4 = 2 by decide), if_neg (show ¬ nI 4 = 3 by decide), if_pos (show nI 4 = 4 from rfl)]; rfl
    · rw [← hsi]; simp [so, mm_up, s_first]
def y_deed (Y : Ps) (D : List p_Dd) : Ps := (p_rs Y, p_rv Y, p_ts Y, p_tv Y, p_B Y, D, p_K Y, p_as Y, p_up Y, p_lo Y, p_fi Y, p_fo Y)
/-- the class's state with other deeds -/
theorem CR_5 {σ σ' : mm_M} {D : List p_Dd} (g : gX G x cd) (ok : okP Y) (h : ∀ i b, 1 ≤ i → ¬ i = 3 → ¬ i = 5 → i ≤ 8 → rg cd i b → σ'.1 b = σ.1 b) (h2 : σ'.2 x = σ.2 x) (hc : CR G x σ Y) (hn : c_now G x σ' (y_deed Y D)) (hd : c_deeds G x σ' (y_deed Y D)) : CR G x σ' (y_deed Y D) :=
  ⟨fr_rows g (fun b => h 1 b (by decide) (by decide) (by decide) (by decide)) (show c_rows G x σ (y_deed Y D) from hc.1), fr_text g (fun b => h 2 b (by decide) (by decide) (by decide) (by decide)) (show c_text G x σ (y_deed Y D) from hc.2.1), hn, fr_air (fun b hb => gX_ic4 g hb) (okP_n ok).1 (fun b => h 4 b (by decide) (by decide) (by decide) (by decide)) (show c_start G x σ (y_deed Y D) from hc.2.2.2.1), hd, fr_kept g (fun b => h 6 b (by decide) (by decide) (by decide) (by decide)) (show c_kept G x σ (y_deed Y D) from hc.2.2.2.2.2.1), fr_told g (fun b => h 7 b (by decide) (by decide) (by decide) (by decide)) h2 (show c_told x σ (y_deed Y D) from hc.2.2.2.2.2.2.1), fr_found g (fun b => h 8 b (by decide) (by decide) (by decide) (by decide)) (show c_found G x σ (y_deed Y D) from hc.2.2.2.2.2.2.2)⟩
theorem MR_5 {σ σ' : mm_M} {D : List p_Dd} (g : gM G m cd) (h : ∀ i b, 20 < i → ¬ i = 26 → ¬ i = 30 → rg cd i b → σ'.1 b = σ.1 b) (hm : ∀ j, j ≠ 10 → σ'.1 m j = σ.1 m j) (h2 : σ'.2 m = σ.2 m) (hc : MR G m σ Y) (hn : m_now G m σ' (y_deed Y D)) (hd : m_deeds G m σ' (y_deed Y D)) : MR G m σ' (y_deed Y D) := by
  refine ⟨fm_rows g (fun b => h 21 b (by decide) (by decide) (by decide)) (fun b => h 22 b (by decide) (by decide) (by decide)) (show m_rows G m σ (y_deed Y D) from hc.1), fm_text g (fun b => h 24 b (by decide) (by decide) (by decide)) (fun b => h 25 b (by decide) (by decide) (by decide)) (show m_text G m σ (y_deed Y D) from hc.2.1), hn, hd, fm_kept g (fun b => h 31 b (by decide) (by decide) (by decide)) (fun b => h 32 b (by decide) (by decide) (by decide)) (fun b => h 33 b (by decide) (by decide) (by decide)) (show m_kept G m σ (y_deed Y D) from hc.2.2.2.2.1), ?_, fm_found g (fun b => h 34 b (by decide) (by decide) (by decide)) (show m_found G m σ (y_deed Y D) from hc.2.2.2.2.2.2)⟩
  obtain ⟨t1, t2, t3, t4⟩ := hc.2.2.2.2.2.1
  exact ⟨by rw [hm 14 (by decide)]; exact t1, by rw [h2]; exact t2, by rw [h2]; exact t3, by rw [hm 17 (by decide)]; exact t4⟩
theorem cx_room (gx : gX G x cd) {σ : mm_M} (hc : CR G x σ Y) (ok : okP Y) {k : Nat} (hk : k ≤ 20) : fX1_hasRoomFor G (mm_R G x 6) (nI k) σ = some (if 40 < (p_D Y).length + k then 0 else 1, σ) := by
  have hl := ok.2.2.2.1.1
  have e : σ.1 (mm_R G x 6) 1 + nI k = nI ((p_D Y).length + k) := by rw [hc.2.2.2.2.1.1, nI_add]
  unfold fX1_hasRoomFor
  rw [e]
  by_cases h : 40 < (p_D Y).length + k
  · rw [if_pos h, if_pos (show (40 : Int32) < nI ((p_D Y).length + k) from nI_lt h (by omega))]; rfl
  · rw [if_neg h, if_neg (show ¬ (40 : Int32) < nI ((p_D Y).length + k) from nI_nlt (show (p_D Y).length + k ≤ 40 by omega) (by decide))]; rfl
/-- a deed on the class's side -/
theorem cx_deed (gx : gX G x cd) (ok : okP Y) {d : p_Dd} (hl : (p_D Y).length < 40) (hd : okd (a_n (p_B Y)) d) (σ : mm_M) (hc : CR G x σ Y) : ∃ σ', fX3_carryOut G x (p_code d) σ = some (av_act (p_A Y) d, σ') ∧ CR G x σ' (y_deed Y (p_D Y ++ [d])) ∧ mm_sn (rX cd) σ σ' := by
  obtain ⟨-, ex, -, -, -, -, -, ⟨e310, -, e300⟩, ⟨e510, e511, eN⟩, -⟩ := id gx
  have hne : mm_R G (mm_R G x 6) 0 ≠ mm_R G x 6 := fun e => by rw [e, e510] at e511; omega
  have hsz : σ.1 (mm_R G x 6) 1 = nI (p_D Y).length := hc.2.2.2.2.1.1
  generalize hσ1 : mm_up (mm_up σ (mm_R G (mm_R G x 6) 0) (p_D Y).length (p_code d)) (mm_R G x 6) 1 (nI (p_D Y).length + 1) = σ1
  have hadd : fX1_add G (mm_R G x 6) (p_code d) σ = some σ1 := by
    unfold fX1_add
    rw [hsz, if_neg (nI_pos (by omega)), if_pos (show nI (p_D Y).length < 40 from nI_lt hl (by decide)), eN, nI_clamp (by omega), if_neg (ck_n hl (by omega)), mm_ga (Ne.symm hne), hsz, hσ1]
  have m1 : mm_sm (rg cd 5) σ σ1 := by
    rw [← hσ1]
    exact mm_sm_up (mm_sm_up (mm_sm_rf _ _) (show rg cd 5 _ by unfold rg; rw [e511])) (show rg cd 5 _ by unfold rg; rw [e510])
  have hA : okA (p_A Y) := by have := ok.2.2.2.1.2.2 (p_D Y).length (Nat.le_refl _); rw [List.take_length] at this; exact this
  obtain ⟨t, ht, et, ho, hlt⟩ := hA
  have hnow1 : rA G σ1 (mm_R G x 5) (p_A Y) := rA_sm m1 ho.1 (fun b hb q => by have := gX_ic5 gx hb; unfold rg at this q; omega) hc.2.2.1
  obtain ⟨σ2, f2, r2, m2⟩ := ca_act (gX_ga5 gx) hnow1 ho (by omega) (show okd (a_n (p_A Y)) d by rw [ab_acts_n]; exact hd)
  have hd2 : ∀ b, rg cd 5 b → σ2.1 b = σ1.1 b := fun b hb => m2.1 b (fun q => by have := gX_ic5 gx q; unfold rg at this hb; omega)
  refine ⟨σ2, ?_, CR_5 gx ok (fun i b hi h3 h5 hi8 hb => ?_) (by rw [m2.2, m1.2]) hc ?_ ?_, ?_⟩
  · unfold fX3_carryOut
    rw [hadd, Option.bind_some, f2, Option.bind_some]
  · rw [m2.1 b (fun q => by have := gX_ic5 gx q; unfold rg at this hb; omega), m1.1 b (fun q => by unfold rg at hb q; omega)]
  · show rA G σ2 (mm_R G x 5) (ab_acts (p_B Y) (p_D Y ++ [d]))
    rw [ab_acts_s]; exact r2
  · show c_list σ2 (mm_R G x 6) (mm_R G (mm_R G x 6) 0) (p_D Y ++ [d])
    unfold c_list
    rw [hd2 _ (by unfold rg; rw [e510]), hd2 _ (by unfold rg; rw [e511]), ← hσ1]
    refine ⟨?_, fun j hj => ?_⟩
    · rw [mm_gs, List.length_append, nI_1]; rfl
    · rw [mm_ga hne]
      rw [List.length_append] at hj
      have hj1 : j < (p_D Y).length + 1 := hj
      by_cases h : j = (p_D Y).length
      · subst h
        rw [mm_gs, List.getElem_append_right (Nat.le_refl _)]
        simp
      · rw [mm_gk h, List.getElem_append_left (by omega)]
        exact hc.2.2.2.2.1.2 j (by omega)
  · exact (mm_sm_tr (mm_sm_mono m1 (fun b q => rg_x q (by decide))) (mm_sm_mono m2 (fun b q => rg_x (gX_ic5 gx q) (by decide)))).sn
theorem pR_F {f : Nat → Int32} {A : ab_A} {z : Int32} (h : rF f A z) : pR f A := by
  obtain ⟨h1, h2, h3, h4, h5, h6, hs⟩ := h
  refine ⟨h2, h3, h4, h5, fun i hi => ?_⟩
  have e := hs i hi
  exact ⟨congrArg (fun s : ab_S => s_fw s) e, congrArg (fun s : ab_S => s_lt s) e, congrArg (fun s : ab_S => s_wt s) e, congrArg (fun s : ab_S => s_cl s) e⟩
theorem pR_congr {f g : Nat → Int32} {A : ab_A} (hn : a_n A ≤ 7) (h : ∀ k, k < 32 → f k = g k) (hp : pR g A) : pR f A := by
  obtain ⟨q1, q2, q3, q4, q5⟩ := hp
  refine ⟨(h 0 (by omega)).trans q1, (h 1 (by omega)).trans q2, (h 2 (by omega)).trans q3, (h 3 (by omega)).trans q4, fun i hi => ?_⟩
  obtain ⟨a1, a2, a3, a4⟩ := q5 i hi
  exact ⟨(h _ (by omega)).trans a1, (h _ (by omega)).trans a2, (h _ (by omega)).trans a3, (h _ (by omega)).trans a4⟩
/-- the model lays its air down ahead of a deed -/
theorem ml_does (gm : gM G m cd) (ok : okP Y) (hl : (p_D Y).length < 40) (σ : mm_M) (hc : MR G m σ Y) : ∃ σ', fX4_does G m σ = some σ' ∧ (∀ k, k < 32 → σ'.1 (mm_R G m 9) (32 * (p_D Y).length + k) = σ.1 (mm_R G m 5) k) ∧ (∀ k, k < 32 * (p_D Y).length → σ'.1 (mm_R G m 9) k = σ.1 (mm_R G m 9) k) ∧ σ'.1 m 10 = nI ((p_D Y).length + 1) ∧ (∀ j, j ≠ 10 → σ'.1 m j = σ.1 m j) ∧ mm_sm (fun b => b = m ∨ b = mm_R G m 9) σ σ' := by
  obtain ⟨-, e0, -, -, -, -, -, ⟨e26, eN5⟩, -, -, -, ⟨e30, eN9⟩, -⟩ := id gm
  have n59 : mm_R G m 5 ≠ mm_R G m 9 := fun e => by rw [e, e30] at e26; omega
  have nm9 : m ≠ mm_R G m 9 := fun e => by rw [← e, e0] at e30; omega
  have hd := hc.2.2.2.1.1
  obtain ⟨⟨y, σ1⟩, e1, hx, hz, hk, hm⟩ := mm_loop (f := fX4_does_s G m) (fun i s => s.1 = nI i ∧ (∀ k, k < i → s.2.1 (mm_R G m 9) (32 * (p_D Y).length + k) = σ.1 (mm_R G m 5) k) ∧ (∀ k, k < 32 * (p_D Y).length → s.2.1 (mm_R G m 9) k = σ.1 (mm_R G m 9) k) ∧ mm_sm (fun b => b = mm_R G m 9) σ s.2) 32 (fun i s hi hI => by
    obtain ⟨y, σ1⟩ := s
    obtain ⟨hx, hz, hk, hm⟩ := hI
    dsimp only at hx hz hk hm
    subst hx
    have e10 : σ1.1 m 10 = nI (p_D Y).length := by rw [hm.1 m nm9]; exact hd
    have ei : (32 : Int32) * σ1.1 m 10 + nI i = nI (32 * (p_D Y).length + i) := by rw [e10, show (32 : Int32) = nI 32 from rfl, pk_mul, nI_add]
    refine ⟨(nI i + 1, mm_up σ1 (mm_R G m 9) (32 * (p_D Y).length + i) (σ1.1 (mm_R G m 5) i)), mm_lim_go ?_, nI_1 i, fun k hk' => ?_, fun k hk' => ?_, mm_sm_up hm rfl⟩
    · show fX4_does_b2 G m (nI i) σ1 = _
      unfold fX4_does_b2
      rw [if_pos (show nI i < (32 : Int32) from nI_lt hi (by decide)), eN5, nI_clamp (by omega : i < 2 ^ 31), if_neg (ck_n (by omega) (by omega)), ei, eN9, nI_clamp (by omega), if_neg (ck_n (by omega) (by omega))]
    · show (mm_up σ1 (mm_R G m 9) (32 * (p_D Y).length + i) (σ1.1 (mm_R G m 5) i)).1 (mm_R G m 9) (32 * (p_D Y).length + k) = _
      by_cases h : k = i
      · subst h; rw [mm_gs, hm.1 _ n59]
      · rw [mm_gk (by omega)]; exact hz k (by omega)
    · show (mm_up σ1 (mm_R G m 9) (32 * (p_D Y).length + i) (σ1.1 (mm_R G m 5) i)).1 (mm_R G m 9) k = _
      rw [mm_gk (by omega)]; exact hk k hk') ((0 : Int32), σ) ⟨rfl, fun k h => absurd h (Nat.not_lt_zero k), fun _ _ => rfl, mm_sm_rf _ _⟩
  dsimp only at hx hz hk hm
  subst hx
  have e10 : σ1.1 m 10 = nI (p_D Y).length := by rw [hm.1 m nm9]; exact hd
  refine ⟨mm_up σ1 m 10 (nI (p_D Y).length + 1), ?_, fun k hk' => ?_, fun k hk' => ?_, by rw [mm_gs, nI_1], fun j hj => ?_, mm_sm_up (mm_sm_mono hm (fun b q => Or.inr q)) (Or.inl rfl)⟩
  · unfold fX4_does fX4_does_b0
    rw [mm_run_go]
    show mm_lim _ ((0 : Int32), σ) = _
    rw [e1]
    refine mm_lim_ret ?_
    show fX4_does_b2 G m (nI 32) σ1 = _
    unfold fX4_does_b2
    rw [if_neg (show ¬ nI 32 < (32 : Int32) by decide), e10]
  · rw [mm_ga (Ne.symm nm9)]; exact hz k hk'
  · rw [mm_ga (Ne.symm nm9)]; exact hk k hk'
  · rw [mm_gk hj, hm.1 m nm9]
/-- a deed on the model's side: behind 'does', its own air's change -/
theorem ml_deed (gm : gM G m cd) (ok : okP Y) {d : p_Dd} (hl : (p_D Y).length < 40) {σ σ1 σ2 : mm_M} (hc : MR G m σ Y) (hz : ∀ k, k < 32 → σ1.1 (mm_R G m 9) (32 * (p_D Y).length + k) = σ.1 (mm_R G m 5) k) (hk : ∀ k, k < 32 * (p_D Y).length → σ1.1 (mm_R G m 9) k = σ.1 (mm_R G m 9) k) (h10 : σ1.1 m 10 = nI ((p_D Y).length + 1)) (hj : ∀ j, j ≠ 10 → σ1.1 m j = σ.1 m j) (m1 : mm_sm (fun b => b = m ∨ b = mm_R G m 9) σ σ1) (m2 : mm_sm (fun b => b = mm_R G m 5) σ1 σ2) (hr : rM σ2 (mm_R G m 5) (ab_act (p_A Y) d) 0) : MR G m σ2 (y_deed Y (p_D Y ++ [d])) ∧ mm_sn (rY cd) σ σ2 := by
  obtain ⟨-, e0, -, -, -, -, -, ⟨e26, eN5⟩, -, -, -, ⟨e30, eN9⟩, -⟩ := id gm
  have n95 : mm_R G m 9 ≠ mm_R G m 5 := fun e => by rw [← e, e30] at e26; omega
  have nm5 : m ≠ mm_R G m 5 := fun e => by rw [← e, e0] at e26; omega
  refine ⟨MR_5 gm (fun i b hi h26 h30 hb => ?_) (fun j hj' => ?_) (by rw [m2.2, m1.2]) hc ?_ ?_, ?_⟩
  · rw [m2.1 b (fun q => by unfold rg at hb; rw [q, e26] at hb; omega), m1.1 b (fun q => by
      unfold rg at hb
      rcases q with q | q
      · rw [q, e0] at hb; omega
      · rw [q, e30] at hb; omega)]
  · rw [m2.1 m nm5, hj j hj']
  · show rM σ2 (mm_R G m 5) (ab_acts (p_B Y) (p_D Y ++ [d])) 0
    rw [ab_acts_s]; exact hr
  · refine ⟨?_, fun j hjl => ?_⟩
    · rw [m2.1 m nm5, h10, show (p_D (y_deed Y (p_D Y ++ [d]))).length = (p_D Y ++ [d]).length from rfl, List.length_append]; rfl
    · have hjl' : j < (p_D Y).length + 1 := by have := hjl; rw [show (p_D (y_deed Y (p_D Y ++ [d]))).length = (p_D Y ++ [d]).length from rfl, List.length_append] at this; exact this
      show pR (fun k => σ2.1 (mm_R G m 9) (0 + 32 * j + k)) (ab_acts (p_B Y) ((p_D Y ++ [d]).take j))
      rw [m2.1 _ n95, List.take_append_of_le_length (by omega)]
      by_cases h : j = (p_D Y).length
      · subst h
        rw [List.take_length]
        exact pR_congr (okP_n ok).2 (fun k hk' => by show σ1.1 (mm_R G m 9) (0 + 32 * (p_D Y).length + k) = _; rw [Nat.zero_add]; exact hz k hk') (pR_F hc.2.2.1)
      · exact pR_congr (by rw [ab_acts_n]; exact (okP_n ok).1) (fun k hk' => by show σ1.1 (mm_R G m 9) (0 + 32 * j + k) = σ.1 (mm_R G m 9) (0 + 32 * j + k); exact hk _ (by omega)) (hc.2.2.2.1.2 j (by omega))
  · refine (mm_sm_tr (mm_sm_mono m1 (fun b q => ?_)) (mm_sm_mono m2 (fun b q => ?_))).sn
    · unfold rY
      rcases q with rfl | rfl
      · omega
      · omega
    · unfold rY; rw [q]; omega
theorem okL_s {B : ab_A} {D : List p_Dd} {d : p_Dd} (h : okL B D) (hl : D.length < 40) (hd : okd (a_n B) d) (hA : okA (ab_act (ab_acts B D) d)) : okL B (D ++ [d]) := by
  refine ⟨by rw [List.length_append]; exact hl, fun e he => ?_, fun j hj => ?_⟩
  · rcases List.mem_append.mp he with q | q
    · exact h.2.1 e q
    · rw [List.mem_singleton.mp q]; exact hd
  · rw [List.length_append] at hj
    have hj' : j ≤ D.length + 1 := hj
    by_cases h1 : j ≤ D.length
    · rw [List.take_append_of_le_length h1]; exact h.2.2 j h1
    · have : j = (D ++ [d]).length := by rw [List.length_append]; show j = D.length + 1; omega
      rw [this, List.take_length, ab_acts_s]; exact hA
theorem okP_deed (ok : okP Y) {D : List p_Dd} (h : okL (p_B Y) D) : okP (y_deed Y D) := ⟨ok.1, ok.2.1, ok.2.2.1, h, ok.2.2.2.2⟩
end DD
