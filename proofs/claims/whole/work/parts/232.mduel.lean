/-! duel, on the model's side -/
section DM
variable {G : mm_G} {x m : Nat} {cd : Nat → Nat} {Y : Ps}
theorem gM_8 (gm : gM G m cd) : mm_N G (mm_R G m 8) = 48 ∧ mm_R G m 8 ≠ mm_R G m 7 ∧ mm_R G m 5 ≠ mm_R G m 8 ∧ qY cd (mm_R G m 8) := by
  obtain ⟨-, e0, -, -, -, -, -, ⟨m5, -⟩, -, ⟨m7, -⟩, ⟨m8, N8⟩, -⟩ := id gm
  exact ⟨N8, fun e => by rw [e] at m8; omega, fun e => by rw [e] at m5; omega, by unfold qY; omega⟩
def u78 (G : mm_G) (m : Nat) : Nat → Prop := fun b => b = mm_R G m 7 ∨ b = mm_R G m 8
theorem ml_inc {c i : Nat} {A : ab_A} {σ : mm_M} (hn : a_n A ≤ 7) (hi : i < a_n A) (hr : rM σ c A 0) : rM (mm_up σ c (11 + i) (σ.1 c (11 + i) + 1)) c (ab_inc A i) 0 := ml_set hn hi hr (by
  rw [← hr.2.2.2.2.2.2 i hi]
  unfold ms
  rw [mm_gk (show 33 + i ≠ 11 + i by omega), mm_gk (show 4 + i ≠ 11 + i by omega), mm_gk (show 40 + i ≠ 11 + i by omega), mm_gk (show 18 + i ≠ 11 + i by omega), mm_gk (show 25 + i ≠ 11 + i by omega), mm_gs]
  rfl) (fun j _ h11 _ _ _ _ => mm_gk h11)
theorem ml_dec {c i : Nat} {A : ab_A} {σ : mm_M} (hn : a_n A ≤ 7) (hi : i < a_n A) (hr : rM σ c (ab_inc A i) 0) : rM (mm_up σ c (11 + i) (σ.1 c (11 + i) - 1)) c A 0 := by
  have h := ml_set (s := a_st A i) (σ' := mm_up σ c (11 + i) (σ.1 c (11 + i) - 1)) (A := ab_inc A i) hn hi hr (by
    have e := hr.2.2.2.2.2.2 i hi
    have e2 : a_st (ab_inc A i) i = s_give (a_st A i) 1 := if_pos rfl
    rw [e2] at e
    have e3 : σ.1 c (11 + i) = s_lt (a_st A i) + 1 := congrArg (fun s : ab_S => s_lt s) e
    have e0 : σ.1 c (33 + i) = s_kd (a_st A i) := congrArg (fun s : ab_S => s_kd s) e
    have e1 : σ.1 c (4 + i) = s_fw (a_st A i) := congrArg (fun s : ab_S => s_fw s) e
    have e2' : σ.1 c (40 + i) = s_sp (a_st A i) := congrArg (fun s : ab_S => s_sp s) e
    have e4 : σ.1 c (18 + i) = s_wt (a_st A i) := congrArg (fun s : ab_S => s_wt s) e
    have e5 : σ.1 c (25 + i) = s_cl (a_st A i) := congrArg (fun s : ab_S => s_cl s) e
    unfold ms
    rw [mm_gk (show 33 + i ≠ 11 + i by omega), mm_gk (show 4 + i ≠ 11 + i by omega), mm_gk (show 40 + i ≠ 11 + i by omega), mm_gk (show 18 + i ≠ 11 + i by omega), mm_gk (show 25 + i ≠ 11 + i by omega), mm_gs, e0, e1, e2', e3, e4, e5, Int32.add_sub_cancel]) (fun j _ h11 _ _ _ _ => mm_gk h11)
  refine ⟨h.1, h.2.1, h.2.2.1, h.2.2.2.1, h.2.2.2.2.1, h.2.2.2.2.2.1, fun j hj => ?_⟩
  rw [h.2.2.2.2.2.2 j hj]
  show (if j = i then a_st A i else (if j = i then s_give (a_st A i) 1 else a_st A j)) = _
  by_cases e : j = i
  · rw [if_pos e, e]
  · rw [if_neg e, if_neg e]
def MC (G : mm_G) (m : Nat) (d : Nat) (late : Bool) (F : mm_M → Option (Int32 × mm_M)) : Prop := ∀ (b t : Nat) (A : ab_A) (σ : mm_M), t ≤ 199 → b + d ≤ 40 → 1 ≤ a_n A → ab_ok t A → lt_ok b A → rM σ (mm_R G m 8) A 0 → σ.1 (mm_R G m 5) 32 = nI (a_n A) → ∃ σ', F σ = some (nI (mv d late A), σ') ∧ rM σ' (mm_R G m 8) A 0 ∧ mm_sm (u78 G m) σ σ'
theorem mc0 (gm : gM G m cd) (late : Bool) : MC G m 0 late (fX4_late G m) := by
  intro b t A σ ht hb hn ho hl hr h5
  obtain ⟨n57, M5, M7, q7⟩ := gM_57 gm
  obtain ⟨N8, n87, n58, q8⟩ := gM_8 gm
  obtain ⟨σ1, f1, hk, s1⟩ := ml_copy (σ := σ) N8 M7 n87
  have r1 : rM σ1 (mm_R G m 7) A 0 := rM_of ho.1 hk hr
  obtain ⟨σ2, f2, r2, s2⟩ := ml_end M7 r1 ho (by omega)
  refine ⟨σ2, ?_, rM_sm (mm_sm_tr s1 s2) n87 ho.1 hr, mm_sm_mono (mm_sm_tr s1 s2) (fun b q => Or.inl q)⟩
  unfold fX4_late
  rw [f1, Option.bind_some, f2, Option.bind_some]
  show some ((if (ab_end A).1 = -9 then (201 : Int32) else (ab_end A).1), σ2) = _
  rw [(eN_e A).1]
  rfl
theorem n5_u (gm : gM G m cd) : ¬ u78 G m (mm_R G m 5) := fun q => by
  obtain ⟨n57, M5, M7, q7⟩ := gM_57 gm
  obtain ⟨N8, n87, n58, q8⟩ := gM_8 gm
  rcases q with q | q
  · exact n57 q
  · exact n58 q
/-- the running greatest, the running least -/
def mxI (f : Nat → Nat) (i : Nat) : Int32 := if i = 0 then -1 else nI (mxx f i)
def mnI (f : Nat → Nat) (i : Nat) : Int32 := if i = 0 then 999 else nI (mnn f i)
theorem mxI_s {f : Nat → Nat} (h : ∀ i, f i ≤ 201) (i : Nat) : (if mxI f i < nI (f i) then nI (f i) else mxI f i) = mxI f (i + 1) := by
  unfold mxI
  rw [if_neg (show ¬ i + 1 = 0 by omega), mxx_s]
  have h1 := h i
  have h2 := mxx_le h i
  by_cases c : i = 0
  · subst c
    rw [if_pos rfl, if_pos (show (-1 : Int32) < nI (f 0) from Int32.lt_of_lt_of_le (by decide) (Int32.not_lt.mp (nI_pos (by omega)))), show max (mxx f 0) (f 0) = f 0 from Nat.max_eq_right (Nat.zero_le _)]
  · rw [if_neg c]
    by_cases d : mxx f i < f i
    · rw [if_pos (nI_lt d (by omega)), Nat.max_eq_right (by omega)]
    · rw [if_neg (nI_nlt (by omega) (by omega)), Nat.max_eq_left (by omega)]
theorem mnI_s {f : Nat → Nat} (h : ∀ i, f i ≤ 201) (i : Nat) : (if nI (f i) < mnI f i then nI (f i) else mnI f i) = mnI f (i + 1) := by
  unfold mnI
  rw [if_neg (show ¬ i + 1 = 0 by omega), mnn_s]
  have h1 := h i
  have h2 := mnn_le f i
  by_cases c : i = 0
  · subst c
    rw [if_pos rfl, if_pos (show nI (f 0) < (999 : Int32) from nI_lt (show f 0 < 999 by omega) (by decide)), show min (mnn f 0) (f 0) = f 0 from Nat.min_eq_right h1]
  · rw [if_neg c]
    by_cases d : f i < mnn f i
    · rw [if_pos (nI_lt d (by omega)), Nat.min_eq_right (by omega)]
    · rw [if_neg (nI_nlt (by omega) (by omega)), Nat.min_eq_left (by omega)]
def runI (late : Bool) (f : Nat → Nat) (i : Nat) : Int32 := if late then mxI f i else mnI f i
theorem runI_s {f : Nat → Nat} (h : ∀ i, f i ≤ 201) (late : Bool) (i : Nat) : (if (if late then (1 : Int32) else 0) = 0 then (if nI (f i) < runI late f i then nI (f i) else runI late f i) else (if runI late f i < nI (f i) then nI (f i) else runI late f i)) = runI late f (i + 1) := by
  cases late
  · exact mnI_s h i
  · exact mxI_s h i
theorem runI_v (d : Nat) (late : Bool) (A : ab_A) (hn : 1 ≤ a_n A) : runI late (fun i => mv d (!late) (ab_inc A i)) (a_n A) = nI (mv (d + 1) late A) := by
  cases late
  · show mnI _ _ = _
    unfold mnI
    rw [if_neg (by omega)]; rfl
  · show mxI _ _ = _
    unfold mxI
    rw [if_neg (by omega)]; rfl
theorem mc1 (gm : gM G m cd) (late : Bool) : MC G m 1 late (fX4_lastTurn G m (if late then 1 else 0)) := by
  intro b t A σ ht hb hn ho hl hr h5
  obtain ⟨n57, M5, M7, q7⟩ := gM_57 gm
  obtain ⟨N8, n87, n58, q8⟩ := gM_8 gm
  have h7 := ho.1
  have hle : ∀ i, (fun i => mv 0 (!late) (ab_inc A i)) i ≤ 201 := fun i => mv_le _ _ _
  obtain ⟨s, l1, σ1, rfl, r1, m1⟩ := mm_loop (f := fX4_lastTurn_s G m (if late then 1 else 0)) (fun i s => ∃ σ', s = (runI late (fun i => mv 0 (!late) (ab_inc A i)) i, nI i, σ') ∧ rM σ' (mm_R G m 8) A 0 ∧ mm_sm (u78 G m) σ σ') (a_n A) (fun i s hi hI => by
    obtain ⟨σ1, rfl, r1, m1⟩ := hI
    obtain ⟨hoi, hli⟩ := inc_ok ho hl (by omega) hi
    have e5 : σ1.1 (mm_R G m 5) 32 = nI (a_n A) := by rw [m1.1 _ (n5_u gm)]; exact h5
    have m2 : mm_sm (u78 G m) σ1 (mm_up σ1 (mm_R G m 8) (11 + i) (σ1.1 (mm_R G m 8) (11 + i) + 1)) := mm_sm_up (mm_sm_rf _ _) (Or.inr rfl)
    obtain ⟨σ3, f3, r3, m3⟩ := mc0 gm (!late) (b + 1) t (ab_inc A i) (mm_up σ1 (mm_R G m 8) (11 + i) (σ1.1 (mm_R G m 8) (11 + i) + 1)) ht (by omega) hn hoi hli (ml_inc h7 hi r1) (by rw [m2.1 _ (n5_u gm)]; exact e5)
    refine ⟨_, mm_lim_go (s' := (runI late (fun i => mv 0 (!late) (ab_inc A i)) (i + 1), nI (i + 1), mm_up σ3 (mm_R G m 8) (11 + i) (σ3.1 (mm_R G m 8) (11 + i) - 1))) ?_, _, rfl, ml_dec h7 hi r3, mm_sm_tr m1 (mm_sm_tr m2 (mm_sm_up m3 (Or.inr rfl)))⟩
    show fX4_lastTurn_b14 G m (if late then 1 else 0) _ (nI i) σ1 = _
    unfold fX4_lastTurn_b14
    rw [M5, tc32, if_neg kc32, e5, if_pos (nI_lt hi (by omega)), ad11, N8, nI_clamp (by omega : 11 + i < 2 ^ 31), if_neg (kcn (by omega)), if_neg (kcn (by omega)), f3, Option.bind_some, if_neg (kcn (by omega)), if_neg (kcn (by omega)), nI_1, ← runI_s hle late i]) (runI late (fun i => mv 0 (!late) (ab_inc A i)) 0, nI 0, σ) ⟨σ, rfl, hr, mm_sm_rf _ _⟩
  refine ⟨σ1, ?_, r1, m1⟩
  unfold fX4_lastTurn fX4_lastTurn_b0
  rw [mm_run_go, ← runI_v 0 late A hn]
  have e0 : (if (if late then (1 : Int32) else 0) = 0 then (999 : Int32) else -1) = runI late (fun i => mv 0 (!late) (ab_inc A i)) 0 := by cases late <;> rfl
  rw [e0]
  show mm_lim _ (runI late (fun i => mv 0 (!late) (ab_inc A i)) 0, nI 0, σ) = _
  rw [l1]
  refine mm_lim_ret ?_
  show fX4_lastTurn_b14 G m (if late then 1 else 0) _ (nI (a_n A)) σ1 = _
  unfold fX4_lastTurn_b14
  rw [M5, tc32, if_neg kc32, m1.1 _ (n5_u gm), h5, if_neg Int32.lt_irrefl]
theorem mc2 (gm : gM G m cd) (late : Bool) : MC G m 2 late (fX4_twoTurns G m (if late then 1 else 0)) := by
  intro b t A σ ht hb hn ho hl hr h5
  obtain ⟨n57, M5, M7, q7⟩ := gM_57 gm
  obtain ⟨N8, n87, n58, q8⟩ := gM_8 gm
  have h7 := ho.1
  have hle : ∀ i, (fun i => mv 1 (!late) (ab_inc A i)) i ≤ 201 := fun i => mv_le _ _ _
  obtain ⟨s, l1, σ1, rfl, r1, m1⟩ := mm_loop (f := fX4_twoTurns_s G m (if late then 1 else 0)) (fun i s => ∃ σ', s = (runI late (fun i => mv 1 (!late) (ab_inc A i)) i, nI i, σ') ∧ rM σ' (mm_R G m 8) A 0 ∧ mm_sm (u78 G m) σ σ') (a_n A) (fun i s hi hI => by
    obtain ⟨σ1, rfl, r1, m1⟩ := hI
    obtain ⟨hoi, hli⟩ := inc_ok ho hl (by omega) hi
    have e5 : σ1.1 (mm_R G m 5) 32 = nI (a_n A) := by rw [m1.1 _ (n5_u gm)]; exact h5
    have m2 : mm_sm (u78 G m) σ1 (mm_up σ1 (mm_R G m 8) (11 + i) (σ1.1 (mm_R G m 8) (11 + i) + 1)) := mm_sm_up (mm_sm_rf _ _) (Or.inr rfl)
    obtain ⟨σ3, f3, r3, m3⟩ := mc1 gm (!late) (b + 1) t (ab_inc A i) (mm_up σ1 (mm_R G m 8) (11 + i) (σ1.1 (mm_R G m 8) (11 + i) + 1)) ht (by omega) hn hoi hli (ml_inc h7 hi r1) (by rw [m2.1 _ (n5_u gm)]; exact e5)
    have e1 : (if (if late then (1 : Int32) else 0) = 0 then (1 : Int32) else 0) = if (!late) = true then 1 else 0 := by cases late <;> rfl
    refine ⟨_, mm_lim_go (s' := (runI late (fun i => mv 1 (!late) (ab_inc A i)) (i + 1), nI (i + 1), mm_up σ3 (mm_R G m 8) (11 + i) (σ3.1 (mm_R G m 8) (11 + i) - 1))) ?_, _, rfl, ml_dec h7 hi r3, mm_sm_tr m1 (mm_sm_tr m2 (mm_sm_up m3 (Or.inr rfl)))⟩
    show fX4_twoTurns_b14 G m (if late then 1 else 0) _ (nI i) σ1 = _
    unfold fX4_twoTurns_b14 fX4_twoTurns_b48
    rw [M5, tc32, if_neg kc32, e5, if_pos (nI_lt hi (by omega)), ad11, N8, nI_clamp (by omega : 11 + i < 2 ^ 31), if_neg (kcn (by omega)), if_neg (kcn (by omega)), e1, f3, Option.bind_some, if_neg (kcn (by omega)), if_neg (kcn (by omega)), nI_1, ← runI_s hle late i]) (runI late (fun i => mv 1 (!late) (ab_inc A i)) 0, nI 0, σ) ⟨σ, rfl, hr, mm_sm_rf _ _⟩
  refine ⟨σ1, ?_, r1, m1⟩
  unfold fX4_twoTurns fX4_twoTurns_b0
  rw [mm_run_go, ← runI_v 1 late A hn]
  have e0 : (if (if late then (1 : Int32) else 0) = 0 then (999 : Int32) else -1) = runI late (fun i => mv 1 (!late) (ab_inc A i)) 0 := by cases late <;> rfl
  rw [e0]
  show mm_lim _ (runI late (fun i => mv 1 (!late) (ab_inc A i)) 0, nI 0, σ) = _
  rw [l1]
  refine mm_lim_ret ?_
  show fX4_twoTurns_b14 G m (if late then 1 else 0) _ (nI (a_n A)) σ1 = _
  unfold fX4_twoTurns_b14
  rw [M5, tc32, if_neg kc32, m1.1 _ (n5_u gm), h5, if_neg Int32.lt_irrefl]
theorem ml_duel (gm : gM G m cd) (ok : okP Y) {d : Nat} (hd : d ≤ 3) (hz : ¬ a_n (p_A Y) = 0) (σ : mm_M) (hc : MR G m σ Y) : ∃ σ', fX4_duel G m (nI d) σ = some (nI (mv d true (p_A Y)), σ') ∧ mm_sm (qY cd) σ σ' := by
  obtain ⟨t, ht, et, ho, hlt⟩ := okP_A ok
  have h7 := ho.1
  obtain ⟨n57, M5, M7, q7⟩ := gM_57 gm
  obtain ⟨N8, n87, n58, q8⟩ := gM_8 gm
  have hq : ∀ b, u78 G m b → qY cd b := fun b q => by
    rcases q with q | q
    · rw [q]; exact q7
    · rw [q]; exact q8
  obtain ⟨σ1, f1, hk, s1⟩ := ml_copy (σ := σ) M5 N8 n58
  have r1 : rM σ1 (mm_R G m 8) (p_A Y) 0 := rM_of h7 hk hc.2.2.1
  have e5 : σ1.1 (mm_R G m 5) 32 = nI (a_n (p_A Y)) := by rw [s1.1 _ n58]; exact hc.2.2.1.1
  have s1' : mm_sm (qY cd) σ σ1 := mm_sm_mono s1 (fun b q => by rw [q]; exact q8)
  have hb0 : fX4_duel_b0 G m (nI d) σ = (if nI d < 3 then (if nI d = 0 then ((fX4_late G m σ1).bind (fun q45 => some (.inl (q45.1, q45.2)))) else (if nI d = 1 then ((fX4_lastTurn G m 1 σ1).bind (fun q58 => some (.inl (q58.1, q58.2)))) else ((fX4_twoTurns G m 1 σ1).bind (fun q66 => some (.inl (q66.1, q66.2)))))) else (some (.inr (-1, 0, σ1)))) := by
    unfold fX4_duel_b0
    rw [ml_in, if_neg (nI_pos (by omega)), if_neg (show ¬ (3 : Int32) < nI d from nI_nlt (show d ≤ 3 from hd) (by decide)), Option.bind_some, if_neg (n01 σ), M5, tc32, if_neg kc32, if_neg (show ¬ σ.1 (mm_R G m 5) 32 = 0 by rw [hc.2.2.1.1]; exact nI_ne0 (by omega) (by omega)), f1, Option.bind_some]
  rcases (show d = 0 ∨ d = 1 ∨ d = 2 ∨ d = 3 by omega) with rfl | rfl | rfl | rfl
  · obtain ⟨σ2, f2, -, s2⟩ := mc0 gm true 30 t (p_A Y) σ1 ht (by omega) (by omega) ho hlt r1 e5
    refine ⟨σ2, ?_, mm_sm_tr s1' (mm_sm_mono s2 hq)⟩
    unfold fX4_duel
    rw [hb0, if_pos (show nI 0 < 3 by decide), if_pos (show nI 0 = 0 from rfl), bel f2]
    rfl
  · obtain ⟨σ2, f2, -, s2⟩ := mc1 gm true 30 t (p_A Y) σ1 ht (by omega) (by omega) ho hlt r1 e5
    refine ⟨σ2, ?_, mm_sm_tr s1' (mm_sm_mono s2 hq)⟩
    unfold fX4_duel
    rw [hb0, if_pos (show nI 1 < 3 by decide), if_neg (show ¬ nI 1 = 0 by decide), if_pos (show nI 1 = 1 from rfl), bel (show fX4_lastTurn G m 1 σ1 = some _ from f2)]
    rfl
  · obtain ⟨σ2, f2, -, s2⟩ := mc2 gm true 30 t (p_A Y) σ1 ht (by omega) (by omega) ho hlt r1 e5
    refine ⟨σ2, ?_, mm_sm_tr s1' (mm_sm_mono s2 hq)⟩
    unfold fX4_duel
    rw [hb0, if_pos (show nI 2 < 3 by decide), if_neg (show ¬ nI 2 = 0 by decide), if_neg (show ¬ nI 2 = 1 by decide), bel (show fX4_twoTurns G m 1 σ1 = some _ from f2)]
    rfl
  · have hn : 1 ≤ a_n (p_A Y) := by omega
    have hle : ∀ i, (fun i => mv 2 false (ab_inc (p_A Y) i)) i ≤ 201 := fun i => mv_le _ _ _
    obtain ⟨s, l2, σ2, rfl, r2, m2⟩ := mm_loop (f := fX4_duel_s G m (nI 3)) (fun i s => ∃ σ', s = (mxI (fun i => mv 2 false (ab_inc (p_A Y) i)) i, nI i, σ') ∧ rM σ' (mm_R G m 8) (p_A Y) 0 ∧ mm_sm (u78 G m) σ1 σ') (a_n (p_A Y)) (fun i s hi hI => by
      obtain ⟨σ2, rfl, r2, m2⟩ := hI
      obtain ⟨hoi, hli⟩ := inc_ok ho hlt (by omega) hi
      have e5' : σ2.1 (mm_R G m 5) 32 = nI (a_n (p_A Y)) := by rw [m2.1 _ (n5_u gm)]; exact e5
      have m3 : mm_sm (u78 G m) σ2 (mm_up σ2 (mm_R G m 8) (11 + i) (σ2.1 (mm_R G m 8) (11 + i) + 1)) := mm_sm_up (mm_sm_rf _ _) (Or.inr rfl)
      obtain ⟨σ3, f3, r3, m3'⟩ := mc2 gm false 31 t (ab_inc (p_A Y) i) (mm_up σ2 (mm_R G m 8) (11 + i) (σ2.1 (mm_R G m 8) (11 + i) + 1)) ht (by omega) hn hoi hli (ml_inc h7 hi r2) (by rw [m3.1 _ (n5_u gm)]; exact e5')
      refine ⟨_, mm_lim_go (s' := (mxI (fun i => mv 2 false (ab_inc (p_A Y) i)) (i + 1), nI (i + 1), mm_up σ3 (mm_R G m 8) (11 + i) (σ3.1 (mm_R G m 8) (11 + i) - 1))) ?_, _, rfl, ml_dec h7 hi r3, mm_sm_tr m2 (mm_sm_tr m3 (mm_sm_up m3' (Or.inr rfl)))⟩
      show fX4_duel_b74 G m (nI 3) _ (nI i) σ2 = _
      unfold fX4_duel_b74
      rw [M5, tc32, if_neg kc32, e5', if_pos (nI_lt hi (by omega)), ad11, N8, nI_clamp (by omega : 11 + i < 2 ^ 31), if_neg (kcn (by omega)), if_neg (kcn (by omega))]
      show (fX4_twoTurns G m (if false = true then 1 else 0) (mm_up σ2 (mm_R G m 8) (11 + i) (σ2.1 (mm_R G m 8) (11 + i) + 1))).bind _ = _
      rw [f3, Option.bind_some, if_neg (kcn (by omega)), if_neg (kcn (by omega)), nI_1, ← mxI_s hle i]) (-1, nI 0, σ1) ⟨σ1, rfl, r1, mm_sm_rf _ _⟩
    refine ⟨σ2, ?_, mm_sm_tr s1' (mm_sm_mono m2 hq)⟩
    unfold fX4_duel
    rw [hb0, if_neg (show ¬ nI 3 < 3 by decide), mm_run_go]
    show mm_lim _ (-1, nI 0, σ1) = _
    rw [l2, ← runI_v 2 true (p_A Y) hn]
    refine mm_lim_ret ?_
    show fX4_duel_b74 G m (nI 3) _ (nI (a_n (p_A Y))) σ2 = _
    unfold fX4_duel_b74
    rw [M5, tc32, if_neg kc32, m2.1 _ (n5_u gm), e5, if_neg Int32.lt_irrefl]
    rfl
theorem J_duel (gx : gX G x cd) (gm : gM G m cd) (ok : okP Y) (v : Int32) : Jc G x m cd (fX3_duel G x v) (fX4_duel G m v) Y := by
  obtain ⟨n57, M5, M7, q7⟩ := gM_57 gm
  by_cases h0 : v < 0
  · refine J_same (-1) ok (fun σ hc => ?_) (fun σ hc => ?_)
    · unfold fX3_duel; rw [if_pos h0]
    · unfold fX4_duel fX4_duel_b0; rw [ml_in, if_pos h0]; rfl
  · by_cases h3 : 3 < v
    · refine J_same (-1) ok (fun σ hc => ?_) (fun σ hc => ?_)
      · unfold fX3_duel; rw [if_neg h0, if_pos h3]
      · unfold fX4_duel fX4_duel_b0; rw [ml_in, if_neg h0, if_pos h3]; rfl
    · by_cases hz : a_n (p_A Y) = 0
      · refine J_same (-4) ok (fun σ hc => ?_) (fun σ hc => ?_)
        · unfold fX3_duel; rw [if_neg h0, if_neg h3, if_pos (show σ.1 (mm_R G x 5) 1 = 0 by rw [hc.2.2.1.1, hz]; rfl)]
        · unfold fX4_duel fX4_duel_b0; rw [ml_in, if_neg h0, if_neg h3, Option.bind_some, if_neg (n01 σ), M5, tc32, if_neg kc32, if_pos (show σ.1 (mm_R G m 5) 32 = 0 by rw [hc.2.2.1.1, hz]; rfl)]; rfl
      · obtain ⟨d, hd, rfl⟩ := nI_of2 (M := 3) (n := 3) (by decide) h0 (Int32.not_lt.mp h3)
        exact J_try gx gm ok _ (fun σ hc => cx_duel gx ok hd hz σ hc) (fun σ hc => ml_duel gm ok hd hz σ hc)
end DM
