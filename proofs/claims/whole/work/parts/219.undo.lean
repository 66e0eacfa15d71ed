/-! undo, keep, on -/
theorem cpy_0 (σ : mm_M) (c b o1 o2 : Nat) : mm_cpy σ c b o1 o2 0 = σ := by
  refine Prod.ext (funext fun a => funext fun k => ?_) rfl
  show (if a = b then va_cpy (σ.1 c) (σ.1 b) o1 o2 0 k else σ.1 a k) = σ.1 a k
  by_cases h : a = b
  · subst h; rw [if_pos rfl]; exact if_neg (by omega)
  · rw [if_neg h]
theorem cpy_ne {σ : mm_M} {c b o1 o2 n a : Nat} (h : a ≠ b) : (mm_cpy σ c b o1 o2 n).1 a = σ.1 a := funext fun k => if_neg h
theorem cpy_at (σ : mm_M) (c b o1 o2 n k : Nat) : (mm_cpy σ c b o1 o2 n).1 b k = if o2 ≤ k ∧ k < o2 + n then σ.1 c (o1 + (k - o2)) else σ.1 b k := if_pos rfl
theorem cpy_in {σ : mm_M} {c b o1 o2 n k : Nat} (h : k < n) : (mm_cpy σ c b o1 o2 n).1 b (o2 + k) = σ.1 c (o1 + k) := by
  rw [cpy_at, if_pos (by omega), show o2 + k - o2 = k by omega]
theorem cpy_out {σ : mm_M} {c b o1 o2 n k : Nat} (h : ¬ (o2 ≤ k ∧ k < o2 + n)) : (mm_cpy σ c b o1 o2 n).1 b k = σ.1 b k := by rw [cpy_at, if_neg h]
theorem cpy_s {σ : mm_M} {c b o1 o2 n : Nat} (h : c ≠ b) : mm_up (mm_cpy σ c b o1 o2 n) b (o2 + n) ((mm_cpy σ c b o1 o2 n).1 c (o1 + n)) = mm_cpy σ c b o1 o2 (n + 1) := by
  rw [cpy_ne h]
  refine Prod.ext (funext fun a => funext fun k => ?_) rfl
  by_cases hab : a = b
  · subst hab
    by_cases hk : k = o2 + n
    · subst hk
      rw [mm_gs, cpy_at, if_pos (by omega), show o2 + n - o2 = n by omega]
    · rw [mm_gk hk, cpy_at, cpy_at]
      by_cases h2 : o2 ≤ k ∧ k < o2 + n
      · rw [if_pos h2, if_pos (by omega)]
      · rw [if_neg h2, if_neg (by omega)]
  · rw [mm_ga hab, cpy_ne hab, cpy_ne hab]
theorem cpy_sm (σ : mm_M) (c b o1 o2 n : Nat) : mm_sm (fun x => x = b) σ (mm_cpy σ c b o1 o2 n) := ⟨fun a ha => cpy_ne ha, rfl⟩
/-! kinds and steps stay -/
def ab_fix (A B : ab_A) : Prop := a_n A = a_n B ∧ ∀ i, s_kd (a_st A i) = s_kd (a_st B i) ∧ s_sp (a_st A i) = s_sp (a_st B i)
theorem ab_fix_next (w z t : Int32) (i : Nat) (s : ab_S) : s_kd (ab_next w z t i s) = s_kd s ∧ s_sp (ab_next w z t i s) = s_sp s := by
  unfold ab_next ab_meet
  split
  · split
    · exact ⟨rfl, rfl⟩
    · split <;> exact ⟨rfl, rfl⟩
  · split <;> exact ⟨rfl, rfl⟩
theorem ab_fix_set (A : ab_A) (i : Nat) (s : ab_S) (h : s_kd s = s_kd (a_st A i) ∧ s_sp s = s_sp (a_st A i)) : ab_fix (ab_set A i s) A := ⟨rfl, fun j => by
  show s_kd (if j = i then s else a_st A j) = _ ∧ s_sp (if j = i then s else a_st A j) = _
  by_cases e : j = i
  · subst e; rw [if_pos rfl]; exact h
  · rw [if_neg e]; exact ⟨rfl, rfl⟩⟩
theorem ab_fix_act (A : ab_A) (d : p_Dd) : ab_fix (ab_act A d) A := by
  unfold ab_act
  split
  · exact ⟨rfl, fun i => ab_fix_next _ _ _ _ _⟩
  · split
    · exact ab_fix_set _ _ _ ⟨rfl, rfl⟩
    · split
      · exact ab_fix_set _ _ _ ⟨rfl, rfl⟩
      · split
        · exact ab_fix_set _ _ _ ⟨rfl, rfl⟩
        · exact ⟨rfl, fun i => ⟨rfl, rfl⟩⟩
theorem ab_fix_acts : ∀ (D : List p_Dd) (B : ab_A), ab_fix (ab_acts B D) B
  | [], _ => ⟨rfl, fun _ => ⟨rfl, rfl⟩⟩
  | d :: D, B => by
    have h1 := ab_fix_acts D (ab_act B d)
    have h2 := ab_fix_act B d
    exact ⟨h1.1.trans h2.1, fun i => ⟨(h1.2 i).1.trans (h2.2 i).1, (h1.2 i).2.trans (h2.2 i).2⟩⟩
theorem rF_back {f g h : Nat → Int32} {A A' : ab_A} {z : Int32} (hn : a_n A ≤ 7) (hx : a_n A' = a_n A ∧ ∀ i, s_kd (a_st A' i) = s_kd (a_st A i) ∧ s_sp (a_st A' i) = s_sp (a_st A i)) (hf : rF f A z) (hg : pR g A') (h1 : ∀ k, k < 32 → h k = g k) (h2 : ∀ k, 32 ≤ k → h k = f k) : rF h A' z := by
  obtain ⟨f1, f2, f3, f4, f5, f6, f7⟩ := hf
  obtain ⟨g1, g2, g3, g4, g5⟩ := hg
  refine ⟨?_, (h1 0 (by omega)).trans g1, (h1 1 (by omega)).trans g2, (h1 2 (by omega)).trans g3, (h1 3 (by omega)).trans g4, (h2 47 (by omega)).trans f6, fun i hi => ?_⟩
  · rw [h2 32 (by omega), f1, hx.1]
  · have hi' : i < a_n A := by rw [← hx.1]; exact hi
    obtain ⟨q1, q2, q3, q4⟩ := g5 i hi
    have e := f7 i hi'
    unfold msF at e ⊢
    rw [h2 (33 + i) (by omega), h1 (4 + i) (by omega), h2 (40 + i) (by omega), h1 (11 + i) (by omega), h1 (18 + i) (by omega), h1 (25 + i) (by omega), q1, q2, q3, q4]
    have k1 : f (33 + i) = s_kd (a_st A' i) := (congrArg (fun s : ab_S => s_kd s) e).trans (hx.2 i).1.symm
    have k2 : f (40 + i) = s_sp (a_st A' i) := (congrArg (fun s : ab_S => s_sp s) e).trans (hx.2 i).2.symm
    rw [k1, k2]
section UN
variable {G : mm_G} {x m : Nat} {cd : Nat → Nat} {Y : Ps}
theorem okL_take {B : ab_A} {D : List p_Dd} (h : okL B D) {n : Nat} (hn : n ≤ D.length) : okL B (D.take n) := by
  refine ⟨by rw [List.length_take]; have := h.1; omega, fun d hd => h.2.1 d (List.mem_of_mem_take hd), fun j hj => ?_⟩
  rw [List.length_take] at hj
  rw [List.take_take, show min j n = j by omega]
  exact h.2.2 j (by omega)
theorem cx_goOn (gx : gX G x cd) {B : ab_A} {L : List p_Dd} (hL : okL B L) {σ : mm_M} (hs : rA G σ (mm_R G x 4) B) (hd : c_list σ (mm_R G x 6) (mm_R G (mm_R G x 6) 0) L) : ∃ σ', fX3_goOnFromStart G x σ = some σ' ∧ rA G σ' (mm_R G x 5) (ab_acts B L) ∧ mm_sm (ic G (mm_R G x 5)) σ σ' := by
  obtain ⟨-, ex, -, -, -, -, -, -, ⟨e6, e60, eN6⟩, -⟩ := id gx
  obtain ⟨hl40, hdd, hA⟩ := hL
  have n5 : ∀ b, ic G (mm_R G x 5) b → cd b / 100 = 3 := fun b q => gX_ic5 gx q
  have h6 : ¬ ic G (mm_R G x 5) (mm_R G x 6) := fun q => by have := n5 _ q; omega
  have h60 : ¬ ic G (mm_R G x 5) (mm_R G (mm_R G x 6) 0) := fun q => by have := n5 _ q; omega
  obtain ⟨t0, -, -, ho0, -⟩ := hA 0 (Nat.zero_le _)
  obtain ⟨σ1, f1, r1, m1⟩ := ca_become (gX_ga5 gx) (gX_ga4 gx) (fun b h4 h5 => by
    have q1 := gX_ic5 gx h4
    have q2 := gX_ic4 gx h5
    unfold rg at q1 q2
    omega) hs ho0
  obtain ⟨⟨y, σ2⟩, e2, hy, r2, m2⟩ := mm_loop (f := fX3_goOnFromStart_s G x) (fun i s => s.1 = nI i ∧ rA G s.2 (mm_R G x 5) (ab_acts B (L.take i)) ∧ mm_sm (ic G (mm_R G x 5)) σ s.2) L.length (fun i s hi hI => by
    obtain ⟨y, σ2⟩ := s
    obtain ⟨hy, r2, m2⟩ := hI
    dsimp only at hy r2 m2
    subst hy
    obtain ⟨t, ht, et, ho, -⟩ := hA i (by omega)
    have hdi : okd (a_n (ab_acts B (L.take i))) (L[i]'hi) := by rw [ab_acts_n]; exact hdd _ (List.getElem_mem hi)
    obtain ⟨σ3, f3, r3, m3⟩ := ca_act (gX_ga5 gx) r2 ho (by omega) hdi
    refine ⟨(nI i + 1, σ3), mm_lim_go ?_, nI_1 i, ?_, mm_sm_tr m2 m3⟩
    · show fX3_goOnFromStart_b13 G x (nI i) σ2 = _
      unfold fX3_goOnFromStart_b13
      rw [m2.1 _ h6, hd.1, if_pos (nI_lt hi (by omega)), eN6, nI_clamp (by omega : i < 2 ^ 31), if_neg (ck_n (by omega) (by omega)), m2.1 _ h60, hd.2 i hi, f3]
      rfl
    · show rA G σ3 (mm_R G x 5) (ab_acts B (L.take (i + 1)))
      rw [show L.take (i + 1) = L.take i ++ [L[i]'hi] from List.take_succ_eq_append_getElem hi, ab_acts_s]
      exact r3) ((0 : Int32), σ1) ⟨rfl, r1, m1⟩
  dsimp only at hy r2 m2
  subst hy
  rw [List.take_length] at r2
  refine ⟨σ2, ?_, r2, m2⟩
  unfold fX3_goOnFromStart fX3_goOnFromStart_b0
  rw [f1, Option.bind_some, mm_run_go, e2]
  refine mm_lim_ret ?_
  show fX3_goOnFromStart_b13 G x (nI L.length) σ2 = _
  unfold fX3_goOnFromStart_b13
  rw [m2.1 _ h6, hd.1, if_neg Int32.lt_irrefl]
/-- the class goes on with other deeds -/
theorem cx_other (gx : gX G x cd) (ok : okP Y) {L : List p_Dd} (hL : okL (p_B Y) L) {σ σ1 : mm_M} (hc : CR G x σ Y) (m1 : mm_sm (rg cd 5) σ σ1) (hd : c_list σ1 (mm_R G x 6) (mm_R G (mm_R G x 6) 0) L) : ∃ σ', fX3_goOnFromStart G x σ1 = some σ' ∧ σ'.1 (mm_R G x 6) 1 = nI L.length ∧ CR G x σ' (y_deed Y L) ∧ mm_sn (rX cd) σ σ' := by
  obtain ⟨-, ex, -, -, -, -, -, -, ⟨e6, e60, eN6⟩, -⟩ := id gx
  have hs1 : rA G σ1 (mm_R G x 4) (p_B Y) := fr_air (cd := cd) (j := 4) (fun b hb => gX_ic4 gx hb) (okP_n ok).1 (fun b hb => m1.1 b (fun q => by unfold rg at hb q; omega)) hc.2.2.2.1
  obtain ⟨σ', f', r', m'⟩ := cx_goOn gx hL hs1 hd
  have n5 : ∀ b, ic G (mm_R G x 5) b → cd b / 100 = 3 := fun b q => gX_ic5 gx q
  have h6 : ¬ ic G (mm_R G x 5) (mm_R G x 6) := fun q => by have := n5 _ q; omega
  have h60 : ¬ ic G (mm_R G x 5) (mm_R G (mm_R G x 6) 0) := fun q => by have := n5 _ q; omega
  refine ⟨σ', f', by rw [m'.1 _ h6]; exact hd.1, CR_5 gx ok (fun i b _ h3 h5 _ hb => ?_) (by rw [m'.2, m1.2]) hc r' ?_, ?_⟩
  · unfold rg at hb
    rw [m'.1 b (fun q => by have := n5 _ q; omega), m1.1 b (fun q => by unfold rg at q; omega)]
  · show c_list σ' (mm_R G x 6) (mm_R G (mm_R G x 6) 0) L
    unfold c_list
    rw [m'.1 _ h6, m'.1 _ h60]
    exact hd
  · exact (mm_sm_tr (mm_sm_mono m1 (fun b q => rg_x q (by decide))) (mm_sm_mono m' (fun b q => rg_x (gX_ic5 gx q) (by decide)))).sn
theorem J_undo (gx : gX G x cd) (gm : gM G m cd) (ok : okP Y) (v : Int32) : Jc G x m cd (fX3_undo G x v) (fX4_undo G m v) Y := by
  obtain ⟨-, e0, -, -, -, -, -, ⟨e26, eN5⟩, -, -, -, ⟨e30, eN9⟩, -⟩ := id gm
  obtain ⟨-, ex, -, -, -, -, -, -, ⟨e6, e60, eN6⟩, -⟩ := id gx
  have n59 : mm_R G m 9 ≠ mm_R G m 5 := fun e => by rw [e] at e30; omega
  have nm5 : m ≠ mm_R G m 5 := fun e => by rw [← e] at e26; omega
  have n9m : mm_R G m 9 ≠ m := fun e => by rw [e] at e30; omega
  have hl40 := okP_D40 ok
  rcases pk_ix v (n := (p_D Y).length + 1) (by omega) with hi | hi | ⟨n, hn, rfl⟩
  · refine J_same (-1) ok (fun σ hc => by unfold fX3_undo; rw [if_pos hi]) (fun σ hc => ?_)
    unfold fX4_undo fX4_undo_b0
    rw [ml_in, if_pos hi]; rfl
  · have q : nI (p_D Y).length < v := Int32.lt_of_lt_of_le (nI_lt (Nat.lt_succ_self _) (by omega)) hi
    have q0 : ¬ v < 0 := fun z => nI_pos (by omega) (Int32.lt_trans q z)
    refine J_same (-1) ok (fun σ hc => by unfold fX3_undo; rw [if_neg q0, hc.2.2.2.2.1.1, if_pos q]) (fun σ hc => ?_)
    unfold fX4_undo fX4_undo_b0
    rw [ml_in, if_neg q0, hc.2.2.2.1.1, if_pos q]; rfl
  · have q0 : ¬ nI n < 0 := nI_pos (by omega)
    have q1 : ¬ nI (p_D Y).length < nI n := nI_nlt (by omega) (by omega)
    have hL := okL_take ok.2.2.2.1 (n := n) (by omega)
    have hlen : ((p_D Y).take n).length = n := by rw [List.length_take]; omega
    have es : nI (p_D Y).length - nI n = nI ((p_D Y).length - n) := pk_sub (by omega)
    refine ⟨nI ((p_D Y).length - n), y_deed Y ((p_D Y).take n), okP_deed ok hL, fun σ hc => ?_, fun σ hc => ?_⟩
    · obtain ⟨σ', f', -, c', s'⟩ := cx_other gx ok hL (σ1 := mm_up σ (mm_R G x 6) 1 (nI n)) hc (mm_sm_up (mm_sm_rf _ _) (show cd (mm_R G x 6) / 100 = 5 by omega)) ⟨by rw [mm_gs, hlen], fun j hj => by
        have hj' : j < n := by rw [← hlen]; exact hj
        rw [mm_ga (fun e => by rw [e] at e60; omega), List.getElem_take]
        exact hc.2.2.2.2.1.2 j (by omega)⟩
      refine ⟨σ', ?_, c', s'⟩
      unfold fX3_undo
      rw [if_neg q0, hc.2.2.2.2.1.1, if_neg q1, f', es]
      rfl
    · have he : fX4_undo_b0 G m (nI n) σ = if 0 < nI ((p_D Y).length - n) then some (.inr (nI ((p_D Y).length - n), 0, σ)) else fX4_undo_b56 G m (nI n) (nI ((p_D Y).length - n)) σ := by
        unfold fX4_undo_b0
        rw [ml_in, if_neg q0, hc.2.2.2.1.1, if_neg q1, Option.bind_some, if_neg (n01 σ)]
        show (if 0 < σ.1 m 10 - nI n then some (Sum.inr (σ.1 m 10 - nI n, (0 : Int32), σ)) else fX4_undo_b56 G m (nI n) (σ.1 m 10 - nI n) σ) = _
        rw [hc.2.2.2.1.1, es]
      have hpast : ∀ σ' : mm_M, σ'.1 (mm_R G m 9) = σ.1 (mm_R G m 9) → σ'.1 m 10 = nI n → m_deeds G m σ' (y_deed Y ((p_D Y).take n)) := by
        intro σ' h9 h10
        refine ⟨by rw [h10]; show nI n = nI ((p_D Y).take n).length; rw [hlen], fun j hj => ?_⟩
        have hj' : j < n := by have := hj; rw [show (p_D (y_deed Y ((p_D Y).take n))).length = ((p_D Y).take n).length from rfl, hlen] at this; exact this
        show pR (fun k => σ'.1 (mm_R G m 9) (0 + 32 * j + k)) (ab_acts (p_B Y) (((p_D Y).take n).take j))
        rw [h9, List.take_take, show min j n = j by omega]
        exact hc.2.2.2.1.2 j (by omega)
      by_cases hlt : n < (p_D Y).length
      · have hpos : (0 : Int32) < nI ((p_D Y).length - n) := nI_lt (show 0 < (p_D Y).length - n by omega) (by omega)
        have hfor := mm_for (f := fX4_undo_s G m (nI n)) (fun i => (nI ((p_D Y).length - n), nI i, mm_cpy σ (mm_R G m 9) (mm_R G m 5) (32 * n) 0 i)) 32 (fun i hi => by
          show fX4_undo_b27 G m (nI n) _ (nI i) _ = _
          unfold fX4_undo_b27
          have ei : (32 : Int32) * nI n + nI i = nI (32 * n + i) := by rw [show (32 : Int32) = nI 32 from rfl, pk_mul, nI_add]
          rw [if_pos (show nI i < (32 : Int32) from nI_lt hi (by decide)), ei, eN9, nI_clamp (by omega : 32 * n + i < 2 ^ 31), if_neg (ck_n (by omega) (by omega)), eN5, nI_clamp (by omega : i < 2 ^ 31), if_neg (ck_n (by omega) (by omega)), nI_1, ← cpy_s n59, Nat.zero_add])
        rw [cpy_0] at hfor
        refine ⟨mm_up (mm_cpy σ (mm_R G m 9) (mm_R G m 5) (32 * n) 0 32) m 10 (nI n), ?_, ?_, ?_⟩
        · unfold fX4_undo
          rw [he, if_pos hpos, mm_run_go]
          show mm_lim _ (nI ((p_D Y).length - n), nI 0, σ) = _
          rw [hfor]
          exact mm_lim_ret rfl
        · refine MR_5 (σ := σ) gm (fun i b hi h26 h30 hb => ?_) (fun j hj => ?_) rfl hc ?_ (hpast _ ?_ ?_)
          · unfold rg at hb
            rw [mm_ga (fun e => by rw [e] at hb; omega), cpy_ne (fun e => by rw [e] at hb; omega)]
          · rw [mm_gk hj, cpy_ne nm5]
          · show rF ((mm_up (mm_cpy σ (mm_R G m 9) (mm_R G m 5) (32 * n) 0 32) m 10 (nI n)).1 (mm_R G m 5)) (ab_acts (p_B Y) ((p_D Y).take n)) 0
            rw [mm_ga (Ne.symm nm5)]
            have fx1 := ab_fix_acts ((p_D Y).take n) (p_B Y)
            have fx2 := ab_fix_acts (p_D Y) (p_B Y)
            refine rF_back (okP_n ok).2 ⟨fx1.1.trans fx2.1.symm, fun i => ⟨(fx1.2 i).1.trans (fx2.2 i).1.symm, (fx1.2 i).2.trans (fx2.2 i).2.symm⟩⟩ hc.2.2.1 (hc.2.2.2.1.2 n hlt) (fun k hk => ?_) (fun k hk => ?_)
            · show _ = σ.1 (mm_R G m 9) (0 + 32 * n + k)
              rw [cpy_at, if_pos (by omega), Nat.zero_add, Nat.sub_zero]
            · rw [cpy_at, if_neg (by omega)]
          · rw [mm_ga n9m, cpy_ne n59]
          · rw [mm_gs]
        · exact (mm_sm_up (mm_sm_mono (cpy_sm _ _ _ _ _ _) (fun b q => by unfold rY; rw [q]; omega)) (show rY cd m by unfold rY; omega)).sn
      · have hnn : n = (p_D Y).length := by omega
        have hz : ¬ (0 : Int32) < nI ((p_D Y).length - n) := by rw [hnn, Nat.sub_self]; decide
        refine ⟨mm_up σ m 10 (nI n), ?_, ?_, ?_⟩
        · unfold fX4_undo
          rw [he, if_neg hz]
          rfl
        · refine MR_5 (σ := σ) gm (fun i b hi h26 h30 hb => ?_) (fun j hj => mm_gk hj) rfl hc ?_ (hpast _ (mm_ga n9m) (mm_gs ..))
          · unfold rg at hb
            rw [mm_ga (fun e => by rw [e] at hb; omega)]
          · show rF ((mm_up σ m 10 (nI n)).1 (mm_R G m 5)) (ab_acts (p_B Y) ((p_D Y).take n)) 0
            rw [mm_ga (Ne.symm nm5), hnn, List.take_length]
            exact hc.2.2.1
        · exact (mm_sm_up (mm_sm_rf _ _) (show rY cd m by unfold rY; omega)).sn
end UN
