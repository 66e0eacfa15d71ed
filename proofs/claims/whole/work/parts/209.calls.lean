/-! ONE CALL ON BOTH SIDES -/
def mm_sn (S : Nat → Prop) (σ σ' : mm_M) : Prop := ∀ b, ¬ S b → σ'.1 b = σ.1 b ∧ σ'.2 b = σ.2 b
theorem mm_sm.sn {S : Nat → Prop} {σ σ' : mm_M} (h : mm_sm S σ σ') : mm_sn S σ σ' := fun b hb => ⟨h.1 b hb, by rw [h.2]⟩
theorem mm_sn_rf (S : Nat → Prop) (σ : mm_M) : mm_sn S σ σ := fun _ _ => ⟨rfl, rfl⟩
theorem mm_sn_tr {S : Nat → Prop} {σ σ' σ'' : mm_M} (h1 : mm_sn S σ σ') (h2 : mm_sn S σ' σ'') : mm_sn S σ σ'' := fun b hb => ⟨(h2 b hb).1.trans (h1 b hb).1, (h2 b hb).2.trans (h1 b hb).2⟩
def Jc (G : mm_G) (x m : Nat) (cd : Nat → Nat) {α : Type} (fc fm : mm_M → Option (α × mm_M)) (Y : Ps) : Prop := ∃ (v : α) (Y' : Ps), okP Y' ∧ (∀ σ, CR G x σ Y → ∃ σ', fc σ = some (v, σ') ∧ CR G x σ' Y' ∧ mm_sn (rX cd) σ σ') ∧ (∀ σ, MR G m σ Y → ∃ σ', fm σ = some (v, σ') ∧ MR G m σ' Y' ∧ mm_sn (rY cd) σ σ')
section FM
variable {G : mm_G} {x m : Nat} {cd : Nat → Nat} {σ σ' : mm_M} {Y : Ps}
theorem fm_rows (g : gM G m cd) (h1 : ∀ b, rg cd 21 b → σ'.1 b = σ.1 b) (h2 : ∀ b, rg cd 22 b → σ'.1 b = σ.1 b) (hc : m_rows G m σ Y) : m_rows G m σ' Y := by
  obtain ⟨-, -, ⟨e1, -⟩, ⟨e2, -⟩, -⟩ := g
  intro r hr
  rw [h1 _ (by unfold rg; rw [e1]), h2 _ (by unfold rg; rw [e2])]
  exact hc r hr
theorem fm_text (g : gM G m cd) (h1 : ∀ b, rg cd 24 b → σ'.1 b = σ.1 b) (h2 : ∀ b, rg cd 25 b → σ'.1 b = σ.1 b) (hc : m_text G m σ Y) : m_text G m σ' Y := by
  obtain ⟨-, -, -, -, -, ⟨e1, -⟩, ⟨e2, -⟩, -⟩ := g
  intro r hr
  rw [h1 _ (by unfold rg; rw [e1]), h2 _ (by unfold rg; rw [e2])]
  exact hc r hr
theorem fm_now (g : gM G m cd) (h1 : ∀ b, rg cd 26 b → σ'.1 b = σ.1 b) (hc : m_now G m σ Y) : m_now G m σ' Y := by
  obtain ⟨-, -, -, -, -, -, -, ⟨e1, -⟩, -⟩ := g
  show rF (σ'.1 (mm_R G m 5)) _ _
  rw [h1 _ (by unfold rg; rw [e1])]
  exact hc
theorem fm_deeds (g : gM G m cd) (h1 : ∀ b, rg cd 20 b → σ'.1 b = σ.1 b) (h2 : ∀ b, rg cd 30 b → σ'.1 b = σ.1 b) (hc : m_deeds G m σ Y) : m_deeds G m σ' Y := by
  obtain ⟨-, e0, -, -, -, -, -, -, -, -, -, ⟨e1, -⟩, -⟩ := g
  unfold m_deeds m_past at hc ⊢
  rw [h1 _ (by unfold rg; rw [e0]), h2 _ (by unfold rg; rw [e1])]
  exact hc
theorem fm_kept (g : gM G m cd) (h1 : ∀ b, rg cd 31 b → σ'.1 b = σ.1 b) (h2 : ∀ b, rg cd 32 b → σ'.1 b = σ.1 b) (h3 : ∀ b, rg cd 33 b → σ'.1 b = σ.1 b) (hc : m_kept G m σ Y) : m_kept G m σ' Y := by
  obtain ⟨-, -, -, -, -, -, -, -, -, -, -, -, ⟨e1, -⟩, ⟨e2, -⟩, ⟨e3, -⟩, -⟩ := g
  intro k hk
  have hk' := hc k hk
  unfold m_past at hk' ⊢
  rw [h1 (mm_R G m 11) (by unfold rg; rw [e1]), h2 (mm_R G m 12) (by unfold rg; rw [e2]), h3 (mm_R G m 13) (by unfold rg; rw [e3])]
  exact hk'
theorem fm_told (g : gM G m cd) (h1 : ∀ b, rg cd 20 b → σ'.1 b = σ.1 b) (h2 : σ'.2 m = σ.2 m) (hc : m_told m σ Y) : m_told m σ' Y := by
  unfold m_told at hc ⊢
  rw [h1 _ (by unfold rg; rw [g.2.1]), h2]
  exact hc
theorem fm_found (g : gM G m cd) (h1 : ∀ b, rg cd 34 b → σ'.1 b = σ.1 b) (hc : m_found G m σ Y) : m_found G m σ' Y := by
  obtain ⟨-, -, -, -, -, -, -, -, -, -, -, -, -, -, -, ⟨e1, -⟩, -⟩ := g
  intro f h1' h6
  rw [h1 _ (by unfold rg; rw [e1])]
  exact hc f h1' h6
theorem fr_MR (g : gM G m cd) (h : ∀ b, rY cd b → σ'.1 b = σ.1 b) (h2 : σ'.2 m = σ.2 m) (hc : MR G m σ Y) : MR G m σ' Y :=
  ⟨fm_rows g (fun b hb => h b (rg_y hb (by decide))) (fun b hb => h b (rg_y hb (by decide))) hc.1, fm_text g (fun b hb => h b (rg_y hb (by decide))) (fun b hb => h b (rg_y hb (by decide))) hc.2.1, fm_now g (fun b hb => h b (rg_y hb (by decide))) hc.2.2.1, fm_deeds g (fun b hb => h b (rg_y hb (by decide))) (fun b hb => h b (rg_y hb (by decide))) hc.2.2.2.1, fm_kept g (fun b hb => h b (rg_y hb (by decide))) (fun b hb => h b (rg_y hb (by decide))) (fun b hb => h b (rg_y hb (by decide))) hc.2.2.2.2.1, fm_told g (fun b hb => h b (rg_y hb (by decide))) h2 hc.2.2.2.2.2.1, fm_found g (fun b hb => h b (rg_y hb (by decide))) hc.2.2.2.2.2.2⟩
theorem okP_n (h : okP Y) : a_n (p_B Y) ≤ 7 ∧ a_n (p_A Y) ≤ 7 := by
  obtain ⟨-, -, -, ⟨-, -, hA⟩, -⟩ := h
  obtain ⟨t, -, -, ho, -⟩ := hA 0 (Nat.zero_le _)
  obtain ⟨t', -, -, ho', -⟩ := hA (p_D Y).length (Nat.le_refl _)
  rw [List.take_length] at ho'
  exact ⟨ho.1, ho'.1⟩
/-- a call that both sides answer alike -/
theorem Jc_use {α : Type} {fc fm : mm_M → Option (α × mm_M)} (gx : gX G x cd) (gm : gM G m cd) (h : Jc G x m cd fc fm Y) (hc : CR G x σ Y) (hm : MR G m σ Y) : ∃ v σ1 σ2 Y', fc σ = some (v, σ1) ∧ fm σ1 = some (v, σ2) ∧ okP Y' ∧ CR G x σ2 Y' ∧ MR G m σ2 Y' := by
  obtain ⟨v, Y', hok, h1, h2⟩ := h
  obtain ⟨σ1, e1, c1, s1⟩ := h1 σ hc
  have hm1 : MR G m σ1 Y := fr_MR gm (fun b hb => (s1 b (fun q => by unfold rX at q; unfold rY at hb; omega)).1) (s1 m (fun q => by unfold rX at q; rw [gm.2.1] at q; omega)).2 hm
  obtain ⟨σ2, e2, m2, s2⟩ := h2 σ1 hm1
  obtain ⟨n1, n2⟩ := okP_n hok
  refine ⟨v, σ1, σ2, Y', e1, e2, hok, fr_CR gx n1 n2 (fun i b _ hi hb => (s2 b (fun q => by unfold rY at q; unfold rg at hb; omega)).1) (s2 x (fun q => by unfold rY at q; rw [gx.2.1] at q; omega)).2 c1, m2⟩
/-! what is told, and what is found -/
def y_7 (Y : Ps) (as : Int32) (up lo : Int64) (fi : Int32) (fo : Nat → Int32) : Ps := (p_rs Y, p_rv Y, p_ts Y, p_tv Y, p_B Y, p_D Y, p_K Y, as, up, lo, fi, fo)
def y_fnd (Y : Ps) (k : Nat) : Ps := y_7 Y (p_as Y) (p_up Y) (p_lo Y) (nI k) (fun f => if f = k then p_fo Y f + 1 else p_fo Y f)
def y_ask (Y : Ps) (v : Int32) : Ps := y_7 Y v (p_up Y) (p_lo Y) (p_fi Y) (p_fo Y)
theorem okP_7 {as : Int32} {up lo : Int64} {fi : Int32} {fo : Nat → Int32} (h : okP Y) : okP (y_7 Y as up lo fi fo) := h
theorem CR_7 {as : Int32} {up lo : Int64} {fi : Int32} {fo : Nat → Int32} (g : gX G x cd) (ok : okP Y) (h : ∀ i b, 1 ≤ i → i ≤ 6 → rg cd i b → σ'.1 b = σ.1 b) (hc : CR G x σ Y) (ht : c_told x σ' (y_7 Y as up lo fi fo)) (hf : c_found G x σ' (y_7 Y as up lo fi fo)) : CR G x σ' (y_7 Y as up lo fi fo) :=
  ⟨fr_rows g (fun b => h 1 b (by decide) (by decide)) (show c_rows G x σ (y_7 Y as up lo fi fo) from hc.1), fr_text g (fun b => h 2 b (by decide) (by decide)) (show c_text G x σ (y_7 Y as up lo fi fo) from hc.2.1), fr_air (fun b hb => gX_ic5 g hb) (okP_n ok).2 (fun b => h 3 b (by decide) (by decide)) (show c_now G x σ (y_7 Y as up lo fi fo) from hc.2.2.1), fr_air (fun b hb => gX_ic4 g hb) (okP_n ok).1 (fun b => h 4 b (by decide) (by decide)) (show c_start G x σ (y_7 Y as up lo fi fo) from hc.2.2.2.1), fr_deeds g (fun b => h 5 b (by decide) (by decide)) (show c_deeds G x σ (y_7 Y as up lo fi fo) from hc.2.2.2.2.1), fr_kept g (fun b => h 6 b (by decide) (by decide)) (show c_kept G x σ (y_7 Y as up lo fi fo) from hc.2.2.2.2.2.1), ht, hf⟩
theorem MR_7 {as : Int32} {up lo : Int64} {fi : Int32} {fo : Nat → Int32} (g : gM G m cd) (h : ∀ i b, 20 < i → ¬ i = 34 → rg cd i b → σ'.1 b = σ.1 b) (h10 : σ'.1 m 10 = σ.1 m 10) (hc : MR G m σ Y) (ht : m_told m σ' (y_7 Y as up lo fi fo)) (hf : m_found G m σ' (y_7 Y as up lo fi fo)) : MR G m σ' (y_7 Y as up lo fi fo) := by
  refine ⟨fm_rows g (fun b => h 21 b (by decide) (by decide)) (fun b => h 22 b (by decide) (by decide)) (show m_rows G m σ (y_7 Y as up lo fi fo) from hc.1), fm_text g (fun b => h 24 b (by decide) (by decide)) (fun b => h 25 b (by decide) (by decide)) (show m_text G m σ (y_7 Y as up lo fi fo) from hc.2.1), fm_now g (fun b => h 26 b (by decide) (by decide)) (show m_now G m σ (y_7 Y as up lo fi fo) from hc.2.2.1), ?_, fm_kept g (fun b => h 31 b (by decide) (by decide)) (fun b => h 32 b (by decide) (by decide)) (fun b => h 33 b (by decide) (by decide)) (show m_kept G m σ (y_7 Y as up lo fi fo) from hc.2.2.2.2.1), ht, hf⟩
  have hd := hc.2.2.2.1
  obtain ⟨-, -, -, -, -, -, -, -, -, -, -, ⟨e1, -⟩, -⟩ := g
  have e30 := h 30 (mm_R G m 9) (by decide) (by decide) (by unfold rg; rw [e1])
  show σ'.1 m 10 = nI (p_D Y).length ∧ m_past σ' (mm_R G m 9) 0 (p_B Y) (p_D Y)
  refine ⟨by rw [h10]; exact hd.1, ?_⟩
  unfold m_past
  rw [e30]
  exact hd.2
theorem cx_found (g : gX G x cd) (ok : okP Y) {k : Nat} (h1 : 1 ≤ k) (h5 : k ≤ 5) (σ : mm_M) (hc : CR G x σ Y) : ∃ σ', fX3_found G x (nI k) σ = some (-3, σ') ∧ CR G x σ' (y_fnd Y k) ∧ mm_sn (rX cd) σ σ' := by
  have g' := g
  obtain ⟨-, ex, -, -, -, -, -, -, -, -, -, -, -, -, ⟨ef, eN⟩⟩ := g'
  have hne : mm_R G x 16 ≠ x := fun e => by rw [e, ex] at ef; omega
  refine ⟨mm_up (mm_up σ x 15 (nI k)) (mm_R G x 16) k (σ.1 (mm_R G x 16) k + 1), ?_, ?_, ?_⟩
  · unfold fX3_found
    rw [if_neg (show ¬ nI k < 1 from nI_nlt (show 1 ≤ k from h1) (by omega)), if_neg (show ¬ (5 : Int32) < nI k from nI_nlt (show k ≤ 5 from h5) (by decide)), eN, if_neg (ck_no (by omega) (by decide)), if_neg (ck_no (by omega) (by decide)), nI_clamp (by omega), mm_ga hne]
  · refine CR_7 g ok (fun i b hi hi6 hb => ?_) hc ?_ ?_
    · unfold rg at hb
      rw [mm_ga (fun e => by rw [e, ef] at hb; omega), mm_ga (fun e => by rw [e, ex] at hb; omega)]
    · obtain ⟨t1, t2, t3, t4⟩ := hc.2.2.2.2.2.2.1
      refine ⟨?_, t2, t3, ?_⟩
      · rw [mm_ga (Ne.symm hne), mm_gk (by decide)]; exact t1
      · rw [mm_ga (Ne.symm hne), mm_gs]; rfl
    · intro f hf1 hf6
      show (mm_up (mm_up σ x 15 (nI k)) (mm_R G x 16) k (σ.1 (mm_R G x 16) k + 1)).1 (mm_R G x 16) f = if f = k then p_fo Y f + 1 else p_fo Y f
      by_cases hfk : f = k
      · subst hfk
        rw [if_pos rfl, mm_gs, hc.2.2.2.2.2.2.2 f hf1 hf6]
      · rw [if_neg hfk, mm_gk hfk, mm_ga hne]
        exact hc.2.2.2.2.2.2.2 f hf1 hf6
  · exact (mm_sm_up (mm_sm_up (mm_sm_rf _ _) (show rX cd x by unfold rX; omega)) (show rX cd (mm_R G x 16) by unfold rX; omega)).sn
theorem ml_found (g : gM G m cd) {k : Nat} (h1 : 1 ≤ k) (h5 : k ≤ 5) (σ : mm_M) (hc : MR G m σ Y) : ∃ σ', fX4_finds G m (nI k) σ = some (-3, σ') ∧ MR G m σ' (y_fnd Y k) ∧ mm_sn (rY cd) σ σ' := by
  have g' := g
  obtain ⟨-, ex, -, -, -, -, -, -, -, -, -, -, -, -, -, ⟨ef, eN⟩, -⟩ := g'
  have hne : mm_R G m 18 ≠ m := fun e => by rw [e, ex] at ef; omega
  refine ⟨mm_up (mm_up σ m 17 (nI k)) (mm_R G m 18) k (σ.1 (mm_R G m 18) k + 1), ?_, ?_, ?_⟩
  · unfold fX4_finds
    rw [eN, if_neg (ck_no (by omega) (by decide)), if_neg (ck_no (by omega) (by decide)), nI_clamp (by omega), mm_ga hne]
  · refine MR_7 g (fun i b hi h34 hb => ?_) ?_ hc ?_ ?_
    · unfold rg at hb
      rw [mm_ga (fun e => by rw [e, ef] at hb; omega), mm_ga (fun e => by rw [e, ex] at hb; omega)]
    · rw [mm_ga (Ne.symm hne), mm_gk (by decide)]
    · obtain ⟨t1, t2, t3, t4⟩ := hc.2.2.2.2.2.1
      refine ⟨?_, t2, t3, ?_⟩
      · rw [mm_ga (Ne.symm hne), mm_gk (by decide)]; exact t1
      · rw [mm_ga (Ne.symm hne), mm_gs]; rfl
    · intro f hf1 hf6
      show (mm_up (mm_up σ m 17 (nI k)) (mm_R G m 18) k (σ.1 (mm_R G m 18) k + 1)).1 (mm_R G m 18) f = if f = k then p_fo Y f + 1 else p_fo Y f
      by_cases hfk : f = k
      · subst hfk
        rw [if_pos rfl, mm_gs, hc.2.2.2.2.2.2 f hf1 hf6]
      · rw [if_neg hfk, mm_gk hfk, mm_ga hne]
        exact hc.2.2.2.2.2.2 f hf1 hf6
  · exact (mm_sm_up (mm_sm_up (mm_sm_rf _ _) (show rY cd m by unfold rY; omega)) (show rY cd (mm_R G m 18) by unfold rY; omega)).sn
theorem cx_ask (g : gX G x cd) (ok : okP Y) (v : Int32) (σ : mm_M) (hc : CR G x σ Y) : CR G x (mm_up σ x 12 v) (y_ask Y v) ∧ mm_sn (rX cd) σ (mm_up σ x 12 v) := by
  have g' := g
  obtain ⟨-, ex, -, -, -, -, -, -, -, -, -, -, -, -, ⟨ef, eN⟩⟩ := g'
  have hne : mm_R G x 16 ≠ x := fun e => by rw [e, ex] at ef; omega
  refine ⟨CR_7 g ok (fun i b hi hi6 hb => ?_) hc ?_ ?_, (mm_sm_up (mm_sm_rf _ _) (show rX cd x by unfold rX; omega)).sn⟩
  · unfold rg at hb
    rw [mm_ga (fun e => by rw [e, ex] at hb; omega)]
  · obtain ⟨t1, t2, t3, t4⟩ := hc.2.2.2.2.2.2.1
    exact ⟨mm_gs .., t2, t3, by rw [mm_gk (by decide)]; exact t4⟩
  · intro f hf1 hf6
    rw [mm_ga hne]
    exact hc.2.2.2.2.2.2.2 f hf1 hf6
theorem ml_ask (g : gM G m cd) (v : Int32) (σ : mm_M) (hc : MR G m σ Y) : MR G m (mm_up σ m 14 v) (y_ask Y v) ∧ mm_sn (rY cd) σ (mm_up σ m 14 v) := by
  have g' := g
  obtain ⟨-, ex, -, -, -, -, -, -, -, -, -, -, -, -, -, ⟨ef, eN⟩, -⟩ := g'
  have hne : mm_R G m 18 ≠ m := fun e => by rw [e, ex] at ef; omega
  refine ⟨MR_7 g (fun i b hi h34 hb => ?_) ?_ hc ?_ ?_, (mm_sm_up (mm_sm_rf _ _) (show rY cd m by unfold rY; omega)).sn⟩
  · unfold rg at hb
    rw [mm_ga (fun e => by rw [e, ex] at hb; omega)]
  · rw [mm_gk (by decide)]
  · obtain ⟨t1, t2, t3, t4⟩ := hc.2.2.2.2.2.1
    exact ⟨mm_gs .., t2, t3, by rw [mm_gk (by decide)]; exact t4⟩
  · intro f hf1 hf6
    rw [mm_ga hne]
    exact hc.2.2.2.2.2.2 f hf1 hf6
/-! the calls that only tell -/
theorem J_asked (ok : okP Y) : Jc G x m cd (fX3_asked G x) (fX4_asked G m) Y :=
  ⟨p_as Y, Y, ok, fun σ hc => ⟨σ, by unfold fX3_asked; rw [hc.2.2.2.2.2.2.1.1], hc, mm_sn_rf _ _⟩, fun σ hc => ⟨σ, by unfold fX4_asked; rw [hc.2.2.2.2.2.1.1], hc, mm_sn_rf _ _⟩⟩
theorem J_upper (ok : okP Y) : Jc G x m cd (fX3_upper G x) (fX4_upper G m) Y :=
  ⟨p_up Y, Y, ok, fun σ hc => ⟨σ, by unfold fX3_upper; rw [hc.2.2.2.2.2.2.1.2.1], hc, mm_sn_rf _ _⟩, fun σ hc => ⟨σ, by unfold fX4_upper; rw [hc.2.2.2.2.2.1.2.1], hc, mm_sn_rf _ _⟩⟩
theorem J_lower (ok : okP Y) : Jc G x m cd (fX3_lower G x) (fX4_lower G m) Y :=
  ⟨p_lo Y, Y, ok, fun σ hc => ⟨σ, by unfold fX3_lower; rw [hc.2.2.2.2.2.2.1.2.2.1], hc, mm_sn_rf _ _⟩, fun σ hc => ⟨σ, by unfold fX4_lower; rw [hc.2.2.2.2.2.1.2.2.1], hc, mm_sn_rf _ _⟩⟩
theorem J_finding (ok : okP Y) : Jc G x m cd (fX3_finding G x) (fX4_finding G m) Y :=
  ⟨p_fi Y, Y, ok, fun σ hc => ⟨σ, by unfold fX3_finding; rw [hc.2.2.2.2.2.2.1.2.2.2], hc, mm_sn_rf _ _⟩, fun σ hc => ⟨σ, by unfold fX4_finding; rw [hc.2.2.2.2.2.1.2.2.2], hc, mm_sn_rf _ _⟩⟩
end FM
