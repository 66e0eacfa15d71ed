/-! what is only tried aside leaves the state alone -/
section SC
variable {G : mm_G} {x m : Nat} {cd : Nat → Nat} {Y : Ps} {σ σ' : mm_M}
/-- the class's cells for trying; the model's -/
def qX (cd : Nat → Nat) : Nat → Prop := fun b => 900 ≤ cd b ∧ cd b < 2000
def qY (cd : Nat → Nat) : Nat → Prop := fun b => cd b / 100 = 23 ∨ cd b / 100 = 27 ∨ cd b / 100 = 28 ∨ cd b / 100 = 29 ∨ 35 ≤ cd b / 100
theorem CR_q (g : gX G x cd) (ok : okP Y) (h : mm_sm (qX cd) σ σ') (hc : CR G x σ Y) : CR G x σ' Y ∧ mm_sn (rX cd) σ σ' :=
  ⟨fr_CR g (okP_n ok).1 (okP_n ok).2 (fun i b h1 h8 hb => h.1 b (fun q => by unfold qX at q; unfold rg at hb; omega)) (by rw [h.2]) hc, (mm_sm_mono h (fun b q => q.2)).sn⟩
theorem MR_q (g : gM G m cd) (h : mm_sm (qY cd) σ σ') (hc : MR G m σ Y) : MR G m σ' Y ∧ mm_sn (rY cd) σ σ' := by
  have hh : ∀ i b, 20 ≤ i → i ≤ 34 → ¬ i = 23 → ¬ i = 27 → ¬ i = 28 → ¬ i = 29 → rg cd i b → σ'.1 b = σ.1 b := fun i b h1 h2 h3 h4 h5 h6 hb => h.1 b (fun q => by unfold qY at q; unfold rg at hb; omega)
  exact ⟨⟨fm_rows g (fun b => hh 21 b (by decide) (by decide) (by decide) (by decide) (by decide) (by decide)) (fun b => hh 22 b (by decide) (by decide) (by decide) (by decide) (by decide) (by decide)) hc.1, fm_text g (fun b => hh 24 b (by decide) (by decide) (by decide) (by decide) (by decide) (by decide)) (fun b => hh 25 b (by decide) (by decide) (by decide) (by decide) (by decide) (by decide)) hc.2.1, fm_now g (fun b => hh 26 b (by decide) (by decide) (by decide) (by decide) (by decide) (by decide)) hc.2.2.1, fm_deeds g (fun b => hh 20 b (by decide) (by decide) (by decide) (by decide) (by decide) (by decide)) (fun b => hh 30 b (by decide) (by decide) (by decide) (by decide) (by decide) (by decide)) hc.2.2.2.1, fm_kept g (fun b => hh 31 b (by decide) (by decide) (by decide) (by decide) (by decide) (by decide)) (fun b => hh 32 b (by decide) (by decide) (by decide) (by decide) (by decide) (by decide)) (fun b => hh 33 b (by decide) (by decide) (by decide) (by decide) (by decide) (by decide)) hc.2.2.2.2.1, fm_told g (fun b => hh 20 b (by decide) (by decide) (by decide) (by decide) (by decide) (by decide)) (by rw [h.2]) hc.2.2.2.2.2.1, fm_found g (fun b => hh 34 b (by decide) (by decide) (by decide) (by decide) (by decide) (by decide)) hc.2.2.2.2.2.2⟩, (mm_sm_mono h (fun b q => by unfold qY at q; unfold rY; omega)).sn⟩
theorem sn_of (h : mm_sn (rX cd) σ σ') {σ'' : mm_M} (h2 : mm_sn (rX cd) σ' σ'') : mm_sn (rX cd) σ σ'' := mm_sn_tr h h2
/-- both try aside, and answer v -/
theorem J_try {α : Type} {fc fm : mm_M → Option (α × mm_M)} (gx : gX G x cd) (gm : gM G m cd) (ok : okP Y) (v : α) (h1 : ∀ σ, CR G x σ Y → ∃ σ', fc σ = some (v, σ') ∧ mm_sm (qX cd) σ σ') (h2 : ∀ σ, MR G m σ Y → ∃ σ', fm σ = some (v, σ') ∧ mm_sm (qY cd) σ σ') : Jc G x m cd fc fm Y :=
  ⟨v, Y, ok, fun σ hc => by
    obtain ⟨σ', e, s⟩ := h1 σ hc
    exact ⟨σ', e, CR_q gx ok s hc⟩, fun σ hc => by
    obtain ⟨σ', e, s⟩ := h2 σ hc
    exact ⟨σ', e, MR_q gm s hc⟩⟩
/-- both try aside, tell u, and answer v -/
theorem J_tryt {α : Type} {fc fm : mm_M → Option (α × mm_M)} (gx : gX G x cd) (gm : gM G m cd) (ok : okP Y) (v : α) (u : Int32) (h1 : ∀ σ, CR G x σ Y → ∃ σ', fc σ = some (v, mm_up σ' x 12 u) ∧ mm_sm (qX cd) σ σ') (h2 : ∀ σ, MR G m σ Y → ∃ σ', fm σ = some (v, mm_up σ' m 14 u) ∧ mm_sm (qY cd) σ σ') : Jc G x m cd fc fm Y :=
  ⟨v, y_ask Y u, okP_7 ok, fun σ hc => by
    obtain ⟨σ', e, s⟩ := h1 σ hc
    obtain ⟨c1, s1⟩ := CR_q gx ok s hc
    obtain ⟨c2, s2⟩ := cx_ask gx ok u σ' c1
    exact ⟨_, e, c2, mm_sn_tr s1 s2⟩, fun σ hc => by
    obtain ⟨σ', e, s⟩ := h2 σ hc
    obtain ⟨c1, s1⟩ := MR_q gm s hc
    obtain ⟨c2, s2⟩ := ml_ask gm u σ' c1
    exact ⟨_, e, c2, mm_sn_tr s1 s2⟩⟩
theorem ic8_q (g : gX G x cd) : ∀ b, ic G (mm_R G x 8) b → qX cd b := fun b hb => by
  have := gX_ic8 g hb
  unfold rg at this
  unfold qX
  omega
theorem ic9_q (g : gX G x cd) : ∀ b, ic G (mm_R G x 9) b → qX cd b := fun b hb => by
  have := gX_ic9 g hb
  unfold rg at this
  unfold qX
  omega
end SC
