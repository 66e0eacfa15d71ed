/-! WHAT STAYS: each part of the state is told by the cells of its region alone -/
theorem gX_ga5 {G : mm_G} {x : Nat} {cd : Nat → Nat} (g : gX G x cd) : ga G (mm_R G x 5) := by
  obtain ⟨-, -, -, -, -, -, -, ⟨h1, h2, h3⟩, -⟩ := g
  refine ⟨h2, fun i hi e => ?_, fun i j hi hj e => ?_⟩
  · have := h3 i hi; rw [e, h1] at this; omega
  · have a := h3 i hi; have b := h3 j hj; rw [e, b] at a; omega
theorem gX_ga4 {G : mm_G} {x : Nat} {cd : Nat → Nat} (g : gX G x cd) : ga G (mm_R G x 4) := by
  obtain ⟨-, -, -, -, -, -, ⟨h1, h2, h3⟩, -⟩ := g
  refine ⟨h2, fun i hi e => ?_, fun i j hi hj e => ?_⟩
  · have := h3 i hi; rw [e, h1] at this; omega
  · have a := h3 i hi; have b := h3 j hj; rw [e, b] at a; omega
theorem gX_ga8 {G : mm_G} {x : Nat} {cd : Nat → Nat} (g : gX G x cd) : ga G (mm_R G x 8) := by
  obtain ⟨-, -, -, -, -, -, -, -, -, -, ⟨h1, h2, h3⟩, -⟩ := g
  refine ⟨h2, fun i hi e => ?_, fun i j hi hj e => ?_⟩
  · have := h3 i hi; rw [e, h1] at this; omega
  · have a := h3 i hi; have b := h3 j hj; rw [e, b] at a; omega
theorem gX_ga9 {G : mm_G} {x : Nat} {cd : Nat → Nat} (g : gX G x cd) : ga G (mm_R G x 9) := by
  obtain ⟨-, -, -, -, -, -, -, -, -, -, -, ⟨h1, h2, h3⟩, -⟩ := g
  refine ⟨h2, fun i hi e => ?_, fun i j hi hj e => ?_⟩
  · have := h3 i hi; rw [e, h1] at this; omega
  · have a := h3 i hi; have b := h3 j hj; rw [e, b] at a; omega
/-- the cells of each air lie in its region -/
theorem gX_ic5 {G : mm_G} {x : Nat} {cd : Nat → Nat} (g : gX G x cd) {b : Nat} (h : ic G (mm_R G x 5) b) : rg cd 3 b := by
  obtain ⟨-, -, -, -, -, -, -, ⟨h1, h2, h3⟩, -⟩ := g
  unfold rg
  rcases h with rfl | ⟨i, hi, rfl⟩
  · rw [h1]
  · rw [h3 i hi]; omega
theorem gX_ic4 {G : mm_G} {x : Nat} {cd : Nat → Nat} (g : gX G x cd) {b : Nat} (h : ic G (mm_R G x 4) b) : rg cd 4 b := by
  obtain ⟨-, -, -, -, -, -, ⟨h1, h2, h3⟩, -⟩ := g
  unfold rg
  rcases h with rfl | ⟨i, hi, rfl⟩
  · rw [h1]
  · rw [h3 i hi]; omega
theorem gX_ic8 {G : mm_G} {x : Nat} {cd : Nat → Nat} (g : gX G x cd) {b : Nat} (h : ic G (mm_R G x 8) b) : rg cd 9 b := by
  obtain ⟨-, -, -, -, -, -, -, -, -, -, ⟨h1, h2, h3⟩, -⟩ := g
  unfold rg
  rcases h with rfl | ⟨i, hi, rfl⟩
  · rw [h1]
  · rw [h3 i hi]; omega
theorem gX_ic9 {G : mm_G} {x : Nat} {cd : Nat → Nat} (g : gX G x cd) {b : Nat} (h : ic G (mm_R G x 9) b) : rg cd 10 b := by
  obtain ⟨-, -, -, -, -, -, -, -, -, -, -, ⟨h1, h2, h3⟩, -⟩ := g
  unfold rg
  rcases h with rfl | ⟨i, hi, rfl⟩
  · rw [h1]
  · rw [h3 i hi]; omega
theorem rg_x {cd : Nat → Nat} {b i : Nat} (h : rg cd i b) (hi : i < 20) : rX cd b := by unfold rg at h; unfold rX; omega
theorem rg_y {cd : Nat → Nat} {b i : Nat} (h : rg cd i b) (hi : 20 ≤ i) : rY cd b := by unfold rg at h; unfold rY; omega
section FR
variable {G : mm_G} {x m : Nat} {cd : Nat → Nat} {σ σ' : mm_M} {Y : Ps}
theorem fr_rows (g : gX G x cd) (h : ∀ b, rg cd 1 b → σ'.1 b = σ.1 b) (hc : c_rows G x σ Y) : c_rows G x σ' Y := by
  obtain ⟨-, -, ⟨-, h3⟩, ⟨-, h4⟩, -⟩ := g
  intro r hr
  have e1 : rg cd 1 (mm_R G x 1) := by unfold rg; rw [h4]
  have e2 : rg cd 1 (mm_R G (mm_R G x 0) r) := by unfold rg; rw [(h3 r hr).1]; omega
  rw [h _ e1, h _ e2]
  exact hc r hr
theorem fr_text (g : gX G x cd) (h : ∀ b, rg cd 2 b → σ'.1 b = σ.1 b) (hc : c_text G x σ Y) : c_text G x σ' Y := by
  obtain ⟨-, -, -, -, ⟨-, h3⟩, ⟨-, h4⟩, -⟩ := g
  intro r hr
  have e1 : rg cd 2 (mm_R G x 3) := by unfold rg; rw [h4]
  have e2 : rg cd 2 (mm_R G (mm_R G x 2) r) := by unfold rg; rw [(h3 r hr).1]; omega
  rw [h _ e1, h _ e2]
  exact hc r hr
theorem fr_air {a : Nat} {A : ab_A} {j : Nat} (hic : ∀ b, ic G a b → rg cd j b) (hn : a_n A ≤ 7) (h : ∀ b, rg cd j b → σ'.1 b = σ.1 b) (hr : rA G σ a A) : rA G σ' a A := by
  have e := h a (hic a (Or.inl rfl))
  refine ⟨by rw [e]; exact hr.1, by rw [e]; exact hr.2.1, by rw [e]; exact hr.2.2.1, by rw [e]; exact hr.2.2.2.1, by rw [e]; exact hr.2.2.2.2.1, fun i hi => ?_⟩
  have := h _ (hic _ (Or.inr ⟨i, by omega, rfl⟩))
  rw [← hr.2.2.2.2.2 i hi]
  unfold so
  rw [this]
theorem fr_deeds (g : gX G x cd) (h : ∀ b, rg cd 5 b → σ'.1 b = σ.1 b) (hc : c_deeds G x σ Y) : c_deeds G x σ' Y := by
  obtain ⟨-, -, -, -, -, -, -, -, ⟨h1, h2, -⟩, -⟩ := g
  have e1 : rg cd 5 (mm_R G x 6) := by unfold rg; rw [h1]
  have e2 : rg cd 5 (mm_R G (mm_R G x 6) 0) := by unfold rg; rw [h2]
  unfold c_deeds c_list at hc ⊢
  rw [h _ e1, h _ e2]
  exact hc
theorem fr_kept (g : gX G x cd) (h : ∀ b, rg cd 6 b → σ'.1 b = σ.1 b) (hc : c_kept G x σ Y) : c_kept G x σ' Y := by
  obtain ⟨-, -, -, -, -, -, -, -, -, ⟨-, h3⟩, -⟩ := g
  intro k hk
  have hk' := hc k hk
  have e1 : rg cd 6 (mm_R G (mm_R G x 7) k) := by unfold rg; rw [(h3 k hk).1]; omega
  have e2 : rg cd 6 (mm_R G (mm_R G (mm_R G x 7) k) 0) := by unfold rg; rw [(h3 k hk).2.1]; omega
  cases hK : p_K Y k with
  | none => rw [hK] at hk'; show σ'.1 _ 1 = -1; rw [h _ e1]; exact hk'
  | some L =>
    rw [hK] at hk'
    have hk2 : c_list σ (mm_R G (mm_R G x 7) k) (mm_R G (mm_R G (mm_R G x 7) k) 0) L := hk'
    show c_list σ' _ _ L
    unfold c_list at hk2 ⊢
    rw [h _ e1, h _ e2]
    exact hk2
theorem fr_told (g : gX G x cd) (h : ∀ b, rg cd 7 b → σ'.1 b = σ.1 b) (h2 : σ'.2 x = σ.2 x) (hc : c_told x σ Y) : c_told x σ' Y := by
  have e1 : rg cd 7 x := by unfold rg; rw [g.2.1]
  unfold c_told at hc ⊢
  rw [h _ e1, h2]
  exact hc
theorem fr_found (g : gX G x cd) (h : ∀ b, rg cd 8 b → σ'.1 b = σ.1 b) (hc : c_found G x σ Y) : c_found G x σ' Y := by
  obtain ⟨-, -, -, -, -, -, -, -, -, -, -, -, -, -, ⟨h1, -⟩⟩ := g
  have e1 : rg cd 8 (mm_R G x 16) := by unfold rg; rw [h1]
  intro f h1 h6
  rw [h _ e1]
  exact hc f h1 h6
/-- what changes nothing but other regions keeps all of the class's state -/
theorem fr_CR (g : gX G x cd) (hn : a_n (p_B Y) ≤ 7) (hA : a_n (p_A Y) ≤ 7) (h : ∀ i b, 1 ≤ i → i ≤ 8 → rg cd i b → σ'.1 b = σ.1 b) (h2 : σ'.2 x = σ.2 x) (hc : CR G x σ Y) : CR G x σ' Y :=
  ⟨fr_rows g (fun b => h 1 b (by decide) (by decide)) hc.1, fr_text g (fun b => h 2 b (by decide) (by decide)) hc.2.1, fr_air (fun b hb => gX_ic5 g hb) hA (fun b => h 3 b (by decide) (by decide)) hc.2.2.1,
   fr_air (fun b hb => gX_ic4 g hb) hn (fun b => h 4 b (by decide) (by decide)) hc.2.2.2.1, fr_deeds g (fun b => h 5 b (by decide) (by decide)) hc.2.2.2.2.1, fr_kept g (fun b => h 6 b (by decide) (by decide)) hc.2.2.2.2.2.1, fr_told g (fun b => h 7 b (by decide) (by decide)) h2 hc.2.2.2.2.2.2.1, fr_found g (fun b => h 8 b (by decide) (by decide)) hc.2.2.2.2.2.2.2⟩
end FR
