/-! ROWS -/
theorem be {α : Type} (o : Option (α × mm_M)) : o.bind (fun q => some (q.1, q.2)) = o := by cases o <;> rfl
theorem bel {α β : Type} {o : Option (α × mm_M)} {v : α} {σ : mm_M} (h : o = some (v, σ)) : o.bind (fun q => some (Sum.inl (β := β) (q.1, q.2))) = some (.inl (v, σ)) := by rw [h]; rfl
theorem ck_n {i N : Nat} (h : i < N) (hi : i < 2 ^ 31) : ¬ (nI i < 0 ∨ N ≤ i) := fun q => q.elim (nI_pos hi) (fun q => by omega)
section RW
variable {G : mm_G} {x m : Nat} {cd : Nat → Nat} {Y : Ps}
theorem J_same {α : Type} {fc fm : mm_M → Option (α × mm_M)} (v : α) (ok : okP Y) (h1 : ∀ σ, CR G x σ Y → fc σ = some (v, σ)) (h2 : ∀ σ, MR G m σ Y → fm σ = some (v, σ)) : Jc G x m cd fc fm Y :=
  ⟨v, Y, ok, fun σ hc => ⟨σ, h1 σ hc, hc, mm_sn_rf _ _⟩, fun σ hc => ⟨σ, h2 σ hc, hc, mm_sn_rf _ _⟩⟩
theorem J_fnd {fc fm : mm_M → Option (Int32 × mm_M)} (gx : gX G x cd) (gm : gM G m cd) (ok : okP Y) (k : Nat) (hk1 : 1 ≤ k) (hk5 : k ≤ 5) (h1 : ∀ σ, CR G x σ Y → ∀ σ', fX3_found G x (nI k) σ = some (-3, σ') → fc σ = some (-3, σ')) (h2 : ∀ σ, MR G m σ Y → ∀ σ', fX4_finds G m (nI k) σ = some (-3, σ') → fm σ = some (-3, σ')) : Jc G x m cd fc fm Y :=
  ⟨-3, y_fnd Y k, okP_7 ok, fun σ hc => by
    obtain ⟨σ', e, c, s⟩ := cx_found gx ok hk1 hk5 σ hc
    exact ⟨σ', h1 σ hc σ' e, c, s⟩, fun σ hc => by
    obtain ⟨σ', e, c, s⟩ := ml_found gm hk1 hk5 σ hc
    exact ⟨σ', h2 σ hc σ' e, c, s⟩⟩
theorem cx_row1 {j : Nat} (h : j < 6) (σ : mm_M) : fX3_isRow G (nI j) σ = some (1, σ) := by
  have e : (if nI j < 0 then (0 : Int32) else if nI j < 6 then 1 else 0) = 1 := by rw [if_neg (nI_pos (by omega)), if_pos (show nI j < 6 from nI_lt h (by decide))]
  unfold fX3_isRow
  rw [e]
  rfl
theorem cx_row0 {r : Int32} (h : r < 0 ∨ nI 6 ≤ r) (σ : mm_M) : fX3_isRow G r σ = some (0, σ) := by
  have e : (if r < 0 then (0 : Int32) else if r < 6 then 1 else 0) = 0 := by
    by_cases h0 : r < 0
    · rw [if_pos h0]
    · rw [if_neg h0, if_neg (show ¬ r < 6 from Int32.not_lt.mpr (h.resolve_left h0))]
  unfold fX3_isRow
  rw [e]
  rfl
theorem ml_in (v lo hi : Int32) (σ : mm_M) : fX4_in G v lo hi σ = some (if v < lo then 0 else if hi < v then 0 else 1, σ) := by
  unfold fX4_in
  by_cases h1 : v < lo
  · simp [h1]
  · by_cases h2 : hi < v
    · simp [h1, h2]
    · simp [h1, h2]
theorem ml_row1 {j : Nat} (h : j < 6) (σ : mm_M) : fX4_isRow G (nI j) σ = some (1, σ) := by
  unfold fX4_isRow
  rw [ml_in, if_neg (nI_pos (by omega)), if_neg (show ¬ (5 : Int32) < nI j from nI_nlt (show j ≤ 5 by omega) (by decide))]
  rfl
theorem ml_row0 {r : Int32} (h : r < 0 ∨ nI 6 ≤ r) (σ : mm_M) : fX4_isRow G r σ = some (0, σ) := by
  unfold fX4_isRow
  rw [ml_in]
  by_cases h0 : r < 0
  · rw [if_pos h0]; rfl
  · have h5 : (5 : Int32) < r := by
      have h6 := h.resolve_left h0
      exact Int32.lt_of_lt_of_le (show (5 : Int32) < nI 6 by decide) h6
    rw [if_neg h0, if_pos h5]; rfl
/-- the row's size, and the places in it -/
theorem ix_row {s i : Int32} {n : Nat} (hs : s = nI n) (hn : n < 2 ^ 31) : i < 0 ∨ ¬ i < s ∨ ∃ k, k < n ∧ i = nI k := by
  rcases pk_ix i hn with h | h | h
  · exact Or.inl h
  · exact Or.inr (Or.inl (by rw [hs]; exact Int32.not_lt.mpr h))
  · exact Or.inr (Or.inr h)
def y_rows (Y : Ps) (rs : Nat → Int32) (rv : Nat → Nat → Int32) : Ps := (rs, rv, p_ts Y, p_tv Y, p_B Y, p_D Y, p_K Y, p_as Y, p_up Y, p_lo Y, p_fi Y, p_fo Y)
theorem CR_1 {σ σ' : mm_M} {rs : Nat → Int32} {rv : Nat → Nat → Int32} (g : gX G x cd) (ok : okP Y) (h : ∀ i b, 2 ≤ i → i ≤ 8 → rg cd i b → σ'.1 b = σ.1 b) (h2 : σ'.2 x = σ.2 x) (hc : CR G x σ Y) (hr : c_rows G x σ' (y_rows Y rs rv)) : CR G x σ' (y_rows Y rs rv) :=
  ⟨hr, fr_text g (fun b => h 2 b (by decide) (by decide)) (show c_text G x σ (y_rows Y rs rv) from hc.2.1), fr_air (fun b hb => gX_ic5 g hb) (okP_n ok).2 (fun b => h 3 b (by decide) (by decide)) (show c_now G x σ (y_rows Y rs rv) from hc.2.2.1), fr_air (fun b hb => gX_ic4 g hb) (okP_n ok).1 (fun b => h 4 b (by decide) (by decide)) (show c_start G x σ (y_rows Y rs rv) from hc.2.2.2.1), fr_deeds g (fun b => h 5 b (by decide) (by decide)) (show c_deeds G x σ (y_rows Y rs rv) from hc.2.2.2.2.1), fr_kept g (fun b => h 6 b (by decide) (by decide)) (show c_kept G x σ (y_rows Y rs rv) from hc.2.2.2.2.2.1), fr_told g (fun b => h 7 b (by decide) (by decide)) h2 (show c_told x σ (y_rows Y rs rv) from hc.2.2.2.2.2.2.1), fr_found g (fun b => h 8 b (by decide) (by decide)) (show c_found G x σ (y_rows Y rs rv) from hc.2.2.2.2.2.2.2)⟩
theorem MR_1 {σ σ' : mm_M} {rs : Nat → Int32} {rv : Nat → Nat → Int32} (g : gM G m cd) (h : ∀ i b, 20 ≤ i → ¬ i = 21 → ¬ i = 22 → ¬ i = 23 → rg cd i b → σ'.1 b = σ.1 b) (h2 : σ'.2 m = σ.2 m) (hc : MR G m σ Y) (hr : m_rows G m σ' (y_rows Y rs rv)) : MR G m σ' (y_rows Y rs rv) :=
  ⟨hr, fm_text g (fun b => h 24 b (by decide) (by decide) (by decide) (by decide)) (fun b => h 25 b (by decide) (by decide) (by decide) (by decide)) (show m_text G m σ (y_rows Y rs rv) from hc.2.1), fm_now g (fun b => h 26 b (by decide) (by decide) (by decide) (by decide)) (show m_now G m σ (y_rows Y rs rv) from hc.2.2.1), fm_deeds g (fun b => h 20 b (by decide) (by decide) (by decide) (by decide)) (fun b => h 30 b (by decide) (by decide) (by decide) (by decide)) (show m_deeds G m σ (y_rows Y rs rv) from hc.2.2.2.1), fm_kept g (fun b => h 31 b (by decide) (by decide) (by decide) (by decide)) (fun b => h 32 b (by decide) (by decide) (by decide) (by decide)) (fun b => h 33 b (by decide) (by decide) (by decide) (by decide)) (show m_kept G m σ (y_rows Y rs rv) from hc.2.2.2.2.1), fm_told g (fun b => h 20 b (by decide) (by decide) (by decide) (by decide)) h2 (show m_told m σ (y_rows Y rs rv) from hc.2.2.2.2.2.1), fm_found g (fun b => h 34 b (by decide) (by decide) (by decide) (by decide)) (show m_found G m σ (y_rows Y rs rv) from hc.2.2.2.2.2.2)⟩
/-- a row's place on the model's side -/
theorem ix40 {j k : Nat} (hj : j < 6) (hk : k < 40) : (40 : Int32) * nI j + nI k = nI (40 * j + k) ∧ 40 * j + k < 240 := by
  refine ⟨?_, by omega⟩
  rw [show (40 : Int32) = nI 40 from rfl, pk_mul, nI_add]
theorem ck40 {j k : Nat} (hj : j < 6) (hk : k < 40) : ¬ ((40 : Int32) * nI j + nI k < 0 ∨ 240 ≤ ((40 : Int32) * nI j + nI k).toNatClampNeg) := by
  rw [(ix40 hj hk).1]; exact ck_no (ix40 hj hk).2 (by decide)
theorem cl40 {j k : Nat} (hj : j < 6) (hk : k < 40) : ((40 : Int32) * nI j + nI k).toNatClampNeg = 40 * j + k := by
  rw [(ix40 hj hk).1]; exact nI_clamp (by omega)
theorem cx_place1 (gx : gX G x cd) {j : Nat} (hj : j < 6) {σ : mm_M} (hc : CR G x σ Y) (hs : p_rs Y j = -1) {i : Int32} : fX3_refusedPlace G x (nI j) i σ = fX3_found G x 1 σ := by
  obtain ⟨-, -, -, ⟨eN, -⟩, -⟩ := gx
  unfold fX3_refusedPlace
  rw [cx_row1 hj, Option.bind_some, if_neg (show ¬ ((1 : Int32), σ).1 = 0 from (by decide : ¬ (1 : Int32) = 0)), eN, if_neg (ck_no hj (by decide)), nI_clamp (by omega), (hc.1 j hj).1, if_pos hs, be]
theorem cx_place2 (gx : gX G x cd) {j n : Nat} (hj : j < 6) {σ : mm_M} (hc : CR G x σ Y) (hs : p_rs Y j = nI n) (hn : n ≤ 40) {i : Int32} (hi : i < 0 ∨ ¬ i < p_rs Y j) : fX3_refusedPlace G x (nI j) i σ = fX3_found G x 2 σ := by
  obtain ⟨-, -, -, ⟨eN, -⟩, -⟩ := gx
  have hne : ¬ p_rs Y j = -1 := by
    rw [hs]; intro e
    have := congrArg Int32.toInt e
    rw [nI_toInt (by omega)] at this
    have h2 : (-1 : Int32).toInt = -1 := by decide
    omega
  unfold fX3_refusedPlace fX3_refusedPlace_b39
  rw [cx_row1 hj, Option.bind_some, if_neg (show ¬ ((1 : Int32), σ).1 = 0 from (by decide : ¬ (1 : Int32) = 0)), eN, if_neg (ck_no hj (by decide)), nI_clamp (by omega), (hc.1 j hj).1, if_neg hne]
  by_cases h0 : i < 0
  · rw [if_pos h0, be]
  · rw [if_neg h0, if_neg (ck_n hj (by omega)), if_neg (hi.resolve_left h0), be]
theorem nI_ne1 {n : Nat} (h : n < 2 ^ 31) : ¬ nI n = -1 := by
  intro e
  have := congrArg Int32.toInt e
  rw [nI_toInt h] at this
  have h2 : (-1 : Int32).toInt = -1 := by decide
  omega
theorem cx_place3 (gx : gX G x cd) {j n k : Nat} (hj : j < 6) {σ : mm_M} (hc : CR G x σ Y) (hs : p_rs Y j = nI n) (hn : n ≤ 40) (hk : k < n) : fX3_refusedPlace G x (nI j) (nI k) σ = some (0, σ) := by
  obtain ⟨-, -, -, ⟨eN, -⟩, -⟩ := gx
  unfold fX3_refusedPlace
  rw [cx_row1 hj, Option.bind_some, if_neg (show ¬ ((1 : Int32), σ).1 = 0 from (by decide : ¬ (1 : Int32) = 0)), eN, if_neg (ck_no hj (by decide)), nI_clamp (by omega), (hc.1 j hj).1, hs, if_neg (nI_ne1 (by omega)), if_neg (nI_pos (by omega)), if_neg (ck_n hj (by omega)), if_pos (nI_lt hk (by omega))]
theorem ml_inR {i s : Int32} {n : Nat} (hs : s = nI n) (hn : n ≤ 60) (σ : mm_M) : (i < 0 ∨ ¬ i < s → fX4_in G i 0 (s - 1) σ = some (0, σ)) ∧ (∀ k, k < n → i = nI k → fX4_in G i 0 (s - 1) σ = some (1, σ)) := by
  constructor
  · intro h
    rw [ml_in]
    by_cases h0 : i < 0
    · rw [if_pos h0]
    · rw [if_neg h0]
      have h1 := h.resolve_left h0
      obtain ⟨q, hq, rfl⟩ := nI_of h0
      rw [hs] at h1 ⊢
      have hnq : n ≤ q := by
        rcases Nat.lt_or_ge q n with hlt | hge
        · exact absurd (nI_lt hlt (by omega)) h1
        · exact hge
      have : nI n - 1 < nI q := by
        cases n with
        | zero =>
          show nI 0 - 1 < nI q
          rw [show nI 0 - 1 = (-1 : Int32) from by decide]
          exact Int32.lt_of_lt_of_le (show (-1 : Int32) < 0 by decide) (nI_pos' hq)
        | succ n =>
          rw [nI_pred]
          exact nI_lt (by omega) hq
      rw [if_pos this]
  · intro k hk e
    subst e
    rw [ml_in, if_neg (nI_pos (by omega)), hs]
    have : ¬ nI n - 1 < nI k := by
      obtain ⟨n', rfl⟩ : ∃ n', n = n' + 1 := ⟨n - 1, by omega⟩
      rw [nI_pred]
      exact nI_nlt (by omega) (by omega)
    rw [if_neg this]
theorem rs_cases (ok : okP Y) {j : Nat} (hj : j < 6) : (p_rs Y j = -1 ∧ p_rs Y j < 0 ∧ ¬ p_rs Y j = 0) ∨ ∃ n, n ≤ 40 ∧ p_rs Y j = nI n ∧ ¬ p_rs Y j < 0 ∧ ¬ p_rs Y j = -1 := by
  rcases ok.1 j hj with h | ⟨n, hn, h⟩
  · exact Or.inl ⟨h, by rw [h]; decide, by rw [h]; decide⟩
  · exact Or.inr ⟨n, hn, h, by rw [h]; exact nI_pos (by omega), by rw [h]; exact nI_ne1 (by omega)⟩
theorem J_at (gx : gX G x cd) (gm : gM G m cd) (ok : okP Y) (r i : Int32) : Jc G x m cd (fX3_at G x r i) (fX4_at G m r i) Y := by
  obtain ⟨-, eM, ⟨-, eN0⟩, ⟨-, eN1⟩, -⟩ := id gm
  obtain ⟨-, -, ⟨eR0, eR⟩, -⟩ := id gx
  rcases pk_ix r (n := 6) (by decide) with hr | hr | ⟨j, hj, rfl⟩
  · exact J_same (-1) ok (fun σ _ => by unfold fX3_at fX3_refusedPlace; rw [cx_row0 (Or.inl hr)]; rfl) (fun σ _ => by unfold fX4_at; rw [ml_row0 (Or.inl hr)]; rfl)
  · exact J_same (-1) ok (fun σ _ => by unfold fX3_at fX3_refusedPlace; rw [cx_row0 (Or.inr hr)]; rfl) (fun σ _ => by unfold fX4_at; rw [ml_row0 (Or.inr hr)]; rfl)
  · have mstart : ∀ σ, MR G m σ Y → fX4_at G m (nI j) i σ = if p_rs Y j < 0 then fX4_finds G m 1 σ else (fX4_in G i 0 (p_rs Y j - 1) σ).bind (fun q34 => if q34.1 = 0 then ((fX4_finds G m 2 q34.2).bind (fun q60 => some (q60.1, q60.2))) else (if (40 : Int32) * nI j + i < 0 ∨ 240 ≤ ((40 : Int32) * nI j + i).toNatClampNeg then none else ((fX4_tells G m (q34.2.1 (mm_R G m 1) ((40 : Int32) * nI j + i).toNatClampNeg) q34.2).bind (fun q52 => some (q52.1, q52.2))))) := by
      intro σ hc
      unfold fX4_at
      rw [ml_row1 hj, Option.bind_some, if_neg (show ¬ ((1 : Int32), σ).1 = 0 from (by decide : ¬ (1 : Int32) = 0)), eN0, if_neg (ck_no hj (by decide)), nI_clamp (by omega), (hc.1 j hj).1, if_neg (ck_n hj (by omega)), be, eN1]
    rcases rs_cases ok hj with ⟨h1, h0, -⟩ | ⟨n, hn, hs, h0, h1⟩
    · refine J_fnd gx gm ok 1 (by decide) (by decide) (fun σ hc σ' e => ?_) (fun σ hc σ' e => ?_)
      · unfold fX3_at
        rw [cx_place1 gx hj hc h1, show (1 : Int32) = nI 1 from rfl, e]; rfl
      · rw [mstart σ hc, if_pos h0]; exact e
    · rcases ix_row (i := i) hs (by omega) with hi | hi | ⟨k, hk, rfl⟩
      · refine J_fnd gx gm ok 2 (by decide) (by decide) (fun σ hc σ' e => ?_) (fun σ hc σ' e => ?_)
        · unfold fX3_at
          rw [cx_place2 gx hj hc hs hn (Or.inl hi), show (2 : Int32) = nI 2 from rfl, e]; rfl
        · rw [mstart σ hc, if_neg h0, (ml_inR hs (by omega) σ).1 (Or.inl hi), Option.bind_some, if_pos (show ((0 : Int32), σ).1 = 0 from rfl), be]; exact e
      · refine J_fnd gx gm ok 2 (by decide) (by decide) (fun σ hc σ' e => ?_) (fun σ hc σ' e => ?_)
        · unfold fX3_at
          rw [cx_place2 gx hj hc hs hn (Or.inr hi), show (2 : Int32) = nI 2 from rfl, e]; rfl
        · rw [mstart σ hc, if_neg h0, (ml_inR hs (by omega) σ).1 (Or.inr hi), Option.bind_some, if_pos (show ((0 : Int32), σ).1 = 0 from rfl), be]; exact e
      · have hlt : nI k < p_rs Y j := by rw [hs]; exact nI_lt hk (by omega)
        refine ⟨1, y_ask Y (p_rv Y j k), okP_7 ok, fun σ hc => ?_, fun σ hc => ?_⟩
        · refine ⟨mm_up σ x 12 (p_rv Y j k), ?_, cx_ask gx ok _ σ hc⟩
          unfold fX3_at
          rw [cx_place3 gx hj hc hs hn hk, Option.bind_some, if_pos (show ((0 : Int32), σ).1 = 0 from rfl), eR0, if_neg (ck_no hj (by decide)), nI_clamp (by omega), (eR j hj).2, if_neg (ck_no (by omega) (by decide)), nI_clamp (by omega)]
          show some ((1 : Int32), mm_up σ x 12 (σ.1 (mm_R G (mm_R G x 0) j) k)) = _
          rw [(hc.1 j hj).2 k hlt (by omega)]
        · refine ⟨mm_up σ m 14 (p_rv Y j k), ?_, ml_ask gm _ σ hc⟩
          rw [mstart σ hc, if_neg h0, (ml_inR hs (by omega) σ).2 k hk rfl, Option.bind_some, if_neg (show ¬ ((1 : Int32), σ).1 = 0 from (by decide : ¬ (1 : Int32) = 0)), if_neg (ck40 hj (by omega)), cl40 hj (by omega), be]
          show fX4_tells G m (σ.1 (mm_R G m 1) (40 * j + k)) σ = _
          rw [(hc.1 j hj).2 k hlt (by omega)]
          rfl
end RW
