/-! PURE GROUND: loops, memory, small numbers, bits -/
theorem mm_run_go {α β : Type} (s : α) (f : α → Option (β ⊕ α)) : mm_run (some (.inr s)) f = mm_lim f s := rfl
theorem mm_run_end {α β : Type} (b : β) (f : α → Option (β ⊕ α)) : mm_run (some (.inl b)) f = some b := rfl
theorem mm_loop {α β : Type} {f : α → Option (β ⊕ α)} (I : Nat → α → Prop) (n : Nat) (hs : ∀ i s, i < n → I i s → ∃ s', mm_lim f s = mm_lim f s' ∧ I (i + 1) s') (s0 : α) (h0 : I 0 s0) : ∃ s', mm_lim f s0 = mm_lim f s' ∧ I n s' := by
  have key : ∀ k, k ≤ n → ∃ s', mm_lim f s0 = mm_lim f s' ∧ I k s' := by
    intro k
    induction k with
    | zero => exact fun _ => ⟨s0, rfl, h0⟩
    | succ k ih =>
      intro hk
      obtain ⟨s1, e1, i1⟩ := ih (by omega)
      obtain ⟨s2, e2, i2⟩ := hs k s1 (by omega) i1
      exact ⟨s2, e1.trans e2, i2⟩
  exact key n (Nat.le_refl n)
/-- a loop whose states are told one by one -/
theorem mm_for {α β : Type} {f : α → Option (β ⊕ α)} (st : Nat → α) (n : Nat) (hs : ∀ i, i < n → f (st i) = some (.inr (st (i + 1)))) : mm_lim f (st 0) = mm_lim f (st n) := by
  have key : ∀ k, k ≤ n → mm_lim f (st 0) = mm_lim f (st k) := by
    intro k
    induction k with
    | zero => exact fun _ => rfl
    | succ k ih => exact fun hk => (ih (by omega)).trans (mm_lim_go (hs k (by omega)))
  exact key n (Nat.le_refl n)
theorem mm_gs (σ : mm_M) (a j : Nat) (v : Int32) : (mm_up σ a j v).1 a j = v := if_pos ⟨rfl, rfl⟩
theorem mm_gk {σ : mm_M} {a j b k : Nat} {v : Int32} (h : k ≠ j) : (mm_up σ a j v).1 b k = σ.1 b k := if_neg (fun q => h q.2)
theorem mm_ga {σ : mm_M} {a j b : Nat} {v : Int32} (h : b ≠ a) : (mm_up σ a j v).1 b = σ.1 b := funext fun k => if_neg (fun q => h q.1)
theorem mm_g2 (σ : mm_M) (a j : Nat) (v : Int32) : (mm_up σ a j v).2 = σ.2 := rfl
/-- what a write leaves of a cell, as a row -/
theorem mm_gr (σ : mm_M) (a j : Nat) (v : Int32) : (mm_up σ a j v).1 a = upd (σ.1 a) j v := mm_upA σ a j v
/-- same but at some addresses -/
def mm_sm (S : Nat → Prop) (σ σ' : mm_M) : Prop := (∀ b, ¬ S b → σ'.1 b = σ.1 b) ∧ σ'.2 = σ.2
theorem mm_sm_rf (S : Nat → Prop) (σ : mm_M) : mm_sm S σ σ := ⟨fun _ _ => rfl, rfl⟩
theorem mm_sm_tr {S : Nat → Prop} {σ σ' σ'' : mm_M} (h1 : mm_sm S σ σ') (h2 : mm_sm S σ' σ'') : mm_sm S σ σ'' := ⟨fun b hb => (h2.1 b hb).trans (h1.1 b hb), h2.2.trans h1.2⟩
theorem mm_sm_up {S : Nat → Prop} {σ σ' : mm_M} {a j : Nat} {v : Int32} (h : mm_sm S σ σ') (ha : S a) : mm_sm S σ (mm_up σ' a j v) := ⟨fun b hb => by
  have hne : b ≠ a := fun e => hb (by rw [e]; exact ha)
  rw [mm_ga hne]
  exact h.1 b hb, h.2⟩
theorem mm_sm_mono {S T : Nat → Prop} {σ σ' : mm_M} (h : mm_sm S σ σ') (hst : ∀ b, S b → T b) : mm_sm T σ σ' := ⟨fun b hb => h.1 b (fun q => hb (hst b q)), h.2⟩
/-! small numbers -/
theorem nI_n0 : (0 : Int32) = nI 0 := rfl
theorem nI_n1 : (1 : Int32) = nI 1 := rfl
theorem nI_clp {k : Nat} (h : k < 2 ^ 31) : (nI k).toNatClampNeg = k := nI_clamp h
theorem ck_no {i N : Nat} (h : i < N) (hN : N < 2 ^ 31) : ¬ (nI i < 0 ∨ N ≤ (nI i).toNatClampNeg) := nI_in h hN
/-! bits -/
def bt (x : Int32) (i : Nat) : Bool := x.toBitVec.getLsbD i
theorem b_ext {x y : Int32} (h : ∀ i, i < 32 → bt x i = bt y i) : x = y := Int32.toBitVec_inj.mp (BitVec.eq_of_getLsbD_eq (fun i hi => h i hi))
theorem b_or (x y : Int32) (i : Nat) : bt (x ||| y) i = (bt x i || bt y i) := by unfold bt; rw [Int32.toBitVec_or, BitVec.getLsbD_or]
theorem b_and (x y : Int32) (i : Nat) : bt (x &&& y) i = (bt x i && bt y i) := by unfold bt; rw [Int32.toBitVec_and, BitVec.getLsbD_and]
theorem b_big {x : Int32} {i : Nat} (h : 32 ≤ i) : bt x i = false := BitVec.getLsbD_of_ge _ _ h
theorem b_0 (i : Nat) : bt 0 i = false := BitVec.getLsbD_zero
theorem b_1 : ∀ i, i < 32 → bt 1 i = decide (i = 0) := by decide +kernel
theorem s_l : ∀ n, n < 32 → ((nI n &&& 31).toBitVec.smod 32).toNat = n := by decide +kernel
theorem b_shl (n : Nat) (hn : n < 32) (x : Int32) {i : Nat} (hi : i < 32) : bt (x <<< (nI n &&& 31)) i = (decide (n ≤ i) && bt x (i - n)) := by
  unfold bt
  rw [Int32.toBitVec_shiftLeft]
  show (x.toBitVec <<< ((nI n &&& 31).toBitVec.smod 32).toNat).getLsbD i = _
  rw [s_l n hn, BitVec.getLsbD_shiftLeft]
  rcases Nat.lt_or_ge i n with h | h
  · simp [h, Nat.not_le.mpr h]
  · simp [hi, h, Nat.not_lt.mpr h]
theorem b_sshr (n : Nat) (hn : n < 32) (x : Int32) {i : Nat} (hi : i < 32) : bt (x >>> (nI n &&& 31)) i = if n + i < 32 then bt x (n + i) else bt x 31 := by
  unfold bt
  rw [Int32.toBitVec_shiftRight]
  show (x.toBitVec.sshiftRight ((nI n &&& 31).toBitVec.smod 32).toNat).getLsbD i = _
  rw [s_l n hn, BitVec.getLsbD_sshiftRight, BitVec.msb_eq_getLsbD_last]
  simp [hi]
/-- one bit, as the code asks for it -/
theorem b_ask (x : Int32) {i : Nat} (hi : i < 32) : (x >>> (nI i &&& 31)) &&& 1 = if bt x i then 1 else 0 := by
  apply b_ext
  intro k hk
  rw [b_and, b_sshr i hi x hk, b_1 k hk]
  by_cases h0 : k = 0
  · subst h0
    rw [if_pos (by omega)]
    by_cases h : bt x i = true
    · rw [if_pos h, Nat.add_zero, h, b_1 0 (by decide)]; rfl
    · have h' : bt x i = false := by simpa using h
      rw [if_neg h, Nat.add_zero, h', b_0]; rfl
  · rw [decide_eq_false h0, Bool.and_false]
    by_cases h : bt x i = true
    · rw [if_pos h, b_1 k hk, decide_eq_false h0]
    · rw [if_neg h, b_0]
theorem b_ask0 (x : Int32) {i : Nat} (hi : i < 32) : (x >>> (nI i &&& 31)) &&& 1 = 0 ↔ bt x i = false := by
  rw [b_ask x hi]
  cases bt x i <;> simp
theorem b_ask1 (x : Int32) {i : Nat} (hi : i < 32) : (x >>> (nI i &&& 31)) &&& 1 = 1 ↔ bt x i = true := by
  rw [b_ask x hi]
  cases bt x i <;> simp
/-- the set of those below n of which p holds -/
def ab_mk (p : Nat → Bool) : Nat → Int32
  | 0 => 0
  | n + 1 => if p n then ab_mk p n ||| ((1 : Int32) <<< (nI n &&& 31)) else ab_mk p n
theorem ab_mk_s (p : Nat → Bool) (n : Nat) : ab_mk p (n + 1) = if p n then ab_mk p n ||| ((1 : Int32) <<< (nI n &&& 31)) else ab_mk p n := rfl
theorem b_one {n i : Nat} (hn : n < 32) (hi : i < 32) : bt ((1 : Int32) <<< (nI n &&& 31)) i = decide (i = n) := by
  rw [b_shl n hn 1 hi]
  by_cases h : n ≤ i
  · rw [b_1 _ (by omega)]
    by_cases h2 : i = n
    · subst h2; simp
    · simp [h, h2]; omega
  · simp [h]; omega
theorem b_mk (p : Nat → Bool) : ∀ (n : Nat), n ≤ 31 → ∀ i, i < 32 → bt (ab_mk p n) i = (decide (i < n) && p i)
  | 0, _, i, _ => by simp [ab_mk, b_0]
  | n + 1, hn, i, hi => by
    unfold ab_mk
    by_cases h : p n = true
    · rw [if_pos h, b_or, b_mk p n (by omega) i hi, b_one (by omega) hi]
      by_cases h2 : i = n
      · subst h2; simp [h]
      · have : (i < n + 1) ↔ (i < n) := by omega
        simp [h2, this]
    · rw [if_neg h, b_mk p n (by omega) i hi]
      by_cases h2 : i = n
      · subst h2; simp at h; simp [h]
      · have : (i < n + 1) ↔ (i < n) := by omega
        simp [this]
theorem ab_mk_congr {p q : Nat → Bool} : ∀ (n : Nat), (∀ i, i < n → p i = q i) → ab_mk p n = ab_mk q n
  | 0, _ => rfl
  | n + 1, h => by
    unfold ab_mk
    rw [h n (by omega), ab_mk_congr n (fun i hi => h i (by omega))]
/-- numbers below 128, by their bits -/
theorem b_lt128 {x : Int32} (h : ∀ i, 7 ≤ i → i < 32 → bt x i = false) : ∃ m, m < 128 ∧ x = nI m := by
  refine ⟨x.toBitVec.toNat % 128, Nat.mod_lt _ (by decide), ?_⟩
  apply b_ext
  intro i hi
  show x.toBitVec.getLsbD i = (BitVec.ofNat 32 (x.toBitVec.toNat % 128)).getLsbD i
  rw [BitVec.getLsbD_ofNat]
  by_cases h7 : i < 7
  · rw [show (128 : Nat) = 2 ^ 7 from rfl, Nat.testBit_mod_two_pow]
    simp [hi, h7, BitVec.getLsbD]
  · have h1 := h i (by omega) hi
    rw [show (128 : Nat) = 2 ^ 7 from rfl, Nat.testBit_mod_two_pow]
    simp [h7]
    exact h1
theorem ab_mk_lt {p : Nat → Bool} {n : Nat} (hn : n ≤ 7) : ∃ m, m < 128 ∧ ab_mk p n = nI m := b_lt128 (fun i h7 hi => by
  rw [b_mk p n (by omega) i hi, decide_eq_false (by omega), Bool.false_and])
