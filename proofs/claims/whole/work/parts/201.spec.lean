/-! WHAT AN AIR IS AND DOES, as values: a station is its six numbers; an air is how many stations, its numbers (2 the slot, 3 heard, 4 lost, 5 talked), its stations. -/
abbrev ab_S : Type := Int32 × Int32 × Int32 × Int32 × Int32 × Int32
abbrev s_kd (s : ab_S) : Int32 := s.1
abbrev s_fw (s : ab_S) : Int32 := s.2.1
abbrev s_sp (s : ab_S) : Int32 := s.2.2.1
abbrev s_lt (s : ab_S) : Int32 := s.2.2.2.1
abbrev s_wt (s : ab_S) : Int32 := s.2.2.2.2.1
abbrev s_cl (s : ab_S) : Int32 := s.2.2.2.2.2
abbrev ab_A : Type := Nat × (Int32 × Int32 × Int32 × Int32) × (Nat → ab_S)
abbrev a_n (A : ab_A) : Nat := A.1
abbrev a_sl (A : ab_A) : Int32 := A.2.1.1
abbrev a_hd (A : ab_A) : Int32 := A.2.1.2.1
abbrev a_ls (A : ab_A) : Int32 := A.2.1.2.2.1
abbrev a_tk (A : ab_A) : Int32 := A.2.1.2.2.2
abbrev a_st (A : ab_A) : Nat → ab_S := A.2.2
def ab_is (k w : Int32) : Bool := decide (k = w) || ((decide (k = 4) && decide (w = 1)) || (decide (k = 5) && decide (w = 2)))
def ab_wants (s : ab_S) (t : Int32) : Bool := decide (0 < s_lt s) && (decide (s_wt s = 0) && (decide (t = 0) || !ab_is (s_kd s) 2))
def ab_plain (s : ab_S) (c : Int32) : Int32 := if s_fw s + c * s_sp s < 64 then s_fw s + c * s_sp s else 64
def ab_dexp (c : Int32) : Int32 := if (0 : Int32) < (if (7 : Int32) < c - 1 then 7 else c - 1) then (if (7 : Int32) < c - 1 then 7 else c - 1) else 0
def ab_dbl (s : ab_S) (c : Int32) : Int32 := if s_fw s + (s_sp s <<< (ab_dexp c &&& 31)) < 64 then s_fw s + (s_sp s <<< (ab_dexp c &&& 31)) else 64
def ab_wait (s : ab_S) (c t : Int32) : Int32 := if s_kd s = 1 then ab_dbl s c else if s_kd s = 3 then s_fw s else if s_kd s = 4 then (t * s_sp s) - (t * s_sp s) / (ab_dbl s c + 1) * (ab_dbl s c + 1) else ab_plain s c
def ab_gives (s : ab_S) : Bool := decide (s_kd s = 5) && decide (s_cl s + 1 = 4)
def ab_meet (s : ab_S) (t : Int32) : ab_S := if ab_gives s then (s_kd s, s_fw s, s_sp s, s_lt s - 1, 0, 0) else (s_kd s, s_fw s, s_sp s, s_lt s, ab_wait s (s_cl s + 1) t, s_cl s + 1)
def ab_heard (s : ab_S) : ab_S := (s_kd s, s_fw s, s_sp s, s_lt s - 1, s_wt s, 0)
def ab_less (s : ab_S) : ab_S := (s_kd s, s_fw s, s_sp s, s_lt s, s_wt s - 1, s_cl s)
/-- who talks -/
def ab_who (A : ab_A) (z : Int32) : Int32 := ab_mk (fun i => !bt z i && ab_wants (a_st A i) (a_tk A)) (a_n A)
/-- how many, by the bits -/
def ab_cnt (x : Int32) : Nat → Int32
  | 0 => 0
  | n + 1 => ab_cnt x n + (if bt x n then 1 else 0)
def ab_ones (x : Int32) : Int32 := ab_cnt x 7
/-- a station behind a slot: who talked w, silent z, in slot t -/
def ab_next (w z t : Int32) (i : Nat) (s : ab_S) : ab_S := if bt w i then (if ab_ones w = 1 then ab_heard s else ab_meet s t) else if 0 < s_wt s ∧ bt z i = false then ab_less s else s
def ab_hs (w : Int32) : Nat → Int32
  | 0 => 0
  | n + 1 => ab_hs w n + (if bt w n ∧ ab_ones w = 1 then 1 else 0)
def ab_lss (w : Int32) (st : Nat → ab_S) : Nat → Int32
  | 0 => 0
  | n + 1 => ab_lss w st n + (if bt w n ∧ ¬ ab_ones w = 1 ∧ ab_gives (st n) then 1 else 0)
/-- an air behind a slot in which z are silent -/
def ab_go (A : ab_A) (z : Int32) : ab_A := (a_n A, (a_sl A + 1, a_hd A + ab_hs (ab_who A z) (a_n A), a_ls A + ab_lss (ab_who A z) (a_st A) (a_n A), if ab_who A z = 0 then 0 else 1), fun i => ab_next (ab_who A z) z (a_sl A) i (a_st A i))
/-- letters of all but some -/
def ab_let (A : ab_A) (z : Int32) : Nat → Int32
  | 0 => 0
  | n + 1 => if bt z n then ab_let A z n else ab_let A z n + s_lt (a_st A n)
/-! what keeps the numbers small -/
def ab_okS (N : Nat) (s : ab_S) : Prop := ∃ k f p l w c : Nat, s = (nI k, nI f, nI p, nI l, nI w, nI c) ∧ k ≤ 5 ∧ f ≤ 9 ∧ 1 ≤ p ∧ p ≤ 9 ∧ l ≤ 40 ∧ w ≤ 64 ∧ c ≤ N
def ab_ok (N : Nat) (A : ab_A) : Prop := a_n A ≤ 7 ∧ (∃ t, t ≤ N ∧ a_sl A = nI t) ∧ (a_tk A = 0 ∨ a_tk A = 1) ∧ ∀ i, i < a_n A → ab_okS N (a_st A i)
theorem pk_shl0 {n e : Nat} (he : e < 32) (h : n * 2 ^ e < 2 ^ 32) : nI n <<< (nI e &&& 31) = nI (n * 2 ^ e) := pk_shlN _ e (s_l e he) h
theorem ab_dexp_n {c : Nat} (h1 : 1 ≤ c) (h2 : c < 2 ^ 30) : ab_dexp (nI c) = nI (if 7 < c - 1 then 7 else c - 1) := by
  unfold ab_dexp
  have e : nI c - 1 = nI (c - 1) := by
    rw [show (1 : Int32) = nI 1 from rfl, pk_sub h1]
  rw [e, show (7 : Int32) = nI 7 from rfl, show (0 : Int32) = nI 0 from rfl]
  have h7 : (nI 7 < nI (c - 1)) ↔ 7 < c - 1 := nI_ltI (by decide) (by omega)
  by_cases h : 7 < c - 1
  · rw [if_pos (h7.mpr h), if_pos h, if_pos (by decide)]
  · rw [if_neg (fun q => h (h7.mp q)), if_neg h]
    by_cases h0 : 0 < c - 1
    · rw [if_pos ((nI_ltI (by decide) (by omega)).mpr h0)]
    · rw [if_neg (fun q => h0 ((nI_ltI (by decide) (by omega)).mp q)), show c - 1 = 0 by omega]
theorem ab_dbl_n {k f p l w c0 c : Nat} (hf : f ≤ 9) (hp : p ≤ 9) (h1 : 1 ≤ c) (h2 : c < 2 ^ 30) : ab_dbl (nI k, nI f, nI p, nI l, nI w, nI c0) (nI c) = nI (if f + p * 2 ^ (if 7 < c - 1 then 7 else c - 1) < 64 then f + p * 2 ^ (if 7 < c - 1 then 7 else c - 1) else 64) := by
  unfold ab_dbl
  rw [ab_dexp_n h1 h2]
  generalize he : (if 7 < c - 1 then 7 else c - 1) = e
  have he7 : e ≤ 7 := by rw [← he]; split <;> omega
  have hpw : 2 ^ e ≤ 128 := by
    have : 2 ^ e ≤ 2 ^ 7 := Nat.pow_le_pow_right (by decide) he7
    simpa using this
  have hm : p * 2 ^ e ≤ 9 * 128 := Nat.mul_le_mul hp hpw
  dsimp only [s_fw, s_sp]
  rw [pk_shl0 (by omega) (by omega), nI_add, show (64 : Int32) = nI 64 from rfl]
  by_cases h : f + p * 2 ^ e < 64
  · rw [if_pos ((nI_ltI (by omega) (by decide)).mpr h), if_pos h]
  · rw [if_neg (fun q => h ((nI_ltI (by omega) (by decide)).mp q)), if_neg h]
theorem ab_plain_n {k f p l w c0 c : Nat} (hf : f ≤ 9) (hp : p ≤ 9) (h2 : c < 2 ^ 20) : ab_plain (nI k, nI f, nI p, nI l, nI w, nI c0) (nI c) = nI (if f + c * p < 64 then f + c * p else 64) := by
  unfold ab_plain
  have hm : c * p ≤ 2 ^ 20 * 9 := Nat.mul_le_mul (by omega) hp
  dsimp only [s_fw, s_sp]
  rw [pk_mul, nI_add, show (64 : Int32) = nI 64 from rfl]
  by_cases h : f + c * p < 64
  · rw [if_pos ((nI_ltI (by omega) (by decide)).mpr h), if_pos h]
  · rw [if_neg (fun q => h ((nI_ltI (by omega) (by decide)).mp q)), if_neg h]
theorem le64 (x : Nat) : (if x < 64 then x else 64) ≤ 64 := by split <;> omega
/-- a wait is at most 64 -/
theorem ab_wait_n {k f p l w c0 c t : Nat} (hk : k ≤ 5) (hf : f ≤ 9) (hp1 : 1 ≤ p) (hp : p ≤ 9) (h1 : 1 ≤ c) (h2 : c < 2 ^ 20) (ht : t < 2 ^ 20) : ∃ v, v ≤ 64 ∧ ab_wait (nI k, nI f, nI p, nI l, nI w, nI c0) (nI c) (nI t) = nI v := by
  unfold ab_wait
  dsimp only [s_fw, s_sp, s_kd]
  by_cases e1 : nI k = 1
  · rw [if_pos e1, ab_dbl_n hf hp h1 (by omega)]
    exact ⟨_, le64 _, rfl⟩
  · rw [if_neg e1]
    by_cases e3 : nI k = 3
    · rw [if_pos e3]
      exact ⟨f, by omega, rfl⟩
    · rw [if_neg e3]
      by_cases e4 : nI k = 4
      · rw [if_pos e4, ab_dbl_n hf hp h1 (by omega)]
        generalize hv : (if f + p * 2 ^ (if 7 < c - 1 then 7 else c - 1) < 64 then f + p * 2 ^ (if 7 < c - 1 then 7 else c - 1) else 64) = v
        have hv64 : v ≤ 64 := by rw [← hv]; exact le64 _
        have hm : t * p ≤ 2 ^ 20 * 9 := Nat.mul_le_mul (by omega) hp
        rw [show (1 : Int32) = nI 1 from rfl, nI_add, pk_mul, pk_rem (by omega) (by omega) (by omega)]
        have := Nat.mod_lt (t * p) (show v + 1 > 0 by omega)
        exact ⟨_, by omega, rfl⟩
      · rw [if_neg e4, ab_plain_n hf hp h2]
        exact ⟨_, le64 _, rfl⟩
