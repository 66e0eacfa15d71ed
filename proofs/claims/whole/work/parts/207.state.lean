/-! THE WHOLE STATE, as a value; and how class and model hold it. -/
abbrev p_Dd : Type := Nat × Nat × Nat
abbrev Ps : Type := (Nat → Int32) × (Nat → Nat → Int32) × (Nat → Int32) × (Nat → Nat → Int32) × ab_A × List p_Dd × (Nat → Option (List p_Dd)) × Int32 × Int64 × Int64 × Int32 × (Nat → Int32)
abbrev p_rs (Y : Ps) : Nat → Int32 := Y.1
abbrev p_rv (Y : Ps) : Nat → Nat → Int32 := Y.2.1
abbrev p_ts (Y : Ps) : Nat → Int32 := Y.2.2.1
abbrev p_tv (Y : Ps) : Nat → Nat → Int32 := Y.2.2.2.1
abbrev p_B (Y : Ps) : ab_A := Y.2.2.2.2.1
abbrev p_D (Y : Ps) : List p_Dd := Y.2.2.2.2.2.1
abbrev p_K (Y : Ps) : Nat → Option (List p_Dd) := Y.2.2.2.2.2.2.1
abbrev p_as (Y : Ps) : Int32 := Y.2.2.2.2.2.2.2.1
abbrev p_up (Y : Ps) : Int64 := Y.2.2.2.2.2.2.2.2.1
abbrev p_lo (Y : Ps) : Int64 := Y.2.2.2.2.2.2.2.2.2.1
abbrev p_fi (Y : Ps) : Int32 := Y.2.2.2.2.2.2.2.2.2.2.1
abbrev p_fo (Y : Ps) : Nat → Int32 := Y.2.2.2.2.2.2.2.2.2.2.2
/-! deeds -/
def ab_set (A : ab_A) (i : Nat) (s : ab_S) : ab_A := (a_n A, A.2.1, fun j => if j = i then s else a_st A j)
def s_give (s : ab_S) (n : Int32) : ab_S := (s_kd s, s_fw s, s_sp s, s_lt s + n, s_wt s, s_cl s)
def s_drop (s : ab_S) : ab_S := (s_kd s, s_fw s, s_sp s, 0, 0, 0)
def s_first (s : ab_S) (n : Int32) : ab_S := (s_kd s, n, s_sp s, s_lt s, s_wt s, s_cl s)
def ab_act (A : ab_A) (d : p_Dd) : ab_A := if d.1 = 1 then ab_go A 0 else if d.1 = 2 then ab_set A d.2.1 (s_give (a_st A d.2.1) (nI d.2.2)) else if d.1 = 3 then ab_set A d.2.1 (s_drop (a_st A d.2.1)) else if d.1 = 4 then ab_set A d.2.1 (s_first (a_st A d.2.1) (nI d.2.2)) else A
def ab_acts (A : ab_A) (D : List p_Dd) : ab_A := D.foldl ab_act A
def p_code (d : p_Dd) : Int32 := nI (100 * d.1 + 10 * d.2.1 + d.2.2)
abbrev p_A (Y : Ps) : ab_A := ab_acts (p_B Y) (p_D Y)
/-- deeds that can stand: of n stations -/
def okd (n : Nat) (d : p_Dd) : Prop := d.1 ≤ 4 ∧ d.2.1 < n ∧ d.2.2 ≤ 9
/-- an air as it stands -/
def okA (A : ab_A) : Prop := ∃ t, t ≤ 199 ∧ a_sl A = nI t ∧ ab_ok t A ∧ ∀ i, i < a_n A → ∃ l, l ≤ 30 ∧ s_lt (a_st A i) = nI l
def okL (B : ab_A) (D : List p_Dd) : Prop := D.length ≤ 40 ∧ (∀ d ∈ D, okd (a_n B) d) ∧ ∀ j, j ≤ D.length → okA (ab_acts B (D.take j))
def okP (Y : Ps) : Prop := (∀ r, r < 6 → p_rs Y r = -1 ∨ ∃ n, n ≤ 40 ∧ p_rs Y r = nI n) ∧ (∀ t, t < 4 → p_ts Y t = -1 ∨ ∃ n, n ≤ 60 ∧ p_ts Y t = nI n) ∧ (∀ t i, (p_tv Y t i).toInt8.toInt32 = p_tv Y t i) ∧ okL (p_B Y) (p_D Y) ∧ (∀ k, k < 3 → ∀ L, p_K Y k = some L → okL (p_B Y) L) ∧ (a_n (p_B Y) = 0 → ∀ k, k < 3 → p_K Y k = none)
/-! where things lie: a number for every cell -/
def gX (G : mm_G) (x : Nat) (cd : Nat → Nat) : Prop :=
  mm_Is G 3 x ∧ cd x = 700 ∧
  (mm_N G (mm_R G x 0) = 6 ∧ ∀ r, r < 6 → cd (mm_R G (mm_R G x 0) r) = 100 + r ∧ mm_N G (mm_R G (mm_R G x 0) r) = 40) ∧
  (mm_N G (mm_R G x 1) = 6 ∧ cd (mm_R G x 1) = 110) ∧
  (mm_N G (mm_R G x 2) = 4 ∧ ∀ t, t < 4 → cd (mm_R G (mm_R G x 2) t) = 200 + t ∧ mm_N G (mm_R G (mm_R G x 2) t) = 60) ∧
  (mm_N G (mm_R G x 3) = 4 ∧ cd (mm_R G x 3) = 210) ∧
  (cd (mm_R G x 4) = 410 ∧ mm_N G (mm_R G (mm_R G x 4) 0) = 7 ∧ ∀ i, i < 7 → cd (sa G (mm_R G x 4) i) = 400 + i) ∧
  (cd (mm_R G x 5) = 310 ∧ mm_N G (mm_R G (mm_R G x 5) 0) = 7 ∧ ∀ i, i < 7 → cd (sa G (mm_R G x 5) i) = 300 + i) ∧
  (cd (mm_R G x 6) = 510 ∧ cd (mm_R G (mm_R G x 6) 0) = 511 ∧ mm_N G (mm_R G (mm_R G x 6) 0) = 40) ∧
  (mm_N G (mm_R G x 7) = 3 ∧ ∀ k, k < 3 → cd (mm_R G (mm_R G x 7) k) = 610 + k ∧ cd (mm_R G (mm_R G (mm_R G x 7) k) 0) = 620 + k ∧ mm_N G (mm_R G (mm_R G (mm_R G x 7) k) 0) = 40) ∧
  (cd (mm_R G x 8) = 910 ∧ mm_N G (mm_R G (mm_R G x 8) 0) = 7 ∧ ∀ i, i < 7 → cd (sa G (mm_R G x 8) i) = 900 + i) ∧
  (cd (mm_R G x 9) = 1010 ∧ mm_N G (mm_R G (mm_R G x 9) 0) = 7 ∧ ∀ i, i < 7 → cd (sa G (mm_R G x 9) i) = 1000 + i) ∧
  (cd (mm_R G x 10) = 1100 ∧ mm_N G (mm_R G x 10) = 7) ∧
  (mm_N G (mm_R G x 11) = 6 ∧ ∀ k, k < 6 → cd (mm_R G (mm_R G x 11) k) = 1200 + k ∧ mm_N G (mm_R G (mm_R G x 11) k) = 20) ∧
  (cd (mm_R G x 16) = 800 ∧ mm_N G (mm_R G x 16) = 6)
def gM (G : mm_G) (m : Nat) (cd : Nat → Nat) : Prop :=
  mm_Is G 4 m ∧ cd m = 2000 ∧
  (cd (mm_R G m 0) = 2100 ∧ mm_N G (mm_R G m 0) = 6) ∧ (cd (mm_R G m 1) = 2200 ∧ mm_N G (mm_R G m 1) = 240) ∧ (cd (mm_R G m 2) = 2300 ∧ mm_N G (mm_R G m 2) = 40) ∧
  (cd (mm_R G m 3) = 2400 ∧ mm_N G (mm_R G m 3) = 4) ∧ (cd (mm_R G m 4) = 2500 ∧ mm_N G (mm_R G m 4) = 240) ∧ (cd (mm_R G m 5) = 2600 ∧ mm_N G (mm_R G m 5) = 48) ∧
  (cd (mm_R G m 6) = 2700 ∧ mm_N G (mm_R G m 6) = 48) ∧ (cd (mm_R G m 7) = 2800 ∧ mm_N G (mm_R G m 7) = 48) ∧ (cd (mm_R G m 8) = 2900 ∧ mm_N G (mm_R G m 8) = 48) ∧
  (cd (mm_R G m 9) = 3000 ∧ mm_N G (mm_R G m 9) = 1280) ∧ (cd (mm_R G m 11) = 3100 ∧ mm_N G (mm_R G m 11) = 144) ∧ (cd (mm_R G m 12) = 3200 ∧ mm_N G (mm_R G m 12) = 3840) ∧
  (cd (mm_R G m 13) = 3300 ∧ mm_N G (mm_R G m 13) = 3) ∧ (cd (mm_R G m 18) = 3400 ∧ mm_N G (mm_R G m 18) = 6) ∧ (cd (mm_R G m 19) = 3500 ∧ mm_N G (mm_R G m 19) = 7) ∧
  (cd (mm_R G m 20) = 3600 ∧ mm_N G (mm_R G m 20) = 8) ∧ (cd (mm_R G m 21) = 3700 ∧ mm_N G (mm_R G m 21) = 126)
/-- the cells of a region -/
def rg (cd : Nat → Nat) (i : Nat) : Nat → Prop := fun b => cd b / 100 = i
/-- all that is the class's; all that is the model's -/
def rX (cd : Nat → Nat) : Nat → Prop := fun b => cd b < 2000
def rY (cd : Nat → Nat) : Nat → Prop := fun b => 2000 ≤ cd b
/-! how the class holds it -/
def c_rows (G : mm_G) (x : Nat) (σ : mm_M) (Y : Ps) : Prop := ∀ r, r < 6 → σ.1 (mm_R G x 1) r = p_rs Y r ∧ ∀ i : Nat, nI i < p_rs Y r → i < 40 → σ.1 (mm_R G (mm_R G x 0) r) i = p_rv Y r i
def c_text (G : mm_G) (x : Nat) (σ : mm_M) (Y : Ps) : Prop := ∀ t, t < 4 → σ.1 (mm_R G x 3) t = p_ts Y t ∧ ∀ i : Nat, nI i < p_ts Y t → i < 60 → σ.1 (mm_R G (mm_R G x 2) t) i = p_tv Y t i
def c_now (G : mm_G) (x : Nat) (σ : mm_M) (Y : Ps) : Prop := rA G σ (mm_R G x 5) (p_A Y)
def c_start (G : mm_G) (x : Nat) (σ : mm_M) (Y : Ps) : Prop := rA G σ (mm_R G x 4) (p_B Y)
def c_list (σ : mm_M) (o w : Nat) (D : List p_Dd) : Prop := σ.1 o 1 = nI D.length ∧ ∀ j (h : j < D.length), σ.1 w j = p_code D[j]
def c_deeds (G : mm_G) (x : Nat) (σ : mm_M) (Y : Ps) : Prop := c_list σ (mm_R G x 6) (mm_R G (mm_R G x 6) 0) (p_D Y)
def c_kept (G : mm_G) (x : Nat) (σ : mm_M) (Y : Ps) : Prop := ∀ k, k < 3 → match p_K Y k with
  | none => σ.1 (mm_R G (mm_R G x 7) k) 1 = -1
  | some L => c_list σ (mm_R G (mm_R G x 7) k) (mm_R G (mm_R G (mm_R G x 7) k) 0) L
def c_told (x : Nat) (σ : mm_M) (Y : Ps) : Prop := σ.1 x 12 = p_as Y ∧ σ.2 x 13 = p_up Y ∧ σ.2 x 14 = p_lo Y ∧ σ.1 x 15 = p_fi Y
def c_found (G : mm_G) (x : Nat) (σ : mm_M) (Y : Ps) : Prop := ∀ f, 1 ≤ f → f < 6 → σ.1 (mm_R G x 16) f = p_fo Y f
def CR (G : mm_G) (x : Nat) (σ : mm_M) (Y : Ps) : Prop := c_rows G x σ Y ∧ c_text G x σ Y ∧ c_now G x σ Y ∧ c_start G x σ Y ∧ c_deeds G x σ Y ∧ c_kept G x σ Y ∧ c_told x σ Y ∧ c_found G x σ Y
/-! how the model holds it -/
def pR (f : Nat → Int32) (A : ab_A) : Prop := f 0 = a_sl A ∧ f 1 = a_tk A ∧ f 2 = a_hd A ∧ f 3 = a_ls A ∧ ∀ i, i < a_n A → f (4 + i) = s_fw (a_st A i) ∧ f (11 + i) = s_lt (a_st A i) ∧ f (18 + i) = s_wt (a_st A i) ∧ f (25 + i) = s_cl (a_st A i)
def msF (f : Nat → Int32) (i : Nat) : ab_S := (f (33 + i), f (4 + i), f (40 + i), f (11 + i), f (18 + i), f (25 + i))
def rF (f : Nat → Int32) (A : ab_A) (z : Int32) : Prop := f 32 = nI (a_n A) ∧ f 0 = a_sl A ∧ f 1 = a_tk A ∧ f 2 = a_hd A ∧ f 3 = a_ls A ∧ f 47 = z ∧ ∀ i, i < a_n A → msF f i = a_st A i
theorem rM_F {σ : mm_M} {c : Nat} {A : ab_A} {z : Int32} : rM σ c A z ↔ rF (σ.1 c) A z := Iff.rfl
def m_rows (G : mm_G) (m : Nat) (σ : mm_M) (Y : Ps) : Prop := ∀ r, r < 6 → σ.1 (mm_R G m 0) r = p_rs Y r ∧ ∀ i : Nat, nI i < p_rs Y r → i < 40 → σ.1 (mm_R G m 1) (40 * r + i) = p_rv Y r i
def m_text (G : mm_G) (m : Nat) (σ : mm_M) (Y : Ps) : Prop := ∀ t, t < 4 → σ.1 (mm_R G m 3) t = p_ts Y t ∧ ∀ i : Nat, nI i < p_ts Y t → i < 60 → σ.1 (mm_R G m 4) (60 * t + i) = p_tv Y t i
def m_now (G : mm_G) (m : Nat) (σ : mm_M) (Y : Ps) : Prop := rM σ (mm_R G m 5) (p_A Y) 0
def m_past (σ : mm_M) (w off : Nat) (B : ab_A) (D : List p_Dd) : Prop := ∀ j, j < D.length → pR (fun k => σ.1 w (off + 32 * j + k)) (ab_acts B (D.take j))
def m_deeds (G : mm_G) (m : Nat) (σ : mm_M) (Y : Ps) : Prop := σ.1 m 10 = nI (p_D Y).length ∧ m_past σ (mm_R G m 9) 0 (p_B Y) (p_D Y)
def m_kept (G : mm_G) (m : Nat) (σ : mm_M) (Y : Ps) : Prop := ∀ k, k < 3 → match p_K Y k with
  | none => σ.1 (mm_R G m 13) k = -1
  | some L => σ.1 (mm_R G m 13) k = nI L.length ∧ m_past σ (mm_R G m 12) (1280 * k) (p_B Y) L ∧ rF (fun j => σ.1 (mm_R G m 11) (48 * k + j)) (ab_acts (p_B Y) L) 0
def m_told (m : Nat) (σ : mm_M) (Y : Ps) : Prop := σ.1 m 14 = p_as Y ∧ σ.2 m 15 = p_up Y ∧ σ.2 m 16 = p_lo Y ∧ σ.1 m 17 = p_fi Y
def m_found (G : mm_G) (m : Nat) (σ : mm_M) (Y : Ps) : Prop := ∀ f, 1 ≤ f → f < 6 → σ.1 (mm_R G m 18) f = p_fo Y f
def MR (G : mm_G) (m : Nat) (σ : mm_M) (Y : Ps) : Prop := m_rows G m σ Y ∧ m_text G m σ Y ∧ m_now G m σ Y ∧ m_deeds G m σ Y ∧ m_kept G m σ Y ∧ m_told m σ Y ∧ m_found G m σ Y
