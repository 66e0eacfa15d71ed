/-! THE UNIFORM WORLD: memory (what each cell's number slots hold), geometry (which cells there are, which references they hold), and a row an instruction over them. -/
abbrev mm_M : Type := (Nat → Nat → Int32) × (Nat → Nat → Int64)
def mm_up (σ : mm_M) (a j : Nat) (v : Int32) : mm_M := (fun b k => if b = a ∧ k = j then v else σ.1 b k, σ.2)
def mm_upL (σ : mm_M) (a j : Nat) (v : Int64) : mm_M := (σ.1, fun b k => if b = a ∧ k = j then v else σ.2 b k)
def mm_cpy (σ : mm_M) (a0 a sp dp n : Nat) : mm_M := (fun b k => if b = a then va_cpy (σ.1 a0) (σ.1 a) sp dp n k else σ.1 b k, σ.2)
abbrev mm_G : Type := List Nat × (Nat → Nat) × (Nat → Nat → Nat) × (Nat → Nat) × (Nat → ClassId) × va_G × (Nat → Nat)
abbrev mm_L (G : mm_G) : List Nat := G.1
abbrev mm_K (G : mm_G) : Nat → Nat := G.2.1
abbrev mm_R (G : mm_G) : Nat → Nat → Nat := G.2.2.1
abbrev mm_N (G : mm_G) : Nat → Nat := G.2.2.2.1
abbrev mm_C (G : mm_G) : Nat → ClassId := G.2.2.2.2.1
abbrev mm_D (G : mm_G) : va_G := G.2.2.2.2.2.1
abbrev mm_T (G : mm_G) : Nat → Nat := G.2.2.2.2.2.2
def mm_fs (G : mm_G) (σ : mm_M) (ci a : Nat) : List Value := match ci with
  | 0 => [.ref (mm_R G a 0), .int (σ.1 a 1), .int (σ.1 a 2), .int (σ.1 a 3), .int (σ.1 a 4), .int (σ.1 a 5)]
  | 1 => [.ref (mm_R G a 0), .int (σ.1 a 1)]
  | 2 => [.int (σ.1 a 0), .int (σ.1 a 1), .int (σ.1 a 2), .int (σ.1 a 3), .int (σ.1 a 4), .int (σ.1 a 5)]
  | 3 => [.ref (mm_R G a 0), .ref (mm_R G a 1), .ref (mm_R G a 2), .ref (mm_R G a 3), .ref (mm_R G a 4), .ref (mm_R G a 5), .ref (mm_R G a 6), .ref (mm_R G a 7), .ref (mm_R G a 8), .ref (mm_R G a 9), .ref (mm_R G a 10), .ref (mm_R G a 11), .int (σ.1 a 12), .long (σ.2 a 13), .long (σ.2 a 14), .int (σ.1 a 15), .ref (mm_R G a 16)]
  | _ => [.ref (mm_R G a 0), .ref (mm_R G a 1), .ref (mm_R G a 2), .ref (mm_R G a 3), .ref (mm_R G a 4), .ref (mm_R G a 5), .ref (mm_R G a 6), .ref (mm_R G a 7), .ref (mm_R G a 8), .ref (mm_R G a 9), .int (σ.1 a 10), .ref (mm_R G a 11), .ref (mm_R G a 12), .ref (mm_R G a 13), .int (σ.1 a 14), .long (σ.2 a 15), .long (σ.2 a 16), .int (σ.1 a 17), .ref (mm_R G a 18), .ref (mm_R G a 19), .ref (mm_R G a 20), .ref (mm_R G a 21)]
def mm_cf (G : mm_G) (σ : mm_M) (a : Nat) : va_E :=
  if mm_K G a < 5 then .inr (mm_K G a, mm_fs G σ (mm_K G a) a)
  else if mm_K G a < 7 then .inl (mm_C G (mm_K G a), mm_N G a, .inl (σ.1 a))
  else .inl (mm_C G (mm_K G a), mm_N G a, .inr (.inr (.inr (.inr (fun i => some (mm_R G a i))))))
def mm_ws (G : mm_G) (σ : mm_M) : va_W := va_pl (mm_L G) (mm_cf G σ)
def mm_tys (G : mm_G) : List (ClassId × FieldType) := [(mm_C G 5, .byte), (mm_C G 6, .int), (mm_C G 7, .object RX1), (mm_C G 8, .object RX2), (mm_C G 9, .array .byte), (mm_C G 10, .array .int)]
/-- a cell of the world, of a kind -/
def mm_Is (G : mm_G) (k a : Nat) : Prop := a ∈ mm_L G ∧ mm_K G a = k
/-- which cells a method may change -/
def mm_A (G : mm_G) (sz : Nat) : Nat → Prop := fun q => q ∈ mm_L G ∨ sz ≤ q
theorem mm_fs_congr {G : mm_G} {σ σ' : mm_M} {a : Nat} (h1 : σ'.1 a = σ.1 a) (h2 : σ'.2 a = σ.2 a) (ci : Nat) : mm_fs G σ' ci a = mm_fs G σ ci a := by
  unfold mm_fs
  rw [h1, h2]
theorem mm_cf_congr {G : mm_G} {σ σ' : mm_M} {a : Nat} (h1 : σ'.1 a = σ.1 a) (h2 : σ'.2 a = σ.2 a) : mm_cf G σ' a = mm_cf G σ a := by
  unfold mm_cf
  rw [h1, mm_fs_congr h1 h2]
theorem mm_cf_o {G : mm_G} {σ : mm_M} {ci a : Nat} (h : mm_K G a = ci) (hc : ci < 5) : mm_cf G σ a = .inr (ci, mm_fs G σ ci a) := by
  unfold mm_cf
  rw [h, if_pos hc]
theorem mm_cf_n {G : mm_G} {σ : mm_M} {ci a : Nat} (h : mm_K G a = ci) (h1 : ¬ ci < 5) (h2 : ci < 7) : mm_cf G σ a = .inl (mm_C G ci, mm_N G a, .inl (σ.1 a)) := by
  unfold mm_cf
  rw [h, if_neg h1, if_pos h2]
theorem mm_cf_q {G : mm_G} {σ : mm_M} {ci a : Nat} (h : mm_K G a = ci) (h1 : ¬ ci < 5) (h2 : ¬ ci < 7) : mm_cf G σ a = .inl (mm_C G ci, mm_N G a, .inr (.inr (.inr (.inr (fun i => some (mm_R G a i)))))) := by
  unfold mm_cf
  rw [h, if_neg h1, if_neg h2]
theorem mm_ws_get {G : mm_G} {σ : mm_M} {a : Nat} (h : a ∈ mm_L G) : ∃ k : Nat, (mm_ws G σ)[k]? = some (a, mm_cf G σ a) := va_pl_get (X := []) h
theorem mm_ws_set {G : mm_G} {σ σ' : mm_M} {A : Nat → Prop} {a k : Nat} {e : va_E} (hD : va_D A (mm_ws G σ)) (h : a ∈ mm_L G) (hk : (mm_ws G σ)[k]? = some (a, mm_cf G σ a)) (he : mm_cf G σ' a = e) (hne : ∀ b, b ≠ a → σ'.1 b = σ.1 b ∧ σ'.2 b = σ.2 b) : (mm_ws G σ).set k (a, e) = mm_ws G σ' := by
  have h1 : (mm_ws G σ).set k (a, e) = va_pl (mm_L G) (va_up (mm_cf G σ) a e) := va_pl_set (X := []) hD h hk
  rw [h1]
  unfold mm_ws
  refine va_pl_congr (fun b => ?_)
  by_cases hb : b = a
  · subst hb
    rw [va_up_self, he]
  · rw [va_up_ne _ _ hb]
    exact (mm_cf_congr (hne b hb).1 (hne b hb).2).symm
theorem mm_ws_D {G : mm_G} {σ σ' : mm_M} {A : Nat → Prop} (hD : va_D A (mm_ws G σ)) : va_D A (mm_ws G σ') := by
  have key : ∀ (k : Nat) (q : Nat × va_E), (mm_ws G σ')[k]? = some q → ∃ q0, (mm_ws G σ)[k]? = some q0 ∧ q0.1 = q.1 := by
    intro k q hk
    simp only [mm_ws, va_pl, List.getElem?_map] at hk ⊢
    cases hb : (mm_L G)[k]? with
    | none => rw [hb] at hk; cases hk
    | some b =>
      rw [hb] at hk
      exact ⟨_, rfl, by rw [← Option.some.inj hk]⟩
  refine ⟨fun i j x y hi hj hxy => ?_, fun k q hk => ?_⟩
  · obtain ⟨x0, h1, h2⟩ := key i x hi
    obtain ⟨y0, h3, h4⟩ := key j y hj
    exact hD.1 i j x0 y0 h1 h3 (h2.trans (hxy.trans h4.symm))
  · obtain ⟨q0, h1, h2⟩ := key k q hk
    rw [← h2]
    exact hD.2 k q0 h1
theorem mm_ws_A {G : mm_G} {σ : mm_M} {A : Nat → Prop} {sz : Nat} (hD : va_D A (mm_ws G σ)) : va_D (mm_A G sz) (mm_ws G σ) := by
  refine ⟨hD.1, fun k q hk => Or.inl ?_⟩
  have h := List.mem_of_getElem? hk
  simp only [mm_ws, va_pl] at h
  obtain ⟨a, ha, rfl⟩ := List.mem_map.mp h
  exact ha
theorem mm_up_ne {σ : mm_M} {a j : Nat} {v : Int32} : ∀ b, b ≠ a → (mm_up σ a j v).1 b = σ.1 b ∧ (mm_up σ a j v).2 b = σ.2 b := fun b hb => ⟨funext fun k => if_neg (fun q => hb q.1), rfl⟩
theorem mm_upL_ne {σ : mm_M} {a j : Nat} {v : Int64} : ∀ b, b ≠ a → (mm_upL σ a j v).1 b = σ.1 b ∧ (mm_upL σ a j v).2 b = σ.2 b := fun b hb => ⟨rfl, funext fun k => if_neg (fun q => hb q.1)⟩
theorem mm_cpy_ne {σ : mm_M} {a0 a sp dp n : Nat} : ∀ b, b ≠ a → (mm_cpy σ a0 a sp dp n).1 b = σ.1 b ∧ (mm_cpy σ a0 a sp dp n).2 b = σ.2 b := fun b hb => ⟨funext fun k => if_neg hb, rfl⟩
/-! what a field's write makes of the fields -/
theorem ms_0_1 (G : mm_G) (σ : mm_M) (a : Nat) (v : Int32) : (mm_fs G σ 0 a).set 1 (.int v) = mm_fs G (mm_up σ a 1 v) 0 a := by simp [mm_fs, mm_up]
theorem ms_0_2 (G : mm_G) (σ : mm_M) (a : Nat) (v : Int32) : (mm_fs G σ 0 a).set 2 (.int v) = mm_fs G (mm_up σ a 2 v) 0 a := by simp [mm_fs, mm_up]
theorem ms_0_3 (G : mm_G) (σ : mm_M) (a : Nat) (v : Int32) : (mm_fs G σ 0 a).set 3 (.int v) = mm_fs G (mm_up σ a 3 v) 0 a := by simp [mm_fs, mm_up]
theorem ms_0_4 (G : mm_G) (σ : mm_M) (a : Nat) (v : Int32) : (mm_fs G σ 0 a).set 4 (.int v) = mm_fs G (mm_up σ a 4 v) 0 a := by simp [mm_fs, mm_up]
theorem ms_0_5 (G : mm_G) (σ : mm_M) (a : Nat) (v : Int32) : (mm_fs G σ 0 a).set 5 (.int v) = mm_fs G (mm_up σ a 5 v) 0 a := by simp [mm_fs, mm_up]
theorem ms_1_1 (G : mm_G) (σ : mm_M) (a : Nat) (v : Int32) : (mm_fs G σ 1 a).set 1 (.int v) = mm_fs G (mm_up σ a 1 v) 1 a := by simp [mm_fs, mm_up]
theorem ms_2_0 (G : mm_G) (σ : mm_M) (a : Nat) (v : Int32) : (mm_fs G σ 2 a).set 0 (.int v) = mm_fs G (mm_up σ a 0 v) 2 a := by simp [mm_fs, mm_up]
theorem ms_2_1 (G : mm_G) (σ : mm_M) (a : Nat) (v : Int32) : (mm_fs G σ 2 a).set 1 (.int v) = mm_fs G (mm_up σ a 1 v) 2 a := by simp [mm_fs, mm_up]
theorem ms_2_2 (G : mm_G) (σ : mm_M) (a : Nat) (v : Int32) : (mm_fs G σ 2 a).set 2 (.int v) = mm_fs G (mm_up σ a 2 v) 2 a := by simp [mm_fs, mm_up]
theorem ms_2_3 (G : mm_G) (σ : mm_M) (a : Nat) (v : Int32) : (mm_fs G σ 2 a).set 3 (.int v) = mm_fs G (mm_up σ a 3 v) 2 a := by simp [mm_fs, mm_up]
theorem ms_2_4 (G : mm_G) (σ : mm_M) (a : Nat) (v : Int32) : (mm_fs G σ 2 a).set 4 (.int v) = mm_fs G (mm_up σ a 4 v) 2 a := by simp [mm_fs, mm_up]
theorem ms_2_5 (G : mm_G) (σ : mm_M) (a : Nat) (v : Int32) : (mm_fs G σ 2 a).set 5 (.int v) = mm_fs G (mm_up σ a 5 v) 2 a := by simp [mm_fs, mm_up]
theorem ms_3_12 (G : mm_G) (σ : mm_M) (a : Nat) (v : Int32) : (mm_fs G σ 3 a).set 12 (.int v) = mm_fs G (mm_up σ a 12 v) 3 a := by simp [mm_fs, mm_up]
theorem ms_3_15 (G : mm_G) (σ : mm_M) (a : Nat) (v : Int32) : (mm_fs G σ 3 a).set 15 (.int v) = mm_fs G (mm_up σ a 15 v) 3 a := by simp [mm_fs, mm_up]
theorem ms_3_13 (G : mm_G) (σ : mm_M) (a : Nat) (v : Int64) : (mm_fs G σ 3 a).set 13 (.long v) = mm_fs G (mm_upL σ a 13 v) 3 a := by simp [mm_fs, mm_upL]
theorem ms_3_14 (G : mm_G) (σ : mm_M) (a : Nat) (v : Int64) : (mm_fs G σ 3 a).set 14 (.long v) = mm_fs G (mm_upL σ a 14 v) 3 a := by simp [mm_fs, mm_upL]
theorem ms_4_10 (G : mm_G) (σ : mm_M) (a : Nat) (v : Int32) : (mm_fs G σ 4 a).set 10 (.int v) = mm_fs G (mm_up σ a 10 v) 4 a := by simp [mm_fs, mm_up]
theorem ms_4_14 (G : mm_G) (σ : mm_M) (a : Nat) (v : Int32) : (mm_fs G σ 4 a).set 14 (.int v) = mm_fs G (mm_up σ a 14 v) 4 a := by simp [mm_fs, mm_up]
theorem ms_4_17 (G : mm_G) (σ : mm_M) (a : Nat) (v : Int32) : (mm_fs G σ 4 a).set 17 (.int v) = mm_fs G (mm_up σ a 17 v) 4 a := by simp [mm_fs, mm_up]
theorem ms_4_15 (G : mm_G) (σ : mm_M) (a : Nat) (v : Int64) : (mm_fs G σ 4 a).set 15 (.long v) = mm_fs G (mm_upL σ a 15 v) 4 a := by simp [mm_fs, mm_upL]
theorem ms_4_16 (G : mm_G) (σ : mm_M) (a : Nat) (v : Int64) : (mm_fs G σ 4 a).set 16 (.long v) = mm_fs G (mm_upL σ a 16 v) 4 a := by simp [mm_fs, mm_upL]
/-! the class's two tables -/
def mm_tab (t j : Nat) : Int32 := if t = 0 then (if j = 0 then -1 else if j = 4 then 1 else if j = 5 then 2 else 0) else (if j = 0 then 112 else if j = 1 then 100 else if j = 2 then 111 else if j = 3 then 115 else if j = 4 then 108 else 121)
def mm_St1 (G : mm_G) (t : Nat) (n : String) (w : Cond) (U : State) : Prop := va_Z "AirTalkers" n "[I" (.ref (mm_T G t)) (fun q => q ∈ mm_L G) U U.heap ∧ va_T .int (mm_T G t) 6 (fun j => .int (mm_tab t j)) (fun q => q ∈ mm_L G) U U.heap ∧ va_Nw w U
abbrev mm_w0 : Cond := .fieldLinkNest RX2 30 "AirTalkers" "KIND_ABOVE" "[I" "AirTalkers"
abbrev mm_w1 : Cond := .fieldLinkNest RX0 62 "AirTalkers" "KIND_LETTERS" "[I" "AirTalkers"
def mm_St (G : mm_G) (U : State) : Prop := mm_St1 G 0 "KIND_ABOVE" mm_w0 U ∧ mm_St1 G 1 "KIND_LETTERS" mm_w1 U
/-- which references lead where -/
def mm_WF (G : mm_G) : Prop :=
  (∀ a, mm_Is G 0 a → mm_Is G 8 (mm_R G a 0)) ∧ (∀ a, mm_Is G 1 a → mm_Is G 6 (mm_R G a 0)) ∧
  (∀ a, mm_Is G 3 a → mm_Is G 10 (mm_R G a 0) ∧ mm_Is G 6 (mm_R G a 1) ∧ mm_Is G 9 (mm_R G a 2) ∧ mm_Is G 6 (mm_R G a 3) ∧ mm_Is G 0 (mm_R G a 4) ∧ mm_Is G 0 (mm_R G a 5) ∧ mm_Is G 1 (mm_R G a 6) ∧ mm_Is G 7 (mm_R G a 7) ∧ mm_Is G 0 (mm_R G a 8) ∧ mm_Is G 0 (mm_R G a 9) ∧ mm_Is G 6 (mm_R G a 10) ∧ mm_Is G 10 (mm_R G a 11) ∧ mm_Is G 6 (mm_R G a 16)) ∧
  (∀ a, mm_Is G 4 a → mm_Is G 6 (mm_R G a 0) ∧ mm_Is G 6 (mm_R G a 1) ∧ mm_Is G 6 (mm_R G a 2) ∧ mm_Is G 6 (mm_R G a 3) ∧ mm_Is G 5 (mm_R G a 4) ∧ mm_Is G 6 (mm_R G a 5) ∧ mm_Is G 6 (mm_R G a 6) ∧ mm_Is G 6 (mm_R G a 7) ∧ mm_Is G 6 (mm_R G a 8) ∧ mm_Is G 6 (mm_R G a 9) ∧ mm_Is G 6 (mm_R G a 11) ∧ mm_Is G 6 (mm_R G a 12) ∧ mm_Is G 6 (mm_R G a 13) ∧ mm_Is G 6 (mm_R G a 18) ∧ mm_Is G 6 (mm_R G a 19) ∧ mm_Is G 6 (mm_R G a 20) ∧ mm_Is G 6 (mm_R G a 21)) ∧
  (∀ a i, mm_Is G 7 a → i < mm_N G a → mm_Is G 1 (mm_R G a i)) ∧ (∀ a i, mm_Is G 8 a → i < mm_N G a → mm_Is G 2 (mm_R G a i)) ∧ (∀ a i, mm_Is G 9 a → i < mm_N G a → mm_Is G 5 (mm_R G a i)) ∧ (∀ a i, mm_Is G 10 a → i < mm_N G a → mm_Is G 6 (mm_R G a i))
/-! the machine's side, in one tuple -/
abbrev mm_E : Type := Program × Launch × Env × Room × State × MethodId × Array Value × List Frame × Method × Code × Nat × Nat
abbrev eP (E : mm_E) : Program := E.1
abbrev eL (E : mm_E) : Launch := E.2.1
abbrev eE (E : mm_E) : Env := E.2.2.1
abbrev eR (E : mm_E) : Room := E.2.2.2.1
abbrev eS (E : mm_E) : State := E.2.2.2.2.1
abbrev eM (E : mm_E) : MethodId := E.2.2.2.2.2.1
abbrev eA (E : mm_E) : Array Value := E.2.2.2.2.2.2.1
abbrev eB (E : mm_E) : List Frame := E.2.2.2.2.2.2.2.1
abbrev eT (E : mm_E) : Method := E.2.2.2.2.2.2.2.2.1
abbrev eC (E : mm_E) : Code := E.2.2.2.2.2.2.2.2.2.1
abbrev eK (E : mm_E) : Nat := E.2.2.2.2.2.2.2.2.2.2.1
abbrev eZ (E : mm_E) : Nat := E.2.2.2.2.2.2.2.2.2.2.2
def mm_Cx (E : mm_E) (G : mm_G) (cc : ByteArray) (nL : Nat) (own : String) (Ts : List Cond) (rm : Room) (ret : Option FieldType) : Prop :=
  (eP E).tables.exec = Jvm.exec ∧ (eC E).code = cc ∧ (eC E).maxLocals = nL ∧ (eS E).vm.findClass own = some (eM E).cls ∧ (∀ w ∈ Ts, w.before (eA E) (eS E) = true) ∧ va_K (mm_D G) vwCl (mm_tys G) (eS E) ∧ mm_St G (eS E) ∧ mm_WF G ∧ (eT E).locks = false ∧ eR E = rm ∧ (eT E).sig.returnType = ret ∧ eK E ≤ (eR E).cells ∧ eZ E ≤ (eR E).slots
def mm_At (E : mm_E) (G : mm_G) (nL : Nat) (Q : State → Prop) (σ : mm_M) (pc : Nat) (lv : List (Nat × Value)) (st : List Value) : Prop :=
  ∀ (H : Heap) (locs : List Loc) (ls : Array Slot), va_P (mm_D G) vwCl (mm_ws G σ) H → va_D (mm_A G (eS E).heap.size) (mm_ws G σ) → va_S (mm_A G (eS E).heap.size) (eS E).heap H locs → lv_has ls nL lv →
    W (eP E) (eL E) (eE E) (eR E) (eS E) (eM E) (eA E) (eB E) (eT E) (eC E) H locs (eK E) (eZ E) Q (F0 (eM E) pc ls st)
theorem mm_St1.go {G : mm_G} {t : Nat} {n : String} {a : String} {i : Nat} {b nn d h : String} {s U : State} {H : Heap} {locs : List Loc} (hx : mm_St1 G t n (.fieldLinkNest a i b nn d h) s) (hS : va_S (mm_A G s.heap.size) s.heap H locs) (hU : U.heap = H) (hW : s.WarmedH U.vm) : mm_St1 G t n (.fieldLinkNest a i b nn d h) U := by
  have hk : ∀ q : Nat, q < s.heap.size → ¬ (q ∈ mm_L G) → U.heap[q]? = s.heap[q]? := fun q h1 h2 => by
    rw [hU]
    exact hS.2.1 q h1 (fun z => z.elim h2 (fun z => absurd h1 (Nat.not_lt.mpr z)))
  exact ⟨(hx.1.kept hk).moved hW.alike, (hx.2.1.kept hk).moved hW.alike, hx.2.2.warmF hW⟩
theorem mm_St.go {G : mm_G} {s U : State} {H : Heap} {locs : List Loc} (hx : mm_St G s) (hS : va_S (mm_A G s.heap.size) s.heap H locs) (hU : U.heap = H) (hW : s.WarmedH U.vm) : mm_St G U := ⟨hx.1.go hS hU hW, hx.2.go hS hU hW⟩
theorem mm_Zn {C n d : String} {v : Value} {G : mm_G} {U : State} (h : va_Z C n d v (fun q => q ∈ mm_L G) U U.heap) : va_Z C n d v (mm_A G U.heap.size) U U.heap := by
  obtain ⟨cf, kf, fi, f, a, cell, h1, h2, h3, h4, h5, h6, h7, h8⟩ := h
  exact ⟨cf, kf, fi, f, a, cell, h1, h2, h3, h4, h5, h6, h7, fun z => z.elim h8 (fun z => absurd (Array.getElem?_eq_some_iff.mp h5).1 (Nat.not_lt.mpr z))⟩
theorem mm_Tn {ty : FieldType} {t N : Nat} {f : Nat → Value} {G : mm_G} {U : State} (h : va_T ty t N f (fun q => q ∈ mm_L G) U U.heap) : va_T ty t N f (mm_A G U.heap.size) U U.heap := by
  obtain ⟨cell, h1, h2, h3, h4, h5, h6, h7⟩ := h
  exact ⟨cell, h1, h2, h3, h4, h5, h6, fun z => z.elim h7 (fun z => absurd (Array.getElem?_eq_some_iff.mp h1).1 (Nat.not_lt.mpr z))⟩
/-! pure rows of the decompiled texts -/
theorem mm_pos {c : Prop} {i : Decidable c} {α : Sort _} {x y z : α} (hc : c) (h : (@ite α c i x y) = z) : x = z := by rw [if_pos hc] at h; exact h
theorem mm_neg {c : Prop} {i : Decidable c} {α : Sort _} {x y z : α} (hc : ¬ c) (h : (@ite α c i x y) = z) : y = z := by rw [if_neg hc] at h; exact h
theorem mm_chk {c : Prop} {i : Decidable c} {α : Type} {x : Option α} {z : α} (h : (@ite (Option α) c i none x) = some z) : ¬ c ∧ x = some z := by
  by_cases hc : c
  · rw [if_pos hc] at h; cases h
  · rw [if_neg hc] at h; exact ⟨hc, h⟩
theorem mm_bind {α β : Type} {o : Option α} {f : α → Option β} {z : β} (h : o.bind f = some z) : ∃ q, o = some q ∧ f q = some z := by
  cases o with
  | none => cases h
  | some q => exact ⟨q, rfl, h⟩
def mm_it {α β : Type} (f : α → Option (β ⊕ α)) : Nat → α → Option β
  | 0, _ => none
  | n + 1, s => match f s with
    | none => none
    | some (.inl b) => some b
    | some (.inr s') => mm_it f n s'
theorem mm_it_succ {α β : Type} {f : α → Option (β ⊕ α)} {b : β} : ∀ (n : Nat) (s : α), mm_it f n s = some b → mm_it f (n + 1) s = some b
  | 0, s, h => by cases h
  | n + 1, s, h => by
    unfold mm_it at h ⊢
    cases hf : f s with
    | none => rw [hf] at h; cases h
    | some o =>
      cases o with
      | inl x => rw [hf] at h; exact h
      | inr s' => rw [hf] at h; exact mm_it_succ n s' h
theorem mm_it_le {α β : Type} {f : α → Option (β ⊕ α)} {b : β} {s : α} {n : Nat} (h : mm_it f n s = some b) : ∀ (k : Nat), mm_it f (n + k) s = some b
  | 0 => h
  | k + 1 => mm_it_succ _ _ (mm_it_le h k)
theorem mm_it_one {α β : Type} {f : α → Option (β ⊕ α)} {b b' : β} {s : α} {n n' : Nat} (h : mm_it f n s = some b) (h' : mm_it f n' s = some b') : b = b' := by
  have h1 := mm_it_le h n'
  have h2 := mm_it_le h' n
  rw [Nat.add_comm n' n] at h2
  exact Option.some.inj (h1.symm.trans h2)
noncomputable def mm_lim {α β : Type} (f : α → Option (β ⊕ α)) (s : α) : Option β := @dite (Option β) (∃ b, ∃ n, mm_it f n s = some b) (Classical.propDecidable _) (fun h => some (Classical.choose h)) (fun _ => none)
theorem mm_lim_iff {α β : Type} {f : α → Option (β ⊕ α)} {s : α} {b : β} : mm_lim f s = some b ↔ ∃ n, mm_it f n s = some b := by
  unfold mm_lim
  constructor
  · intro h
    split at h
    next hx =>
      have := Classical.choose_spec hx
      rw [Option.some.inj h] at this
      exact this
    next => cases h
  · rintro ⟨n, hn⟩
    have hx : ∃ b, ∃ n, mm_it f n s = some b := ⟨b, n, hn⟩
    rw [dif_pos hx]
    obtain ⟨k, hk⟩ := Classical.choose_spec hx
    rw [mm_it_one hn hk]
theorem mm_lim_ret {α β : Type} {f : α → Option (β ⊕ α)} {s : α} {b : β} (h : f s = some (.inl b)) : mm_lim f s = some b := mm_lim_iff.mpr ⟨1, by unfold mm_it; rw [h]⟩
theorem mm_lim_go {α β : Type} {f : α → Option (β ⊕ α)} {s s' : α} (h : f s = some (.inr s')) : mm_lim f s = mm_lim f s' := by
  apply Option.ext
  intro b
  rw [mm_lim_iff, mm_lim_iff]
  constructor
  · rintro ⟨n, hn⟩
    cases n with
    | zero => cases hn
    | succ n => unfold mm_it at hn; rw [h] at hn; exact ⟨n, hn⟩
  · rintro ⟨n, hn⟩
    exact ⟨n + 1, by unfold mm_it; rw [h]; exact hn⟩
theorem mm_it_ind {α β : Type} {f : α → Option (β ⊕ α)} {b : β} {P : α → Prop} (hr : ∀ s, f s = some (.inl b) → P s) (hg : ∀ s s', f s = some (.inr s') → P s' → P s) : ∀ (n : Nat) (s : α), mm_it f n s = some b → P s
  | 0, s, h => by cases h
  | n + 1, s, h => by
    unfold mm_it at h
    cases hf : f s with
    | none => rw [hf] at h; cases h
    | some o =>
      cases o with
      | inl x => rw [hf] at h; cases h; exact hr s hf
      | inr s' => rw [hf] at h; exact hg s s' hf (mm_it_ind hr hg n s' h)
/-- behind a stretch: an end, or a loop's head -/
def mm_Ok {α β : Type} (b : β) (P : α → Prop) : β ⊕ α → Prop
  | .inl x => x = b
  | .inr s => P s
/-- a method with loops: its first stretch, then its loops' heads till the end -/
noncomputable def mm_run {α β : Type} (o : Option (β ⊕ α)) (f : α → Option (β ⊕ α)) : Option β := o.bind (fun x => match x with
  | .inl b => some b
  | .inr s => mm_lim f s)
theorem mm_run_ok {α β : Type} {o : Option (β ⊕ α)} {f : α → Option (β ⊕ α)} {b : β} (h : mm_run o f = some b) {P : α → Prop} (hf : ∀ s o, f s = some o → mm_Ok b P o → P s) : ∃ x, o = some x ∧ mm_Ok b P x := by
  obtain ⟨x, h1, h2⟩ := mm_bind h
  refine ⟨x, h1, ?_⟩
  cases x with
  | inl y => exact Option.some.inj h2
  | inr s =>
    obtain ⟨n, hn⟩ := mm_lim_iff.mp h2
    exact mm_it_ind (P := P) (fun s h => hf s _ h rfl) (fun s s' h hp => hf s _ h hp) n s hn
theorem mm_inl {α β : Type} {x b : β} {P : α → Prop} {o : β ⊕ α} (h : (some (.inl x) : Option (β ⊕ α)) = some o) (hk : mm_Ok b P o) : x = b := by
  rw [← Option.some.inj h] at hk
  exact hk
theorem mm_inr {α β : Type} {s : α} {b : β} {P : α → Prop} {o : β ⊕ α} (h : (some (.inr s) : Option (β ⊕ α)) = some o) (hk : mm_Ok b P o) : P s := by
  rw [← Option.some.inj h] at hk
  exact hk
