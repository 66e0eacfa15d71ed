/-! CONSTRUCTORS: a row an instruction over a list of cells. D, C: the classes; A: which cells may change. -/
def kk_tys (C : Nat → ClassId) : List (ClassId × FieldType) := [(C 5, .byte), (C 6, .int), (C 7, .object RX1), (C 8, .object RX2), (C 9, .array .byte), (C 10, .array .int)]
def kk_T (D : va_G) (C : Nat → ClassId) (U : State) : Prop := va_K D vwCl (kk_tys C) U ∧ mn_T .int (C 10) (C 6) U ∧ mn_T .byte (C 9) (C 5) U ∧ va_AO RX2 U ∧ va_AO RX1 U ∧ va_Nw (.methodLinkNest RX0 34 yX2_init "AirTalkers") U ∧ va_Nw (.methodLinkNest RX3 38 yX1_init "AirTalkers") U
theorem kk_T.warm {D : va_G} {C : Nat → ClassId} {s U : State} (h : kk_T D C s) (hW : s.WarmedH U.vm) : kk_T D C U := ⟨va_K.moved hW.alike h.1, h.2.1.moved hW.alike, h.2.2.1.moved hW.alike, va_AO.moved hW.alike h.2.2.2.1, va_AO.moved hW.alike h.2.2.2.2.1, va_Nw.warmM hW h.2.2.2.2.2.1, va_Nw.warmM hW h.2.2.2.2.2.2⟩
theorem kk_T.call {D : va_G} {C : Nat → ClassId} {U : State} (h : kk_T D C U) (g : JFrame) (mk : MethodId) (a : Array Value) : kk_T D C (U.calling g mk a) := ⟨va_K.moved (u := U) (U := U.calling g mk a) (Vm.Alike.refl U.vm) h.1, h.2.1.moved (u := U) (U := U.calling g mk a) (Vm.Alike.refl U.vm), h.2.2.1.moved (u := U) (U := U.calling g mk a) (Vm.Alike.refl U.vm), va_AO.moved (u := U) (U := U.calling g mk a) (Vm.Alike.refl U.vm) h.2.2.2.1, va_AO.moved (u := U) (U := U.calling g mk a) (Vm.Alike.refl U.vm) h.2.2.2.2.1, h.2.2.2.2.2.1.same rfl rfl, h.2.2.2.2.2.2.same rfl rfl⟩
def kk_Cx (E : mm_E) (D : va_G) (C : Nat → ClassId) (A : Nat → Prop) (cc : ByteArray) (nL : Nat) (own : String) (Ts : List Cond) (rm : Room) : Prop :=
  (eP E).tables.exec = Jvm.exec ∧ (eC E).code = cc ∧ (eC E).maxLocals = nL ∧ (eS E).vm.findClass own = some (eM E).cls ∧ (∀ w ∈ Ts, w.before (eA E) (eS E) = true) ∧ kk_T D C (eS E) ∧ (eT E).locks = false ∧ eR E = rm ∧ ∀ q, (eS E).heap.size ≤ q → A q
def kk_At (E : mm_E) (D : va_G) (A : Nat → Prop) (nL : Nat) (Q : State → Prop) (kc kz : Nat) (ws : va_W) (pc : Nat) (lv : List (Nat × Value)) (st : List Value) : Prop :=
  ∀ (H : Heap) (locs : List Loc) (ls : Array Slot), va_P D vwCl ws H → va_D A ws → va_S A (eS E).heap H locs → lv_has ls nL lv →
    W (eP E) (eL E) (eE E) (eR E) (eS E) (eM E) (eA E) (eB E) (eT E) (eC E) H locs kc kz Q (F0 (eM E) pc ls st)
section KR
variable {E : mm_E} {D : va_G} {C : Nat → ClassId} {A : Nat → Prop} {cc : ByteArray} {nL : Nat} {own : String} {Ts : List Cond} {rm : Room} {Q : State → Prop} {kc kz : Nat} {ws : va_W} {pc : Nat} {lv : List (Nat × Value)} {st : List Value}
theorem kk_Cx.hx (X : kk_Cx E D C A cc nL own Ts rm) : (eP E).tables.exec = Jvm.exec := X.1
theorem kk_Cx.hb (X : kk_Cx E D C A cc nL own Ts rm) : (eC E).code = cc := X.2.1
theorem kk_Cx.ml (X : kk_Cx E D C A cc nL own Ts rm) : (eC E).maxLocals = nL := X.2.2.1
theorem kk_Cx.ho (X : kk_Cx E D C A cc nL own Ts rm) : (eS E).vm.findClass own = some (eM E).cls := X.2.2.2.1
theorem kk_Cx.ts (X : kk_Cx E D C A cc nL own Ts rm) : ∀ w ∈ Ts, w.before (eA E) (eS E) = true := X.2.2.2.2.1
theorem kk_Cx.tt (X : kk_Cx E D C A cc nL own Ts rm) : kk_T D C (eS E) := X.2.2.2.2.2.1
theorem kk_Cx.kk (X : kk_Cx E D C A cc nL own Ts rm) : va_K D vwCl (kk_tys C) (eS E) := X.2.2.2.2.2.1.1
theorem kk_Cx.lk (X : kk_Cx E D C A cc nL own Ts rm) : (eT E).locks = false := X.2.2.2.2.2.2.1
theorem kk_Cx.ro (X : kk_Cx E D C A cc nL own Ts rm) : eR E = rm := X.2.2.2.2.2.2.2.1
theorem kk_Cx.ha (X : kk_Cx E D C A cc nL own Ts rm) : ∀ q, (eS E).heap.size ≤ q → A q := X.2.2.2.2.2.2.2.2
theorem k_iconst (X : kk_Cx E D C A cc nL own Ts rm) {n : Int} (v : Int32) (d : decode cc pc = .ok (.iconst n, 1)) (hv : Int32.ofInt n = v) (k : kk_At E D A nL Q kc kz ws (pc + 1) lv (.int v :: st)) : kk_At E D A nL Q kc kz ws pc lv st := fun H locs ls hP hD hS hl => lv_iconst X.hx X.hb d hv (k H locs ls hP hD hS hl)
theorem k_bipush (X : kk_Cx E D C A cc nL own Ts rm) {n : Int} (v : Int32) (d : decode cc pc = .ok (.bipush n, 2)) (hv : (Int8.ofInt n).toInt32 = v) (k : kk_At E D A nL Q kc kz ws (pc + 2) lv (.int v :: st)) : kk_At E D A nL Q kc kz ws pc lv st := fun H locs ls hP hD hS hl => lv_bipush X.hx X.hb d hv (k H locs ls hP hD hS hl)
theorem k_sipush (X : kk_Cx E D C A cc nL own Ts rm) {n : Int} (v : Int32) (d : decode cc pc = .ok (.sipush n, 3)) (hv : (Int16.ofInt n).toInt32 = v) (k : kk_At E D A nL Q kc kz ws (pc + 3) lv (.int v :: st)) : kk_At E D A nL Q kc kz ws pc lv st := fun H locs ls hP hD hS hl => lv_sipush X.hx X.hb d hv (k H locs ls hP hD hS hl)
theorem k_lconst (X : kk_Cx E D C A cc nL own Ts rm) {n : Fin 2} (v : Int64) (d : decode cc pc = .ok (.lconst n, 1)) (hv : Int64.ofNat (n : Nat) = v) (k : kk_At E D A nL Q kc kz ws (pc + 1) lv (.long v :: st)) : kk_At E D A nL Q kc kz ws pc lv st := fun H locs ls hP hD hS hl => lv_lconst X.hx X.hb d hv (k H locs ls hP hD hS hl)
theorem k_iload_n (X : kk_Cx E D C A cc nL own Ts rm) {n : Fin 4} {x : Int32} (i j : Nat) (d : decode cc pc = .ok (.iload_n n, 1)) (hi : (n : Nat) = i) (hx : lv[j]? = some (i, .int x)) (k : kk_At E D A nL Q kc kz ws (pc + 1) lv (.int x :: st)) : kk_At E D A nL Q kc kz ws pc lv st := fun H locs ls hP hD hS hl => lv_iload_n X.hx X.hb d hi (lv_at hl j hx) (k H locs ls hP hD hS hl)
theorem k_aload_n (X : kk_Cx E D C A cc nL own Ts rm) {n : Fin 4} {x : Nat} (i j : Nat) (d : decode cc pc = .ok (.aload_n n, 1)) (hi : (n : Nat) = i) (hx : lv[j]? = some (i, .ref x)) (k : kk_At E D A nL Q kc kz ws (pc + 1) lv (.ref x :: st)) : kk_At E D A nL Q kc kz ws pc lv st := fun H locs ls hP hD hS hl => lv_aload_n X.hx X.hb d hi (lv_at hl j hx) (k H locs ls hP hD hS hl)
theorem k_istore_n (X : kk_Cx E D C A cc nL own Ts rm) {n : Fin 4} {x : Int32} (i : Nat) (lv' : List (Nat × Value)) (d : decode cc pc = .ok (.istore_n n, 1)) (hi : (n : Nat) = i) (hn : i < nL) (hl2 : (i, Value.int x) :: lv.filter (fun q => !(q.1 == i) && !(q.1 + 1 == i && q.2.category == 2)) = lv') (k : kk_At E D A nL Q kc kz ws (pc + 1) lv' st) : kk_At E D A nL Q kc kz ws pc lv (.int x :: st) := fun H locs ls hP hD hS hl => lv_istore_n X.hx X.hb d hi hl hn hl2 (fun ls2 h2 => k H locs ls2 hP hD hS h2)
theorem k_astore_n (X : kk_Cx E D C A cc nL own Ts rm) {n : Fin 4} {x : Nat} (i : Nat) (lv' : List (Nat × Value)) (d : decode cc pc = .ok (.astore_n n, 1)) (hi : (n : Nat) = i) (hn : i < nL) (hl2 : (i, Value.ref x) :: lv.filter (fun q => !(q.1 == i) && !(q.1 + 1 == i && q.2.category == 2)) = lv') (k : kk_At E D A nL Q kc kz ws (pc + 1) lv' st) : kk_At E D A nL Q kc kz ws pc lv (.ref x :: st) := fun H locs ls hP hD hS hl => lv_astore_n X.hx X.hb d hi hl hn hl2 (fun ls2 h2 => k H locs ls2 hP hD hS h2)
theorem k_iinc (X : kk_Cx E D C A cc nL own Ts rm) {n : Int} {x : Int32} (i j : Nat) (v : Int32) (lv' : List (Nat × Value)) (d : decode cc pc = .ok (.iinc i n, 3)) (hx : lv[j]? = some (i, .int x)) (hv : x + Int32.ofInt n = v) (hn : i < nL) (hl2 : (i, Value.int v) :: lv.filter (fun q => !(q.1 == i) && !(q.1 + 1 == i && q.2.category == 2)) = lv') (k : kk_At E D A nL Q kc kz ws (pc + 3) lv' st) : kk_At E D A nL Q kc kz ws pc lv st := fun H locs ls hP hD hS hl => lv_iinc X.hx X.hb d hl hx hv hn hl2 (fun ls2 h2 => k H locs ls2 hP hD hS h2)
theorem k_goto (X : kk_Cx E D C A cc nL own Ts rm) {off : Int} (tgt : Nat) (d : decode cc pc = .ok (.goto off, 3)) (ht : (pc : Int) + off = (tgt : Int)) (k : kk_At E D A nL Q kc kz ws tgt lv st) : kk_At E D A nL Q kc kz ws pc lv st := fun H locs ls hP hD hS hl => lv_goto X.hx X.hb d ht (k H locs ls hP hD hS hl)
/-- a loop's head that goes in -/
theorem k_in (X : kk_Cx E D C A cc nL own Ts rm) {x y : Int32} {off : Int} (hc : x < y) (tgt : Nat) (d : decode cc pc = .ok (.if_icmp .ge off, 3)) (ht : (pc : Int) + off = (tgt : Int)) (k : kk_At E D A nL Q kc kz ws (pc + 3) lv st) : kk_At E D A nL Q kc kz ws pc lv (.int y :: .int x :: st) := fun H locs ls hP hD hS hl => lv_icmp_ge X.hx X.hb d ht (fun c => absurd hc (Int32.not_lt.mpr c)) (fun _ => k H locs ls hP hD hS hl)
/-- a loop's head that goes out -/
theorem k_out (X : kk_Cx E D C A cc nL own Ts rm) {x y : Int32} {off : Int} (hc : ¬ x < y) (tgt : Nat) (d : decode cc pc = .ok (.if_icmp .ge off, 3)) (ht : (pc : Int) + off = (tgt : Int)) (k : kk_At E D A nL Q kc kz ws tgt lv st) : kk_At E D A nL Q kc kz ws pc lv (.int y :: .int x :: st) := fun H locs ls hP hD hS hl => lv_icmp_ge X.hx X.hb d ht (fun _ => k H locs ls hP hD hS hl) (fun c => absurd (Int32.not_le.mp c) hc)
theorem k_obj (X : kk_Cx E D C A cc nL own Ts rm) {idx a : Nat} (h1 : Cond.methodLink own idx objectInit ∈ Ts) (h2 : Cond.instanceMethod objectInit ∈ Ts) (h3 : Cond.code objectInit ⟨#[0xb1]⟩ 1 none ∈ Ts) (hf : 1 ≤ rm.frames) (hlo : 12 ≤ rm.locals) (d : decode cc pc = .ok (.invokespecial idx, 3)) (k : kk_At E D A nL Q kc kz ws (pc + 3) lv []) : kk_At E D A nL Q kc kz ws pc lv [.ref a] := fun H locs ls hP hD hS hl => W.objInit X.hx X.hb X.ho (X.ts _ h1) (X.ts _ h2) (X.ts _ h3) rfl (by rw [X.ml]; exact hl.1) rfl d (by rw [X.ro]; exact hf) (by rw [X.ro]; exact hlo) (k H locs ls hP hD hS hl)
theorem k_newi (X : kk_Cx E D C A cc nL own Ts rm) {n : Int32} (N : Nat) (hw : Cond.arrayClass .int ∈ Ts) (hn : ¬ n < 0) (hN : n.toNatClampNeg = N) (hb : N * componentBytes .int ≤ 536870912) (hc : kc + 1 ≤ rm.cells) (hs : kz + N ≤ rm.slots) (d : decode cc pc = .ok (.newarray .int, 2)) (k : ∀ q, kk_At E D A nL Q (kc + 1) (kz + N) (ws ++ [(q, .inl (C 6, N, .inl (fun _ => 0)))]) (pc + 2) lv (.ref q :: st)) : kk_At E D A nL Q kc kz ws pc lv (.int n :: st) := by
  intro H locs ls hP hD hS hl
  refine va_newa (atype := .int) (ty := .int) X.hx X.hb (X.ts _ hw) rfl X.kk hP hD hS X.ha (a0 := (N, .inl (fun _ => 0))) (fun cA => rfl) hn hN hb (by rw [X.ro]; exact hc) (by rw [X.ro]; exact hs) d (fun q cA H1 hK1 hP1 hD1 hS1 => ?_)
  have e1 : (eS E).vm.findClass ("[" ++ FieldType.toString .int) = some cA := (hK1.2 6 _ rfl).2
  have e2 : (eS E).vm.findClass ("[" ++ FieldType.toString .int) = some (C 6) := (X.kk.2 1 _ rfl).2
  have e : cA = C 6 := Option.some.inj (e1.symm.trans e2)
  subst e
  exact k q H1 locs ls hP1 hD1 hS1 hl
theorem k_newb (X : kk_Cx E D C A cc nL own Ts rm) {n : Int32} (N : Nat) (hw : Cond.arrayClass .byte ∈ Ts) (hn : ¬ n < 0) (hN : n.toNatClampNeg = N) (hb : N * componentBytes .byte ≤ 536870912) (hc : kc + 1 ≤ rm.cells) (hs : kz + N ≤ rm.slots) (d : decode cc pc = .ok (.newarray .byte, 2)) (k : ∀ q, kk_At E D A nL Q (kc + 1) (kz + N) (ws ++ [(q, .inl (C 5, N, .inl (fun _ => 0)))]) (pc + 2) lv (.ref q :: st)) : kk_At E D A nL Q kc kz ws pc lv (.int n :: st) := by
  intro H locs ls hP hD hS hl
  refine va_newa (atype := .byte) (ty := .byte) X.hx X.hb (X.ts _ hw) rfl X.kk hP hD hS X.ha (a0 := (N, .inl (fun _ => 0))) (fun cA => rfl) hn hN hb (by rw [X.ro]; exact hc) (by rw [X.ro]; exact hs) d (fun q cA H1 hK1 hP1 hD1 hS1 => ?_)
  have e1 : (eS E).vm.findClass ("[" ++ FieldType.toString .byte) = some cA := (hK1.2 6 _ rfl).2
  have e2 : (eS E).vm.findClass ("[" ++ FieldType.toString .byte) = some (C 5) := (X.kk.2 0 _ rfl).2
  have e : cA = C 5 := Option.some.inj (e1.symm.trans e2)
  subst e
  exact k q H1 locs ls hP1 hD1 hS1 hl
theorem k_newq (X : kk_Cx E D C A cc nL own Ts rm) {n : Int32} {idx : Nat} (N t0 : Nat) {cA0 : ClassId} {R1 : String} (ht : (kk_tys C)[t0]? = some (cA0, .object R1)) (hao : va_AO R1 (eS E)) (hw : Cond.classLink own idx R1 ∈ Ts) (hn : ¬ n < 0) (hN : n.toNatClampNeg = N) (hb : N * 4 ≤ 536870912) (hc : kc + 1 ≤ rm.cells) (hs : kz + N ≤ rm.slots) (d : decode cc pc = .ok (.anewarray idx, 3)) (k : ∀ q, kk_At E D A nL Q (kc + 1) (kz + N) (ws ++ [(q, .inl (cA0, N, .inr (.inr (.inr (.inr (fun _ => none))))))]) (pc + 3) lv (.ref q :: st)) : kk_At E D A nL Q kc kz ws pc lv (.int n :: st) := by
  intro H locs ls hP hD hS hl
  refine va_newq X.hx X.hb X.ho (X.ts _ hw) hao X.kk hP hD hS X.ha hn hN hb (by rw [X.ro]; exact hc) (by rw [X.ro]; exact hs) d (fun q cA H1 hK1 hP1 hD1 hS1 => ?_)
  obtain ⟨-, -, -, -, -, e1⟩ := (hK1.2 6 _ rfl).2
  obtain ⟨-, -, -, -, -, e2⟩ := (X.kk.2 t0 _ ht).2
  have e : cA = cA0 := Option.some.inj (e1.symm.trans e2)
  subst e
  exact k q H1 locs ls hP1 hD1 hS1 hl
theorem kk_push {w2 : va_W} {H H1 : Heap} (hP : va_P D vwCl ws H) (hD : va_D A ws) (hk : ∀ x, x < H.size → H1[x]? = H[x]?) (hP2 : va_P D vwCl w2 H1) (hD2 : va_D A w2) (hn : ∀ (k : Nat) (q : Nat × va_E), w2[k]? = some q → H.size ≤ q.1) : va_P D vwCl (ws ++ w2) H1 ∧ va_D A (ws ++ w2) :=
  ⟨(hP.kept (fun k x hx => hk x.1 ((hP k x hx).lt))).app hP2, hD.app hD2 (fun i j x y hx hy e => by
    have h1 := (hP i x hx).lt
    have h2 := hn j y hy
    omega)⟩
def kk_rows (cy : ClassId) (N K h : Nat) : va_W := (List.range N).map (fun i => (h + i, .inl (cy, K, .inl (fun _ => 0))))
theorem kk_rows_at {cy : ClassId} {N K h k : Nat} {q : Nat × va_E} (hq : (kk_rows cy N K h)[k]? = some q) : k < N ∧ q = (h + k, .inl (cy, K, .inl (fun _ => 0))) := by
  unfold kk_rows at hq
  rw [List.getElem?_map] at hq
  by_cases hk : k < N
  · rw [List.getElem?_range hk] at hq
    exact ⟨hk, (Option.some.inj hq).symm⟩
  · rw [List.getElem?_eq_none (by rw [List.length_range]; omega)] at hq
    cases hq
theorem k_mna (X : kk_Cx E D C A cc nL own Ts rm) {n k : Int32} {idx : Nat} (N K : Nat) {ty : FieldType} {cA cy : ClassId} {nm : String} (hT : mn_T ty cA cy (eS E)) (hnm : "[" ++ (FieldType.array ty).toString = nm) (hw : Cond.classLink own idx nm ∈ Ts) (hdv : defaultValue ty = .int 0) (hft : fits ty (defaultValue ty) = true) (hn : ¬ n < 0) (hk : ¬ k < 0) (hN : n.toNatClampNeg = N) (hK : k.toNatClampNeg = K) (hb1 : N * 4 ≤ 536870912) (hb2 : K * componentBytes ty ≤ 536870912) (hb3 : K ≤ 536870912) (hc : kc + (1 + N) ≤ rm.cells) (hs : kz + (N + N * K) ≤ rm.slots) (d : decode cc pc = .ok (.multianewarray idx 2, 4)) (kk : ∀ q h, kk_At E D A nL Q (kc + 1 + N) (kz + N + N * K) (ws ++ ((q, .inl (cA, N, .inr (.inr (.inr (.inr (fun i => some (h + i))))))) :: kk_rows cy N K h)) (pc + 4) lv (.ref q :: st)) : kk_At E D A nL Q kc kz ws pc lv (.int k :: .int n :: st) := by
  intro H locs ls hP hD hS hl
  refine mn_W X.hx X.hb X.ho (by rw [hnm]; exact X.ts _ hw) hT hn hk hN hK hb1 hb2 hb3 hft (by rw [hdv]; rfl) (by rw [X.ro]; exact hc) (by rw [X.ro]; exact hs) d (fun H1 z1 o1 c1 r1 => ?_)
  have hsz := hS.1
  have hP2 : va_P D vwCl ((H.size, .inl (cA, N, .inr (.inr (.inr (.inr (fun i => some (H.size + 1 + i))))))) :: kk_rows cy N K (H.size + 1)) H1 := by
    intro j q hq
    cases j with
    | zero => cases hq; exact c1
    | succ j =>
      rw [List.getElem?_cons_succ] at hq
      obtain ⟨hj, e⟩ := kk_rows_at hq
      subst e
      have h := r1 j hj
      rw [hdv] at h
      exact h
  have hn2 : ∀ (j : Nat) (q : Nat × va_E), (((H.size, .inl (cA, N, .inr (.inr (.inr (.inr (fun i => some (H.size + 1 + i))))))) :: kk_rows cy N K (H.size + 1)) : va_W)[j]? = some q → q.1 = H.size + j := by
    intro j q hq
    cases j with
    | zero => cases hq; rfl
    | succ j =>
      rw [List.getElem?_cons_succ] at hq
      obtain ⟨hj, e⟩ := kk_rows_at hq
      subst e
      show H.size + 1 + j = H.size + (j + 1)
      omega
  have hD2 : va_D A ((H.size, .inl (cA, N, .inr (.inr (.inr (.inr (fun i => some (H.size + 1 + i))))))) :: kk_rows cy N K (H.size + 1)) := by
    refine ⟨fun i j x y hi hj e => ?_, fun j q hq => ?_⟩
    · have h1 := hn2 i x hi
      have h2 := hn2 j y hj
      omega
    · have h1 := hn2 j q hq
      exact X.ha _ (by omega)
  obtain ⟨hP3, hD3⟩ := kk_push hP hD o1 hP2 hD2 (fun j q hq => by have h1 := hn2 j q hq; omega)
  exact kk H.size (H.size + 1) H1 locs ls hP3 hD3 ⟨by omega, fun x h1 h2 => (o1 x (Nat.lt_of_lt_of_le h1 hS.1)).trans (hS.2.1 x h1 h2), hS.2.2⟩ hl
theorem k_putF (X : kk_Cx E D C A cc nL own Ts rm) (hin2 : (eT E).name = "<init>") {N idx a ci : Nat} {R1 : String} {T : u_T} (q0 k : Nat) {fs : List Value} {v : Value} {ws' : va_W} (he : ws[q0]? = some (a, .inr (ci, fs))) (hc : vwCl[ci]? = some (R1, T, N)) (hin : ∀ w ∈ u_ws R1 T N, w ∈ Ts) (ty0 : Nat → FieldType) (hty : ∀ k, k < N → parseFieldDescriptor (T k).2.2.1 = some (ty0 k)) (hnm : ∀ a, a < N → ∀ b, b < N → a ≠ b → (T a).2.1 ≠ (T b).2.1) (hk : k < N) (hw : Cond.fieldLink own idx (T k).1 (T k).2.1 (T k).2.2.1 ∈ Ts) (hfin : (T k).2.2.2 = true) (hdecl : (T k).1 = own) {ty : FieldType} (hd : parseFieldDescriptor (T k).2.2.1 = some ty) (hn : narrow ty v = v) (hfit : fits ty v = true) (hl2 : k < fs.length) (hws : ws.set q0 (a, .inr (ci, fs.set k v)) = ws') (d : decode cc pc = .ok (.putfield idx, 3)) (kk : kk_At E D A nL Q kc kz ws' (pc + 3) lv st) : kk_At E D A nL Q kc kz ws pc lv (v :: .ref a :: st) := by
  intro H locs ls hP hD hS hl
  subst hws
  exact va_putF X.hx X.hb X.ts hin ty0 hty hnm X.ho X.kk hP hD hS q0 he hc k hk (X.ts _ hw) (fun _ h => h) hfin hin2 hdecl hd hn hfit hl2 d (fun H1 locs1 hP1 hD1 hS1 => kk H1 locs1 ls hP1 hD1 hS1 hl)
theorem k_put (X : kk_Cx E D C A cc nL own Ts rm) {N idx a ci : Nat} {R1 : String} {T : u_T} (q0 k : Nat) {fs : List Value} {v : Value} {ws' : va_W} (he : ws[q0]? = some (a, .inr (ci, fs))) (hc : vwCl[ci]? = some (R1, T, N)) (hin : ∀ w ∈ u_ws R1 T N, w ∈ Ts) (ty0 : Nat → FieldType) (hty : ∀ k, k < N → parseFieldDescriptor (T k).2.2.1 = some (ty0 k)) (hnm : ∀ a, a < N → ∀ b, b < N → a ≠ b → (T a).2.1 ≠ (T b).2.1) (hk : k < N) (hw : Cond.fieldLink own idx (T k).1 (T k).2.1 (T k).2.2.1 ∈ Ts) (hfin : (T k).2.2.2 = false) {ty : FieldType} (hd : parseFieldDescriptor (T k).2.2.1 = some ty) (hn : narrow ty v = v) (hfit : fits ty v = true) (hl2 : k < fs.length) (hws : ws.set q0 (a, .inr (ci, fs.set k v)) = ws') (d : decode cc pc = .ok (.putfield idx, 3)) (kk : kk_At E D A nL Q kc kz ws' (pc + 3) lv st) : kk_At E D A nL Q kc kz ws pc lv (v :: .ref a :: st) := by
  intro H locs ls hP hD hS hl
  subst hws
  exact va_put X.hx X.hb X.ts hin ty0 hty hnm X.ho X.kk hP hD hS q0 he hc k hk (X.ts _ hw) (fun _ h => h) hfin hd hn hfit hl2 d (fun H1 locs1 hP1 hD1 hS1 => kk H1 locs1 ls hP1 hD1 hS1 hl)
theorem k_get (X : kk_Cx E D C A cc nL own Ts rm) {N idx a ci : Nat} {R1 : String} {T : u_T} (q0 k : Nat) {fs : List Value} (v : Value) (he : ws[q0]? = some (a, .inr (ci, fs))) (hc : vwCl[ci]? = some (R1, T, N)) (hin : ∀ w ∈ u_ws R1 T N, w ∈ Ts) (hk : k < N) (hw : Cond.fieldLink own idx (T k).1 (T k).2.1 (T k).2.2.1 ∈ Ts) (hv : fs[k]? = some v) (d : decode cc pc = .ok (.getfield idx, 3)) (kk : kk_At E D A nL Q kc kz ws (pc + 3) lv (v :: st)) : kk_At E D A nL Q kc kz ws pc lv (.ref a :: st) := fun H locs ls hP hD hS hl => va_get X.hx X.hb X.ts hin X.ho X.kk hP q0 he hc k hk (X.ts _ hw) (fun _ h => h) hv d (kk H locs ls hP hD hS hl)
theorem k_iast (X : kk_Cx E D C A cc nL own Ts rm) {a n : Nat} {f : Nat → Int32} {i x : Int32} {ws' : va_W} (q0 j : Nat) (he : ws[q0]? = some (a, .inl (C 6, n, .inl f))) (hin : vp_in i n) (hj : i.toNatClampNeg = j) (hws : ws.set q0 (a, .inl (C 6, n, .inl (upd f j x))) = ws') (d : decode cc pc = .ok (.iastore, 1)) (kk : kk_At E D A nL Q kc kz ws' (pc + 1) lv st) : kk_At E D A nL Q kc kz ws pc lv (.int x :: .int i :: .ref a :: st) := by
  intro H locs ls hP hD hS hl
  subst hws
  subst hj
  exact va_iast X.hx X.hb X.kk hP hD hS q0 1 he rfl hin d (fun H1 locs1 hP1 hD1 hS1 => kk H1 locs1 ls hP1 hD1 hS1 hl)
theorem k_astq (X : kk_Cx E D C A cc nL own Ts rm) {a n v ci : Nat} {cA0 : ClassId} {vs : List Value} {r : vw_C} {f : Nat → Option Nat} {i : Int32} {ws' : va_W} (q0 t0 qk j : Nat) (he : ws[q0]? = some (a, .inl (cA0, n, .inr (.inr (.inr (.inr f)))))) (ht : (kk_tys C)[t0]? = some (cA0, .object r.1)) (hv : ws[qk]? = some (v, .inr (ci, vs))) (hc : vwCl[ci]? = some r) (hin : vp_in i n) (hj : i.toNatClampNeg = j) (hws : ws.set q0 (a, .inl (cA0, n, .inr (.inr (.inr (.inr (va_up f j (some v))))))) = ws') (d : decode cc pc = .ok (.aastore, 1)) (kk : kk_At E D A nL Q kc kz ws' (pc + 1) lv st) : kk_At E D A nL Q kc kz ws pc lv (.ref v :: .int i :: .ref a :: st) := by
  intro H locs ls hP hD hS hl
  subst hws
  subst hj
  exact va_astq X.hx X.hb X.kk hP hD hS q0 t0 qk ci he ht hv hc hin d (fun H1 locs1 hP1 hD1 hS1 => kk H1 locs1 ls hP1 hD1 hS1 hl)
theorem k_aldq (X : kk_Cx E D C A cc nL own Ts rm) {a n : Nat} {cA0 : ClassId} {R1 : String} {f : Nat → Option Nat} {i : Int32} (q0 t0 j v : Nat) (he : ws[q0]? = some (a, .inl (cA0, n, .inr (.inr (.inr (.inr f)))))) (ht : (kk_tys C)[t0]? = some (cA0, .object R1)) (hin : vp_in i n) (hj : i.toNatClampNeg = j) (hv : f j = some v) (d : decode cc pc = .ok (.aaload, 1)) (kk : kk_At E D A nL Q kc kz ws (pc + 1) lv (.ref v :: st)) : kk_At E D A nL Q kc kz ws pc lv (.int i :: .ref a :: st) := by
  intro H locs ls hP hD hS hl
  subst hj
  refine va_aldq X.hx X.hb X.kk hP q0 t0 he ht hin d ?_
  rw [hv]
  exact kk H locs ls hP hD hS hl
theorem k_alen (X : kk_Cx E D C A cc nL own Ts rm) {a n : Nat} {f : Nat → Int32} (q0 : Nat) (v : Int32) (he : ws[q0]? = some (a, .inl (C 6, n, .inl f))) (hv : Int32.ofNat n = v) (d : decode cc pc = .ok (.arraylength, 1)) (kk : kk_At E D A nL Q kc kz ws (pc + 1) lv (.int v :: st)) : kk_At E D A nL Q kc kz ws pc lv (.ref a :: st) := fun H locs ls hP hD hS hl => va_alen X.hx X.hb X.kk hP q0 1 he (ty := .int) rfl hv d (kk H locs ls hP hD hS hl)
/-- an array of references, told otherwise beyond its end -/
theorem k_fix {a n : Nat} {cA0 : ClassId} {f : Nat → Option Nat} {ws' : va_W} (q0 : Nat) (g : Nat → Option Nat) (he : ws[q0]? = some (a, .inl (cA0, n, .inr (.inr (.inr (.inr f)))))) (hfg : ∀ i, i < n → f i = g i) (hws : ws.set q0 (a, .inl (cA0, n, .inr (.inr (.inr (.inr g))))) = ws') (kk : kk_At E D A nL Q kc kz ws' pc lv st) : kk_At E D A nL Q kc kz ws pc lv st := by
  intro H locs ls hP hD hS hl
  subst hws
  refine kk H locs ls (hP.set hD he ?_ (fun q _ => rfl)) (hD.set he) hS hl
  have h : H[a]? = some (arrV cA0 n (fun j => va_rf (f j))) := hP q0 _ he
  show H[a]? = some (arrV cA0 n (fun j => va_rf (g j)))
  rw [h, mn_congr (fun j hj => by rw [hfg j hj])]
/-- the same cells in another order: what was made goes to the front, or to the rest -/
theorem k_layF {X0 F b : va_W} (kk : kk_At E D A nL Q kc kz (X0 ++ (F ++ b)) pc lv st) : kk_At E D A nL Q kc kz ((X0 ++ F) ++ b) pc lv st := by
  rw [List.append_assoc]
  exact kk
theorem k_layX {X0 F a : va_W} (kk : kk_At E D A nL Q kc kz ((X0 ++ a) ++ F) pc lv st) : kk_At E D A nL Q kc kz ((X0 ++ F) ++ a) pc lv st := fun H locs ls hP hD hS hl => kk H locs ls hP.swap hD.swap hS hl
theorem k_lay {X0 F a b : va_W} (kk : kk_At E D A nL Q kc kz ((X0 ++ a) ++ (F ++ b)) pc lv st) : kk_At E D A nL Q kc kz ((X0 ++ F) ++ (a ++ b)) pc lv st := by
  intro H locs ls hP hD hS hl
  have p1 := hP.swap
  have d1 := hD.swap
  rw [← List.append_assoc X0 a b] at p1 d1
  have p2 := p1.swap
  have d2 := d1.swap
  rw [List.append_assoc (X0 ++ a)] at p2 d2
  exact kk H locs ls p2 d2 hS hl
end KR
