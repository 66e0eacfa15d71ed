/-! contracts of constructors, calls of them -/
abbrev kk_S : Type := Nat → Nat → Nat
def kk_Pre (D : va_G) (C : Nat → ClassId) (h : Nat) (e0 : va_E) (sz : Nat) (U : State) : Prop := U.heap.size = sz ∧ va_P D vwCl [(h, e0)] U.heap ∧ kk_T D C U
def kk_Bp (D : va_G) (A : Nat → Prop) (wf : kk_S → va_W) (r : kk_S) (t : State) : Prop := va_P D vwCl (wf r) t.heap ∧ va_D A (wf r)
def kk_M (l : Launch) (y : MethodName) (wy : List Cond) (rm : Room) (D : va_G) (C : Nat → ClassId) (e0 : va_E) (wf : Nat → kk_S → va_W) (mc ms : Nat) : Prop := ∀ h sz, Met l y wy rm (va_Pc [.ref h] (kk_Pre D C h e0 sz)) (va_Qv (fun _ : kk_S => True) (kk_Bp D (va_A [(h, e0)] sz) (wf h)) (va_A [(h, e0)] sz)) mc ms (va_A [(h, e0)] sz)
theorem kk_blind {D : va_G} {C : Nat → ClassId} {h sz : Nat} {e0 : va_E} : FrameBlind (va_Pc [.ref h] (kk_Pre D C h e0 sz)) := by
  intro a U g mk q
  obtain ⟨q0, q1, q2, q3⟩ := q
  exact ⟨q0, q1, q2, q3.call g mk a⟩
theorem kk_one {A : Nat → Prop} {h : Nat} {e0 : va_E} (hA : A h) : va_D A [(h, e0)] := by
  have key : ∀ (k : Nat) (q : Nat × va_E), ([(h, e0)] : va_W)[k]? = some q → k = 0 ∧ q = (h, e0) := by
    intro k q hk
    have hz : k < 1 := (List.getElem?_eq_some_iff.mp hk).1
    have h0 : k = 0 := by omega
    subst h0
    exact ⟨rfl, (Option.some.inj hk).symm⟩
  refine ⟨fun i j x y hi hj _ => ?_, fun k q hk => ?_⟩
  · rw [(key i x hi).1, (key j y hj).1]
  · rw [(key k q hk).2]
    exact hA
theorem kk_joined {A : Nat → Prop} {D : va_G} {ws w1 : va_W} {q : Nat} {e0 : va_E} {H1 H2 : Heap} (hD : va_D A ws) (hP1 : va_P D vwCl (ws ++ [(q, e0)]) H1) (hD1 : va_D A (ws ++ [(q, e0)])) (hk1 : ∀ z : Nat, z < H1.size → ¬ va_A [(q, e0)] H1.size z → H2[z]? = H1[z]?) (hFc : ∀ z, va_A [(q, e0)] H1.size z → A z) (hP2 : va_P D vwCl w1 H2) (hD2 : va_D (va_A [(q, e0)] H1.size) w1) : va_P D vwCl (ws ++ w1) H2 ∧ va_D A (ws ++ w1) := by
  have inl : ∀ (k : Nat) (x : Nat × va_E), ws[k]? = some x → (ws ++ [(q, e0)])[k]? = some x := fun k x hx => by rw [List.getElem?_append_left (List.getElem?_eq_some_iff.mp hx).1]; exact hx
  have hq1 : (ws ++ [(q, e0)])[ws.length]? = some (q, e0) := by rw [List.getElem?_append_right (Nat.le_refl _), Nat.sub_self]; rfl
  have apart : ∀ (k : Nat) (x : Nat × va_E), ws[k]? = some x → x.1 < H1.size ∧ ¬ va_A [(q, e0)] H1.size x.1 := by
    intro k x hx
    have hlk : k < ws.length := (List.getElem?_eq_some_iff.mp hx).1
    have hlt := (hP1 k x (inl k x hx)).lt
    refine ⟨hlt, fun h => ?_⟩
    rcases h with ⟨j, e', h⟩ | h
    · have hj : j < 1 := (List.getElem?_eq_some_iff.mp h).1
      have h0 : j = 0 := by omega
      subst h0
      have hx1 : q = x.1 := congrArg Prod.fst (Option.some.inj h)
      have hk := hD1.1 k ws.length x (q, e0) (inl k x hx) hq1 hx1.symm
      omega
    · omega
  exact ⟨va_P.app (fun k x hx => (hP1 k x (inl k x hx)).kept (hk1 x.1 (apart k x hx).1 (apart k x hx).2)) hP2, va_D.app hD (hD2.weaken (fun k x _ h => hFc x.1 h)) (fun i j x y hx hy e => (apart i x hx).2 (by rw [e]; exact hD2.2 j y hy))⟩
section KM
variable {E : mm_E} {D : va_G} {C : Nat → ClassId} {A : Nat → Prop} {cc : ByteArray} {nL : Nat} {own : String} {Ts : List Cond} {rm : Room} {Q : State → Prop} {kc kz : Nat} {ws : va_W} {pc : Nat} {lv : List (Nat × Value)} {st : List Value}
theorem kk_fresh {q : Nat} {e0 : va_E} {H0 H1 : Heap} {locs : List Loc} (hA : ∀ z, H0.size ≤ z → A z) (hD1 : va_D A (ws ++ [(q, e0)])) (hS1 : va_S A H0 H1 locs) : ∀ z, va_A [(q, e0)] H1.size z → A z := by
  intro z h
  rcases h with ⟨j, e', h⟩ | h
  · have hj : j < 1 := (List.getElem?_eq_some_iff.mp h).1
    have h0 : j = 0 := by omega
    subst h0
    have hz : q = z := congrArg Prod.fst (Option.some.inj h)
    have hq1 : (ws ++ [(q, e0)])[ws.length]? = some (q, e0) := by rw [List.getElem?_append_right (Nat.le_refl _), Nat.sub_self]; rfl
    rw [← hz]
    exact hD1.2 _ _ hq1
  · exact hA z (Nat.le_trans hS1.1 h)
theorem kk_last {q : Nat} {e0 : va_E} {H1 : Heap} (hP1 : va_P D vwCl (ws ++ [(q, e0)]) H1) : va_P D vwCl [(q, e0)] H1 := by
  intro k x hx
  have hj : k < 1 := (List.getElem?_eq_some_iff.mp hx).1
  have h0 : k = 0 := by omega
  subst h0
  rw [← Option.some.inj hx]
  exact hP1 ws.length (q, e0) (by rw [List.getElem?_append_right (Nat.le_refl _), Nat.sub_self]; rfl)
/-- new, dup, invokespecial: an object, made by its constructor's contract -/
theorem k_make (X : kk_Cx E D C A cc nL own Ts rm) {i0 i1 N ci mc ms maxL : Nat} {R1 : String} {T : u_T} {fs : List Value} {y : MethodName} {wy wy' : List Cond} {rm2 : Room} {wf : Nat → kk_S → va_W} {bytes : ByteArray} (hM : kk_M (eL E) y wy rm2 D C (.inr (ci, fs)) wf mc ms) (hc : vwCl[ci]? = some (R1, T, N)) (hin : ∀ w ∈ u_ws R1 T N, w ∈ Ts) (ty0 : Nat → FieldType) (hty : ∀ k, k < N → parseFieldDescriptor (T k).2.2.1 = some (ty0 k)) (hfs : ∀ j, j < N → defaultValue (ty0 j) = vp_V fs j) (hw1 : Cond.classLink own i0 R1 ∈ Ts) (hw2 : Cond.instantiable R1 N ∈ Ts) (hw3 : Cond.initialized R1 ∈ Ts) (hw4 : Cond.methodLink own i1 y ∈ Ts) (hw5 : Cond.instanceMethod y ∈ Ts) (g : GoodIn Ts wy) (hw : wy = Cond.code y bytes maxL none :: wy') (hz : rm2.cells = mc ∧ rm2.slots = ms) (hy : y.cls = R1) (hyn : y.name = "<init>") (hd : y.cls ≠ "java/lang/invoke/MethodHandle" ∧ y.cls ≠ "java/lang/invoke/VarHandle" ∧ (parseMethodDescriptor y.desc).map (fun d => d.parameters.length) = some 0) (hR : rm2.frames + 1 ≤ rm.frames ∧ 8 + (maxL + 11) + rm2.locals ≤ rm.locals) (hcl : kc + 1 + mc ≤ rm.cells) (hsl : kz + N + ms ≤ rm.slots) (h8 : ∀ q : Nat, ((Value.ref q :: st).map fun v => v.category).sum ≤ 8) (d0 : decode cc pc = .ok (.new i0, 3)) (d1 : decode cc (pc + 3) = .ok (.dup, 1)) (d2 : decode cc (pc + 3 + 1) = .ok (.invokespecial i1, 3)) (kk : ∀ (q : Nat) (r : kk_S), kk_At E D A nL Q (kc + 1 + mc) (kz + N + ms) (ws ++ wf q r) (pc + 3 + 1 + 3) lv (.ref q :: st)) : kk_At E D A nL Q kc kz ws pc lv st := by
  intro H locs ls hP hD hS hl
  refine va_new (C := R1) (T := T) (N := N) X.hx X.hb X.ts hin ty0 hty X.ho (X.ts _ hw1) (X.ts _ hw2) (X.ts _ hw3) X.kk hP hD hS X.ha hc hfs (by rw [X.ro]; omega) (by rw [X.ro]; omega) d0 (fun q H1 hP1 hD1 hS1 => ?_)
  refine lv_dup X.hx X.hb d1 rfl ?_
  have hFc := kk_fresh X.ha hD1 hS1
  refine va_callv (va_runI (As := []) (rest := .ref q :: st) ⟨X.hx, X.hb, X.ml, X.ho, X.ts⟩ (hM q H1.size) (cwI 0 X.ts g hw hz.1 hz.2 (by rw [hy]; exact X.ts _ hw3) (X.ts _ hw4) (X.ts _ hw5) hyn hd (by rw [X.ro]; exact hR)) ⟨kk_blind, fun U hU hW => ⟨rfl, by rw [hU], by rw [hU]; exact kk_last hP1, X.tt.warm hW⟩⟩ rfl rfl hl.1 rfl (lv_room (h8 q)) d2 ⟨by rw [X.ro]; exact hcl, by rw [X.ro]; exact hsl⟩) hS1 (fun z _ h => hFc z h) hFc (fun r t H2 locs2 ht hvm _ hB hz1 hk1 hS2 => ?_)
  obtain ⟨hP2, hD2⟩ := hB
  rw [ht] at hP2
  obtain ⟨hP3, hD3⟩ := kk_joined hD hP1 hD1 hk1 hFc hP2 hD2
  exact kk q r H2 locs2 ls hP3 hD3 hS2 hl
/-- the same, a nest mate's private constructor -/
theorem k_makeN (X : kk_Cx E D C A cc nL own Ts rm) {i0 i1 N ci mc ms maxL : Nat} {R1 host : String} {T : u_T} {fs : List Value} {y : MethodName} {wy wy' : List Cond} {rm2 : Room} {wf : Nat → kk_S → va_W} {bytes : ByteArray} (hM : kk_M (eL E) y wy rm2 D C (.inr (ci, fs)) wf mc ms) (hc : vwCl[ci]? = some (R1, T, N)) (hin : ∀ w ∈ u_ws R1 T N, w ∈ Ts) (ty0 : Nat → FieldType) (hty : ∀ k, k < N → parseFieldDescriptor (T k).2.2.1 = some (ty0 k)) (hfs : ∀ j, j < N → defaultValue (ty0 j) = vp_V fs j) (hw1 : Cond.classLink own i0 R1 ∈ Ts) (hw2 : Cond.instantiable R1 N ∈ Ts) (hw3 : Cond.initialized R1 ∈ Ts) (hw4 : va_Nw (.methodLinkNest own i1 y host) (eS E)) (hw5 : Cond.instanceMethod y ∈ Ts) (g : GoodIn Ts wy) (hw : wy = Cond.code y bytes maxL none :: wy') (hz : rm2.cells = mc ∧ rm2.slots = ms) (hy : y.cls = R1) (hyn : y.name = "<init>") (hd : y.cls ≠ "java/lang/invoke/MethodHandle" ∧ y.cls ≠ "java/lang/invoke/VarHandle" ∧ (parseMethodDescriptor y.desc).map (fun d => d.parameters.length) = some 0) (hR : rm2.frames + 1 ≤ rm.frames ∧ 8 + (maxL + 11) + rm2.locals ≤ rm.locals) (hcl : kc + 1 + mc ≤ rm.cells) (hsl : kz + N + ms ≤ rm.slots) (h8 : ∀ q : Nat, ((Value.ref q :: st).map fun v => v.category).sum ≤ 8) (d0 : decode cc pc = .ok (.new i0, 3)) (d1 : decode cc (pc + 3) = .ok (.dup, 1)) (d2 : decode cc (pc + 3 + 1) = .ok (.invokespecial i1, 3)) (kk : ∀ (q : Nat) (r : kk_S), kk_At E D A nL Q (kc + 1 + mc) (kz + N + ms) (ws ++ wf q r) (pc + 3 + 1 + 3) lv (.ref q :: st)) : kk_At E D A nL Q kc kz ws pc lv st := by
  intro H locs ls hP hD hS hl
  refine va_new (C := R1) (T := T) (N := N) X.hx X.hb X.ts hin ty0 hty X.ho (X.ts _ hw1) (X.ts _ hw2) (X.ts _ hw3) X.kk hP hD hS X.ha hc hfs (by rw [X.ro]; omega) (by rw [X.ro]; omega) d0 (fun q H1 hP1 hD1 hS1 => ?_)
  refine lv_dup X.hx X.hb d1 rfl ?_
  have hFc := kk_fresh X.ha hD1 hS1
  refine va_callv (va_runIN (As := []) (rest := .ref q :: st) ⟨X.hx, X.hb, X.ml, X.ho, X.ts⟩ (hM q H1.size) ⟨va_cnB 0 X.ts g hw hz.1 hz.2 hw4 (by rw [hy]; exact X.ts _ hw3) hd (by rw [X.ro]; exact hR), hyn, X.ts _ hw5⟩ ⟨kk_blind, fun U hU hW => ⟨rfl, by rw [hU], by rw [hU]; exact kk_last hP1, X.tt.warm hW⟩⟩ rfl rfl hl.1 rfl (lv_room (h8 q)) d2 ⟨by rw [X.ro]; exact hcl, by rw [X.ro]; exact hsl⟩) hS1 (fun z _ h => hFc z h) hFc (fun r t H2 locs2 ht hvm _ hB hz1 hk1 hS2 => ?_)
  obtain ⟨hP2, hD2⟩ := hB
  rw [ht] at hP2
  obtain ⟨hP3, hD3⟩ := kk_joined hD hP1 hD1 hk1 hFc hP2 hD2
  exact kk q r H2 locs2 ls hP3 hD3 hS2 hl
theorem k_vret (X : kk_Cx E D C A cc nL own Ts rm) (hr : (eT E).sig.returnType = none) {wf : kk_S → va_W} (r : kk_S) (hw : ws = wf r) (d : decode cc pc = .ok (.return_, 1)) : kk_At E D A nL (MQ (eB E) (va_Qv (fun _ : kk_S => True) (kk_Bp D A wf) A) (eA E) (eS E) kc kz A) kc kz ws pc lv [] := by
  intro H locs ls hP hD hS hl
  subst hw
  exact W.vret X.hx X.hb hr (fun t ht hW => ⟨⟨r, rfl, trivial, by show va_P _ _ _ t.heap; rw [ht]; exact hP, hD⟩, hS.F ht⟩) hS.2.2 d (hlocks := X.lk)
/-- a loop that fills an int array with -1, place by place -/
theorem k_fill (X : kk_Cx E D C A cc 2 own Ts rm) {x q ci N n idx : Nat} {R1 : String} {T : u_T} {fs : List Value} (Wf : (Nat → Int32) → va_W) (q0 kf p0 p1 pout : Nat) {off off2 : Int} (hn : n < 2 ^ 31) (h0 : ∀ f, (Wf f)[0]? = some (x, .inr (ci, fs))) (hq : ∀ f, (Wf f)[q0]? = some (q, .inl (C 6, n, .inl f))) (hset : ∀ f g, (Wf f).set q0 (q, .inl (C 6, n, .inl g)) = Wf g) (hc : vwCl[ci]? = some (R1, T, N)) (hin : ∀ w ∈ u_ws R1 T N, w ∈ Ts) (hkf : kf < N) (hw : Cond.fieldLink own idx (T kf).1 (T kf).2.1 (T kf).2.2.1 ∈ Ts) (hv : fs[kf]? = some (.ref q)) (head : ∀ f k, kk_At E D A 2 Q kc kz (Wf f) p1 [(1, .int (nI k)), (0, .ref x)] [.int (nI n), .int (nI k)] → kk_At E D A 2 Q kc kz (Wf f) p0 [(1, .int (nI k)), (0, .ref x)] []) (d1 : decode cc p1 = .ok (.if_icmp .ge off, 3)) (t1 : (p1 : Int) + off = (pout : Int)) (d2 : decode cc (p1 + 3) = .ok (.aload_n 0, 1)) (d3 : decode cc (p1 + 3 + 1) = .ok (.getfield idx, 3)) (d4 : decode cc (p1 + 3 + 1 + 3) = .ok (.iload_n 1, 1)) (d5 : decode cc (p1 + 3 + 1 + 3 + 1) = .ok (.iconst (-1), 1)) (d6 : decode cc (p1 + 3 + 1 + 3 + 1 + 1) = .ok (.iastore, 1)) (d7 : decode cc (p1 + 3 + 1 + 3 + 1 + 1 + 1) = .ok (.iinc 1 1, 3)) (d8 : decode cc (p1 + 3 + 1 + 3 + 1 + 1 + 1 + 3) = .ok (.goto off2, 3)) (t2 : ((p1 + 3 + 1 + 3 + 1 + 1 + 1 + 3 : Nat) : Int) + off2 = (p0 : Int)) (kk : kk_At E D A 2 Q kc kz (Wf (fun j => if j < n then -1 else 0)) pout [(1, .int (nI n)), (0, .ref x)] []) : ∀ r k, k + r = n → kk_At E D A 2 Q kc kz (Wf (fun j => if j < k then -1 else 0)) p0 [(1, .int (nI k)), (0, .ref x)] [] := by
  intro r
  induction r with
  | zero =>
    intro k hk
    have e : k = n := by omega
    subst e
    refine head _ _ ?_
    exact k_out X Int32.lt_irrefl pout d1 t1 kk
  | succ r ih =>
    intro k hk
    refine head _ _ ?_
    refine k_in X (nI_lt (show k < n by omega) hn) pout d1 t1 ?_
    refine k_aload_n X 0 1 d2 rfl rfl ?_
    refine k_get X 0 kf (.ref q) (h0 _) hc hin hkf hw hv d3 ?_
    refine k_iload_n X 1 0 d4 rfl rfl ?_
    refine k_iconst X (-1) d5 ic_m1 ?_
    refine k_iast X q0 k (hq _) (vp_in_nI (by omega) hn) (nI_clamp (by omega)) (hset _ _) d6 ?_
    refine k_iinc X 1 0 (nI (k + 1)) [(1, .int (nI (k + 1))), (0, .ref x)] d7 rfl (by rw [show Int32.ofInt 1 = nI 1 from rfl, nI_add]) (by decide) rfl ?_
    refine k_goto X p0 d8 t2 ?_
    have e : upd (fun j => if j < k then (-1 : Int32) else 0) k (-1) = (fun j => if j < k + 1 then (-1 : Int32) else 0) := by
      funext j
      by_cases hj : j = k
      · subst hj
        rw [pk_us, if_pos (Nat.lt_succ_self j)]
      · rw [pk_un hj]
        by_cases h2 : j < k
        · rw [if_pos h2, if_pos (by omega)]
        · rw [if_neg h2, if_neg (by omega)]
    rw [e]
    exact ih (k + 1) (by omega)
end KM
theorem kk_of {l : Launch} {y : MethodName} {wy wy' : List Cond} {rm : Room} {D : va_G} {C : Nat → ClassId} {e0 : va_E} {wf : Nat → kk_S → va_W} {mc ms nL : Nat} {cc : ByteArray} {own : String} (hy : plainName y.cls = true) (hw : wy = Cond.code y cc nL none :: wy') (ho : y.cls = own) (hyn : y.name = "<init>") (hv : 1 ≤ nL) (body : ∀ (E : mm_E) (h : Nat), eL E = l → kk_Cx E D C (va_A [(h, e0)] (eS E).heap.size) cc nL own wy rm → (eT E).name = "<init>" → (eT E).sig.returnType = none → kk_At E D (va_A [(h, e0)] (eS E).heap.size) nL (MQ (eB E) (va_Qv (fun _ : kk_S => True) (kk_Bp D (va_A [(h, e0)] (eS E).heap.size) (wf h)) (va_A [(h, e0)] (eS E).heap.size)) (eA E) (eS E) mc ms (va_A [(h, e0)] (eS E).heap.size)) 0 0 [(h, e0)] 0 [(0, .ref h)] []) : kk_M l y wy rm D C e0 wf mc ms := by
  intro h sz
  refine Met.ofW (cc := cc) (maxL := nL) (ret := none) hy hw ?_
  intro p e s m args below meth c s₁ B hml hpre
  obtain ⟨rfl, hsz, hP, hT⟩ := hpre
  subst hsz
  subst ho
  have hl := lv_entry [Value.ref h] (n := nL) hv
  rw [lg_entry_eq]
  exact body (p, l, e, rm, s, m, [Value.ref h].toArray, below, meth, c, 0, 0) h rfl ⟨B.exec, B.bytes, hml, findClass_of_methodNamed B.named, atoms_spec (ws := wy) B.pre, hT, B.notSynchronized, rfl, fun q hq => Or.inr hq⟩ ((name_of_methodNamed B.named B.method).1.trans hyn) B.returns s.heap [] _ hP (kk_one (Or.inl ⟨0, e0, rfl⟩)) va_S.rf hl
