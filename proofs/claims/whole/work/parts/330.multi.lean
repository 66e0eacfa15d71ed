/-! AN ARRAY OF ARRAYS: the machine's 'multianewarray' of two dimensions (own rows: the outer array is one cell, its rows follow it). -/
theorem mn_congr {c : ClassId} {N : Nat} {f g : Nat → Value} (h : ∀ j, j < N → f j = g j) : arrV c N f = arrV c N g := by
  unfold arrV
  have e : (fun j : Fin N => f j.val) = (fun j : Fin N => g j.val) := funext fun j => h j.val j.isLt
  rw [e]
def mn_o (cA : ClassId) (N h0 i : Nat) : Cell := arrV cA N (fun j => va_rf (if j < i then some (h0 + 1 + j) else none))
def mn_i (cy : ClassId) (K : Nat) (dv : Value) : Cell := arrV cy K (fun _ => dv)
def mn_S (cA cy : ClassId) (N K : Nat) (dv : Value) (s : State) : Nat → State
  | 0 => s.pushCell (mn_o cA N s.heap.size 0)
  | i + 1 => ((mn_S cA cy N K dv s i).pushCell (mn_i cy K dv)).setCell s.heap.size (mn_o cA N s.heap.size (i + 1))
theorem mn_o_size (cA : ClassId) (N h0 i : Nat) : (mn_o cA N h0 i).slots.size = N := arrV_size _ _ _
theorem mn_i_size (cy : ClassId) (K : Nat) (dv : Value) : (mn_i cy K dv).slots.size = K := arrV_size _ _ _
theorem mn_o_set (cA : ClassId) (N h0 i : Nat) : (mn_o cA N h0 i).setSlot i (.ref (h0 + 1 + i)) = mn_o cA N h0 (i + 1) := by
  unfold mn_o
  rw [arrV_store]
  refine congrArg (arrV cA N) (funext fun j => ?_)
  by_cases e : j = i
  · subst e
    simp [updV, va_rf]
  · by_cases h : j < i
    · simp [updV, e, h, show j < i + 1 by omega]
    · simp [updV, e, h, show ¬ j < i + 1 by omega]
theorem mn_facts (cA cy : ClassId) (N K : Nat) (dv : Value) (s : State) : ∀ i, (mn_S cA cy N K dv s i).heap.size = s.heap.size + 1 + i ∧ (mn_S cA cy N K dv s i).heap[s.heap.size]? = some (mn_o cA N s.heap.size i) ∧ (mn_S cA cy N K dv s i).vm = s.vm ∧ (mn_S cA cy N K dv s i).slotsUsed = s.slotsUsed + N + i * K ∧ (∀ x, x < s.heap.size → (mn_S cA cy N K dv s i).heap[x]? = s.heap[x]?) ∧ ∀ j, j < i → (mn_S cA cy N K dv s i).heap[s.heap.size + 1 + j]? = some (mn_i cy K dv)
  | 0 => ⟨by simp [mn_S], by simp [mn_S], rfl, by simp [mn_S, mn_o_size], fun x hx => State.heap_pushCell_of_lt _ _ hx, fun j h => absurd h (Nat.not_lt_zero j)⟩
  | i + 1 => by
    obtain ⟨f1, f2, f3, f4, f5, f6⟩ := mn_facts cA cy N K dv s i
    have hlt : s.heap.size < (mn_S cA cy N K dv s i).heap.size := by rw [f1]; omega
    have hb : ((mn_S cA cy N K dv s i).pushCell (mn_i cy K dv)).heap[s.heap.size]? = some (mn_o cA N s.heap.size i) := by rw [State.heap_pushCell_of_lt (h := hlt)]; exact f2
    refine ⟨?_, State.heap_setCell_self hb, by simp [mn_S, f3], ?_, fun x hx => ?_, fun j hj => ?_⟩
    · simp [mn_S, State.setCell, f1]
      omega
    · simp only [mn_S, State.slotsUsed_setCell, State.slotsUsed_pushCell, f4, mn_i_size, Nat.succ_mul]
      omega
    · show (((mn_S cA cy N K dv s i).pushCell (mn_i cy K dv)).setCell s.heap.size _).heap[x]? = _
      rw [State.heap_setCell_other (Nat.ne_of_gt hx), State.heap_pushCell_of_lt (h := Nat.lt_trans hx hlt)]
      exact f5 x hx
    · show (((mn_S cA cy N K dv s i).pushCell (mn_i cy K dv)).setCell s.heap.size _).heap[s.heap.size + 1 + j]? = _
      rw [State.heap_setCell_other (show s.heap.size ≠ s.heap.size + 1 + j by omega)]
      by_cases e : j = i
      · subst e
        rw [← f1]
        exact State.heap_pushCell_size _ _
      · have h2 : s.heap.size + 1 + j < (mn_S cA cy N K dv s i).heap.size := by rw [f1]; omega
        rw [State.heap_pushCell_of_lt (h := h2)]
        exact f6 j (by omega)
theorem mn_top (cA cy : ClassId) (N K : Nat) (dv : Value) (s : State) (f : JFrame) : ∀ i, mn_S cA cy N K dv (s.setTop f) i = (mn_S cA cy N K dv s i).setTop f
  | 0 => rfl
  | i + 1 => by
    show ((mn_S cA cy N K dv (s.setTop f) i).pushCell _).setCell _ _ = _
    rw [mn_top cA cy N K dv s f i]
    rfl
section MNX
variable {p : Program} {l : Launch} {e : Env} {R : Room} {s : State} {m : MethodId} {args : Array Value} {below : List Frame} {meth : Method} {c : Code} {T : State} {locs : List Loc} {cells slots : Nat}
theorem mn_X (X : Stand p l e R s m args below meth c T locs cells slots) (cA cy : ClassId) (N K : Nat) (dv : Value) : ∀ i, ∃ J : List Loc, (∀ x ∈ J, x.base = T.heap.size) ∧ Stand p l e R s m args below meth c (mn_S cA cy N K dv T i) (locs ++ J) (cells + 1 + i) (slots + N + i * K)
  | 0 => by
    have h := X.pushed (mn_o cA N T.heap.size 0)
    rw [mn_o_size] at h
    refine ⟨[], fun x hx => absurd hx List.not_mem_nil, ?_⟩
    rw [List.append_nil, Nat.zero_mul]
    exact h
  | i + 1 => by
    obtain ⟨J, hJ, Xi⟩ := mn_X X cA cy N K dv i
    obtain ⟨f1, f2, -⟩ := mn_facts cA cy N K dv T i
    have hlt : T.heap.size < (mn_S cA cy N K dv T i).heap.size := by rw [f1]; omega
    have hcell : ((mn_S cA cy N K dv T i).pushCell (mn_i cy K dv)).heap[T.heap.size]? = some (mn_o cA N T.heap.size i) := by rw [State.heap_pushCell_of_lt (h := hlt)]; exact f2
    have h := (Xi.pushed (mn_i cy K dv)).stored hcell i (.ref (T.heap.size + 1 + i))
    rw [mn_o_set, mn_i_size] at h
    refine ⟨J ++ [⟨T.heap.size, i⟩], fun x hx => ?_, ?_⟩
    · rcases List.mem_append.mp hx with h | h
      · exact hJ x h
      · rw [List.mem_singleton.mp h]
    · rw [← List.append_assoc, show slots + N + (i + 1) * K = slots + N + i * K + K by rw [Nat.succ_mul]; omega]
      exact h
end MNX
section MNW
variable {E : CtlPost} {e : Env} {d : Bool} {acts : List Action} {s : State}
theorem mn_new {c comp : ClassId} {k : Class} {ty : FieldType} {len : Nat} {v : Value} (hk : s.vm.classes[c]? = some k) (hkind : k.kind = .array comp ty) (hlimit : ¬ len > e.platform.arrayLengthLimit) (hheap : ¬ len * componentBytes ty > e.platform.maxHeapBytes) (hf : fits ty v = true) (hd : v.isDefault = true) {Q : Addr → Pre} (h1 : s.heap.size < e.platform.maxCells) (h2 : s.slotsUsed + len ≤ e.platform.maxSlots) (hq : Q s.heap.size d acts (s.pushCell (arrV c len (fun _ => v)))) : wp (Jvm.newArray c len v) Q E e d acts s := by
  rw [← arrV_new] at hq
  have hfit : ∀ i w, (Array.replicate len v)[i]? = some w → s.fitsSlot c .none i w = true := by
    intro i w hw
    rw [Array.getElem?_replicate] at hw
    split at hw
    · cases hw
      simp [State.fitsSlot, State.slotType?, hk, hkind, hf]
    · cases hw
  have hda : allocActs (Array.replicate len v) s.heap.size acts = acts := by
    have hall : ((Array.replicate len v).all (·.isDefault)) = true := by
      rw [Array.all_replicate]
      split <;> simp [hd]
    unfold allocActs
    rw [if_pos hall]
  simp only [Jvm.newArray, Jvm.arrayFits, wp_bind', W.ask, W.ite, hlimit, if_false, wp_pure', W.theClass, hk, hkind, hheap, W.alloc, W.stop, Option.some.injEq, exists_eq_left', Array.size_replicate, hda]
  rw [if_neg (by omega)]
  exact ⟨h1, h2, hfit, hq⟩
theorem mn_make {c comp cc : ClassId} {k kc : Class} {ty : FieldType} {n m : Int32} {N K : Nat} (hN : n.toNatClampNeg = N) (hM : m.toNatClampNeg = K) (hk : s.vm.classes[c]? = some k) (hkind : k.kind = .array comp (.array ty)) (hkc : s.vm.classes[comp]? = some kc) (hkindc : kc.kind = .array cc ty) (hn : ¬ n < 0) (hm : ¬ m < 0) (hl1 : ¬ N > e.platform.arrayLengthLimit) (hh1 : ¬ N * componentBytes (.array ty) > e.platform.maxHeapBytes) (hl2 : ¬ K > e.platform.arrayLengthLimit) (hh2 : ¬ K * componentBytes ty > e.platform.maxHeapBytes) (hdf : fits ty (defaultValue ty) = true) (hdd : (defaultValue ty).isDefault = true) (hc : s.heap.size + 1 + N ≤ e.platform.maxCells) (hs : s.slotsUsed + N + N * K ≤ e.platform.maxSlots) {Q : Addr → Pre} (hq : ∀ d' acts', Q s.heap.size d' acts' (mn_S c comp N K (defaultValue ty) s N)) : wp (multianewarray.make c [n, m]) Q E e d acts s := by
  subst hN
  subst hM
  have hfind : ([m].find? (· < 0)) = none := by simp [hm]
  rw [multianewarray.make]
  simp only [wp_bind', W.ite, hn, if_false, wp_pure', W.theClass, hk, hkind, Option.some.injEq, exists_eq_left']
  refine mn_new hk hkind hl1 hh1 rfl rfl (by omega) (Nat.le_trans (Nat.le_add_right _ _) hs) ?_
  have e0 : s.pushCell (arrV c n.toNatClampNeg (fun _ => .null)) = mn_S c comp n.toNatClampNeg m.toNatClampNeg (defaultValue ty) s 0 := by
    show _ = s.pushCell (mn_o c n.toNatClampNeg s.heap.size 0)
    unfold mn_o
    refine congrArg (fun f => s.pushCell (arrV c n.toNatClampNeg f)) (funext fun j => ?_)
    simp [va_rf]
  rw [e0]
  simp only [hfind]
  rw [ite_self, wp_bind', Std.Legacy.Range.forIn_eq_forIn_range']
  have hsz : ([:n.toNatClampNeg] : Std.Legacy.Range).size = n.toNatClampNeg := by simp [Std.Legacy.Range.size]
  rw [hsz]
  show wp (forIn (List.range' 0 n.toNatClampNeg 1) PUnit.unit _) _ E e d acts _
  refine wp_forIn_inv (fun todo u => ∃ i, i ≤ n.toNatClampNeg ∧ todo = List.range' i (n.toNatClampNeg - i) ∧ u = mn_S c comp n.toNatClampNeg m.toNatClampNeg (defaultValue ty) s i) _ _ ⟨0, Nat.zero_le _, rfl, rfl⟩ ?_ ?_
  · rintro x todo u d' acts' Q' ⟨i, hi, ht, rfl⟩ hnext
    have hlt : i < n.toNatClampNeg := by
      rcases Nat.lt_or_ge i n.toNatClampNeg with h | h
      · exact h
      · rw [Nat.sub_eq_zero_of_le h] at ht
        cases ht
    rw [show n.toNatClampNeg - i = (n.toNatClampNeg - (i + 1)) + 1 by omega, List.range'_succ] at ht
    injection ht with hx htodo
    subst hx
    obtain ⟨f1, f2, f3, f4, -, -⟩ := mn_facts c comp n.toNatClampNeg m.toNatClampNeg (defaultValue ty) s x
    have hmul : x * m.toNatClampNeg + m.toNatClampNeg ≤ n.toNatClampNeg * m.toNatClampNeg := by
      have h := Nat.mul_le_mul_right m.toNatClampNeg (Nat.succ_le_of_lt hlt)
      rw [Nat.succ_mul] at h
      exact h
    have hlt0 : s.heap.size < (mn_S c comp n.toNatClampNeg m.toNatClampNeg (defaultValue ty) s x).heap.size := by rw [f1]; omega
    simp only [wp_bind']
    rw [multianewarray.make]
    simp only [wp_bind', W.ite, hm, if_false, wp_pure', W.theClass, f3, hkc, hkindc, Option.some.injEq, exists_eq_left']
    refine mn_new (by rw [f3]; exact hkc) hkindc hl2 hh2 hdf hdd (by rw [f1]; omega) (by rw [f4]; omega) ?_
    simp only [wp_bind', W.writeLoc, wp_pure']
    refine ⟨mn_o c n.toNatClampNeg s.heap.size x, by rw [State.heap_pushCell_of_lt (h := hlt0)]; exact f2, (fun h => by cases h), by rw [mn_o_size]; exact hlt, ?_, hnext _ _ _ ⟨x + 1, hlt, htodo, ?_⟩⟩
    · show State.fitsSlot _ c .none x _ = true
      simp [State.fitsSlot, State.slotType?, f3, hk, hkind, fits]
    · rw [f1, mn_o_set]
      rfl
  · rintro u d' acts' ⟨i, hi, ht, rfl⟩
    have hiN : i = n.toNatClampNeg := by
      rcases Nat.lt_or_ge i n.toNatClampNeg with h | h
      · rw [show n.toNatClampNeg - i = (n.toNatClampNeg - (i + 1)) + 1 by omega, List.range'_succ] at ht
        cases ht
      · omega
    subst hiN
    simp only [wp_pure']
    exact hq _ _
end MNW
/-- the two classes of an array of arrays, as the tables have them -/
def mn_T (ty : FieldType) (cA cy : ClassId) (U : State) : Prop := ∃ (kA kC : Class) (cc : ClassId), U.vm.findClass ("[" ++ (FieldType.array ty).toString) = some cA ∧ U.vm.findClass (FieldType.array ty).toString = some cy ∧ U.vm.classes[cA]? = some kA ∧ kA.kind = .array cy (.array ty) ∧ U.vm.classes[cy]? = some kC ∧ kC.kind = .array cc ty
theorem mn_T.moved {ty : FieldType} {cA cy : ClassId} {u U : State} (hvm : u.vm.Alike U.vm) (h : mn_T ty cA cy u) : mn_T ty cA cy U := by
  obtain ⟨kA, kC, cc, h1, h2, h3, h4, h5, h6⟩ := h
  obtain ⟨kA', g1, e1⟩ := hvm.2.2 _ _ h3
  obtain ⟨kC', g2, e2⟩ := hvm.2.2 _ _ h5
  exact ⟨kA', kC', cc, by rw [hvm.findClass]; exact h1, by rw [hvm.findClass]; exact h2, g1, by rw [e1]; exact h4, g2, by rw [e2]; exact h6⟩
theorem mn_T.of {ty : FieldType} {args : Array Value} {s : State} (hover : (Cond.arrayOver (.array ty)).before args s = true) (harr : (Cond.arrayClass ty).before args s = true) : ∃ cA cy, mn_T ty cA cy s := by
  have h := hover
  simp only [Cond.before, Cond.holds, Cond.value, beq_iff_eq] at h
  obtain ⟨cy, kC, cc, n1, n2, n3⟩ := Cond.arrayClass_spec harr
  have n1' : s.vm.findClass (FieldType.array ty).toString = some cy := n1
  rw [n1', Option.bind_some] at h
  simp only [Option.bind_eq_some_iff, Option.map_eq_some_iff] at h
  obtain ⟨cA, hi, kA, hkA, hb⟩ := h
  obtain ⟨hlt, hp, -⟩ := Array.findIdx?_eq_some_iff_getElem.mp hi
  rw [(Array.getElem?_eq_some_iff.mp hkA).2] at hp
  cases hkind : kA.kind with
  | array comp t =>
    rw [hkind] at hb hp
    simp at hb hp
    exact ⟨cA, cy, kA, kC, cc, hb.2, n1', hkA, by rw [hkind, hp, hb.1], n2, n3⟩
  | _ => rw [hkind] at hb; simp at hb
section MNR
variable {p : Program} {l : Launch} {e : Env} {R : Room} {s : State} {m : MethodId} {args : Array Value} {below : List Frame} {meth : Method} {c : Code} {H : Heap} {locs : List Loc} {cells slots : Nat} {Q : State → Prop}
theorem mn_W {cc : ByteArray} {pc : Nat} {ls : Array Slot} {rest : List Value} (hexec : p.tables.exec = Jvm.exec) (hb : c.code = cc) {own : String} {index : Nat} {ty : FieldType} {cA cy : ClassId} (hown : s.vm.findClass own = some m.cls) (hclink : (Cond.classLink own index ("[" ++ (FieldType.array ty).toString)).before args s = true) (hT : mn_T ty cA cy s) {n k : Int32} {N K : Nat} (hn : ¬ n < 0) (hk : ¬ k < 0) (hN : n.toNatClampNeg = N) (hK : k.toNatClampNeg = K) (hb1 : N * 4 ≤ 536870912) (hb2 : K * componentBytes ty ≤ 536870912) (hb3 : K ≤ 536870912) (hdf : fits ty (defaultValue ty) = true) (hdd : (defaultValue ty).isDefault = true) (hcells : cells + (1 + N) ≤ R.cells) (hslots : slots + (N + N * K) ≤ R.slots) (hdg : decode cc pc = .ok (.multianewarray index 2, 4))
    (kk : ∀ H1 : Heap, H1.size = H.size + 1 + N → (∀ x, x < H.size → H1[x]? = H[x]?) → H1[H.size]? = some (arrV cA N (fun j => va_rf (some (H.size + 1 + j)))) → (∀ j, j < N → H1[H.size + 1 + j]? = some (arrV cy K (fun _ => defaultValue ty))) → W p l e R s m args below meth c H1 locs (cells + 1 + N) (slots + N + N * K) Q (F0 m (pc + 4) ls (.ref H.size :: rest))) : W p l e R s m args below meth c H locs cells slots Q (F0 m pc ls (.int k :: .int n :: rest)) := by
  intro T hTh X
  subst hTh
  have hpl : e.platform.magicAccessors = ({} : Platform).magicAccessors := by rw [X.admits.platform]
  obtain ⟨kA, kC, c9, n1, n2, n3, n4, n5, n6⟩ := hT
  obtain ⟨c0, hfc0, hcl⟩ := Cond.classLink_spec hown hclink e.platform hpl
  cases n1.symm.trans hfc0
  obtain ⟨hg₁, hwarm₁, -⟩ := State.classEntry (e := e) X.warmed hcl
  generalize T.vm.noted m.cls index (.cls cA) = vm₁ at hg₁ hwarm₁
  obtain ⟨kA', a1, e1⟩ := hwarm₁.alike.2.2 _ _ n3
  obtain ⟨kC', a2, e2⟩ := hwarm₁.alike.2.2 _ _ n5
  obtain ⟨hr1, hr2⟩ := X.roomAbove hcells hslots
  have X₁ := X.noted hwarm₁
  obtain ⟨J, hJ, XF⟩ := mn_X X₁ cA cy N K (defaultValue ty) N
  have XG := XF.dropFresh (fun x hx => by rw [hJ x hx]; exact X.heapGrown)
  obtain ⟨f1, f2, -, -, f5, f6⟩ := mn_facts cA cy N K (defaultValue ty) (T.setVm vm₁) N
  have f2' : (mn_S cA cy N K (defaultValue ty) (T.setVm vm₁) N).heap[T.heap.size]? = some (arrV cA N (fun j => va_rf (some (T.heap.size + 1 + j)))) := by
    refine f2.trans (congrArg some (mn_congr fun j hj => ?_))
    rw [if_pos hj]
    rfl
  obtain ⟨t, b1, b2⟩ := kk _ f1 f5 f2' f6 (mn_S cA cy N K (defaultValue ty) (T.setVm vm₁) N) rfl XG
  refine ⟨t, ?_, b2⟩
  have hl1 : ¬ N > e.platform.arrayLengthLimit := by rw [Launch.admits_arrayLengthLimit X.admits]; omega
  have hh1 : ¬ N * componentBytes (.array ty) > e.platform.maxHeapBytes := by rw [Launch.admits_maxHeapBytes X.admits]; show ¬ N * 4 > 536870912; omega
  have hl2 : ¬ K > e.platform.arrayLengthLimit := by rw [Launch.admits_arrayLengthLimit X.admits]; omega
  have hh2 : ¬ K * componentBytes ty > e.platform.maxHeapBytes := by rw [Launch.admits_maxHeapBytes X.admits]; omega
  jvm_step X.here [hexec, hb, hdg]
  simp only [multianewarray.sem, wp_bind', W.resolveClassAt_links (State.method?_setTop (F0 m pc ls (.int k :: .int n :: rest)) X.here.top) hg₁]
  rw [W.popN, if_neg (by decide)]
  refine ⟨F0 m pc ls (.int k :: .int n :: rest), State.topJava?_setTop' (s := T.setVm vm₁) _ X.here.top, [.int n, .int k], rest, rfl, rfl, ?_⟩
  simp only [List.mapM_cons, List.mapM_nil, wp_bind', wp_pure']
  refine mn_make (k := kA') (kc := kC') (comp := cy) (cc := c9) hN hK a1 (by rw [e1]; exact n4) a2 (by rw [e2]; exact n6) hn hk hl1 hh1 hl2 hh2 hdf hdd (by show T.heap.size + 1 + _ ≤ _; omega) (by show T.slotsUsed + _ + _ ≤ _; omega) (fun d' acts' => ?_)
  have eS : ((T.setTop (F0 m pc ls (.int k :: .int n :: rest))).setVm vm₁).setTop { F0 m pc ls (.int k :: .int n :: rest) with stack := rest } = (T.setVm vm₁).setTop { F0 m pc ls (.int k :: .int n :: rest) with stack := rest } := by
    show ((T.setVm vm₁).setTop _).setTop _ = _
    rw [State.setTop_setTop]
  rw [eS, mn_top]
  simp only [wp_bind', W.mark, W.pushRef, State.topJava?_setTop' _ XG.here.top, Option.some.injEq, exists_eq_left', State.setTop_setTop, State.heap_setTop]
  intro acts
  simp [jvm, XG.here.top]
  exact b1
end MNR
