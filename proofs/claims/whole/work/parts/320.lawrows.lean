/-! the law's own rows: its script, its end -/
section LR
variable {E : mm_E} {G : mm_G} {cc : ByteArray} {nL : Nat} {own : String} {Ts : List Cond} {rm : Room} {rt : Option FieldType} {Q : State → Prop} {σ : mm_M} {pc : Nat} {lv : List (Nat × Value)} {st : List Value}
theorem lw_nA {b : Nat} (hbl : b < (eS E).heap.size) (hbL : b ∉ mm_L G) : ¬ mm_A G (eS E).heap.size b := fun z => z.elim hbL (fun z => absurd hbl (Nat.not_lt.mpr z))
theorem at_sld (X : mm_Cx E G cc nL own Ts rm rt) {b L : Nat} {xs : Nat → Int32} {i : Int32} (hX : va_X b L xs (eS E) (eS E).heap) (hbl : b < (eS E).heap.size) (hbL : b ∉ mm_L G) (hin : vp_in i L) (d : decode cc pc = .ok (.iaload, 1)) (k : mm_At E G nL Q σ (pc + 1) lv (.int (xs i.toNatClampNeg) :: st)) : mm_At E G nL Q σ pc lv (.int i :: .ref b :: st) := fun H locs ls hP hD hS hl => va_sld X.hx X.hb hX hbl (lw_nA hbl hbL) hS hin d (k H locs ls hP hD hS hl)
theorem at_slen (X : mm_Cx E G cc nL own Ts rm rt) {b L : Nat} {xs : Nat → Int32} (hX : va_X b L xs (eS E) (eS E).heap) (hbl : b < (eS E).heap.size) (hbL : b ∉ mm_L G) (d : decode cc pc = .ok (.arraylength, 1)) (k : mm_At E G nL Q σ (pc + 1) lv (.int (nI L) :: st)) : mm_At E G nL Q σ pc lv (.ref b :: st) := fun H locs ls hP hD hS hl => va_slen X.hx X.hb hX hbl (lw_nA hbl hbL) hS d (k H locs ls hP hD hS hl)
theorem lw_in {k L j : Nat} (hL : L ≤ 3072) (hk6 : k + 6 ≤ L) (hj : j < 6) : vp_in (nI k + nI j) L := by
  rw [nI_add]
  exact vp_in_nI (by omega) (by omega)
theorem at_lawret {p : Program} {l : Launch} {e : Env} {s : State} {m : MethodId} {below : List Frame} {meth : Method} {c : Code} {b kc kz : Nat} (X : mm_Cx (p, l, e, room_1, s, m, #[Value.ref b], below, meth, c, kc, kz) G cL_law 4 RL wsL_law room_1 ret) (hLs : ∀ a, a ∈ mm_L G → s.heap.size ≤ a) (hkc : kc ≤ 600000) (hkz : kz ≤ 7302250) (d : decode cL_law pc = .ok (.ireturn, 1)) : mm_At (p, l, e, room_1, s, m, #[Value.ref b], below, meth, c, kc, kz) G 4 (lw_Z below #[Value.ref b] s) σ pc lv [.int 1] := by
  intro H locs ls hP hD hS hl
  refine va_forget (fun q hq => ?_) ?_
  · exact (hS.2.2 q hq).elim (hLs _) id
  · refine W.widen (k := 600000) (n := 7302250) hkc hkz ?_
    exact lw_ret X.hx X.hb X.rt X.lk d
theorem lw_gt {k L : Nat} (hL : L ≤ 3072) (h : L < k + 6) (hk : k ≤ L + 6) : nI L - (6 : Int32) < nI k := by
  rw [Int32.lt_iff_toInt_lt, show (6 : Int32) = nI 6 from rfl, pk_sub_toInt (by omega) (by omega), nI_toInt (by omega)]
  omega
end LR
