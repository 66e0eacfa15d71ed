/-! THE START IN THE WORLD: what the constructors made is the memory and the geometry that the tables give. -/
section GS
variable {D : va_G} {C : Nat → ClassId} {T : Nat → Nat} {x m : Nat} {r r' : kk_S} {A : Nat → Prop}
theorem ge_nd_of (hD : va_D A (kw3 C x r ++ kw4 C m r')) : ge_nd (ge_L x m r r') := by
  intro i j a hi hj
  rw [← ge_L_eq C x m r r', List.getElem?_map] at hi hj
  obtain ⟨p, hp, e1⟩ := Option.map_eq_some_iff.mp hi
  obtain ⟨q, hq, e2⟩ := Option.map_eq_some_iff.mp hj
  exact hD.1 i j p q hp hq (e1.trans e2.symm)
theorem ge_hL (hD : va_D A (kw3 C x r ++ kw4 C m r')) : ∀ a, a ∈ ge_L x m r r' → A a := by
  intro a ha
  rw [← ge_L_eq C x m r r'] at ha
  obtain ⟨q, hq, e⟩ := List.mem_map.mp ha
  obtain ⟨k, hk⟩ := List.getElem?_of_mem hq
  rw [← e]
  exact hD.2 k q hk
theorem ge_len : (ge_L x m r r').length = 87 := rfl
theorem ge_wsk {L : List Nat} {G : mm_G} {σ : mm_M} {k : Nat} {q : Nat × va_E} (hG : mm_L G = L) (hk : (mm_ws G σ)[k]? = some q) : L[k]? = some (ge_ad L k) ∧ q = (ge_ad L k, mm_cf G σ (ge_ad L k)) := by
  have hk' : (List.map (fun a => (a, mm_cf G σ a)) (mm_L G))[k]? = some q := hk
  rw [hG, List.getElem?_map] at hk'
  obtain ⟨a, ha, e⟩ := Option.map_eq_some_iff.mp hk'
  have ea : ge_ad L k = a := by
    unfold ge_ad
    rw [ha]
    rfl
  rw [ea]
  exact ⟨ha, e.symm⟩
theorem ge_PP {H : Heap} (hn : ge_nd (ge_L x m r r')) (hP : va_P D vwCl (kw3 C x r ++ kw4 C m r') H) : va_P D vwCl (mm_ws (ge_G (ge_L x m r r') D C T) (ge_s (ge_L x m r r'))) H := by
  intro k q hk
  obtain ⟨ha, e⟩ := ge_wsk (L := ge_L x m r r') rfl hk
  have hlt : k < 87 := Nat.lt_of_lt_of_eq (List.getElem?_eq_some_iff.mp ha).1 ge_len
  rw [e, ge_cf_eq hn ge_len hlt]
  exact ge_at hP k hlt
theorem ge_DD {sz : Nat} (hn : ge_nd (ge_L x m r r')) {σ : mm_M} : va_D (mm_A (ge_G (ge_L x m r r') D C T) sz) (mm_ws (ge_G (ge_L x m r r') D C T) σ) := by
  refine ⟨fun i j p q hi hj e => ?_, fun k q hk => Or.inl ?_⟩
  · obtain ⟨ha, e1⟩ := ge_wsk (L := ge_L x m r r') rfl hi
    obtain ⟨hb, e2⟩ := ge_wsk (L := ge_L x m r r') rfl hj
    rw [e1, e2] at e
    have e3 : ge_ad (ge_L x m r r') i = ge_ad (ge_L x m r r') j := e
    rw [e3] at ha
    exact hn i j _ ha hb
  · obtain ⟨ha, e1⟩ := ge_wsk (L := ge_L x m r r') rfl hk
    rw [e1]
    exact List.mem_of_getElem? ha
theorem ge_SS {L : List Nat} {H0 H : Heap} {locs : List Loc} (hS : va_S (fun q => H0.size ≤ q) H0 H locs) : va_S (mm_A (ge_G L D C T) H0.size) H0 H locs := ⟨hS.1, fun q h1 _ => hS.2.1 q h1 (Nat.not_le.mpr h1), fun l hl => Or.inr (hS.2.2 l hl)⟩
/-- from the constructors' world into the uniform one -/
theorem ge_go {p : Program} {l : Launch} {e : Env} {s : State} {mi : MethodId} {args : Array Value} {below : List Frame} {meth : Method} {c : Code} {R : Room} {nL kc kz k0 z0 pc : Nat} {Q : State → Prop} {lv : List (Nat × Value)} {st : List Value}
    (k : ge_nd (ge_L x m r r') → (∀ a, a ∈ ge_L x m r r' → s.heap.size ≤ a) → mm_At (p, l, e, R, s, mi, args, below, meth, c, kc, kz) (ge_G (ge_L x m r r') D C T) nL Q (ge_s (ge_L x m r r')) pc lv st) : kk_At (p, l, e, R, s, mi, args, below, meth, c, k0, z0) D (fun q => s.heap.size ≤ q) nL Q kc kz (kw3 C x r ++ kw4 C m r') pc lv st := by
  intro H locs ls hP hD hS hl
  have hn := ge_nd_of hD
  exact k hn (ge_hL hD) H locs ls (ge_PP hn hP) (ge_DD hn) (ge_SS hS) hl
end GS
