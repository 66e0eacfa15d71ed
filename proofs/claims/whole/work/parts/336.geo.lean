/-! WHERE THINGS LIE: the cells in the order of their making, tables over their places, the geometry and the memory that the tables give. -/
def ge_ix : List Nat → Nat → Nat
  | [], _ => 0
  | b :: l, a => if a = b then 0 else ge_ix l a + 1
theorem ge_ix_at : ∀ (l : List Nat) (k a : Nat), l[k]? = some a → l[ge_ix l a]? = some a
  | [], k, a, h => by simp at h
  | b :: l, k, a, h => by
    unfold ge_ix
    by_cases e : a = b
    · rw [if_pos e, List.getElem?_cons_zero, e]
    · rw [if_neg e, List.getElem?_cons_succ]
      cases k with
      | zero => rw [List.getElem?_cons_zero] at h; exact absurd (Option.some.inj h).symm e
      | succ k => rw [List.getElem?_cons_succ] at h; exact ge_ix_at l k a h
def ge_nd (L : List Nat) : Prop := ∀ i j a : Nat, L[i]? = some a → L[j]? = some a → i = j
def ge_ad (L : List Nat) (k : Nat) : Nat := (L[k]?).getD 0
theorem ge_ad_at {L : List Nat} {k : Nat} (h : k < L.length) : L[k]? = some (ge_ad L k) := by
  unfold ge_ad
  rw [List.getElem?_eq_getElem h]
  rfl
def ge_K : List Nat := [3, 6, 6, 7, 1, 1, 1, 10, 6, 6, 6, 6, 6, 6, 9, 5, 5, 5, 5, 0, 8, 2, 2, 2, 2, 2, 2, 2, 0, 8, 2, 2, 2, 2, 2, 2, 2, 1, 6, 0, 8, 2, 2, 2, 2, 2, 2, 2, 0, 8, 2, 2, 2, 2, 2, 2, 2, 6, 10, 6, 6, 6, 6, 6, 6, 6, 6, 6, 6, 4, 6, 6, 6, 6, 6, 5, 6, 6, 6, 6, 6, 6, 6, 6, 6, 6, 6]
def ge_N : List Nat := [0, 6, 4, 3, 0, 0, 0, 6, 40, 40, 40, 40, 40, 40, 4, 60, 60, 60, 60, 0, 7, 0, 0, 0, 0, 0, 0, 0, 0, 7, 0, 0, 0, 0, 0, 0, 0, 0, 40, 0, 7, 0, 0, 0, 0, 0, 0, 0, 0, 7, 0, 0, 0, 0, 0, 0, 0, 7, 6, 20, 20, 20, 20, 20, 20, 6, 40, 40, 40, 0, 6, 4, 3, 240, 40, 240, 48, 48, 48, 48, 1280, 144, 3840, 6, 7, 8, 126]
def ge_C : List Nat := [700, 110, 210, 600, 610, 611, 612, 120, 100, 101, 102, 103, 104, 105, 220, 200, 201, 202, 203, 410, 420, 400, 401, 402, 403, 404, 405, 406, 310, 320, 300, 301, 302, 303, 304, 305, 306, 510, 511, 910, 920, 900, 901, 902, 903, 904, 905, 906, 1010, 1020, 1000, 1001, 1002, 1003, 1004, 1005, 1006, 1100, 1220, 1200, 1201, 1202, 1203, 1204, 1205, 800, 620, 621, 622, 2000, 2100, 2400, 3300, 2200, 2300, 2500, 2600, 2700, 2800, 2900, 3000, 3100, 3200, 3400, 3500, 3600, 3700]
def ge_R : List (List Nat) := [[7, 1, 14, 2, 19, 28, 37, 3, 39, 48, 57, 58, 0, 0, 0, 0, 65], [], [], [4, 5, 6], [66], [67], [68], [8, 9, 10, 11, 12, 13], [], [], [], [], [], [], [15, 16, 17, 18], [], [], [], [], [20], [21, 22, 23, 24, 25, 26, 27], [], [], [], [], [], [], [], [29], [30, 31, 32, 33, 34, 35, 36], [], [], [], [], [], [], [], [38], [], [40], [41, 42, 43, 44, 45, 46, 47], [], [], [], [], [], [], [], [49], [50, 51, 52, 53, 54, 55, 56], [], [], [], [], [], [], [], [], [59, 60, 61, 62, 63, 64], [], [], [], [], [], [], [], [], [], [], [70, 73, 74, 71, 75, 76, 77, 78, 79, 80, 0, 81, 82, 72, 0, 0, 0, 0, 83, 84, 85, 86], [], [], [], [], [], [], [], [], [], [], [], [], [], [], [], [], []]
def ge_kt (k : Nat) : Nat := ge_K.getD k 99
def ge_nt (k : Nat) : Nat := ge_N.getD k 0
def ge_ct (k : Nat) : Nat := ge_C.getD k 0
def ge_rt (k j : Nat) : Nat := (ge_R.getD k []).getD j 0
def ge_int (k j : Nat) : Int32 := if k = 1 ∧ j < 6 then -1 else if k = 2 ∧ j < 4 then -1 else if (k = 4 ∨ k = 5 ∨ k = 6) ∧ j = 1 then -1 else if k = 70 ∧ j < 6 then -1 else if k = 71 ∧ j < 4 then -1 else if k = 72 ∧ j < 3 then -1 else 0
def ge_lng (k j : Nat) : Int64 := if k = 0 ∧ j = 14 then 1 else if k = 69 ∧ j = 16 then 1 else 0
def ge_G (L : List Nat) (D : va_G) (C : Nat → ClassId) (T : Nat → Nat) : mm_G := (L, fun a => ge_kt (ge_ix L a), fun a j => ge_ad L (ge_rt (ge_ix L a) j), fun a => ge_nt (ge_ix L a), C, D, T)
def ge_cd (L : List Nat) (a : Nat) : Nat := ge_ct (ge_ix L a)
def ge_s (L : List Nat) : mm_M := (fun a j => ge_int (ge_ix L a) j, fun a j => ge_lng (ge_ix L a) j)
section GE
variable {L : List Nat} {D : va_G} {C : Nat → ClassId} {T : Nat → Nat} {k j : Nat}
theorem ge_xi (hn : ge_nd L) (hl : L.length = 87) (hk : k < 87) : ge_ix L (ge_ad L k) = k := by
  have h := ge_ad_at (L := L) (k := k) (by rw [hl]; exact hk)
  exact hn _ _ _ (ge_ix_at L k _ h) h
theorem ge_Kk (hn : ge_nd L) (hl : L.length = 87) (hk : k < 87) : mm_K (ge_G L D C T) (ge_ad L k) = ge_kt k := by
  show ge_kt (ge_ix L (ge_ad L k)) = _
  rw [ge_xi hn hl hk]
theorem ge_Rk (hn : ge_nd L) (hl : L.length = 87) (hk : k < 87) (j : Nat) : mm_R (ge_G L D C T) (ge_ad L k) j = ge_ad L (ge_rt k j) := by
  show ge_ad L (ge_rt (ge_ix L (ge_ad L k)) j) = _
  rw [ge_xi hn hl hk]
theorem ge_Nk (hn : ge_nd L) (hl : L.length = 87) (hk : k < 87) : mm_N (ge_G L D C T) (ge_ad L k) = ge_nt k := by
  show ge_nt (ge_ix L (ge_ad L k)) = _
  rw [ge_xi hn hl hk]
theorem ge_ck (hn : ge_nd L) (hl : L.length = 87) (hk : k < 87) : ge_cd L (ge_ad L k) = ge_ct k := by
  unfold ge_cd
  rw [ge_xi hn hl hk]
theorem ge_ik (hn : ge_nd L) (hl : L.length = 87) (hk : k < 87) (j : Nat) : (ge_s L).1 (ge_ad L k) j = ge_int k j := by
  show ge_int (ge_ix L (ge_ad L k)) j = _
  rw [ge_xi hn hl hk]
theorem ge_lk (hn : ge_nd L) (hl : L.length = 87) (hk : k < 87) (j : Nat) : (ge_s L).2 (ge_ad L k) j = ge_lng k j := by
  show ge_lng (ge_ix L (ge_ad L k)) j = _
  rw [ge_xi hn hl hk]
theorem ge_in (hl : L.length = 87) (hk : k < 87) : ge_ad L k ∈ L := List.mem_of_getElem? (ge_ad_at (L := L) (k := k) (by rw [hl]; exact hk))
theorem ge_is (hn : ge_nd L) (hl : L.length = 87) (hk : k < 87) {K : Nat} (h : ge_kt k = K) : mm_Is (ge_G L D C T) K (ge_ad L k) := ⟨ge_in hl hk, (ge_Kk hn hl hk).trans h⟩
theorem ge_un (hn : ge_nd L) (hl : L.length = 87) {a K : Nat} (h : mm_Is (ge_G L D C T) K a) : ∃ k, k < 87 ∧ a = ge_ad L k ∧ ge_kt k = K := by
  obtain ⟨hm, hK⟩ := h
  have hm' : a ∈ L := hm
  obtain ⟨k, hk⟩ := List.getElem?_of_mem hm'
  have hlt : k < 87 := by rw [← hl]; exact (List.getElem?_eq_some_iff.mp hk).1
  have e : a = ge_ad L k := by
    unfold ge_ad
    rw [hk]
    rfl
  subst e
  exact ⟨k, hlt, rfl, (ge_Kk hn hl hlt).symm.trans hK⟩
theorem ge_to (hn : ge_nd L) (hl : L.length = 87) (hk : k < 87) {K : Nat} (h : ge_rt k j < 87 ∧ ge_kt (ge_rt k j) = K) : mm_Is (ge_G L D C T) K (mm_R (ge_G L D C T) (ge_ad L k) j) := by
  rw [ge_Rk hn hl hk]
  exact ge_is hn hl h.1 h.2
theorem ge_row (hn : ge_nd L) (hl : L.length = 87) (hk : k < 87) {n b N : Nat} (h : ∀ r, r < n → ge_rt k r < 87 ∧ ge_ct (ge_rt k r) = b + r ∧ ge_nt (ge_rt k r) = N) : ∀ r, r < n → ge_cd L (mm_R (ge_G L D C T) (ge_ad L k) r) = b + r ∧ mm_N (ge_G L D C T) (mm_R (ge_G L D C T) (ge_ad L k) r) = N := by
  intro r hr
  obtain ⟨h1, h2, h3⟩ := h r hr
  rw [ge_Rk hn hl hk]
  exact ⟨(ge_ck hn hl h1).trans h2, (ge_Nk hn hl h1).trans h3⟩
theorem gw0 : ∀ k, k < 87 → ge_kt k = 0 → ge_rt k 0 < 87 ∧ ge_kt (ge_rt k 0) = 8 := by decide +kernel
theorem gw1 : ∀ k, k < 87 → ge_kt k = 1 → ge_rt k 0 < 87 ∧ ge_kt (ge_rt k 0) = 6 := by decide +kernel
theorem gw3 : ∀ k, k < 87 → ge_kt k = 3 → k = 0 := by decide +kernel
theorem gw4 : ∀ k, k < 87 → ge_kt k = 4 → k = 69 := by decide +kernel
theorem gw7 : ∀ k, k < 87 → ge_kt k = 7 → ∀ i, i < ge_nt k → ge_rt k i < 87 ∧ ge_kt (ge_rt k i) = 1 := by decide +kernel
theorem gw8 : ∀ k, k < 87 → ge_kt k = 8 → ∀ i, i < ge_nt k → ge_rt k i < 87 ∧ ge_kt (ge_rt k i) = 2 := by decide +kernel
theorem gw9 : ∀ k, k < 87 → ge_kt k = 9 → ∀ i, i < ge_nt k → ge_rt k i < 87 ∧ ge_kt (ge_rt k i) = 5 := by decide +kernel
theorem gw10 : ∀ k, k < 87 → ge_kt k = 10 → ∀ i, i < ge_nt k → ge_rt k i < 87 ∧ ge_kt (ge_rt k i) = 6 := by decide +kernel
set_option maxHeartbeats 4000000 in
set_option maxRecDepth 100000 in
theorem ge_WF (hn : ge_nd L) (hl : L.length = 87) : mm_WF (ge_G L D C T) := by
  refine ⟨fun a ha => ?_, fun a ha => ?_, fun a ha => ?_, fun a ha => ?_, fun a i ha hi => ?_, fun a i ha hi => ?_, fun a i ha hi => ?_, fun a i ha hi => ?_⟩
  · obtain ⟨k, hk, rfl, hK⟩ := ge_un hn hl ha
    exact ge_to hn hl hk (gw0 k hk hK)
  · obtain ⟨k, hk, rfl, hK⟩ := ge_un hn hl ha
    exact ge_to hn hl hk (gw1 k hk hK)
  · obtain ⟨k, hk, rfl, hK⟩ := ge_un hn hl ha
    have h := gw3 k hk hK
    subst h
    exact ⟨ge_to hn hl hk (by decide), ge_to hn hl hk (by decide), ge_to hn hl hk (by decide), ge_to hn hl hk (by decide), ge_to hn hl hk (by decide), ge_to hn hl hk (by decide), ge_to hn hl hk (by decide), ge_to hn hl hk (by decide), ge_to hn hl hk (by decide), ge_to hn hl hk (by decide), ge_to hn hl hk (by decide), ge_to hn hl hk (by decide), ge_to hn hl hk (by decide)⟩
  · obtain ⟨k, hk, rfl, hK⟩ := ge_un hn hl ha
    have h := gw4 k hk hK
    subst h
    exact ⟨ge_to hn hl hk (by decide), ge_to hn hl hk (by decide), ge_to hn hl hk (by decide), ge_to hn hl hk (by decide), ge_to hn hl hk (by decide), ge_to hn hl hk (by decide), ge_to hn hl hk (by decide), ge_to hn hl hk (by decide), ge_to hn hl hk (by decide), ge_to hn hl hk (by decide), ge_to hn hl hk (by decide), ge_to hn hl hk (by decide), ge_to hn hl hk (by decide), ge_to hn hl hk (by decide), ge_to hn hl hk (by decide), ge_to hn hl hk (by decide), ge_to hn hl hk (by decide)⟩
  · obtain ⟨k, hk, rfl, hK⟩ := ge_un hn hl ha
    rw [ge_Nk hn hl hk] at hi
    exact ge_to hn hl hk (gw7 k hk hK i hi)
  · obtain ⟨k, hk, rfl, hK⟩ := ge_un hn hl ha
    rw [ge_Nk hn hl hk] at hi
    exact ge_to hn hl hk (gw8 k hk hK i hi)
  · obtain ⟨k, hk, rfl, hK⟩ := ge_un hn hl ha
    rw [ge_Nk hn hl hk] at hi
    exact ge_to hn hl hk (gw9 k hk hK i hi)
  · obtain ⟨k, hk, rfl, hK⟩ := ge_un hn hl ha
    rw [ge_Nk hn hl hk] at hi
    exact ge_to hn hl hk (gw10 k hk hK i hi)
theorem ge_sa (hn : ge_nd L) (hl : L.length = 87) {k k2 b : Nat} (hk : k < 87) (h0 : ge_rt k 0 = k2) (h2 : k2 < 87) (hN : ge_nt k2 = 7) (h : ∀ i, i < 7 → ge_rt k2 i < 87 ∧ ge_ct (ge_rt k2 i) = b + i) : mm_N (ge_G L D C T) (mm_R (ge_G L D C T) (ge_ad L k) 0) = 7 ∧ ∀ i, i < 7 → ge_cd L (sa (ge_G L D C T) (ge_ad L k) i) = b + i := by
  unfold sa
  rw [ge_Rk hn hl hk, h0]
  refine ⟨(ge_Nk hn hl h2).trans hN, fun i hi => ?_⟩
  obtain ⟨h3, h4⟩ := h i hi
  rw [ge_Rk hn hl h2]
  exact (ge_ck hn hl h3).trans h4
set_option maxHeartbeats 4000000 in
set_option maxRecDepth 100000 in
theorem ge_X (hn : ge_nd L) (hl : L.length = 87) : gX (ge_G L D C T) (ge_ad L 0) (ge_cd L) := by
  have e0 : mm_R (ge_G L D C T) (ge_ad L 0) 0 = ge_ad L 7 := ge_Rk hn hl (k := 0) (by decide) 0
  have e1 : mm_R (ge_G L D C T) (ge_ad L 0) 1 = ge_ad L 1 := ge_Rk hn hl (k := 0) (by decide) 1
  have e2 : mm_R (ge_G L D C T) (ge_ad L 0) 2 = ge_ad L 14 := ge_Rk hn hl (k := 0) (by decide) 2
  have e3 : mm_R (ge_G L D C T) (ge_ad L 0) 3 = ge_ad L 2 := ge_Rk hn hl (k := 0) (by decide) 3
  have e4 : mm_R (ge_G L D C T) (ge_ad L 0) 4 = ge_ad L 19 := ge_Rk hn hl (k := 0) (by decide) 4
  have e5 : mm_R (ge_G L D C T) (ge_ad L 0) 5 = ge_ad L 28 := ge_Rk hn hl (k := 0) (by decide) 5
  have e6 : mm_R (ge_G L D C T) (ge_ad L 0) 6 = ge_ad L 37 := ge_Rk hn hl (k := 0) (by decide) 6
  have e7 : mm_R (ge_G L D C T) (ge_ad L 0) 7 = ge_ad L 3 := ge_Rk hn hl (k := 0) (by decide) 7
  have e8 : mm_R (ge_G L D C T) (ge_ad L 0) 8 = ge_ad L 39 := ge_Rk hn hl (k := 0) (by decide) 8
  have e9 : mm_R (ge_G L D C T) (ge_ad L 0) 9 = ge_ad L 48 := ge_Rk hn hl (k := 0) (by decide) 9
  have e10 : mm_R (ge_G L D C T) (ge_ad L 0) 10 = ge_ad L 57 := ge_Rk hn hl (k := 0) (by decide) 10
  have e11 : mm_R (ge_G L D C T) (ge_ad L 0) 11 = ge_ad L 58 := ge_Rk hn hl (k := 0) (by decide) 11
  have e16 : mm_R (ge_G L D C T) (ge_ad L 0) 16 = ge_ad L 65 := ge_Rk hn hl (k := 0) (by decide) 16
  have d0 : mm_R (ge_G L D C T) (ge_ad L 37) 0 = ge_ad L 38 := ge_Rk hn hl (k := 37) (by decide) 0
  unfold gX
  rw [e0, e1, e2, e3, e4, e5, e6, e7, e8, e9, e10, e11, e16]
  refine ⟨ge_is hn hl (k := 0) (by decide) rfl, (ge_ck hn hl (k := 0) (by decide)).trans rfl, ⟨(ge_Nk hn hl (k := 7) (by decide)).trans rfl, ge_row hn hl (k := 7) (by decide) (by decide +kernel)⟩, ⟨(ge_Nk hn hl (k := 1) (by decide)).trans rfl, (ge_ck hn hl (k := 1) (by decide)).trans rfl⟩, ⟨(ge_Nk hn hl (k := 14) (by decide)).trans rfl, ge_row hn hl (k := 14) (by decide) (by decide +kernel)⟩, ⟨(ge_Nk hn hl (k := 2) (by decide)).trans rfl, (ge_ck hn hl (k := 2) (by decide)).trans rfl⟩, ⟨(ge_ck hn hl (k := 19) (by decide)).trans rfl, ge_sa hn hl (k := 19) (k2 := 20) (by decide) rfl (by decide) rfl (by decide +kernel)⟩, ⟨(ge_ck hn hl (k := 28) (by decide)).trans rfl, ge_sa hn hl (k := 28) (k2 := 29) (by decide) rfl (by decide) rfl (by decide +kernel)⟩, ?_, ⟨(ge_Nk hn hl (k := 3) (by decide)).trans rfl, fun k hk => ?_⟩, ⟨(ge_ck hn hl (k := 39) (by decide)).trans rfl, ge_sa hn hl (k := 39) (k2 := 40) (by decide) rfl (by decide) rfl (by decide +kernel)⟩, ⟨(ge_ck hn hl (k := 48) (by decide)).trans rfl, ge_sa hn hl (k := 48) (k2 := 49) (by decide) rfl (by decide) rfl (by decide +kernel)⟩, ⟨(ge_ck hn hl (k := 57) (by decide)).trans rfl, (ge_Nk hn hl (k := 57) (by decide)).trans rfl⟩, ⟨(ge_Nk hn hl (k := 58) (by decide)).trans rfl, ge_row hn hl (k := 58) (by decide) (by decide +kernel)⟩, ⟨(ge_ck hn hl (k := 65) (by decide)).trans rfl, (ge_Nk hn hl (k := 65) (by decide)).trans rfl⟩⟩
  · rw [d0]
    exact ⟨(ge_ck hn hl (k := 37) (by decide)).trans rfl, (ge_ck hn hl (k := 38) (by decide)).trans rfl, (ge_Nk hn hl (k := 38) (by decide)).trans rfl⟩
  · have h : ∀ k, k < 3 → ge_rt 3 k < 87 ∧ ge_ct (ge_rt 3 k) = 610 + k ∧ ge_rt (ge_rt 3 k) 0 < 87 ∧ ge_ct (ge_rt (ge_rt 3 k) 0) = 620 + k ∧ ge_nt (ge_rt (ge_rt 3 k) 0) = 40 := by decide +kernel
    obtain ⟨h1, h2, h3, h4, h5⟩ := h k hk
    rw [ge_Rk hn hl (k := 3) (by decide), ge_Rk hn hl h1]
    exact ⟨(ge_ck hn hl h1).trans h2, (ge_ck hn hl h3).trans h4, (ge_Nk hn hl h3).trans h5⟩
set_option maxHeartbeats 4000000 in
set_option maxRecDepth 100000 in
theorem ge_M (hn : ge_nd L) (hl : L.length = 87) : gM (ge_G L D C T) (ge_ad L 69) (ge_cd L) := by
  have e0 : mm_R (ge_G L D C T) (ge_ad L 69) 0 = ge_ad L 70 := ge_Rk hn hl (k := 69) (by decide) 0
  have e1 : mm_R (ge_G L D C T) (ge_ad L 69) 1 = ge_ad L 73 := ge_Rk hn hl (k := 69) (by decide) 1
  have e2 : mm_R (ge_G L D C T) (ge_ad L 69) 2 = ge_ad L 74 := ge_Rk hn hl (k := 69) (by decide) 2
  have e3 : mm_R (ge_G L D C T) (ge_ad L 69) 3 = ge_ad L 71 := ge_Rk hn hl (k := 69) (by decide) 3
  have e4 : mm_R (ge_G L D C T) (ge_ad L 69) 4 = ge_ad L 75 := ge_Rk hn hl (k := 69) (by decide) 4
  have e5 : mm_R (ge_G L D C T) (ge_ad L 69) 5 = ge_ad L 76 := ge_Rk hn hl (k := 69) (by decide) 5
  have e6 : mm_R (ge_G L D C T) (ge_ad L 69) 6 = ge_ad L 77 := ge_Rk hn hl (k := 69) (by decide) 6
  have e7 : mm_R (ge_G L D C T) (ge_ad L 69) 7 = ge_ad L 78 := ge_Rk hn hl (k := 69) (by decide) 7
  have e8 : mm_R (ge_G L D C T) (ge_ad L 69) 8 = ge_ad L 79 := ge_Rk hn hl (k := 69) (by decide) 8
  have e9 : mm_R (ge_G L D C T) (ge_ad L 69) 9 = ge_ad L 80 := ge_Rk hn hl (k := 69) (by decide) 9
  have e11 : mm_R (ge_G L D C T) (ge_ad L 69) 11 = ge_ad L 81 := ge_Rk hn hl (k := 69) (by decide) 11
  have e12 : mm_R (ge_G L D C T) (ge_ad L 69) 12 = ge_ad L 82 := ge_Rk hn hl (k := 69) (by decide) 12
  have e13 : mm_R (ge_G L D C T) (ge_ad L 69) 13 = ge_ad L 72 := ge_Rk hn hl (k := 69) (by decide) 13
  have e18 : mm_R (ge_G L D C T) (ge_ad L 69) 18 = ge_ad L 83 := ge_Rk hn hl (k := 69) (by decide) 18
  have e19 : mm_R (ge_G L D C T) (ge_ad L 69) 19 = ge_ad L 84 := ge_Rk hn hl (k := 69) (by decide) 19
  have e20 : mm_R (ge_G L D C T) (ge_ad L 69) 20 = ge_ad L 85 := ge_Rk hn hl (k := 69) (by decide) 20
  have e21 : mm_R (ge_G L D C T) (ge_ad L 69) 21 = ge_ad L 86 := ge_Rk hn hl (k := 69) (by decide) 21
  unfold gM
  rw [e0, e1, e2, e3, e4, e5, e6, e7, e8, e9, e11, e12, e13, e18, e19, e20, e21]
  exact ⟨ge_is hn hl (k := 69) (by decide) rfl, (ge_ck hn hl (k := 69) (by decide)).trans rfl, ⟨(ge_ck hn hl (k := 70) (by decide)).trans rfl, (ge_Nk hn hl (k := 70) (by decide)).trans rfl⟩, ⟨(ge_ck hn hl (k := 73) (by decide)).trans rfl, (ge_Nk hn hl (k := 73) (by decide)).trans rfl⟩, ⟨(ge_ck hn hl (k := 74) (by decide)).trans rfl, (ge_Nk hn hl (k := 74) (by decide)).trans rfl⟩, ⟨(ge_ck hn hl (k := 71) (by decide)).trans rfl, (ge_Nk hn hl (k := 71) (by decide)).trans rfl⟩, ⟨(ge_ck hn hl (k := 75) (by decide)).trans rfl, (ge_Nk hn hl (k := 75) (by decide)).trans rfl⟩, ⟨(ge_ck hn hl (k := 76) (by decide)).trans rfl, (ge_Nk hn hl (k := 76) (by decide)).trans rfl⟩, ⟨(ge_ck hn hl (k := 77) (by decide)).trans rfl, (ge_Nk hn hl (k := 77) (by decide)).trans rfl⟩, ⟨(ge_ck hn hl (k := 78) (by decide)).trans rfl, (ge_Nk hn hl (k := 78) (by decide)).trans rfl⟩, ⟨(ge_ck hn hl (k := 79) (by decide)).trans rfl, (ge_Nk hn hl (k := 79) (by decide)).trans rfl⟩, ⟨(ge_ck hn hl (k := 80) (by decide)).trans rfl, (ge_Nk hn hl (k := 80) (by decide)).trans rfl⟩, ⟨(ge_ck hn hl (k := 81) (by decide)).trans rfl, (ge_Nk hn hl (k := 81) (by decide)).trans rfl⟩, ⟨(ge_ck hn hl (k := 82) (by decide)).trans rfl, (ge_Nk hn hl (k := 82) (by decide)).trans rfl⟩, ⟨(ge_ck hn hl (k := 72) (by decide)).trans rfl, (ge_Nk hn hl (k := 72) (by decide)).trans rfl⟩, ⟨(ge_ck hn hl (k := 83) (by decide)).trans rfl, (ge_Nk hn hl (k := 83) (by decide)).trans rfl⟩, ⟨(ge_ck hn hl (k := 84) (by decide)).trans rfl, (ge_Nk hn hl (k := 84) (by decide)).trans rfl⟩, ⟨(ge_ck hn hl (k := 85) (by decide)).trans rfl, (ge_Nk hn hl (k := 85) (by decide)).trans rfl⟩, ⟨(ge_ck hn hl (k := 86) (by decide)).trans rfl, (ge_Nk hn hl (k := 86) (by decide)).trans rfl⟩⟩
end GE
