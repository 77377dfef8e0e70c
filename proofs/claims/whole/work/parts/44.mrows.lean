/-! cells that are made: they come into the world as they are made -/
/-- behind a making: a cells in all, n slots more, the flag t at (k, i) -/
def tq_na (N : tq_Nn) (a k i t n : Nat) : tq_Nn := fun k' i' => if k' = 0 ∧ i' = 0 then a else if k' = 0 ∧ i' = 1 then N 0 1 + n else if k' = k ∧ i' = i then t else N k' i'
theorem tq_na00 (N : tq_Nn) (a k i t n : Nat) : tq_na N a k i t n 0 0 = a := by simp [tq_na]
theorem tq_na01 (N : tq_Nn) (a k i t n : Nat) : tq_na N a k i t n 0 1 = N 0 1 + n := by simp [tq_na]
theorem tq_na_self (N : tq_Nn) (a k i t n : Nat) (hk : k ≠ 0) : tq_na N a k i t n k i = t := by simp [tq_na, hk]
theorem tq_na_ne {N : tq_Nn} {a k i t n k' i' : Nat} (h0 : k' ≠ 0) (h : ¬ (k' = k ∧ i' = i)) : tq_na N a k i t n k' i' = N k' i' := by simp [tq_na, h0, h]
theorem tq_mk_0 {cy : Nat → ClassId} {ad : Nat → Nat → Nat} {N : tq_Nn} {i : Nat} {c : Nat → Int32} : tq_mk cy ad N 0 i c = none := rfl
/-- the flag of the cell itself is all that counts -/
theorem tq_mk_flag {cy : Nat → ClassId} {ad : Nat → Nat → Nat} {N N1 : tq_Nn} {k i : Nat} (c : Nat → Int32) (h : N1 k i = N k i) : tq_mk cy ad N1 k i c = tq_mk cy ad N k i c := by
  unfold tq_mk
  rw [h]
theorem tq_mk_na {cy : Nat → ClassId} {ad : Nat → Nat → Nat} {N : tq_Nn} {a k i t n k' i' : Nat} (c : Nat → Int32) (h : ¬ (k' = k ∧ i' = i)) : tq_mk cy ad (tq_na N a k i t n) k' i' c = tq_mk cy ad N k' i' c := by
  by_cases h0 : k' = 0
  · subst h0
    rw [tq_mk_0, tq_mk_0]
  · exact tq_mk_flag c (tq_na_ne h0 h)
theorem tq_wd.add {D : va_G} {cy : Nat → ClassId} {z : Nat} {H0 : Heap} {ad : Nat → Nat → Nat} {N N1 : tq_Nn} {T T1 : tq_St} {H H1 : Heap} {k i : Nat} {e : va_E} (h : tq_wd D cy z H0 ad N T H) (hz1 : H1.size = H.size + 1) (ho : ∀ q : Nat, q < H.size → H1[q]? = H[q]?) (ha : ad k i = H.size) (he : tq_mk cy ad N1 k i (T1 k i) = some e) (hat : va_at D vwCl (ad k i, e) H1)
    (hT : ∀ k' i' : Nat, ¬ (k' = k ∧ i' = i) → tq_mk cy ad N1 k' i' (T1 k' i') = tq_mk cy ad N k' i' (T k' i')) : tq_wd D cy z H0 ad N1 T1 H1 := by
  obtain ⟨h1, h2, h3, h4, h5⟩ := h
  have hlt : ∀ (k' i' : Nat) (x : va_E), tq_mk cy ad N k' i' (T k' i') = some x → ad k' i' < H.size := fun k' i' x hx => (h1 k' i' x hx).lt
  refine ⟨fun k' i' x hx => ?_, fun k1 i1 k2 i2 x1 x2 hx1 hx2 hq => ?_, fun k' i' x hx => ?_, by omega, fun q hq => ?_⟩
  · by_cases hh : k' = k ∧ i' = i
    · obtain ⟨rfl, rfl⟩ := hh
      rw [he] at hx
      cases hx
      exact hat
    · rw [hT k' i' hh] at hx
      exact (h1 k' i' x hx).kept (ho _ (hlt k' i' x hx))
  · by_cases c1 : k1 = k ∧ i1 = i <;> by_cases c2 : k2 = k ∧ i2 = i
    · exact ⟨c1.1.trans c2.1.symm, c1.2.trans c2.2.symm⟩
    · obtain ⟨rfl, rfl⟩ := c1
      rw [hT k2 i2 c2] at hx2
      have := hlt k2 i2 x2 hx2
      omega
    · obtain ⟨rfl, rfl⟩ := c2
      rw [hT k1 i1 c1] at hx1
      have := hlt k1 i1 x1 hx1
      omega
    · rw [hT k1 i1 c1] at hx1
      rw [hT k2 i2 c2] at hx2
      exact h2 k1 i1 k2 i2 x1 x2 hx1 hx2 hq
  · by_cases hh : k' = k ∧ i' = i
    · obtain ⟨rfl, rfl⟩ := hh
      omega
    · rw [hT k' i' hh] at hx
      exact h3 k' i' x hx
  · rw [ho q (by omega)]
    exact h5 q hq
/-- a cell gets another name -/
theorem tq_wd.move {D : va_G} {cy : Nat → ClassId} {z : Nat} {H0 : Heap} {ad : Nat → Nat → Nat} {N N1 : tq_Nn} {T T1 : tq_St} {H : Heap} {k i k2 i2 : Nat} {e : va_E} (h : tq_wd D cy z H0 ad N T H) (he : tq_mk cy ad N k i (T k i) = some e) (he2 : tq_mk cy ad N1 k2 i2 (T1 k2 i2) = some e) (hno : tq_mk cy ad N1 k i (T1 k i) = none) (ha : ad k2 i2 = ad k i)
    (hT : ∀ k' i' : Nat, ¬ (k' = k ∧ i' = i) → ¬ (k' = k2 ∧ i' = i2) → tq_mk cy ad N1 k' i' (T1 k' i') = tq_mk cy ad N k' i' (T k' i')) : tq_wd D cy z H0 ad N1 T1 H := by
  obtain ⟨h1, h2, h3, h4, h5⟩ := h
  have key : ∀ (k' i' : Nat) (x : va_E), tq_mk cy ad N1 k' i' (T1 k' i') = some x → (k' = k2 ∧ i' = i2 ∧ x = e) ∨ (¬ (k' = k ∧ i' = i) ∧ ¬ (k' = k2 ∧ i' = i2) ∧ tq_mk cy ad N k' i' (T k' i') = some x) := by
    intro k' i' x hx
    by_cases c2 : k' = k2 ∧ i' = i2
    · obtain ⟨rfl, rfl⟩ := c2
      rw [he2] at hx
      cases hx
      exact Or.inl ⟨rfl, rfl, rfl⟩
    · by_cases c1 : k' = k ∧ i' = i
      · obtain ⟨rfl, rfl⟩ := c1
        rw [hno] at hx
        cases hx
      · rw [hT k' i' c1 c2] at hx
        exact Or.inr ⟨c1, c2, hx⟩
  refine ⟨fun k' i' x hx => ?_, fun k1 i1 k3 i3 x1 x3 hx1 hx3 hq => ?_, fun k' i' x hx => ?_, h4, h5⟩
  · rcases key k' i' x hx with ⟨rfl, rfl, rfl⟩ | ⟨c1, c2, hx⟩
    · rw [ha]
      exact h1 k i _ he
    · exact h1 k' i' x hx
  · rcases key k1 i1 x1 hx1 with ⟨rfl, rfl, rfl⟩ | ⟨c1, c2, hx1'⟩ <;> rcases key k3 i3 x3 hx3 with ⟨rfl, rfl, rfl⟩ | ⟨d1, d2, hx3'⟩
    · exact ⟨rfl, rfl⟩
    · exact absurd (h2 k3 i3 k i x3 _ hx3' he (by rw [← hq, ha])) (fun q => d1 q)
    · exact absurd (h2 k1 i1 k i x1 _ hx1' he (by rw [hq, ha])) (fun q => c1 q)
    · exact h2 k1 i1 k3 i3 x1 x3 hx1' hx3' hq
  · rcases key k' i' x hx with ⟨rfl, rfl, rfl⟩ | ⟨c1, c2, hx⟩
    · rw [ha]
      exact h3 k i _ he
    · exact h3 k' i' x hx
theorem tq_mixcp {cy : Nat → ClassId} {ad : Nat → Nat → Nat} {N : tq_Nn} {S M : tq_St} {a k i t n : Nat} {f : Nat → Int32} (k' i' : Nat) (h : ¬ (k' = k ∧ i' = i)) : tq_mk cy ad (tq_na N a k i t n) k' i' (tq_mix (tq_cp S k i f) M k' i') = tq_mk cy ad N k' i' (tq_mix S M k' i') := by
  rw [tq_mk_na _ h]
  by_cases hk9 : k' < 64
  · rw [tq_mixC _ _ hk9, tq_mixC _ _ hk9, tq_cp_out h]
  · rw [tq_mixM _ _ hk9, tq_mixM _ _ hk9]
/-- kinds of cells that are made later -/
def tq_dyn : List Nat := [7, 8, 9, 10, 11, 16, 18, 20, 23, 37, 39, 50, 51, 52, 53, 54, 55, 56, 57, 58, 59, 60]
/-- the number i is free -/
def tq_fr (N : tq_Nn) (i : Nat) : Prop := ∀ k ∈ tq_dyn, ¬ N k i = 1
theorem tq_here {cy : Nat → ClassId} {ad : Nat → Nat → Nat} {N : tq_Nn} {i : Nat} {c : Nat → Int32} : ∀ k ∈ tq_dyn, N k i = 1 → ∃ e : va_E, tq_mk cy ad N k i c = some e := by
  intro k hk h
  simp only [tq_dyn, List.mem_cons, List.not_mem_nil, or_false] at hk
  rcases hk with rfl | rfl | rfl | rfl | rfl | rfl | rfl | rfl | rfl | rfl | rfl | rfl | rfl | rfl | rfl | rfl | rfl | rfl | rfl | rfl | rfl | rfl
  · by_cases h13 : c 13 = 0
    · exact ⟨_, tq_mk_7 h h13⟩
    · exact ⟨_, tq_mk_7b h h13⟩
  · exact ⟨_, tq_mk_8 h⟩
  · exact ⟨_, tq_mk_9 h⟩
  · exact ⟨_, tq_mk_10 h⟩
  · exact ⟨_, tq_mk_11 h⟩
  · exact ⟨_, tq_mk_16 h⟩
  · exact ⟨_, tq_mk_18 h⟩
  · exact ⟨_, tq_mk_20 h⟩
  · exact ⟨_, tq_mk_23 h⟩
  · exact ⟨_, tq_mk_37 h⟩
  · exact ⟨_, tq_mk_39 h⟩
  · exact ⟨_, tq_mk_50 h⟩
  · exact ⟨_, tq_mk_51 h⟩
  · exact ⟨_, tq_mk_52 h⟩
  · exact ⟨_, tq_mk_53 h⟩
  · exact ⟨_, tq_mk_54 h⟩
  · exact ⟨_, tq_mk_55 h⟩
  · exact ⟨_, tq_mk_56 h⟩
  · exact ⟨_, tq_mk_57 h⟩
  · exact ⟨_, tq_mk_58 h⟩
  · exact ⟨_, tq_mk_59 h⟩
  · exact ⟨_, tq_mk_60 h⟩
theorem tq_le3 {a b c : Nat} (h : c = a + b) : a ≤ c := by omega
theorem tq_adr.le {z : Nat} {ad : Nat → Nat → Nat} (h : tq_adr z ad) {i : Nat} : ∀ k ∈ tq_dyn, z + i ≤ ad k i := by
  obtain ⟨h1, h2, h3, h4, h5, h6, -⟩ := h
  intro k hk
  simp only [tq_dyn, List.mem_cons, List.not_mem_nil, or_false] at hk
  rcases hk with rfl | rfl | rfl | rfl | rfl | rfl | rfl | rfl | rfl | rfl | rfl | rfl | rfl | rfl | rfl | rfl | rfl | rfl | rfl | rfl | rfl | rfl
  · exact Nat.le_of_eq ((h1 i).1).symm
  · exact Nat.le_of_eq ((h2 i).1).symm
  · exact Nat.le_of_eq ((h3 i).1).symm
  · exact Nat.le_of_eq ((h4 i).1).symm
  · exact Nat.le_of_eq (h5 i).symm
  · exact Nat.le_of_eq ((h6 i).1).symm
  · exact Nat.le_of_eq ((h6 i).2.1).symm
  · exact Nat.le_of_eq ((h6 i).2.2.1).symm
  · exact Nat.le_of_eq ((h6 i).2.2.2.1).symm
  · exact Nat.le_of_eq ((h6 i).2.2.2.2.1).symm
  · exact Nat.le_of_eq ((h6 i).2.2.2.2.2.1).symm
  · exact tq_le3 ((h1 i).2.1)
  · exact tq_le3 ((h1 i).2.2.2)
  · exact tq_le3 ((h1 i).2.2.1)
  · exact Nat.le_of_eq ((h6 i).2.2.2.2.2.2.1).symm
  · exact tq_le3 ((h2 i).2.1)
  · exact tq_le3 ((h2 i).2.2.1)
  · exact tq_le3 ((h2 i).2.2.2)
  · exact tq_le3 ((h3 i).2.1)
  · exact tq_le3 ((h3 i).2.2)
  · exact tq_le3 ((h4 i).2)
  · exact Nat.le_of_eq ((h6 i).2.2.2.2.2.2.2).symm
theorem tq_wd.fr {D : va_G} {cy : Nat → ClassId} {z : Nat} {H0 : Heap} {ad : Nat → Nat → Nat} {N : tq_Nn} {T : tq_St} {H : Heap} {i : Nat} (h : tq_wd D cy z H0 ad N T H) (ha : tq_adr z ad) (hi : H.size ≤ z + i) : tq_fr N i := by
  intro k hk h1
  obtain ⟨e, he⟩ := tq_here (cy := cy) (ad := ad) (c := T k i) k hk h1
  have h2 := (h.1 k i e he).lt
  have h3 := ha.le (i := i) k hk
  have h4 : ad k i < H.size := h2
  omega
theorem tq_G.adr {z : Nat} {ad : Nat → Nat → Nat} {U : State} (h : tq_G z ad U) : tq_adr z ad := h.2.2.2.2.2.2.2.2.2.2.2.2.2.2.2.2
theorem tq_wd.pos {D : va_G} {cy : Nat → ClassId} {z : Nat} {H0 : Heap} {ad : Nat → Nat → Nat} {N : tq_Nn} {T : tq_St} {H : Heap} (h : tq_wd D cy z H0 ad N T H) : z + 1 ≤ H.size := by
  have h1 := (h.1 1 0 _ (tq_mk_1 (by decide))).lt
  have h2 := h.2.2.1 1 0 _ (tq_mk_1 (by decide))
  have h3 : ad 1 0 < H.size := h1
  omega
