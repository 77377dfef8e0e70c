/-! pure: numbers, the store, booleans -/
theorem tp_lt (a b : Int32) : a < b ↔ a.toInt < b.toInt := Int32.lt_iff_toInt_lt
theorem tp_le (a b : Int32) : a ≤ b ↔ a.toInt ≤ b.toInt := Int32.le_iff_toInt_le
theorem tp_eq (a b : Int32) : a = b ↔ a.toInt = b.toInt := Int32.toInt_inj.symm
theorem tp_ti {n : Nat} (h : n < 2 ^ 31) : (nI n).toInt = (n : Int) := nI_toInt h
theorem tp_lo (a : Int32) : -2147483648 ≤ a.toInt := by have := Int32.le_toInt a; simpa using this
theorem tp_hi (a : Int32) : a.toInt < 2147483648 := by have := Int32.toInt_lt a; simpa using this
theorem tp_bm (x : Int) (h : -2147483648 ≤ x) (h2 : x < 2147483648) : x.bmod (2 ^ 32) = x := by
  apply Int.bmod_eq_of_le <;> omega
theorem tp_add {a b : Int32} (h : -2147483648 ≤ a.toInt + b.toInt) (h2 : a.toInt + b.toInt < 2147483648) : (a + b).toInt = a.toInt + b.toInt := by
  rw [Int32.toInt_add]; exact tp_bm _ h h2
theorem tp_sub {a b : Int32} (h : -2147483648 ≤ a.toInt - b.toInt) (h2 : a.toInt - b.toInt < 2147483648) : (a - b).toInt = a.toInt - b.toInt := by
  rw [Int32.toInt_sub]; exact tp_bm _ h h2
theorem tp_mul {a b : Int32} (h : -2147483648 ≤ a.toInt * b.toInt) (h2 : a.toInt * b.toInt < 2147483648) : (a * b).toInt = a.toInt * b.toInt := by
  rw [Int32.toInt_mul]; exact tp_bm _ h h2
/-- an int that is not below 0 is a number -/
theorem tp_nat {x : Int32} (h : 0 ≤ x.toInt) : ∃ n : Nat, n < 2 ^ 31 ∧ x = nI n ∧ x.toInt = n := by
  refine ⟨x.toInt.toNat, ?_, ?_, ?_⟩
  · have := tp_hi x; omega
  · have := tp_hi x
    rw [tp_eq, tp_ti (by omega)]; omega
  · omega
def tp_i (lo hi : Int) (p : Int32) : Prop := lo ≤ p.toInt ∧ p.toInt ≤ hi
theorem tp_i_nat {k : Int} {p : Int32} (h : tp_i 0 k p) : ∃ j : Nat, (j : Int) ≤ k ∧ j < 2 ^ 31 ∧ p = nI j := by
  obtain ⟨n, h1, h2, h3⟩ := tp_nat h.1
  exact ⟨n, by rw [← h3]; exact h.2, h1, h2⟩
theorem tp_i_fac {p : Int32} (h : tp_i 1 4 p) : ∃ j : Nat, 1 ≤ j ∧ j ≤ 4 ∧ j < 5 ∧ p = nI j := by
  obtain ⟨n, h1, h2, h3⟩ := tp_nat (x := p) (by have := h.1; omega)
  have := h.1
  have := h.2
  exact ⟨n, by omega, by omega, by omega, h2⟩
theorem tp_i_lt {k : Int} {m : Nat} {p : Int32} (h : tp_i 0 k p) (hk : k < m) : ∃ j : Nat, j < m ∧ p = nI j := by
  obtain ⟨n, h1, h2, h3⟩ := tp_i_nat h
  exact ⟨n, by omega, h3⟩
theorem tp_iI {j : Nat} {lo hi : Int} (h : j < 2 ^ 31) : tp_i lo hi (nI j) ↔ lo ≤ (j : Int) ∧ (j : Int) ≤ hi := by
  unfold tp_i; rw [tp_ti h]
noncomputable def tp_b (c : Prop) : Int32 := @ite _ c (Classical.propDecidable c) 1 0
theorem tp_bt {c : Prop} (h : c) : tp_b c = 1 := by unfold tp_b; rw [if_pos h]
theorem tp_bf {c : Prop} (h : ¬ c) : tp_b c = 0 := by unfold tp_b; rw [if_neg h]
theorem tp_b0 (c : Prop) : tp_b c = 0 ↔ ¬ c := by
  by_cases h : c
  · rw [tp_bt h]; simp [h]
  · rw [tp_bf h]; simp [h]
theorem tp_b1 (c : Prop) : tp_b c = 1 ↔ c := by
  by_cases h : c
  · rw [tp_bt h]; simp [h]
  · rw [tp_bf h]; simp [h]
theorem tp_nb0 : narrow .boolean (.int 0) = .int 0 := by decide
theorem tp_nb1 : narrow .boolean (.int 1) = .int 1 := by decide
theorem tp_nb (c : Prop) : (narrow .boolean (.int (tp_b c)) = .int (tp_b c)) = True := by
  by_cases h : c
  · rw [tp_bt h]; simp [tp_nb1]
  · rw [tp_bf h]; simp [tp_nb0]
theorem tp_di (lo hi : Int) (p : Int32) : (tp_i lo hi p) = (lo ≤ p.toInt ∧ p.toInt ≤ hi) := rfl
/-! the store -/
theorem tq_upk {S : tq_St} {k i j k' : Nat} {v : Int32} (h : k' ≠ k) : tq_up S k i j v k' = S k' := by
  funext a b; simp only [tq_up]; rw [if_neg (fun q => h q.1)]
theorem tq_upi {S : tq_St} {k i j k' i' : Nat} {v : Int32} (h : i' ≠ i) : tq_up S k i j v k' i' = S k' i' := by
  funext b; simp only [tq_up]; rw [if_neg (fun q => h q.2.1)]
theorem tq_upj {S : tq_St} {k i j k' i' j' : Nat} {v : Int32} (h : j' ≠ j) : tq_up S k i j v k' i' j' = S k' i' j' := by
  simp only [tq_up]; rw [if_neg (fun q => h q.2.2)]
theorem tq_upe {S : tq_St} {k i j : Nat} {v : Int32} : tq_up S k i j v k i j = v := by simp [tq_up]
theorem tq_cpk {S : tq_St} {k i k' : Nat} {f : Nat → Int32} (h : k' ≠ k) : tq_cp S k i f k' = S k' := by
  funext a; simp only [tq_cp]; rw [if_neg (fun q => h q.1)]
theorem tq_cpi {S : tq_St} {k i k' i' : Nat} {f : Nat → Int32} (h : i' ≠ i) : tq_cp S k i f k' i' = S k' i' := by
  simp only [tq_cp]; rw [if_neg (fun q => h q.2)]
theorem tq_cpe {S : tq_St} {k i : Nat} {f : Nat → Int32} : tq_cp S k i f k i = f := by simp [tq_cp]
/-- the same change of both sides -/
theorem tp_up2 {S M : tq_St} {k k1 i j : Nat} {v : Int32} (h : S k = M k1) : tq_up S k i j v k = tq_up M k1 i j v k1 := by
  funext a b; simp only [tq_up, h, true_and]
theorem tp_cp2 {S M : tq_St} {k k1 i : Nat} {f : Nat → Int32} (h : S k = M k1) : tq_cp S k i f k = tq_cp M k1 i f k1 := by
  funext a; simp only [tq_cp, h, true_and]
/-! what class and reference ask of numbers -/
theorem tp_two {A B c : Prop} {f : Int32 → Prop} (h : (¬ A ∧ ¬ B) ↔ c) : ((A → f 0) ∧ (¬ A → ((B → f 0) ∧ (¬ B → f 1)))) ↔ f (tp_b c) := by
  by_cases a : A
  · rw [tp_bf (fun q => (h.mpr q).1 a)]; simp [a]
  · by_cases b : B
    · rw [tp_bf (fun q => (h.mpr q).2 b)]; simp [a, b]
    · rw [tp_bt (h.mp ⟨a, b⟩)]; simp [a, b]
section
variable {N : tq_Nn} {S M : tq_St} {post : tq_St → Int32 → Prop} {p a b c : Int32}
theorem tp_within : wpX11_within N post S a b c ↔ post S (tp_b (tp_i b.toInt c.toInt a)) := by
  simp only [wpX11_within, wbX11_within_14, wbX11_within_15, tp_nb0, tp_nb1, true_and]
  exact tp_two (f := post S) (by unfold tp_i; rw [tp_lt, tp_lt]; omega)
theorem tp_isPlace : wpX11_isPlace N post S p ↔ post S (tp_b (tp_i 0 (4) p)) := by
  simp only [wpX11_isPlace, wbX11_isPlace_13, wbX11_isPlace_14, tp_nb0, tp_nb1, true_and]
  exact tp_two (f := post S) (by unfold tp_i; rw [tp_lt, tp_le]; simp; omega)
theorem tp_isFactory : wpX11_isFactory N post S p ↔ post S (tp_b (tp_i 1 (4) p)) := by
  simp only [wpX11_isFactory, wbX11_isFactory_13, wbX11_isFactory_14, tp_nb0, tp_nb1, true_and]
  exact tp_two (f := post S) (by unfold tp_i; rw [tp_le, tp_le]; simp; omega)
theorem tp_isSort : wpX11_isSort N post S p ↔ post S (tp_b (tp_i 0 (3) p)) := by
  simp only [wpX11_isSort, wbX11_isSort_13, wbX11_isSort_14, tp_nb0, tp_nb1, true_and]
  exact tp_two (f := post S) (by unfold tp_i; rw [tp_lt, tp_le]; simp; omega)
theorem tp_isSheet : wpX11_isSheet N post S p ↔ post S (tp_b (tp_i 0 (2) p)) := by
  simp only [wpX11_isSheet, wbX11_isSheet_13, wbX11_isSheet_14, tp_nb0, tp_nb1, true_and]
  exact tp_two (f := post S) (by unfold tp_i; rw [tp_lt, tp_le]; simp; omega)
theorem tp_isHolder : wpX11_isHolder N post S p ↔ post S (tp_b (tp_i 0 (7) p)) := by
  simp only [wpX11_isHolder, wbX11_isHolder_14, wbX11_isHolder_15, tp_nb0, tp_nb1, true_and]
  exact tp_two (f := post S) (by unfold tp_i; rw [tp_lt, tp_le]; simp; omega)
theorem tp_isPerson : wpX11_isPerson N post S p ↔ post S (tp_b (tp_i 0 ((S 1 0 2).toInt - 1) p)) := by
  simp only [wpX11_isPerson, wbX11_isPerson_16, wbX11_isPerson_17, tp_nb0, tp_nb1, true_and]
  exact tp_two (f := post S) (by unfold tp_i; rw [tp_lt, tp_le]; simp; omega)
theorem tp_isPaper : wpX11_isPaper N post S p ↔ post S (tp_b (tp_i 0 ((S 15 0 2).toInt - 1) p)) := by
  simp only [wpX11_isPaper, wbX11_isPaper_19, wbX11_isPaper_20, tp_nb0, tp_nb1, true_and]
  exact tp_two (f := post S) (by unfold tp_i; rw [tp_lt, tp_le]; simp; omega)
theorem tp_isShip : wpX11_isShip N post S p ↔ post S (tp_b (tp_i 0 ((S 19 0 2).toInt - 1) p)) := by
  simp only [wpX11_isShip, wbX11_isShip_19, wbX11_isShip_20, tp_nb0, tp_nb1, true_and]
  exact tp_two (f := post S) (by unfold tp_i; rw [tp_lt, tp_le]; simp; omega)
theorem tp_isVoyage : wpX11_isVoyage N post S p ↔ post S (tp_b (tp_i 0 ((S 22 0 2).toInt - 1) p)) := by
  simp only [wpX11_isVoyage, wbX11_isVoyage_19, wbX11_isVoyage_20, tp_nb0, tp_nb1, true_and]
  exact tp_two (f := post S) (by unfold tp_i; rw [tp_lt, tp_le]; simp; omega)
/-! the reference's -/
theorem tp_in : wpX12_in post M a b c ↔ post M (tp_b (tp_i b.toInt c.toInt a)) := by
  simp only [wpX12_in, wbX12_in_14, wbX12_in_15, tp_nb0, tp_nb1, true_and]
  exact tp_two (f := post M) (by unfold tp_i; rw [tp_lt, tp_lt]; omega)
theorem tp_mPlace : wpX12_isPlace post M p ↔ post M (tp_b (tp_i 0 (4) p)) := by
  simp only [wpX12_isPlace, tp_in, tp_nb, true_and] <;> simp
theorem tp_mFactory : wpX12_isFactory post M p ↔ post M (tp_b (tp_i 1 (4) p)) := by
  simp only [wpX12_isFactory, tp_in, tp_nb, true_and] <;> simp
theorem tp_mSort : wpX12_isSort post M p ↔ post M (tp_b (tp_i 0 (3) p)) := by
  simp only [wpX12_isSort, tp_in, tp_nb, true_and] <;> simp
theorem tp_mless {x : Int32} {n : Nat} (h : x = nI n) (hn : n < 2 ^ 31) : (x - 1).toInt = (n : Int) - 1 := by
  subst h
  rw [tp_sub, tp_ti hn]
  · simp
  · rw [tp_ti hn]; simp; omega
  · rw [tp_ti hn]; simp; omega
theorem tp_mPerson {n : Nat} (h : M 64 0 6 = nI n) (hn : n < 2 ^ 31) : wpX12_isPerson post M p ↔ post M (tp_b (tp_i 0 ((n : Int) - 1) p)) := by
  simp only [wpX12_isPerson, tp_in, tp_nb, true_and, tp_mless h hn] <;> simp
theorem tp_mPaper {n : Nat} (h : M 64 0 9 = nI n) (hn : n < 2 ^ 31) : wpX12_isPaper post M p ↔ post M (tp_b (tp_i 0 ((n : Int) - 1) p)) := by
  simp only [wpX12_isPaper, tp_in, tp_nb, true_and, tp_mless h hn] <;> simp
theorem tp_mShip {n : Nat} (h : M 64 0 21 = nI n) (hn : n < 2 ^ 31) : wpX12_isShip post M p ↔ post M (tp_b (tp_i 0 ((n : Int) - 1) p)) := by
  simp only [wpX12_isShip, tp_in, tp_nb, true_and, tp_mless h hn] <;> simp
theorem tp_mVoyage {n : Nat} (h : M 64 0 31 = nI n) (hn : n < 2 ^ 31) : wpX12_isVoyage post M p ↔ post M (tp_b (tp_i 0 ((n : Int) - 1) p)) := by
  simp only [wpX12_isVoyage, tp_in, tp_nb, true_and, tp_mless h hn] <;> simp
theorem tp_mBuyer : wpX12_isBuyer post M p ↔ post M (tp_b (tp_i 0 (5) p)) := by
  simp only [wpX12_isBuyer, tp_in, tp_nb, true_and] <;> simp
end
