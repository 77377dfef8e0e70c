theorem tp_nb0 : narrow .boolean (.int 0) = .int 0 := rfl
theorem tp_nb1 : narrow .boolean (.int 1) = .int 1 := rfl
theorem tp_lt {a b : Int32} : a < b ↔ a.toInt < b.toInt := Int32.lt_iff_toInt_lt
theorem tp_le {a b : Int32} : a ≤ b ↔ a.toInt ≤ b.toInt := Int32.le_iff_toInt_le
/-- 1 or 0 -/
def tp_b (p : Prop) [Decidable p] : Int32 := if p then 1 else 0
theorem tp_b0 {p : Prop} [Decidable p] : tp_b p = 0 ↔ ¬ p := by unfold tp_b; by_cases h : p <;> simp [h]
theorem tp_bt {p : Prop} [Decidable p] (h : p) : tp_b p = 1 := by simp [tp_b, h]
theorem tp_bf {p : Prop} [Decidable p] (h : ¬ p) : tp_b p = 0 := by simp [tp_b, h]
theorem tp_nb {p : Prop} [Decidable p] : narrow .boolean (.int (tp_b p)) = .int (tp_b p) := by unfold tp_b; by_cases h : p <;> simp [h, tp_nb0, tp_nb1]
theorem tp_nle {a b : Int32} : ¬ a ≤ b ↔ b < a := by rw [tp_le, tp_lt]; omega
theorem tp_nlt {a b : Int32} : ¬ a < b ↔ b ≤ a := by rw [tp_le, tp_lt]; omega
theorem sp12_in {post : tq_St → Int32 → Prop} {M : tq_St} {a b c : Int32} : wpX12_in post M a b c ↔ post M (tp_b (b ≤ a ∧ a ≤ c)) := by
  unfold wpX12_in wbX12_in_14 wbX12_in_15
  by_cases h1 : a < b
  · rw [tp_bf (fun q => tp_nle.mpr h1 q.1)]
    simp [h1, tp_nb0]
  · by_cases h2 : c < a
    · rw [tp_bf (fun q => tp_nle.mpr h2 q.2)]
      simp [h1, h2, tp_nb0]
    · rw [tp_bt ⟨tp_nlt.mp h1, tp_nlt.mp h2⟩]
      simp [h1, h2, tp_nb1]
theorem sp12_isFactory {post : tq_St → Int32 → Prop} {M : tq_St} {a : Int32} : wpX12_isFactory post M a ↔ post M (tp_b (1 ≤ a ∧ a ≤ 4)) := by
  unfold wpX12_isFactory
  rw [sp12_in]
  simp only [tp_nb, true_and]
theorem sp12_isSort {post : tq_St → Int32 → Prop} {M : tq_St} {a : Int32} : wpX12_isSort post M a ↔ post M (tp_b (0 ≤ a ∧ a ≤ 3)) := by
  unfold wpX12_isSort
  rw [sp12_in]
  simp only [tp_nb, true_and]
theorem sp11_within {N : Nat → Nat} {post : tq_St → Int32 → Prop} {S : tq_St} {a b c : Int32} : wpX11_within N post S a b c ↔ post S (tp_b (b ≤ a ∧ a ≤ c)) := by
  unfold wpX11_within wbX11_within_14 wbX11_within_15
  by_cases h1 : a < b
  · rw [tp_bf (fun q => tp_nle.mpr h1 q.1)]
    simp [h1, tp_nb0]
  · by_cases h2 : c < a
    · rw [tp_bf (fun q => tp_nle.mpr h2 q.2)]
      simp [h1, h2, tp_nb0]
    · rw [tp_bt ⟨tp_nlt.mp h1, tp_nlt.mp h2⟩]
      simp [h1, h2, tp_nb1]
theorem sp11_isFactory {N : Nat → Nat} {post : tq_St → Int32 → Prop} {S : tq_St} {a : Int32} : wpX11_isFactory N post S a ↔ post S (tp_b (1 ≤ a ∧ a ≤ 4)) := by
  unfold wpX11_isFactory wbX11_isFactory_13 wbX11_isFactory_14
  have e0 : a ≤ 0 ↔ ¬ (1 : Int32) ≤ a := by rw [tp_le, tp_le]; simp; omega
  have e5 : (5 : Int32) ≤ a ↔ ¬ a ≤ 4 := by rw [tp_le, tp_le]; simp; omega
  by_cases h1 : (1 : Int32) ≤ a <;> by_cases h2 : a ≤ 4 <;> simp [e0, e5, h1, h2, tp_b, tp_nb0, tp_nb1]
theorem sp11_isSort {N : Nat → Nat} {post : tq_St → Int32 → Prop} {S : tq_St} {a : Int32} : wpX11_isSort N post S a ↔ post S (tp_b (0 ≤ a ∧ a ≤ 3)) := by
  unfold wpX11_isSort wbX11_isSort_13 wbX11_isSort_14
  have e0 : a < 0 ↔ ¬ (0 : Int32) ≤ a := by rw [tp_le, tp_lt]; omega
  have e5 : (4 : Int32) ≤ a ↔ ¬ a ≤ 3 := by rw [tp_le, tp_le]; simp; omega
  by_cases h1 : (0 : Int32) ≤ a <;> by_cases h2 : a ≤ 3 <;> simp [e0, e5, h1, h2, tp_b, tp_nb0, tp_nb1]
theorem tp_in5 {a : Int32} (h : 1 ≤ a ∧ a ≤ 4) : vp_in a 5 := by
  obtain ⟨h1, h2⟩ := h
  rw [tp_le] at h1 h2
  rw [vp_in_iff]
  simp at h1 h2
  omega
theorem tp_in4 {a : Int32} (h : 0 ≤ a ∧ a ≤ 3) : vp_in a 4 := by
  obtain ⟨h1, h2⟩ := h
  rw [tp_le] at h1 h2
  rw [vp_in_iff]
  simp at h1 h2
  omega
/-- a trial: base, of the class and of the reference, side by side -/
theorem trial_base {N : Nat → Nat} {S M : tq_St} (hR : ∀ i j, S 31 i j = M 104 i j) (p0 p1 p2 : Int32) : wpX11_base N (fun S1 r => wpX12_base (fun M1 r1 => r = r1 ∧ ∀ i j, S1 31 i j = M1 104 i j) M p0 p1 p2) S p0 p1 p2 := by
  simp only [wpX11_base, wpX12_base, wbX11_base_14, wbX12_base_14, sp11_isFactory, sp11_isSort, sp11_within, sp12_isFactory, sp12_isSort, sp12_in, tp_b0]
  by_cases h1 : 1 ≤ p0 ∧ p0 ≤ 4
  · by_cases h2 : 0 ≤ p1 ∧ p1 ≤ 3
    · by_cases h3 : 1 ≤ p2 ∧ p2 ≤ 999
      · have i1 := tp_in5 h1
        have i2 := tp_in4 h2
        simp only [h1, h2, h3, and_self, not_true_eq_false, false_implies, not_false_eq_true, true_implies, true_and, and_true, i1, i2, forall_eq]
        exact ⟨hR _ _, fun i j => by simp only [tq_up]; simp [hR]⟩
      · simp [h1, h2, h3, hR]
    · simp [h1, h2, hR]
  · simp [h1, hR]
