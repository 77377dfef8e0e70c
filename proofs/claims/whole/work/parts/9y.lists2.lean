/-! pure: orders that come, lists -/
def tp_GA (G : Nat → Nat → Nat → Nat) (kl i p v : Nat) : Nat → Nat → Nat → Nat := fun a b c => if a = kl ∧ b = i then (if c < p then G a b c else if c = p then v else G a b (c - 1)) else G a b c
theorem tp_L_addAt {N N1 : tq_Nn} {S S1 : tq_St} {G : Nat → Nat → Nat → Nat} {C : Nat → Nat → Nat} {kl kd ek i n p v : Nat} (h : tp_L N (S kl) (S kd) G C kl kd ek i n) (ha : tq_addedAt N S kl kd i p v N1 S1) (hp : p ≤ n) (hv : N ek v = 1) (hv2 : v ≤ tq_CX) (hdy : kd ∈ tq_dyn) (hd0 : kd ≠ 0) (he0 : ek ≠ 0) (he1 : ek ≠ 1) (he2 : ek ≠ 12) :
    ∃ c1 d : Nat, tp_L N1 (S1 kl) (S1 kd) (tp_GA G kl i p v) (tp_C C kl i c1) kl kd ek i (n + 1) ∧ tp_mono N N1 ∧ (∀ k' i' : Nat, ¬ (k' = kl ∧ i' = i) → ¬ (k' = kd ∧ i' = d) → S1 k' i' = S k' i') ∧ (N kd d = 1 → (S kl i 1).toNatClampNeg = d ∧ 0 < S kl i 1) ∧ C kl i ≤ c1 ∧ N1 0 0 + C kl i ≤ N 0 0 + c1 ∧ N1 0 1 + 4 * C kl i ≤ N 0 1 + 4 * c1 ∧ (n < 1600 → C kl i ≤ 2400 → c1 ≤ 2400) ∧ (S1 kl i 1).toNatClampNeg = d ∧ 0 < S1 kl i 1 ∧ (1 ≤ N 0 0 → 1 ≤ N1 0 0) := by
  obtain ⟨n', c, c1, b1, b2, b3, b4, b4b, b5, b6⟩ := ha
  obtain ⟨e1, e2⟩ := tp_lst_inj h.1 b1
  subst e1
  subst e2
  have hx : tq_CX < 2 ^ 31 - 1 := by unfold tq_CX; decide
  have pos1 : 0 < S1 kl i 1 := by
    rcases b2.2.2.2 with ⟨q1, q2⟩ | ⟨q1, _⟩
    · have := b2.2.1; omega
    · exact q1
  have hL : tp_mono N N1 → tp_L N1 (S1 kl) (S1 kd) (tp_GA G kl i p v) (tp_C C kl i c1) kl kd ek i (n' + 1) := by
    intro hm
    refine ⟨by simpa [tp_C, tq_lst] using b2, fun j hj => ?_⟩
    have eg : tp_GA G kl i p v kl i j = if j < p then G kl i j else if j = p then v else G kl i (j - 1) := by unfold tp_GA; rw [if_pos ⟨rfl, rfl⟩]
    rw [eg]
    by_cases q1 : j < p
    · rw [if_pos q1]
      obtain ⟨h6, h7, h8⟩ := h.2 j (by omega)
      exact ⟨(b3 j q1).trans h6, hm _ _ he0 he1 he2 h7, h8⟩
    · rw [if_neg q1]
      by_cases q2 : j = p
      · rw [if_pos q2, q2]
        exact ⟨b4, hm _ _ he0 he1 he2 hv, hv2⟩
      · rw [if_neg q2]
        obtain ⟨h6, h7, h8⟩ := h.2 (j - 1) (by omega)
        have := b4b (j - 1) (by omega) (by omega)
        rw [show j - 1 + 1 = j by omega] at this h6
        exact ⟨this.trans h6, hm _ _ he0 he1 he2 h7, h8⟩
  rcases b6 with ⟨r1, r2, r3, r4⟩ | ⟨r1, r2, r3, r4, r5⟩
  · subst r1
    have hp0 : 0 < S kl i 1 := by
      rcases b1.2.2.2 with ⟨q1, q2⟩ | ⟨q1, q2, q3, q4⟩
      · omega
      · exact q1
    exact ⟨c1, _, hL tp_mono.rf, tp_mono.rf, b5, fun _ => ⟨by rw [r4], hp0⟩, by omega, by omega, by omega, fun _ _ => by omega, rfl, pos1, id⟩
  · have hm : tp_mono N N1 := by rw [r5]; exact tp_mono_na
    obtain ⟨g1, g2, g3⟩ := tp_cap (c := C kl i)
    refine ⟨c1, _, hL hm, hm, b5, fun q => absurd q (r3 kd hdy), by omega, ?_, ?_, fun q1 q2 => ?_, rfl, pos1, fun _ => ?_⟩
    · rw [r5, tp_na0]; omega
    · rw [r5, tp_na1, r2]; omega
    · rw [r2]; exact g3 (by omega)
    · rw [r5, tp_na0]; omega
theorem tp_L_clr {N : tq_Nn} {S : tq_St} {G : Nat → Nat → Nat → Nat} {C : Nat → Nat → Nat} {kl kd ek i n : Nat} (h : tp_L N (S kl) (S kd) G C kl kd ek i n) (hne : kd ≠ kl) : tp_L N (tq_clred S kl kd i n kl) (tq_clred S kl kd i n kd) G C kl kd ek i 0 ∧ (∀ k' i' : Nat, ¬ (k' = kl ∧ i' = i) → ¬ (k' = kd ∧ i' = (S kl i 1).toNatClampNeg) → tq_clred S kl kd i n k' i' = S k' i') ∧ tq_clred S kl kd i n kl i 1 = S kl i 1 := by
  obtain ⟨⟨h1, h2, h3, h4⟩, h5⟩ := h
  have k1 : tq_clred S kl kd i n kl i 1 = S kl i 1 := by
    unfold tq_clred
    rw [tq_cpk (Ne.symm hne), tq_upj (by decide), tq_upj (by decide)]
  have k2 : tq_clred S kl kd i n kl i 2 = nI 0 := by
    unfold tq_clred
    rw [tq_cpk (Ne.symm hne), tq_upe]; rfl
  have k0 : tq_clred S kl kd i n kd (S kl i 1).toNatClampNeg 0 = S kd (S kl i 1).toNatClampNeg 0 := by
    unfold tq_clred
    rw [tq_cpe]
    unfold tq_clr
    simp
  refine ⟨⟨⟨k2, Nat.zero_le _, h3, ?_⟩, fun j hj => absurd hj (by omega)⟩, fun k' i' z1 z2 => ?_, k1⟩
  · rw [k1, k0]
    exact h4
  · unfold tq_clred
    rw [tq_cp_out z2, tq_up_out z1, tq_up_out z1]
