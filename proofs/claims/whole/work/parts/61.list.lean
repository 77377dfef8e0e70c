/-! pure: lists by their items -/
/-- the list i of the kind kl: n items, G kl i 0 .. , in room for C kl i -/
def tp_L (N : tq_Nn) (F D : Nat → Nat → Int32) (G : Nat → Nat → Nat → Nat) (C : Nat → Nat → Nat) (kl kd ek i n : Nat) : Prop :=
  (F i 2 = nI n ∧ n ≤ C kl i ∧ C kl i ≤ 4000 ∧ ((F i 1 = 0 ∧ C kl i = 0) ∨ (0 < F i 1 ∧ N kd (F i 1).toNatClampNeg = 1 ∧ D (F i 1).toNatClampNeg 0 = nI (C kl i) ∧ 0 < C kl i)))
  ∧ ∀ j : Nat, j < n → D (F i 1).toNatClampNeg (j + 1) = nI (G kl i j + 1) ∧ N ek (G kl i j) = 1 ∧ G kl i j ≤ tq_CX
def tp_G (G : Nat → Nat → Nat → Nat) (kl i n v : Nat) : Nat → Nat → Nat → Nat := fun a b c => if a = kl ∧ b = i ∧ c = n then v else G a b c
def tp_C (C : Nat → Nat → Nat) (kl i v : Nat) : Nat → Nat → Nat := fun a b => if a = kl ∧ b = i then v else C a b
/-- what was there stays there -/
def tp_mono (N N1 : tq_Nn) : Prop := ∀ k i : Nat, k ≠ 0 → k ≠ 1 → k ≠ 12 → N k i = 1 → N1 k i = 1
theorem tp_mono.rf {N : tq_Nn} : tp_mono N N := fun _ _ _ _ _ h => h
theorem tp_mono.tr {N N1 N2 : tq_Nn} (h : tp_mono N N1) (h2 : tp_mono N1 N2) : tp_mono N N2 := fun k i a b c d => h2 k i a b c (h k i a b c d)
theorem tp_mono_na {N : tq_Nn} {a k i n : Nat} : tp_mono N (tq_na N a k i 1 n) := by
  intro k' i' h0 h1 h2 h
  unfold tq_na
  rw [if_neg (fun q => h0 q.1), if_neg (fun q => h0 q.1)]
  by_cases q : k' = k ∧ i' = i
  · rw [if_pos q]
  · rw [if_neg q]; exact h
theorem tp_mono_n1 {N : tq_Nn} {a i t n : Nat} : tp_mono N (tq_na N a 1 i t n) := by
  intro k' i' h0 h1 h2 h
  unfold tq_na
  rw [if_neg (fun q => h0 q.1), if_neg (fun q => h0 q.1), if_neg (fun q => h1 q.1)]; exact h
theorem tp_mono_n12 {N : tq_Nn} {a i t n : Nat} : tp_mono N (tq_na N a 12 i t n) := by
  intro k' i' h0 h1 h2 h
  unfold tq_na
  rw [if_neg (fun q => h0 q.1), if_neg (fun q => h0 q.1), if_neg (fun q => h2 q.1)]; exact h
theorem tp_mono_pr {N : tq_Nn} {i K : Nat} : tp_mono N (tq_pr N i K) := by
  intro k' i' h0 h1 h2 h
  unfold tq_pr
  rw [if_neg (fun q => h1 q.1)]
  by_cases q : k' = K ∧ i' = i
  · rw [if_pos q]
  · rw [if_neg q]; exact h
theorem tp_na0 {N : tq_Nn} {a k i t n : Nat} : tq_na N a k i t n 0 0 = a := by simp [tq_na]
theorem tp_na1 {N : tq_Nn} {a k i t n : Nat} : tq_na N a k i t n 0 1 = N 0 1 + n := by simp [tq_na]
theorem tp_nae {N : tq_Nn} {a k i t n : Nat} (h : k ≠ 0) : tq_na N a k i t n k i = t := by simp [tq_na, h]
theorem tp_nak {N : tq_Nn} {a k i t n k' : Nat} (h : k' ≠ 0) (h1 : k' ≠ k) : tq_na N a k i t n k' = N k' := by funext b; simp [tq_na, h, h1]
theorem tp_nai {N : tq_Nn} {a k i t n k' i' : Nat} (h : k' ≠ 0) (h1 : i' ≠ i) : tq_na N a k i t n k' i' = N k' i' := by simp [tq_na, h, h1]
theorem tp_prk {N : tq_Nn} {i K k' : Nat} (h1 : k' ≠ 1) (h2 : k' ≠ K) : tq_pr N i K k' = N k' := by funext b; simp [tq_pr, h1, h2]
theorem tp_pre {N : tq_Nn} {i K : Nat} (h : K ≠ 1) : tq_pr N i K K i = 1 := by simp [tq_pr, h]
theorem tp_pri {N : tq_Nn} {i K k' i' : Nat} (h : i' ≠ i) : tq_pr N i K k' i' = N k' i' := by simp [tq_pr, h]
theorem tp_get {N : tq_Nn} {S : tq_St} {G : Nat → Nat → Nat → Nat} {C : Nat → Nat → Nat} {kl kd ek i n j : Nat} (h : tp_L N (S kl) (S kd) G C kl kd ek i n) (hj : j < n) : tq_gok N S kl kd i (nI j) ∧ tq_el S kl kd i (nI j) = G kl i j ∧ N ek (G kl i j) = 1 := by
  obtain ⟨⟨h1, h2, h3, h4⟩, h5⟩ := h
  obtain ⟨h6, h7, h8⟩ := h5 j hj
  have hx : tq_CX < 2 ^ 31 - 1 := by unfold tq_CX; decide
  have hc : (nI j).toNatClampNeg = j := nI_clamp (by omega)
  rcases h4 with ⟨a, b⟩ | ⟨a, b, d, f⟩
  · omega
  · refine ⟨⟨nI_pos (by omega), by rw [h1]; exact nI_lt hj (by omega), ?_, b, ?_, ?_⟩, ?_, h7⟩
    · intro q; rw [q] at a; exact absurd a (by decide)
    · rw [d, nI_clamp (by omega)]; exact vp_in_nI (by omega) (by omega)
    · rw [hc, h6]; exact nI_nlt (b := 1) (by omega) (by omega)
    · unfold tq_el; rw [hc, h6, nI_clamp (by omega)]; omega
theorem tp_len {N : tq_Nn} {S : tq_St} {G : Nat → Nat → Nat → Nat} {C : Nat → Nat → Nat} {kl kd ek i n : Nat} (h : tp_L N (S kl) (S kd) G C kl kd ek i n) : S kl i 2 = nI n := h.1.1
theorem tp_L_fr0 {N N1 : tq_Nn} {F D F1 D1 : Nat → Nat → Int32} {G G1 : Nat → Nat → Nat → Nat} {C C1 : Nat → Nat → Nat} {kl kd ek i n : Nat} (h : tp_L N F D G C kl kd ek i n) (h1 : F1 i 1 = F i 1) (h1b : F1 i 2 = F i 2) (h2 : N kd (F i 1).toNatClampNeg = 1 → D1 (F i 1).toNatClampNeg = D (F i 1).toNatClampNeg) (hd : ∀ j, N kd j = 1 → N1 kd j = 1) (he : ∀ j, N ek j = 1 → N1 ek j = 1) (hG : ∀ j, j < n → G1 kl i j = G kl i j) (hC : C1 kl i = C kl i) : tp_L N1 F1 D1 G1 C1 kl kd ek i n := by
  obtain ⟨⟨a1, a2, a3, a4⟩, a5⟩ := h
  rcases a4 with ⟨q1, q2⟩ | ⟨q1, q2, q3, q4⟩
  · refine ⟨⟨h1b.trans a1, by rw [hC]; exact a2, by rw [hC]; exact a3, Or.inl ⟨h1.trans q1, by rw [hC]; exact q2⟩⟩, fun j hj => by omega⟩
  · refine ⟨⟨h1b.trans a1, by rw [hC]; exact a2, by rw [hC]; exact a3, Or.inr ?_⟩, fun j hj => ?_⟩
    · rw [h1, hC, h2 q2]; exact ⟨q1, hd _ q2, q3, q4⟩
    · rw [h1, h2 q2, hG j hj]; exact ⟨(a5 j hj).1, he _ (a5 j hj).2.1, (a5 j hj).2.2⟩
theorem tp_L_fr {N N1 : tq_Nn} {S S1 : tq_St} {G G1 : Nat → Nat → Nat → Nat} {C C1 : Nat → Nat → Nat} {kl kd ek i n : Nat} (h : tp_L N (S kl) (S kd) G C kl kd ek i n) (h1 : S1 kl i 1 = S kl i 1) (h1b : S1 kl i 2 = S kl i 2) (h2 : N kd (S kl i 1).toNatClampNeg = 1 → S1 kd (S kl i 1).toNatClampNeg = S kd (S kl i 1).toNatClampNeg) (hd : ∀ j, N kd j = 1 → N1 kd j = 1) (he : ∀ j, N ek j = 1 → N1 ek j = 1) (hG : ∀ j, j < n → G1 kl i j = G kl i j) (hC : C1 kl i = C kl i) : tp_L N1 (S1 kl) (S1 kd) G1 C1 kl kd ek i n := tp_L_fr0 h h1 h1b h2 hd he hG hC
theorem tp_lst_inj {N : tq_Nn} {S : tq_St} {kl kd i n c n1 c1 : Nat} (h : tq_lst N S kl kd i n c) (h1 : tq_lst N S kl kd i n1 c1) : n1 = n ∧ c1 = c := by
  obtain ⟨a1, a2, a3, a4⟩ := h
  obtain ⟨b1, b2, b3, b4⟩ := h1
  have hn : n1 = n := (nI_eq (by omega) (by omega)).mp (b1.symm.trans a1)
  refine ⟨hn, ?_⟩
  rcases a4 with ⟨q1, q2⟩ | ⟨q1, q2, q3, q4⟩ <;> rcases b4 with ⟨r1, r2⟩ | ⟨r1, r2, r3, r4⟩
  · omega
  · rw [q1] at r1; exact absurd r1 (by decide)
  · rw [r1] at q1; exact absurd q1 (by decide)
  · exact (nI_eq (by omega) (by omega)).mp (r3.symm.trans q3)
theorem tp_L_aok {N : tq_Nn} {S : tq_St} {G : Nat → Nat → Nat → Nat} {C : Nat → Nat → Nat} {kl kd ek i n v : Nat} (h : tp_L N (S kl) (S kd) G C kl kd ek i n) (hc : C kl i ≤ 2500) (hv : N ek v = 1) (hv2 : v ≤ tq_CX) (r0 : N 0 0 + 1 ≤ tq_CX) (r1 : N 0 1 + 4000 ≤ tq_CY) : tq_aok N S kl kd ek i v := by
  refine ⟨n, C kl i, h.1, hc, hv, hv2, fun j hj _ => ?_, r0, r1⟩
  have hx : tq_CX < 2 ^ 31 - 1 := by unfold tq_CX; decide
  obtain ⟨h6, h7, h8⟩ := h.2 j hj
  rw [h6, nI_clamp (by omega)]
  exact h7
theorem tp_cap {c : Nat} : c + 1 ≤ tq_cap c ∧ tq_cap c ≤ 4 * (tq_cap c - c) ∧ (c < 1600 → tq_cap c ≤ 2400) := by
  unfold tq_cap
  by_cases h : c = 0
  · subst h; simp
  · rw [if_neg h]
    by_cases h2 : c / 2 ≤ 1
    · rw [if_pos h2]; omega
    · rw [if_neg h2]; omega
/-- behind add: the list with one more; all else as it was; the room -/
theorem tp_L_add {N N1 : tq_Nn} {S S1 : tq_St} {G : Nat → Nat → Nat → Nat} {C : Nat → Nat → Nat} {kl kd ek i n v : Nat} (h : tp_L N (S kl) (S kd) G C kl kd ek i n) (ha : tq_added N S kl kd i v N1 S1) (hv : N ek v = 1) (hv2 : v ≤ tq_CX) (hdy : kd ∈ tq_dyn) (hd0 : kd ≠ 0) (he0 : ek ≠ 0) (he1 : ek ≠ 1) (he2 : ek ≠ 12) :
    ∃ c1 d : Nat, tp_L N1 (S1 kl) (S1 kd) (tp_G G kl i n v) (tp_C C kl i c1) kl kd ek i (n + 1) ∧ tp_mono N N1 ∧ (∀ k' i' : Nat, ¬ (k' = kl ∧ i' = i) → ¬ (k' = kd ∧ i' = d) → S1 k' i' = S k' i') ∧ (N kd d = 1 → (S kl i 1).toNatClampNeg = d ∧ 0 < S kl i 1) ∧ N1 kd d = 1 ∧ (∀ k' i' : Nat, k' ≠ 0 → ¬ (k' = kd ∧ i' = d) → N1 k' i' = N k' i') ∧ C kl i ≤ c1 ∧ N1 0 0 + C kl i ≤ N 0 0 + c1 ∧ N1 0 1 + 4 * C kl i ≤ N 0 1 + 4 * c1 ∧ (n < 1600 → C kl i ≤ 2400 → c1 ≤ 2400) ∧ (S1 kl i 1).toNatClampNeg = d ∧ (tq_fr N d ∨ N kd d = 1) := by
  obtain ⟨n', c, c1, b1, b2, b3, b4, b5, b6⟩ := ha
  obtain ⟨e1, e2⟩ := tp_lst_inj h.1 b1
  subst e1
  subst e2
  have hx : tq_CX < 2 ^ 31 - 1 := by unfold tq_CX; decide
  have hL : tp_mono N N1 → tp_L N1 (S1 kl) (S1 kd) (tp_G G kl i n' v) (tp_C C kl i c1) kl kd ek i (n' + 1) := by
    intro hm
    refine ⟨by simpa [tp_C, tq_lst] using b2, fun j hj => ?_⟩
    by_cases q : j = n'
    · subst q
      refine ⟨?_, ?_, ?_⟩
      · rw [b4]; simp [tp_G]
      · simp only [tp_G, and_self, if_true]; exact hm _ _ he0 he1 he2 hv
      · simp only [tp_G, and_self, if_true]; exact hv2
    · obtain ⟨h6, h7, h8⟩ := h.2 j (by omega)
      simp only [tp_G, q, and_false, if_false]
      exact ⟨(b3 j (by omega)).trans h6, hm _ _ he0 he1 he2 h7, h8⟩
  rcases b6 with ⟨r1, r2, r3, r4⟩ | ⟨r1, r2, r3, r4, r5⟩
  · subst r1
    have hd : N1 kd (S1 kl i 1).toNatClampNeg = 1 := by
      rcases b2.2.2.2 with ⟨q1, q2⟩ | ⟨q1, q2, q3, q4⟩
      · omega
      · exact q2
    have hp : 0 < S kl i 1 := by
      rcases b1.2.2.2 with ⟨q1, q2⟩ | ⟨q1, q2, q3, q4⟩
      · omega
      · exact q1
    exact ⟨c1, _, hL tp_mono.rf, tp_mono.rf, b5, fun _ => ⟨by rw [r4], hp⟩, hd, fun _ _ _ _ => rfl, by omega, by omega, by omega, fun _ _ => by omega, rfl, Or.inr hd⟩
  · have hm : tp_mono N N1 := by rw [r5]; exact tp_mono_na
    obtain ⟨g1, g2, g3⟩ := tp_cap (c := C kl i)
    refine ⟨c1, _, hL hm, hm, b5, fun q => ?_, by rw [r5]; exact tp_nae hd0, fun k' i' q0 q => ?_, by omega, ?_, ?_, fun q1 q2 => ?_, rfl, Or.inl r3⟩
    · exact absurd q (r3 kd hdy)
    · rw [r5]
      by_cases qk : k' = kd
      · exact tp_nai q0 (fun z => q ⟨qk, z⟩)
      · rw [tp_nak q0 qk]
    · rw [r5, tp_na0]; omega
    · rw [r5, tp_na1, r2]; omega
    · rw [r2]; exact g3 (by omega)
