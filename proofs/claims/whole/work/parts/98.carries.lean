/-! pure: what is carried -/
theorem tp_rk_b {M : tq_St} {pn : Nat} (hr : ∀ i : Nat, i < pn → ∃ k : Nat, k ≤ 9 ∧ M 108 0 i = nI k) (x : Int32) : ∀ {k : Nat}, k ≤ pn → pn ≤ 20 → ∃ s : Nat, s ≤ 10 * k ∧ tp_rk M x k = nI s ∧ (s = 0 → ∀ i, i < k → tp_bit x i = 0)
  | 0, _, _ => ⟨0, by decide, rfl, fun _ i hi => absurd hi (by omega)⟩
  | k + 1, hk, hp => by
    obtain ⟨s, h1, h2, h3⟩ := tp_rk_b hr x (k := k) (by omega) hp
    obtain ⟨r, r1, r2⟩ := hr k (by omega)
    unfold tp_rk at h2 ⊢
    simp only [tp_it]
    rw [h2]
    rcases tp_bit_c x k with e | e
    · rw [if_neg (by rw [e]; decide), Int32.add_zero]
      refine ⟨s, by omega, rfl, fun z i hi => ?_⟩
      by_cases q : i = k
      · rw [q]; exact e
      · exact h3 z i (by omega)
    · rw [if_pos e, r2, nI_1, nI_add]
      exact ⟨_, by omega, rfl, fun z => absurd z (by omega)⟩
theorem tp_bits0 {n : Nat} (hn : n < 2 ^ 20) : ∀ {k : Nat}, k ≤ 20 → n < 2 ^ k → (∀ i, i < k → tp_bit (nI n) i = 0) → n = 0
  | 0, _, h, _ => by rw [Nat.pow_zero] at h; omega
  | k + 1, hk, h, hb => by
    refine tp_bits0 hn (k := k) (by omega) ?_ (fun i hi => hb i (by omega))
    have e := hb k (by omega)
    rw [tp_bit_n (by omega) (by omega)] at e
    have e2 : n / 2 ^ k % 2 = 0 := by
      have := (nI_eq (a := n / 2 ^ k % 2) (b := 0) (by omega) (by omega)).mp e
      exact this
    have h2 : n / 2 ^ k < 2 := by
      rw [Nat.div_lt_iff_lt_mul (Nat.two_pow_pos k), Nat.mul_comm, ← Nat.pow_succ]; exact h
    have h3 : n / 2 ^ k = 0 := by
      generalize n / 2 ^ k = g at e2 h2
      omega
    exact (Nat.div_eq_zero_iff.mp h3).resolve_left (fun z => absurd z (Nat.ne_of_gt (Nat.two_pow_pos k)))
theorem tp_rk0 {M : tq_St} : ∀ k : Nat, k ≤ 20 → tp_rk M (nI 0) k = nI 0
  | 0, _ => rfl
  | k + 1, hk => by
    have h2 := tp_rk0 (M := M) k (by omega)
    unfold tp_rk at h2 ⊢
    simp only [tp_it]
    rw [h2, tp_bit_n (by decide) (by omega), Nat.zero_div, if_neg (by decide), Int32.add_zero]
def tp_CA (M : tq_St) (pn : Nat) (sit yes no : Int32) : Prop := yes &&& no = 0 ∧ tq_bc sit ≤ 2 * tq_bc (yes ||| no) ∧ (tp_rk M no pn < tp_rk M yes pn ∨ (tp_rk M yes pn = tp_rk M no pn ∧ ¬ yes = 0 ∧ tp_hr M yes pn = tp_hr M (yes ||| no) pn))
section
variable {N : tq_Nn} {S M : tq_St} {post : tq_St → Int32 → Prop} {pn a b : Nat} {x : Int32}
theorem tp_carM (hp : M 64 0 6 = nI pn) (hpn : pn ≤ 20) (h : post M (tp_b (tp_CA M pn (tp_sit M x pn) (nI a) (nI b)))) : wpX12_carries post M x (nI a) (nI b) := by
  unfold wpX12_carries
  by_cases q1 : nI a &&& nI b = 0
  · refine tp_cT q1 ?_
    show wpX12_sitting _ M x
    refine tp_sitM hp hpn ?_
    by_cases q2 : tq_bc (tp_sit M x pn) ≤ 2 * tq_bc (nI a ||| nI b)
    · refine tp_dT q2 (tp_rkM hp hpn (tp_rkM hp hpn ?_))
      by_cases q3 : tp_rk M (nI a) pn = tp_rk M (nI b) pn
      · refine tp_dT q3 ?_
        have q9 : ¬ tp_rk M (nI b) pn < tp_rk M (nI a) pn := by rw [q3, tp_lt]; omega
        by_cases q4 : nI a = 0
        · rw [tp_bf (fun z => z.2.2.elim q9 (fun z => z.2.1 q4))] at h
          exact tp_dT q4 ⟨tp_nb0, h⟩
        · refine tp_dF q4 (tp_hrM hp hpn (tp_hrM hp hpn ?_))
          by_cases q5 : tp_hr M (nI a) pn = tp_hr M (nI a ||| nI b) pn
          · rw [tp_bt ⟨q1, q2, Or.inr ⟨q3, q4, q5⟩⟩] at h
            exact tp_cT q5 ⟨tp_nb1, h⟩
          · rw [tp_bf (fun z => z.2.2.elim q9 (fun z => q5 z.2.2))] at h
            exact tp_cF q5 ⟨tp_nb0, h⟩
      · refine tp_dF q3 (tp_rkM hp hpn (tp_rkM hp hpn ?_))
        by_cases q4 : tp_rk M (nI a) pn ≤ tp_rk M (nI b) pn
        · rw [tp_bf (fun z => z.2.2.elim (fun z => by rw [tp_lt] at z; rw [tp_le] at q4; omega) (fun z => q3 z.1))] at h
          exact tp_dT q4 ⟨tp_nb0, h⟩
        · rw [tp_bt ⟨q1, q2, Or.inl (by rw [tp_lt]; rw [tp_le] at q4; omega)⟩] at h
          exact tp_dF q4 ⟨tp_nb1, h⟩
    · rw [tp_bf (fun z => q2 z.2.1)] at h
      exact tp_dF q2 h
  · rw [tp_bf (fun z => q1 z.1)] at h
    exact tp_cF q1 h
theorem tp_carS (hp : S 1 0 2 = nI pn) (hpn : pn ≤ 20) (e14 : S 14 = M 108) (hr : ∀ i : Nat, i < pn → ∃ k : Nat, k ≤ 9 ∧ M 108 0 i = nI k) (ha : a < 2 ^ pn) (hb : b < 2 ^ pn) (h : post S (tp_b (tp_CA M pn x (nI a) (nI b)))) : wpX11_carries N post S x (nI a) (nI b) := by
  have pw : 2 ^ pn ≤ 2 ^ 20 := Nat.pow_le_pow_right (by decide) hpn
  obtain ⟨s, s1, s2, s3⟩ := tp_rk_b hr (nI a) (Nat.le_refl pn) hpn
  obtain ⟨t, t1, t2, t3⟩ := tp_rk_b hr (nI b) (Nat.le_refl pn) hpn
  have ts : (nI s).toInt = (s : Int) := tp_ti (by omega)
  have tt : (nI t).toInt = (t : Int) := tp_ti (by omega)
  have td : (nI s - nI t).toInt = (s : Int) - t := by rw [tp_sub (by omega) (by omega), ts, tt]
  have t0 : (0 : Int32).toInt = 0 := by decide
  unfold wpX11_carries
  by_cases q1 : nI a &&& nI b = 0
  · refine tp_cT q1 ?_
    by_cases q2 : tq_bc x ≤ 2 * tq_bc (nI a ||| nI b)
    · refine tp_dT q2 (tp_rkS hp hpn e14 (tp_rkS hp hpn e14 ?_))
      have lt : tp_rk M (nI b) pn < tp_rk M (nI a) pn ↔ t < s := by rw [s2, t2, tp_lt, ts, tt]; omega
      have eq : tp_rk M (nI a) pn = tp_rk M (nI b) pn ↔ s = t := by rw [s2, t2, tp_eq, ts, tt]; omega
      rw [s2, t2]
      by_cases q3 : t < s
      · rw [tp_bt ⟨q1, q2, Or.inl (lt.mpr q3)⟩] at h
        exact tp_dT (by rw [tp_lt, td]; omega) ⟨tp_nb1, h⟩
      · refine tp_dF (by rw [tp_lt, td]; omega) ?_
        by_cases q4 : s = t
        · refine tp_cT (by rw [tp_eq, td]; omega) ?_
          have ab : nI a ||| nI b = 0 ↔ nI a = 0 := by
            rw [bi_or]
            constructor
            · intro z
              have := (nI_eq (a := a ||| b) (b := 0) (Nat.lt_trans (Nat.or_lt_two_pow ha hb) (by omega)) (by omega)).mp z
              have l := Nat.left_le_or (n := a) (m := b)
              rw [show a = 0 by omega]; rfl
            · intro z
              have a0 := (nI_eq (a := a) (b := 0) (by omega) (by omega)).mp z
              subst a0
              rw [tp_rk0 pn hpn] at s2
              have s0 : 0 = s := (nI_eq (a := 0) (b := s) (by omega) (by omega)).mp s2
              have b0 := tp_bits0 (n := b) (by omega) hpn hb (t3 (by omega))
              subst b0
              rfl
          by_cases q5 : nI a ||| nI b = 0
          · rw [tp_bf (fun z => z.2.2.elim (fun z => q3 (lt.mp z)) (fun z => z.2.1 (ab.mp q5)))] at h
            exact tp_dT q5 ⟨tp_nb0, h⟩
          · refine tp_dF q5 (tp_hrS hp hpn e14 (tp_hrS hp hpn e14 ?_))
            by_cases q6 : tp_hr M (nI a) pn = tp_hr M (nI a ||| nI b) pn
            · rw [tp_bt ⟨q1, q2, Or.inr ⟨eq.mpr q4, fun z => q5 (ab.mpr z), q6⟩⟩] at h
              exact tp_cT q6 ⟨tp_nb1, h⟩
            · rw [tp_bf (fun z => z.2.2.elim (fun z => q3 (lt.mp z)) (fun z => q6 z.2.2))] at h
              exact tp_cF q6 ⟨tp_nb0, h⟩
        · rw [tp_bf (fun z => z.2.2.elim (fun z => q3 (lt.mp z)) (fun z => q4 (eq.mp z.1)))] at h
          exact tp_cF (by rw [tp_eq, td]; omega) ⟨tp_nb0, h⟩
    · rw [tp_bf (fun z => q2 z.2.1)] at h
      exact tp_dF q2 h
  · rw [tp_bf (fun z => q1 z.1)] at h
    exact tp_cF q1 h
end
