/-! pure: how many bits -/
theorem bc_and {k a m p q : Nat} (ha : a < 2 ^ k) (hp : p < 2 ^ k) : (2 ^ k * m + a) &&& (2 ^ k * q + p) = 2 ^ k * (m &&& q) + (a &&& p) := by
  apply Nat.eq_of_testBit_eq
  intro i
  rw [Nat.testBit_and, Nat.testBit_two_pow_mul_add _ ha, Nat.testBit_two_pow_mul_add _ hp, Nat.testBit_two_pow_mul_add _ (Nat.lt_of_le_of_lt Nat.and_le_left ha)]
  by_cases h : i < k
  · rw [if_pos h, if_pos h, if_pos h, Nat.testBit_and]
  · rw [if_neg h, if_neg h, if_neg h, Nat.testBit_and]
def bc8 (a : Nat) : Nat := a % 2 + a / 2 % 2 + a / 4 % 2 + a / 8 % 2 + a / 16 % 2 + a / 32 % 2 + a / 64 % 2 + a / 128 % 2
/-- the first three steps, in one byte, when a bit comes from above -/
def bcA (a h : Nat) : Nat := a - ((a / 2 + 128 * h) &&& 85)
theorem bc_s1 : ∀ a : Fin 256, ∀ h : Fin 2, ((a.1 / 2 + 128 * h.1) &&& 85) = ((a.1 / 2) &&& 85) ∧ ((a.1 / 2) &&& 85) ≤ a.1 := by decide +kernel
theorem bc_s2 : ∀ a : Fin 256, ∀ h : Fin 4, ((a.1 / 4 + 64 * h.1) &&& 51) = ((a.1 / 4) &&& 51) ∧ ((a.1 &&& 51) + ((a.1 / 4) &&& 51) < 256) := by decide +kernel
theorem bc_s3 : ∀ a : Fin 256, (let x := a.1 - ((a.1 / 2) &&& 85); let y := (x &&& 51) + ((x / 4) &&& 51); y + y / 16 < 256 ∧ y / 16 < 16 ∧ y % 16 ≤ 4 ∧ y / 16 ≤ 4 ∧ ((y + y / 16) &&& 15) = bc8 a.1) := by decide +kernel
theorem bc_and3 {m2 m1 m0 q2 q1 q0 : Nat} (a1 : m1 < 256) (a0 : m0 < 256) (b1 : q1 < 256) (b0 : q0 < 256) : (65536 * m2 + 256 * m1 + m0) &&& (65536 * q2 + 256 * q1 + q0) = 65536 * (m2 &&& q2) + 256 * (m1 &&& q1) + (m0 &&& q0) := by
  have h1 := bc_and (k := 8) (a := m0) (m := 256 * m2 + m1) (p := q0) (q := 256 * q2 + q1) a0 b0
  have h2 := bc_and (k := 8) (a := m1) (m := m2) (p := q1) (q := q2) a1 b1
  rw [show (2 : Nat) ^ 8 = 256 from rfl] at h1 h2
  rw [h2] at h1
  rw [show 65536 * m2 + 256 * m1 + m0 = 256 * (256 * m2 + m1) + m0 by omega, show 65536 * q2 + 256 * q1 + q0 = 256 * (256 * q2 + q1) + q0 by omega, h1]
  omega
theorem bc_t1 : ∀ a : Fin 256, ((a.1 / 2) &&& 21845) = ((a.1 / 2) &&& 85) := by decide +kernel
theorem bc_t2 : ∀ a : Fin 256, (a.1 &&& 13107) = (a.1 &&& 51) ∧ ((a.1 / 4) &&& 13107) = ((a.1 / 4) &&& 51) := by decide +kernel
theorem bc_t3 : ∀ a : Fin 256, (a.1 &&& 3855) = (a.1 &&& 15) ∧ (a.1 &&& 15) = a.1 % 16 := by decide +kernel
theorem bc8_le : ∀ a : Fin 256, bc8 a.1 ≤ 8 := by decide +kernel
def bcN1 (n : Nat) : Nat := n - ((n / 2) &&& 1431655765)
def bcN2 (x : Nat) : Nat := (x &&& 858993459) + ((x / 4) &&& 858993459)
def bcN3 (y : Nat) : Nat := (y + y / 16) &&& 252645135
theorem bc_n1 {a b c : Nat} (ha : a < 256) (hb : b < 256) (hc : c < 256) : bcN1 (65536 * c + 256 * b + a) = 65536 * (c - ((c / 2) &&& 85)) + 256 * (b - ((b / 2) &&& 85)) + (a - ((a / 2) &&& 85)) := by
  unfold bcN1
  have e : (65536 * c + 256 * b + a) / 2 = 65536 * (c / 2) + 256 * (b / 2 + 128 * (c % 2)) + (a / 2 + 128 * (b % 2)) := by omega
  have s1 := bc_s1 ⟨a, ha⟩ ⟨b % 2, by omega⟩
  have s2 := bc_s1 ⟨b, hb⟩ ⟨c % 2, by omega⟩
  have s3 := bc_s1 ⟨c, hc⟩ ⟨0, by omega⟩
  have t := bc_t1 ⟨c, hc⟩
  have h := bc_and3 (m2 := c / 2) (m1 := b / 2 + 128 * (c % 2)) (m0 := a / 2 + 128 * (b % 2)) (q2 := 21845) (q1 := 85) (q0 := 85) (by omega) (by omega) (by decide) (by decide)
  simp only at s1 s2 s3 t
  rw [s1.1, s2.1, t] at h
  rw [e, show (1431655765 : Nat) = 65536 * 21845 + 256 * 85 + 85 from rfl, h]
  have := s1.2; have := s2.2; have := s3.2
  omega
theorem bc_n2 {a b c : Nat} (ha : a < 256) (hb : b < 256) (hc : c < 256) : bcN2 (65536 * c + 256 * b + a) = 65536 * ((c &&& 51) + ((c / 4) &&& 51)) + 256 * ((b &&& 51) + ((b / 4) &&& 51)) + ((a &&& 51) + ((a / 4) &&& 51)) := by
  unfold bcN2
  have e : (65536 * c + 256 * b + a) / 4 = 65536 * (c / 4) + 256 * (b / 4 + 64 * (c % 4)) + (a / 4 + 64 * (b % 4)) := by omega
  have s1 := bc_s2 ⟨a, ha⟩ ⟨b % 4, by omega⟩
  have s2 := bc_s2 ⟨b, hb⟩ ⟨c % 4, by omega⟩
  have t := bc_t2 ⟨c, hc⟩
  have h := bc_and3 (m2 := c / 4) (m1 := b / 4 + 64 * (c % 4)) (m0 := a / 4 + 64 * (b % 4)) (q2 := 13107) (q1 := 51) (q0 := 51) (by omega) (by omega) (by decide) (by decide)
  have h2 := bc_and3 (m2 := c) (m1 := b) (m0 := a) (q2 := 13107) (q1 := 51) (q0 := 51) (by omega) (by omega) (by decide) (by decide)
  simp only at s1 s2 t
  rw [s1.1, s2.1, t.2] at h
  rw [t.1] at h2
  rw [e, show (858993459 : Nat) = 65536 * 13107 + 256 * 51 + 51 from rfl, h, h2]
  omega
theorem bc_n3 {a b c : Nat} (ha : a / 16 ≤ 4) (ha2 : a % 16 ≤ 4) (hb : b / 16 ≤ 4) (hb2 : b % 16 ≤ 4) (hc : c / 16 ≤ 4) (hc2 : c % 16 ≤ 4) : bcN3 (65536 * c + 256 * b + a) = 65536 * ((c + c / 16) &&& 15) + 256 * ((b + b / 16) &&& 15) + ((a + a / 16) &&& 15) := by
  unfold bcN3
  have e : (65536 * c + 256 * b + a) + (65536 * c + 256 * b + a) / 16 = 65536 * (c + c / 16) + 256 * (b + b / 16 + 16 * (c % 16)) + (a + a / 16 + 16 * (b % 16)) := by omega
  have h := bc_and3 (m2 := c + c / 16) (m1 := b + b / 16 + 16 * (c % 16)) (m0 := a + a / 16 + 16 * (b % 16)) (q2 := 3855) (q1 := 15) (q0 := 15) (by omega) (by omega) (by decide) (by decide)
  have t1 := bc_t3 ⟨c + c / 16, by omega⟩
  have t2 := bc_t3 ⟨b + b / 16 + 16 * (c % 16), by omega⟩
  have t3 := bc_t3 ⟨a + a / 16 + 16 * (b % 16), by omega⟩
  have t4 := bc_t3 ⟨b + b / 16, by omega⟩
  have t5 := bc_t3 ⟨a + a / 16, by omega⟩
  simp only at t1 t2 t3 t4 t5
  rw [t1.1, t2.2, t3.2] at h
  rw [e, show (252645135 : Nat) = 65536 * 3855 + 256 * 15 + 15 from rfl, h, t4.2, t5.2]
  omega
/-- the whole of it -/
def bcN (n : Nat) : Nat := (bcN3 (bcN2 (bcN1 n)) + bcN3 (bcN2 (bcN1 n)) / 256 + (bcN3 (bcN2 (bcN1 n)) + bcN3 (bcN2 (bcN1 n)) / 256) / 65536) &&& 63
theorem bc_all {a b c : Nat} (ha : a < 256) (hb : b < 256) (hc : c < 256) : bcN (65536 * c + 256 * b + a) = bc8 a + bc8 b + bc8 c := by
  have sa := bc_s3 ⟨a, ha⟩
  have sb := bc_s3 ⟨b, hb⟩
  have sc := bc_s3 ⟨c, hc⟩
  simp only at sa sb sc
  have la := bc8_le ⟨a, ha⟩
  have lb := bc8_le ⟨b, hb⟩
  have lc := bc8_le ⟨c, hc⟩
  simp only at la lb lc
  have e : bcN3 (bcN2 (bcN1 (65536 * c + 256 * b + a))) = 65536 * bc8 c + 256 * bc8 b + bc8 a := by
    rw [bc_n1 ha hb hc, bc_n2 (by omega) (by omega) (by omega), bc_n3 sa.2.2.2.1 sa.2.2.1 sb.2.2.2.1 sb.2.2.1 sc.2.2.2.1 sc.2.2.1, sa.2.2.2.2, sb.2.2.2.2, sc.2.2.2.2]
  unfold bcN
  rw [e, show (63 : Nat) = 2 ^ 6 - 1 from rfl, Nat.and_two_pow_sub_one_eq_mod]
  clear e sa sb sc ha hb hc
  generalize bc8 a = x at la ⊢
  generalize bc8 b = y at lb ⊢
  generalize bc8 c = z at lc ⊢
  have d1 : (65536 * z + 256 * y + x) / 256 = 256 * z + y := by omega
  rw [d1]
  have d2 : (65536 * z + 256 * y + x + (256 * z + y)) / 65536 = z := by omega
  rw [d2, show (2 : Nat) ^ 6 = 64 from rfl]
  have d3 : 65536 * z + 256 * y + x + (256 * z + y) + z = 64 * (1028 * z + 4 * y) + (x + y + z) := by omega
  rw [d3, Nat.mul_add_mod, Nat.mod_eq_of_lt (by omega)]
