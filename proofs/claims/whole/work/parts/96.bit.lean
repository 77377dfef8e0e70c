/-! pure: one bit -/
theorem bi_msb {n : Nat} (h : n < 2 ^ 31) : (BitVec.ofNat 32 n).msb = false := by
  rw [BitVec.msb_eq_decide, decide_eq_false_iff_not, BitVec.toNat_ofNat, Nat.mod_eq_of_lt (by omega)]
  omega
theorem bi_sar {n : Nat} {k : Int32} {i : Nat} (h : n < 2 ^ 31) (hk : (k.toBitVec.smod 32).toNat = i) : nI n >>> k = nI (n / 2 ^ i) := by
  apply Int32.toBitVec_inj.mp
  show (BitVec.ofNat 32 n).sshiftRight' (k.toBitVec.smod 32) = BitVec.ofNat 32 (n / 2 ^ i)
  rw [BitVec.sshiftRight', hk, BitVec.sshiftRight_eq_of_msb_false (bi_msb h)]
  apply BitVec.eq_of_toNat_eq
  rw [BitVec.toNat_ushiftRight, BitVec.toNat_ofNat, BitVec.toNat_ofNat, Nat.mod_eq_of_lt (by omega), Nat.shiftRight_eq_div_pow, Nat.mod_eq_of_lt (Nat.lt_of_le_of_lt (Nat.div_le_self _ _) (by omega))]
theorem bi_amt : ∀ i : Fin 20, ((nI i.1 &&& 31).toBitVec.smod 32).toNat = i.1 := by decide +kernel
theorem tp_bit_n {n i : Nat} (h : n < 2 ^ 31) (hi : i < 20) : tp_bit (nI n) i = nI (n / 2 ^ i % 2) := by
  unfold tp_bit
  rw [bi_sar h (bi_amt ⟨i, hi⟩), show (1 : Int32) = nI 1 from rfl, bi_and, Nat.and_one_is_mod]
theorem tp_bit_b {n i : Nat} (h : n < 2 ^ 31) (hi : i < 20) : tp_b (tp_bit (nI n) i = 1) = nI (n / 2 ^ i % 2) := by
  have e := tp_bit_n h hi
  by_cases q : tp_bit (nI n) i = 1
  · rw [tp_bt q, ← e, q]
  · rw [tp_bf q]
    rcases tp_bit_c (nI n) i with z | z
    · rw [← e, z]
    · exact absurd z q
theorem tp_bits {n : Nat} (h : n < 2 ^ 20) : tq_bc (nI n) = tp_cnt (fun i => tp_bit (nI n) i = 1) 20 := by
  rw [bi_tq (by omega)]
  simp only [tp_cnt]
  rw [tp_bit_b (i := 0) (by omega) (by decide)]
  rw [tp_bit_b (i := 1) (by omega) (by decide)]
  rw [tp_bit_b (i := 2) (by omega) (by decide)]
  rw [tp_bit_b (i := 3) (by omega) (by decide)]
  rw [tp_bit_b (i := 4) (by omega) (by decide)]
  rw [tp_bit_b (i := 5) (by omega) (by decide)]
  rw [tp_bit_b (i := 6) (by omega) (by decide)]
  rw [tp_bit_b (i := 7) (by omega) (by decide)]
  rw [tp_bit_b (i := 8) (by omega) (by decide)]
  rw [tp_bit_b (i := 9) (by omega) (by decide)]
  rw [tp_bit_b (i := 10) (by omega) (by decide)]
  rw [tp_bit_b (i := 11) (by omega) (by decide)]
  rw [tp_bit_b (i := 12) (by omega) (by decide)]
  rw [tp_bit_b (i := 13) (by omega) (by decide)]
  rw [tp_bit_b (i := 14) (by omega) (by decide)]
  rw [tp_bit_b (i := 15) (by omega) (by decide)]
  rw [tp_bit_b (i := 16) (by omega) (by decide)]
  rw [tp_bit_b (i := 17) (by omega) (by decide)]
  rw [tp_bit_b (i := 18) (by omega) (by decide)]
  rw [tp_bit_b (i := 19) (by omega) (by decide)]
  rw [show (0 : Int32) = nI 0 from rfl]
  simp only [nI_add]
  congr 1
  unfold bc8
  rw [show n % 256 % 2 = n / 2 ^ 0 % 2 by omega]
  rw [show n % 256 / 2 % 2 = n / 2 ^ 1 % 2 by omega]
  rw [show n % 256 / 4 % 2 = n / 2 ^ 2 % 2 by omega]
  rw [show n % 256 / 8 % 2 = n / 2 ^ 3 % 2 by omega]
  rw [show n % 256 / 16 % 2 = n / 2 ^ 4 % 2 by omega]
  rw [show n % 256 / 32 % 2 = n / 2 ^ 5 % 2 by omega]
  rw [show n % 256 / 64 % 2 = n / 2 ^ 6 % 2 by omega]
  rw [show n % 256 / 128 % 2 = n / 2 ^ 7 % 2 by omega]
  rw [show n / 256 % 256 % 2 = n / 2 ^ 8 % 2 by omega]
  rw [show n / 256 % 256 / 2 % 2 = n / 2 ^ 9 % 2 by omega]
  rw [show n / 256 % 256 / 4 % 2 = n / 2 ^ 10 % 2 by omega]
  rw [show n / 256 % 256 / 8 % 2 = n / 2 ^ 11 % 2 by omega]
  rw [show n / 256 % 256 / 16 % 2 = n / 2 ^ 12 % 2 by omega]
  rw [show n / 256 % 256 / 32 % 2 = n / 2 ^ 13 % 2 by omega]
  rw [show n / 256 % 256 / 64 % 2 = n / 2 ^ 14 % 2 by omega]
  rw [show n / 256 % 256 / 128 % 2 = n / 2 ^ 15 % 2 by omega]
  rw [show n / 65536 % 2 = n / 2 ^ 16 % 2 by omega]
  rw [show n / 65536 / 2 % 2 = n / 2 ^ 17 % 2 by omega]
  rw [show n / 65536 / 4 % 2 = n / 2 ^ 18 % 2 by omega]
  rw [show n / 65536 / 8 % 2 = n / 2 ^ 19 % 2 by omega]
  rw [show n / 65536 / 16 % 2 = 0 by omega]
  rw [show n / 65536 / 32 % 2 = 0 by omega]
  rw [show n / 65536 / 64 % 2 = 0 by omega]
  rw [show n / 65536 / 128 % 2 = 0 by omega]
  generalize n / 2 ^ 0 % 2 = g0
  generalize n / 2 ^ 1 % 2 = g1
  generalize n / 2 ^ 2 % 2 = g2
  generalize n / 2 ^ 3 % 2 = g3
  generalize n / 2 ^ 4 % 2 = g4
  generalize n / 2 ^ 5 % 2 = g5
  generalize n / 2 ^ 6 % 2 = g6
  generalize n / 2 ^ 7 % 2 = g7
  generalize n / 2 ^ 8 % 2 = g8
  generalize n / 2 ^ 9 % 2 = g9
  generalize n / 2 ^ 10 % 2 = g10
  generalize n / 2 ^ 11 % 2 = g11
  generalize n / 2 ^ 12 % 2 = g12
  generalize n / 2 ^ 13 % 2 = g13
  generalize n / 2 ^ 14 % 2 = g14
  generalize n / 2 ^ 15 % 2 = g15
  generalize n / 2 ^ 16 % 2 = g16
  generalize n / 2 ^ 17 % 2 = g17
  generalize n / 2 ^ 18 % 2 = g18
  generalize n / 2 ^ 19 % 2 = g19
  clear h
  omega
