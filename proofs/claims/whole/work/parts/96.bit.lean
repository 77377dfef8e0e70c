/-! pure: one bit -/
theorem bi_msb {n : Nat} (h : n < 2 ^ 31) : (BitVec.ofNat 32 n).msb = false := by
  rw [BitVec.msb_eq_decide, decide_eq_false_iff_not, BitVec.toNat_ofNat, Nat.mod_eq_of_lt (by omega)]
  omega
theorem bi_sar {n : Nat} {k : Int32} {i : Nat} (h : n < 2 ^ 31) (hk : (k.toBitVec.smod 32).toNat = i) : nI n >>> k = nI (n / 2 ^ i) := by
  apply Int32.toBitVec_inj.mp
  show (BitVec.ofNat 32 n).sshiftRight' (k.toBitVec.smod 32) = BitVec.ofNat 32 (n / 2 ^ i)
  rw [BitVec.sshiftRight', hk, BitVec.sshiftRight_eq_of_msb_false (bi_msb h)]
  apply BitVec.eq_of_toNat_eq
  rw [BitVec.toNat_ushiftRight, BitVec.toNat_ofNat, BitVec.toNat_ofNat, Nat.mod_eq_of_lt (by omega), Nat.shiftRight_eq_div_pow, Nat.mod_eq_of_lt (Nat.lt_of_le_of_lt (Nat.div_le_self _ _) (by omega))]
theorem bi_amt : ∀ i : Fin 20, ((nI i.1 &&& 31).toBitVec.smod 32).toNat = i.1 := by decide +kernel
theorem tp_bit_n {n i : Nat} (h : n < 2 ^ 31) (hi : i < 20) : tp_bit (nI n) i = nI (n / 2 ^ i % 2) := by
  unfold tp_bit
  rw [bi_sar h (bi_amt ⟨i, hi⟩), show (1 : Int32) = nI 1 from rfl, bi_and, Nat.and_one_is_mod]
