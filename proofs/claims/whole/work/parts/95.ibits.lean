/-! pure: bits of an int -/
theorem bi_and (a b : Nat) : nI a &&& nI b = nI (a &&& b) := by
  apply Int32.toBitVec_inj.mp
  show BitVec.ofNat 32 a &&& BitVec.ofNat 32 b = BitVec.ofNat 32 (a &&& b)
  exact BitVec.ofNat_and.symm
theorem bi_sub {a b : Nat} (h : b ≤ a) : nI a - nI b = nI (a - b) := by
  have : nI a = nI (a - b) + nI b := by rw [nI_add]; congr 1; omega
  rw [this, Int32.add_sub_cancel]
theorem bi_shr {a : Nat} (h : a < 2 ^ 32) (k : Int32) (m : Nat) (hk : (k.toUInt32 &&& Int32.toUInt32 31).toNat = m) (hm : m < 32) : ((nI a).toUInt32 >>> (k.toUInt32 &&& Int32.toUInt32 31)).toInt32 = nI (a / 2 ^ m) := by
  apply Int32.toBitVec_inj.mp
  apply BitVec.eq_of_toNat_eq
  have e1 : ((nI a).toUInt32 >>> (k.toUInt32 &&& Int32.toUInt32 31)).toInt32.toBitVec.toNat = ((nI a).toUInt32 >>> (k.toUInt32 &&& Int32.toUInt32 31)).toNat := rfl
  have e2 : (nI a).toUInt32.toNat = a := by
    show (BitVec.ofNat 32 a).toNat = a
    rw [BitVec.toNat_ofNat]; exact Nat.mod_eq_of_lt h
  rw [e1, UInt32.toNat_shiftRight, e2, hk, Nat.mod_eq_of_lt hm, Nat.shiftRight_eq_div_pow]
  show _ = (BitVec.ofNat 32 (a / 2 ^ m)).toNat
  rw [BitVec.toNat_ofNat]
  exact (Nat.mod_eq_of_lt (Nat.lt_of_le_of_lt (Nat.div_le_self _ _) h)).symm
def bi1 (p : Int32) : Int32 := p - (((p.toUInt32 >>> ((1 : Int32).toUInt32 &&& Int32.toUInt32 31)).toInt32) &&& 1431655765)
def bi2 (p : Int32) : Int32 := (p &&& 858993459) + (((p.toUInt32 >>> ((2 : Int32).toUInt32 &&& Int32.toUInt32 31)).toInt32) &&& 858993459)
def bi3 (p : Int32) : Int32 := (p + ((p.toUInt32 >>> ((4 : Int32).toUInt32 &&& Int32.toUInt32 31)).toInt32)) &&& 252645135
def bi4 (p : Int32) : Int32 := p + ((p.toUInt32 >>> ((8 : Int32).toUInt32 &&& Int32.toUInt32 31)).toInt32)
def bi5 (p : Int32) : Int32 := p + ((p.toUInt32 >>> ((16 : Int32).toUInt32 &&& Int32.toUInt32 31)).toInt32)
theorem bi_eq (p : Int32) : tq_bc p = bi5 (bi4 (bi3 (bi2 (bi1 p)))) &&& 63 := rfl
theorem bi_1 {n : Nat} (h : n < 2 ^ 31) : bi1 (nI n) = nI (bcN1 n) := by
  unfold bi1 bcN1
  rw [bi_shr (m := 1) (by omega) 1 (by decide) (by decide), show (1431655765 : Int32) = nI 1431655765 from rfl, bi_and, bi_sub (Nat.le_trans Nat.and_le_left (Nat.div_le_self _ _))]
theorem bi_2 {n : Nat} (h : n < 2 ^ 31) : bi2 (nI n) = nI (bcN2 n) := by
  unfold bi2 bcN2
  rw [bi_shr (m := 2) (by omega) 2 (by decide) (by decide), show (858993459 : Int32) = nI 858993459 from rfl, bi_and, bi_and, nI_add]
theorem bi_3 {n : Nat} (h : n < 2 ^ 31) : bi3 (nI n) = nI (bcN3 n) := by
  unfold bi3 bcN3
  rw [bi_shr (m := 4) (by omega) 4 (by decide) (by decide), show (252645135 : Int32) = nI 252645135 from rfl, nI_add, bi_and]
theorem bi_4 {n : Nat} (h : n < 2 ^ 31) : bi4 (nI n) = nI (n + n / 256) := by
  unfold bi4
  rw [bi_shr (m := 8) (by omega) 8 (by decide) (by decide), nI_add]
theorem bi_5 {n : Nat} (h : n < 2 ^ 31) : bi5 (nI n) = nI (n + n / 65536) := by
  unfold bi5
  rw [bi_shr (m := 16) (by omega) 16 (by decide) (by decide), nI_add]
theorem bi_tq {n : Nat} (h : n < 2 ^ 24) : tq_bc (nI n) = nI (bc8 (n % 256) + bc8 (n / 256 % 256) + bc8 (n / 65536)) := by
  have q1 : bcN1 n ≤ n := Nat.sub_le _ _
  have q2 : bcN2 (bcN1 n) ≤ 2 * n := by
    unfold bcN2
    have a := Nat.and_le_left (n := bcN1 n) (m := 858993459)
    have b := Nat.and_le_left (n := bcN1 n / 4) (m := 858993459)
    omega
  have q3 : bcN3 (bcN2 (bcN1 n)) ≤ 4 * n := by
    unfold bcN3
    have a := Nat.and_le_left (n := bcN2 (bcN1 n) + bcN2 (bcN1 n) / 16) (m := 252645135)
    omega
  rw [bi_eq, bi_1 (by omega), bi_2 (by omega), bi_3 (by omega), bi_4 (by omega), bi_5 (by omega), show (63 : Int32) = nI 63 from rfl, bi_and]
  have := bc_all (a := n % 256) (b := n / 256 % 256) (c := n / 65536) (by omega) (by omega) (by omega)
  rw [show 65536 * (n / 65536) + 256 * (n / 256 % 256) + n % 256 = n by omega] at this
  unfold bcN at this
  rw [this]
