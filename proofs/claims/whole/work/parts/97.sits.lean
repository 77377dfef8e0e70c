/-! pure: who sits -/
theorem bi_or (a b : Nat) : nI a ||| nI b = nI (a ||| b) := by
  apply Int32.toBitVec_inj.mp
  show BitVec.ofNat 32 a ||| BitVec.ofNat 32 b = BitVec.ofNat 32 (a ||| b)
  exact BitVec.ofNat_or.symm
theorem bi_shl : ∀ i : Fin 20, ((1 : Int32) <<< (nI i.1 &&& 31)) = nI (2 ^ i.1) := by decide +kernel
theorem tp_sit_lt {M : tq_St} {x : Int32} : ∀ {k : Nat}, k ≤ 20 → ∃ σ : Nat, σ < 2 ^ k ∧ tp_sit M x k = nI σ
  | 0, _ => ⟨0, by decide, rfl⟩
  | k + 1, hk => by
    obtain ⟨σ, h1, h2⟩ := tp_sit_lt (M := M) (x := x) (k := k) (by omega)
    have h3 : 2 ^ k < 2 ^ (k + 1) := by rw [Nat.pow_succ]; have := Nat.two_pow_pos k; omega
    unfold tp_sit at h2 ⊢
    simp only [tp_it]
    rw [h2]
    by_cases e : M 107 0 k = x
    · rw [if_pos e, bi_shl ⟨k, by omega⟩, bi_or]
      exact ⟨_, Nat.or_lt_two_pow (by omega) h3, rfl⟩
    · rw [if_neg e, Int32.or_zero]
      exact ⟨σ, by omega, rfl⟩
/-- none but those who sit -/
theorem tp_sub_sit {x : Int32} {σ k : Nat} (hs : σ < 2 ^ k) (hk : k ≤ 20) (h : x &&& (nI σ ^^^ (-1)) = 0) : ∃ n : Nat, n < 2 ^ k ∧ x = nI n := by
  have hb : x.toBitVec &&& (BitVec.ofNat 32 σ ^^^ (-1 : Int32).toBitVec) = 0#32 := congrArg Int32.toBitVec h
  refine ⟨x.toBitVec.toNat, ?_, ?_⟩
  · apply Nat.lt_pow_two_of_testBit
    intro i hi
    by_cases h32 : i < 32
    · have hi2 := congrArg (fun b => BitVec.getLsbD b i) hb
      simp only [BitVec.getLsbD_and, BitVec.getLsbD_xor, BitVec.getLsbD_zero] at hi2
      have e1 : (BitVec.ofNat 32 σ).getLsbD i = false := by
        rw [BitVec.getLsbD_ofNat]
        have : σ.testBit i = false := Nat.testBit_lt_two_pow (Nat.lt_of_lt_of_le hs (Nat.pow_le_pow_right (by decide) hi))
        rw [this]; simp
      have e2 : (-1 : Int32).toBitVec.getLsbD i = true := by
        rw [show (-1 : Int32).toBitVec = BitVec.allOnes 32 by decide, BitVec.getLsbD_allOnes]
        simp [h32]
      rw [e1, e2] at hi2
      have hi3 : x.toBitVec.getLsbD i = false := by simpa using hi2
      exact hi3
    · exact Nat.testBit_lt_two_pow (Nat.lt_of_lt_of_le x.toBitVec.isLt (Nat.pow_le_pow_right (by decide) (by omega)))
  · apply Int32.toBitVec_inj.mp
    show x.toBitVec = BitVec.ofNat 32 x.toBitVec.toNat
    rw [BitVec.ofNat_toNat, BitVec.setWidth_eq]
