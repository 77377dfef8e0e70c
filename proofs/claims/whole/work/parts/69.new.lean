/-! pure: papers that are written -/
def tp_wr (M : tq_St) (P : Nat) (k : Int32) (a : Nat) (to : Int32) : tq_St :=
  tq_cp (tq_up (tq_up (tq_up (tq_up (tq_up M 64 0 9 (nI (P + 1))) 110 0 P k) 111 0 P (nI a)) 112 0 P (M 64 0 0)) 113 0 P to) 115 P (fun q => if q < 5 then (if q = a then M 64 0 0 else -1) else M 115 P q)
theorem tp_row (M : tq_St) (k i : Nat) (g : Nat → Int32) : ∀ n : Nat, tp_it (fun j (T : tq_St) => tq_up T k i j (g j)) n M = tq_cp M k i (fun q => if q < n then g q else M k i q)
  | 0 => by
    funext a b
    simp only [tp_it, tq_cp]
    by_cases h : a = k ∧ b = i
    · rw [if_pos h, h.1, h.2]; funext q; simp
    · rw [if_neg h]
  | n + 1 => by
    simp only [tp_it]
    rw [tp_row M k i g n]
    funext a b c
    simp only [tq_up, tq_cp]
    by_cases h1 : a = k
    · by_cases h2 : b = i
      · by_cases h3 : c = n
        · simp [h1, h2, h3]
        · simp only [h1, h2, h3, and_false, if_false, and_self, if_true]
          by_cases h4 : c < n
          · rw [if_pos h4, if_pos (by omega)]
          · rw [if_neg h4, if_neg (by omega)]
      · simp [h1, h2]
    · simp [h1]
theorem tp_write {post : tq_St → Int32 → Prop} {M : tq_St} {P a : Nat} {k to : Int32} (hP : M 64 0 9 = nI P) (hP2 : P < 150) (ha : a < 5) (h : post (tp_wr M P k a to) (nI P)) : wpX12_write post M k (nI a) to := by
  unfold wpX12_write
  refine tp_ae ⟨by rw [hP]; exact vp_in_nI hP2 (by decide), ?_⟩
  refine tp_ae (tp_ae (tp_ae (tp_ae ⟨6, ?_⟩)))
  rw [hP, nI_clamp (by omega), nI_1]
  simp only [tq_upk, tq_upj, ne_eq, not_false_eq_true, Nat.reduceEqDiff]
  generalize hM0 : tq_up (tq_up (tq_up (tq_up (tq_up M 64 0 9 (nI (P + 1))) 110 0 P k) 111 0 P (nI a)) 112 0 P (M 64 0 0)) 113 0 P to = M0
  have h0 : M0 64 0 0 = M 64 0 0 := by rw [← hM0]; simp only [tq_upk, tq_upj, ne_eq, not_false_eq_true, Nat.reduceEqDiff]
  have h115 : M0 115 P = M 115 P := by rw [← hM0]; simp only [tq_upk, ne_eq, not_false_eq_true, Nat.reduceEqDiff]
  have hr := tp_row M0 115 P (fun q => if q = a then M 64 0 0 else -1) 5
  have hz : ∀ i, tp_it (fun j (T : tq_St) => tq_up T 115 P j (if j = a then M 64 0 0 else -1)) i M0 64 0 0 = M 64 0 0 := by
    intro i
    rw [tp_row M0 115 P (fun q => if q = a then M 64 0 0 else -1) i, tq_cpk (by decide), h0]
  refine tp_loop0 (W := fun m T i => wbX12_write_51 post m T (nI a) (nI P) (nI i)) (n := 5) (f := fun j (T : tq_St) => tq_up T 115 P j (if j = a then M 64 0 0 else -1)) (s0 := M0) (fun m => ?_) (fun m i hi hw => ?_)
  · unfold wbX12_write_51
    refine tp_dT (nI_le (a := 5) (b := 5) (by decide) (by decide)) ?_
    rw [hr, h115, ← hM0]
    exact h
  · unfold wbX12_write_51
    refine tp_dF (nI_ge (a := i) (b := 5) hi (by decide)) ⟨vp_in_nI hP2 (by decide), ?_⟩
    have hc : (nI i).toNatClampNeg = i := nI_clamp (by omega)
    have hcP : (nI P).toNatClampNeg = P := nI_clamp (by omega)
    by_cases e : i = a
    · subst e
      refine tp_cT rfl ?_
      unfold wbX12_write_80
      refine ⟨vp_in_nI hi (by decide), by rw [hcP]; exact hP2, tp_ae ?_⟩
      rw [hz i, hc, hcP, nI_1]
      simpa [tp_it] using hw
    · refine tp_cF (fun z => e ((nI_eq (by omega) (by omega)).mp z)) ?_
      unfold wbX12_write_80
      refine ⟨vp_in_nI hi (by decide), by rw [hcP]; exact hP2, tp_ae ?_⟩
      rw [hc, hcP, nI_1]
      simpa [tp_it, e] using hw
/-- behind a Paper's constructor -/
def tp_new7 (N : tq_Nn) (S : tq_St) (o : Nat) (N1 : tq_Nn) (S1 : tq_St) : Prop :=
  tp_mono N N1 ∧ N1 7 o = 1 ∧ N1 50 o = 1 ∧ N1 51 o = 1 ∧ N1 52 o = 1 ∧ N1 0 0 = N 0 0 + 3 ∧ N1 0 1 = N 0 1 + 12 ∧ (∀ k i : Nat, k ≠ 0 → i ≠ o → N1 k i = N k i) ∧ (∀ k i : Nat, ¬ (i = o ∧ (k = 1 ∨ k = 7 ∨ k = 50 ∨ k = 51 ∨ k = 52)) → S1 k i = S k i)
theorem tp_pinit {post : tq_Nn → tq_St → Prop} {N : tq_Nn} {S : tq_St} {o f : Nat} {p1 p2 to day : Int32} (h1 : ¬ o < 1) (h2 : N 1 o = 1) (h3 : N 0 0 = o + 1) (hf : f < 5) (hf2 : S 2 f 0 = nI f) (hz : ∀ t : Nat, S 1 o t = 0) (r0 : N 0 0 + 3 ≤ tq_CX) (r1 : N 0 1 + 12 ≤ tq_CY)
    (h : ∀ (N1 : tq_Nn) (S1 : tq_St), tp_new7 N S o N1 S1 → S1 7 o 0 = p1 → S1 7 o 1 = p2 → S1 7 o 2 = nI f → S1 7 o 3 = to → S1 7 o 4 = day → S1 7 o 8 = 0 → S1 7 o 9 = 0 → S1 7 o 13 = 0 → (∀ q : Nat, q < 5 → S1 50 o q = if q = f then day else -1) → S1 51 o = S 30 f → S1 52 o = (fun _ => 0) → post N1 S1) : wpX3_init post N S o p1 p2 f to day := by
  have ho : (1 : Nat) ≠ 0 ∧ o ≠ 0 := ⟨by decide, by omega⟩
  unfold wpX3_init
  simp only [forall_eq, tp_na0, tp_na1, tq_upk, tq_upj, tq_upe, tq_cpk, tq_cpe, ne_eq, not_false_eq_true, Nat.reduceEqDiff]
  refine ⟨h1, h2, h3, by omega, by omega, by omega, by omega, hf, by omega, by omega, by decide, ?_, by decide, ?_, by decide, by decide, by decide, ?_⟩
  · rw [tp_nak (by decide) (by decide), tp_nak (by decide) (by decide), tp_nae (by decide)]
  · rw [hf2]; exact vp_in_nI hf (by decide)
  · have hc : (S 2 f 0).toNatClampNeg = f := by rw [hf2]; exact nI_clamp (by omega)
    rw [hc]
    refine h _ _ ⟨?_, ?_, ?_, ?_, ?_, ?_, ?_, fun k i q0 q => ?_, fun k i q => ?_⟩ ?_ ?_ ?_ ?_ ?_ ?_ ?_ ?_ ?_ ?_ ?_
    · exact ((tp_mono_na.tr tp_mono_na).tr tp_mono_na).tr tp_mono_pr
    · exact tp_pre (by decide)
    · rw [tp_prk (by decide) (by decide), tp_nak (by decide) (by decide), tp_nak (by decide) (by decide), tp_nae (by decide)]
    · rw [tp_prk (by decide) (by decide), tp_nae (by decide)]
    · rw [tp_prk (by decide) (by decide), tp_nak (by decide) (by decide), tp_nae (by decide)]
    · rw [tp_prk (by decide) (by decide), tp_na0]
    · rw [tp_prk (by decide) (by decide), tp_na1, tp_na1, tp_na1]
    · rw [tp_pri q, tp_nai q0 q, tp_nai q0 q, tp_nai q0 q]
    · have q1 : ¬ (k = 1 ∧ i = o) := fun z => q ⟨z.2, by simp [z.1]⟩
      have q7 : ¬ (k = 7 ∧ i = o) := fun z => q ⟨z.2, by simp [z.1]⟩
      have q50 : ¬ (k = 50 ∧ i = o) := fun z => q ⟨z.2, by simp [z.1]⟩
      have q51 : ¬ (k = 51 ∧ i = o) := fun z => q ⟨z.2, by simp [z.1]⟩
      have q52 : ¬ (k = 52 ∧ i = o) := fun z => q ⟨z.2, by simp [z.1]⟩
      simp only [tq_cp_out q7, tq_cp_out q50, tq_cp_out q51, tq_cp_out q52, tq_up_out q1, tq_up_out q50]
    · simp (disch := decide) only [tq_cpe, tq_upe, tq_upj, tq_upk, tq_cpk, reduceIte, Nat.reduceEqDiff, hz]
    · simp (disch := decide) only [tq_cpe, tq_upe, tq_upj, tq_upk, tq_cpk, reduceIte, Nat.reduceEqDiff, hz]
    · simp (disch := decide) only [tq_cpe, tq_upe, tq_upj, tq_upk, tq_cpk, reduceIte, Nat.reduceEqDiff, hz]; exact hf2
    · simp (disch := decide) only [tq_cpe, tq_upe, tq_upj, tq_upk, tq_cpk, reduceIte, Nat.reduceEqDiff, hz]
    · simp (disch := decide) only [tq_cpe, tq_upe, tq_upj, tq_upk, tq_cpk, reduceIte, Nat.reduceEqDiff, hz]
    · simp (disch := decide) only [tq_cpe, tq_upe, tq_upj, tq_upk, tq_cpk, reduceIte, Nat.reduceEqDiff, hz]
    · simp (disch := decide) only [tq_cpe, tq_upe, tq_upj, tq_upk, tq_cpk, reduceIte, Nat.reduceEqDiff, hz]
    · simp (disch := decide) only [tq_cpe, tq_upe, tq_upj, tq_upk, tq_cpk, reduceIte, Nat.reduceEqDiff, hz]
    · intro q hq
      by_cases e : q = f
      · subst e; simp (disch := decide) only [tq_cpe, tq_upe, tq_upj, tq_upk, tq_cpk, reduceIte, Nat.reduceEqDiff, hz]
      · rw [if_neg e, tq_cpk (by decide), tq_upj e]
        simp (disch := decide) only [tq_cpe, tq_upe, tq_upj, tq_upk, tq_cpk, reduceIte, Nat.reduceEqDiff, hz]
        simp only [tq_fl, hq, if_true]
    · simp (disch := decide) only [tq_cpe, tq_upe, tq_upj, tq_upk, tq_cpk, reduceIte, Nat.reduceEqDiff, hz]
    · simp (disch := decide) only [tq_cpe, tq_upe, tq_upj, tq_upk, tq_cpk, reduceIte, Nat.reduceEqDiff, hz]
