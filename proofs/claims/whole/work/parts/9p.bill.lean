/-! pure: what a factory does: draw -/
theorem tp_binit {post : tq_Nn → tq_St → Prop} {N : tq_Nn} {S : tq_St} {o f : Nat} {p1 day amt : Int32} (h1 : ¬ o < 1) (h2 : N 1 o = 2) (h3 : N 0 0 = o + 1) (hf : f < 5) (hf2 : S 2 f 0 = nI f) (hz : ∀ t : Nat, S 1 o t = 0) (r0 : N 0 0 + 3 ≤ tq_CX) (r1 : N 0 1 + 12 ≤ tq_CY)
    (h : ∀ (N1 : tq_Nn) (S1 : tq_St), tp_new7 N S o N1 S1 → S1 7 o 0 = p1 → S1 7 o 1 = 5 → S1 7 o 2 = nI f → S1 7 o 3 = 0 → S1 7 o 4 = day → S1 7 o 8 = amt → S1 7 o 9 = 0 → S1 7 o 10 = 0 → S1 7 o 11 = -1 → S1 7 o 12 = 0 → S1 7 o 13 = 1 → (∀ q : Nat, q < 5 → S1 50 o q = if q = f then day else -1) → post N1 S1) : wpX1_init post N S o p1 f day amt := by
  have ho : (1 : Nat) ≠ 0 ∧ o ≠ 0 := ⟨by decide, by omega⟩
  unfold wpX1_init wpX3_init_B
  simp only [forall_eq, tp_na0, tp_na1, tq_upk, tq_upj, tq_upe, tq_cpk, tq_cpe, ne_eq, not_false_eq_true, Nat.reduceEqDiff]
  refine ⟨h1, h2, h3, h1, h2, h3, by omega, by omega, by omega, by omega, hf, by omega, by omega, by decide, ?_, by decide, ?_, ?_, by decide, by decide, by decide, ?_⟩
  · rw [tp_nak (by decide) (by decide), tp_nak (by decide) (by decide), tp_nae (by decide)]
  · rw [hf2]; exact vp_in_nI hf (by decide)
  · rw [tp_nak (by decide) (by decide), tp_nak (by decide) (by decide), tp_nak (by decide) (by decide)]; exact h2
  · have hc : (S 2 f 0).toNatClampNeg = f := by rw [hf2]; exact nI_clamp (by omega)
    rw [hc]
    refine h _ _ ⟨?_, ?_, ?_, ?_, ?_, ?_, ?_, fun k i q0 q => ?_, fun k i q => ?_⟩ ?_ ?_ ?_ ?_ ?_ ?_ ?_ ?_ ?_ ?_ ?_ ?_
    · exact ((tp_mono_na.tr tp_mono_na).tr tp_mono_na).tr tp_mono_pr
    · exact tp_pre (by decide)
    · rw [tp_prk (by decide) (by decide), tp_nak (by decide) (by decide), tp_nak (by decide) (by decide), tp_nae (by decide)]
    · rw [tp_prk (by decide) (by decide), tp_nae (by decide)]
    · rw [tp_prk (by decide) (by decide), tp_nak (by decide) (by decide), tp_nae (by decide)]
    · rw [tp_prk (by decide) (by decide), tp_na0]
    · rw [tp_prk (by decide) (by decide), tp_na1, tp_na1, tp_na1]
    · rw [tp_pri q, tp_nai q0 q, tp_nai q0 q, tp_nai q0 q]
    · have q1 : ¬ (k = 1 ∧ i = o) := fun z => q ⟨z.2, by simp [z.1]⟩
      have q7 : ¬ (k = 7 ∧ i = o) := fun z => q ⟨z.2, by simp [z.1]⟩
      have q50 : ¬ (k = 50 ∧ i = o) := fun z => q ⟨z.2, by simp [z.1]⟩
      have q51 : ¬ (k = 51 ∧ i = o) := fun z => q ⟨z.2, by simp [z.1]⟩
      have q52 : ¬ (k = 52 ∧ i = o) := fun z => q ⟨z.2, by simp [z.1]⟩
      simp only [tq_cp_out q7, tq_cp_out q50, tq_cp_out q51, tq_cp_out q52, tq_up_out q1, tq_up_out q50]
    · simp (disch := decide) only [tq_cpe, tq_upe, tq_upj, tq_upk, tq_cpk, reduceIte, Nat.reduceEqDiff, hz]
    · simp (disch := decide) only [tq_cpe, tq_upe, tq_upj, tq_upk, tq_cpk, reduceIte, Nat.reduceEqDiff, hz]
    · simp (disch := decide) only [tq_cpe, tq_upe, tq_upj, tq_upk, tq_cpk, reduceIte, Nat.reduceEqDiff, hz]; exact hf2
    · simp (disch := decide) only [tq_cpe, tq_upe, tq_upj, tq_upk, tq_cpk, reduceIte, Nat.reduceEqDiff, hz]
    · simp (disch := decide) only [tq_cpe, tq_upe, tq_upj, tq_upk, tq_cpk, reduceIte, Nat.reduceEqDiff, hz]
    · simp (disch := decide) only [tq_cpe, tq_upe, tq_upj, tq_upk, tq_cpk, reduceIte, Nat.reduceEqDiff, hz]
    · simp (disch := decide) only [tq_cpe, tq_upe, tq_upj, tq_upk, tq_cpk, reduceIte, Nat.reduceEqDiff, hz]
    · simp (disch := decide) only [tq_cpe, tq_upe, tq_upj, tq_upk, tq_cpk, reduceIte, Nat.reduceEqDiff, hz]
    · simp (disch := decide) only [tq_cpe, tq_upe, tq_upj, tq_upk, tq_cpk, reduceIte, Nat.reduceEqDiff, hz]
    · simp (disch := decide) only [tq_cpe, tq_upe, tq_upj, tq_upk, tq_cpk, reduceIte, Nat.reduceEqDiff, hz]
    · simp (disch := decide) only [tq_cpe, tq_upe, tq_upj, tq_upk, tq_cpk, reduceIte, Nat.reduceEqDiff, hz]
    · intro q hq
      by_cases e : q = f
      · subst e; simp (disch := decide) only [tq_cpe, tq_upe, tq_upj, tq_upk, tq_cpk, reduceIte, Nat.reduceEqDiff, hz]
      · rw [if_neg e, tq_cpk (by decide), tq_upk (by decide), tq_upk (by decide), tq_upk (by decide), tq_upj e]
        simp (disch := decide) only [tq_cpe, tq_upe, tq_upj, tq_upk, tq_cpk, reduceIte, Nat.reduceEqDiff, hz]
        simp only [tq_fl, hq, if_true]
theorem RR_bill {c h w d pn P Sh V E A t r eb : Nat} {G : Nat → Nat → Nat → Nat} {C : Nat → Nat → Nat} {OL : Nat → List Nat} {N : tq_Nn} {S M : tq_St} {N3 : tq_Nn} {S3 : tq_St} {e p num c1 c2 : Nat} {z : Int32} (h0 : RR c h w d pn P Sh V E A t r eb G C OL N S M) (hP : P < 150) (hp1 : 1 ≤ p) (hp : p < 5) (hnum : num ≤ 9999) (hz : z = M 101 0 p + nI num)
    (hcl : ∀ m, m < P → M 110 0 m = 5 → M 111 0 m = nI p → ¬ M 116 m 1 < 2)
    (mm : tp_mono N N3) (fS : ∀ k i, (k ∈ tq_dyn → N k i = 1) → (k = 1 → i = 0) → k ≠ 15 → k ≠ 16 → k ≠ 17 → k ≠ 18 → S3 k i = S k i)
    (n50 : N3 50 e = 1) (n51 : N3 51 e = 1) (n52 : N3 52 e = 1) (f0 : S3 7 e 0 = nI P) (f1 : S3 7 e 1 = 5) (f2 : S3 7 e 2 = nI p) (f3 : S3 7 e 3 = 0) (f4 : S3 7 e 4 = nI d) (f8 : S3 7 e 8 = nI num) (f9 : S3 7 e 9 = 0) (f10 : S3 7 e 10 = 0) (f11 : S3 7 e 11 = -1) (f12 : S3 7 e 12 = 0) (f13 : S3 7 e 13 = 1) (f50 : ∀ q, q < 5 → S3 50 e q = if q = p then nI d else -1)
    (L1 : tp_L N3 (S3 15) (S3 16) (tp_G (tp_G G 15 0 P e) 17 0 (tp_BL P (M 110 0)).length e) (tp_C (tp_C C 15 0 c1) 17 0 c2) 15 16 7 0 (P + 1)) (L4 : tp_L N3 (S3 17) (S3 18) (tp_G (tp_G G 15 0 P e) 17 0 (tp_BL P (M 110 0)).length e) (tp_C (tp_C C 15 0 c1) 17 0 c2) 17 18 7 0 ((tp_BL P (M 110 0)).length + 1))
    (hc1 : c1 ≤ 2400) (hc2 : c2 ≤ 2400) (hc1a : C 15 0 ≤ c1) (hc2a : C 17 0 ≤ c2) (r0 : N3 0 0 + C 15 0 + C 17 0 ≤ N 0 0 + 4 + c1 + c2) (r1 : N3 0 1 + 4 * C 15 0 + 4 * C 17 0 ≤ N 0 1 + 25 + 4 * c1 + 4 * c2) (r2 : 1 ≤ N3 0 0) : RR c h w d pn (P + 1) Sh V E A t r eb (tp_G (tp_G G 15 0 P e) 17 0 (tp_BL P (M 110 0)).length e) (tp_C (tp_C C 15 0 c1) 17 0 c2) OL N3 (tq_up (tq_up S3 2 p 15 (nI (e + 1))) 2 p 1 z) (tq_up (tq_up (tp_wr M P (nI 5) p (nI 0)) 116 P 0 (nI num)) 101 0 p z) := by
  have hpm := h0.2.2.2.2.2.2.2.2.2.2.2.2.2.1
  have hro := h0.2.2.2.2.2.2.2.2.2.2.2.2.2.2.2.2.2.2.2.2.2.2.2.2.2.2.2.2
  have hlb := h0.2.2.2.2.2.2.2.2.2.2.2.2.2.2.2.2.2.2.2.2.1
  have hbi := h0.2.2.2.2.2.2.2.2.2.2.2.2.2.2.2.2.2.2.2.1
  have hab0 := h0.2.2.2.2.2.2.2.2.2.2.2.2.2.2.2.1
  have hsm := h0.2.2.2.2.2.2.2.2.2.2.2.2.2.2.2.2.1
  have hsi := h0.2.2.2.2.2.2.2.2.2.2.2.2.2.2.1
  have hmo := h0.2.2.2.2.2.2.2.1
  have hpl := h0.2.2.2.1
  have hsc := h0.1
  have hd : M 64 0 0 = nI d := hsc.1
  have hd3 := hsc.2.2.2.2.2.2.2.2.2.1
  have hc512 := hsc.2.2.2.2.2.2.2.2.2.2.2.2.2.2.2.2.2.2.2
  have mo := (tp_mo hmo hc512 (by omega)).1 p hp
  have tz : z.toInt = (M 101 0 p).toInt + num := by
    rw [hz, tp_add (by rw [tp_ti (by omega)]; omega) (by rw [tp_ti (by omega)]; omega), tp_ti (by omega)]
  have fS4 : ∀ k i, k ≠ 2 → tq_up (tq_up S3 2 p 15 (nI (e + 1))) 2 p 1 z k i = S3 k i := fun k i h => by rw [tq_upk h, tq_upk h]
  have fK4 : ∀ k, k ≠ 2 → tq_up (tq_up S3 2 p 15 (nI (e + 1))) 2 p 1 z k = S3 k := fun k h => by rw [tq_upk h, tq_upk h]
  have s2 : S3 2 = S 2 := funext (fun i => fS 2 i (fun y => absurd y (by decide)) (fun y => absurd y (by decide)) (by decide) (by decide) (by decide) (by decide))
  have g2 : ∀ p' j, j ≠ 1 → j ≠ 15 → tq_up (tq_up S3 2 p 15 (nI (e + 1))) 2 p 1 z 2 p' j = S 2 p' j := fun p' j h1 h2 => by
    by_cases q : p' = p
    · subst q; rw [tq_upj h1, tq_upj h2, s2]
    · rw [tq_upi q, tq_upi q, s2]
  generalize hS4 : tq_up (tq_up S3 2 p 15 (nI (e + 1))) 2 p 1 z = S4 at fS4 fK4 g2 ⊢
  have g215 : S4 2 p 15 = nI (e + 1) := by rw [← hS4, tq_upj (by decide), tq_upe]
  have g21 : S4 2 p 1 = z := by rw [← hS4, tq_upe]
  have g2o : ∀ p', p' ≠ p → S4 2 p' = S 2 p' := fun p' h => by rw [← hS4, tq_upi h, tq_upi h, s2]
  generalize hW : tq_up (tq_up (tp_wr M P (nI 5) p (nI 0)) 116 P 0 (nI num)) 101 0 p z = W
  have wk : ∀ k, k ≠ 64 → k ≠ 101 → (k < 110 ∨ 113 < k) → k ≠ 115 → k ≠ 116 → W k = M k := fun k z1 z2 z3 z4 z5 => by
    rw [← hW, tq_upk z2, tq_upk z5]; unfold tp_wr
    rw [tq_cpk z4, tq_upk (by omega), tq_upk (by omega), tq_upk (by omega), tq_upk (by omega), tq_upk z1]
  have w64 : ∀ j, j ≠ 9 → W 64 0 j = M 64 0 j := fun j z => by
    rw [← hW, tq_upk (by decide), tq_upk (by decide)]; unfold tp_wr
    rw [tq_cpk (by decide), tq_upk (by decide), tq_upk (by decide), tq_upk (by decide), tq_upk (by decide), tq_upj z]
  have w9 : W 64 0 9 = nI (P + 1) := by rw [← hW]; simp (disch := decide) only [tp_wr, tq_cpk, tq_upk, tq_upe]
  have kP : W 110 0 P = 5 := by rw [← hW]; simp (disch := decide) only [tp_wr, tq_cpk, tq_upk, tq_upe]; rfl
  have kn : ∀ k n, 110 ≤ k → k ≤ 113 → n ≠ P → W k 0 n = M k 0 n := fun k n z1 z2 hn => by
    rw [← hW, tq_upk (by omega), tq_upk (by omega)]; unfold tp_wr
    have ck : k = 110 ∨ k = 111 ∨ k = 112 ∨ k = 113 := by omega
    rcases ck with rfl | rfl | rfl | rfl
    · rw [tq_cpk (by decide), tq_upk (by decide), tq_upk (by decide), tq_upk (by decide), tq_upj hn, tq_upk (by decide)]
    · rw [tq_cpk (by decide), tq_upk (by decide), tq_upk (by decide), tq_upj hn, tq_upk (by decide), tq_upk (by decide)]
    · rw [tq_cpk (by decide), tq_upk (by decide), tq_upj hn, tq_upk (by decide), tq_upk (by decide), tq_upk (by decide)]
    · rw [tq_cpk (by decide), tq_upj hn, tq_upk (by decide), tq_upk (by decide), tq_upk (by decide), tq_upk (by decide)]
  have p111 : W 111 0 P = nI p := by rw [← hW]; simp (disch := decide) only [tp_wr, tq_cpk, tq_upk, tq_upe]
  have p112 : W 112 0 P = nI d := by rw [← hW]; simp (disch := decide) only [tp_wr, tq_cpk, tq_upk, tq_upe]; exact hd
  have p113 : W 113 0 P = nI 0 := by rw [← hW]; simp (disch := decide) only [tp_wr, tq_cpk, tq_upk, tq_upe]
  have p115 : ∀ q, q < 5 → W 115 P q = if q = p then nI d else -1 := fun q hq => by
    rw [← hW, tq_upk (by decide), tq_upk (by decide)]; simp only [tp_wr, tq_cpe]; rw [if_pos hq, hd]
  have p115n : ∀ i, i ≠ P → W 115 i = M 115 i := fun i hi => by
    rw [← hW, tq_upk (by decide), tq_upk (by decide)]; unfold tp_wr
    rw [tq_cpi hi, tq_upk (by decide), tq_upk (by decide), tq_upk (by decide), tq_upk (by decide), tq_upk (by decide)]
  have m116 : tp_wr M P (nI 5) p (nI 0) 116 = M 116 := by
    unfold tp_wr
    rw [tq_cpk (by decide), tq_upk (by decide), tq_upk (by decide), tq_upk (by decide), tq_upk (by decide), tq_upk (by decide)]
  have p116 : W 116 P 0 = nI num := by rw [← hW, tq_upk (by decide), tq_upe]
  have p116j : ∀ j, j ≠ 0 → W 116 P j = M 116 P j := fun j hj => by rw [← hW, tq_upk (by decide), tq_upj hj, m116]
  have p116n : ∀ i, i ≠ P → W 116 i = M 116 i := fun i hi => by rw [← hW, tq_upk (by decide), tq_upi hi, m116]
  have w101 : ∀ q, q ≠ p → W 101 0 q = M 101 0 q := fun q hq => by
    rw [← hW, tq_upj hq, tq_upk (by decide)]; unfold tp_wr
    rw [tq_cpk (by decide), tq_upk (by decide), tq_upk (by decide), tq_upk (by decide), tq_upk (by decide), tq_upk (by decide)]
  have w101p : W 101 0 p = z := by rw [← hW, tq_upe]
  clear hW
  have z0 := hpm.2.2 P (Nat.le_refl _) hP
  have k2 : ¬ W 110 0 P = 2 := by rw [kP]; decide
  have k4 : ¬ W 110 0 P = 4 := by rw [kP]; decide
  have k1 : ¬ W 110 0 P = 1 := by rw [kP]; decide
  have eBL : tp_BL (P + 1) (W 110 0) = tp_BL P (M 110 0) ++ [P] := by
    rw [tp_BL_succ, if_pos kP, tp_BL_cong (fun n hn => kn 110 n (by decide) (by decide) (by omega))]
  have ge : tp_G (tp_G G 15 0 P e) 17 0 (tp_BL P (M 110 0)).length e 15 0 P = e := by simp [tp_G]
  have ge17 : tp_G (tp_G G 15 0 P e) 17 0 (tp_BL P (M 110 0)).length e 17 0 (tp_BL P (M 110 0)).length = e := by simp [tp_G]
  have gG : ∀ x y z : Nat, x ≠ 15 → x ≠ 17 → tp_G (tp_G G 15 0 P e) 17 0 (tp_BL P (M 110 0)).length e x y z = G x y z := fun x y z h1 h2 => by simp [tp_G, h1, h2]
  have gG17 : ∀ k, k < (tp_BL P (M 110 0)).length → tp_G (tp_G G 15 0 P e) 17 0 (tp_BL P (M 110 0)).length e 17 0 k = G 17 0 k := fun k hk => by simp [tp_G, Nat.ne_of_lt hk]
  have gP : ∀ n, n < P → tp_G (tp_G G 15 0 P e) 17 0 (tp_BL P (M 110 0)).length e 15 0 n = G 15 0 n := fun n hn => by simp [tp_G, Nat.ne_of_lt hn]
  refine RR_addP (G2 := tp_G (tp_G G 15 0 P e) 17 0 (tp_BL P (M 110 0)).length e) (C2 := tp_C (tp_C C 15 0 c1) 17 0 c2) h0 hP mm (fun k i z1 z2 z3 _ _ z6 z7 z8 z9 _ => by rw [fS4 k i z3]; exact fS k i z1 z2 z6 z7 z8 z9) ?_ g2 gG gP ?_ ?_ ?_ ?_ ?_ w9 ?_ ?_ ?_ ?_ ?_ ?_ p112 ?_ (fun z => absurd z k1) ?_ ?_ (fun z => absurd z k2) (fun z => absurd z k4) (fun _ _ z => absurd z k2) ?_ ?_ ?_ ?_
  · rw [fS4 3 0 (by decide), fS 3 0 (fun y => absurd y (by decide)) (fun y => absurd y (by decide)) (by decide) (by decide) (by decide) (by decide)]
  · intro x y h1 h2; simp [tp_C, h1, h2]
  · rw [fK4 15 (by decide), fK4 16 (by decide)]; exact L1
  · rw [eBL, fK4 17 (by decide), fK4 18 (by decide), List.length_append, List.length_singleton]; exact L4
  · intro k n hk
    rw [eBL] at hk
    by_cases hl : k < (tp_BL P (M 110 0)).length
    · rw [List.getElem?_append_left hl] at hk
      have hn : n < P := by
        have := List.mem_of_getElem? hk
        unfold tp_BL at this
        exact List.mem_range.mp (List.mem_filter.mp this).1
      rw [gG17 k hl, gP n hn]; exact hbi k n hk
    · have hk2 : k = (tp_BL P (M 110 0)).length := by
        rw [List.getElem?_eq_some_iff] at hk
        obtain ⟨w1, _⟩ := hk
        simp at w1; omega
      subst hk2
      have : P = n := by simpa using hk
      subst this
      rw [ge17, ge]
  · intro j z1 _ _ _ _ _; exact w64 j z1
  · intro k z1 z2 z3 _; exact wk k z1 z2 (by omega) (by omega) (by omega)
  · intro k n z1 z2 z3
    by_cases q : k = 114
    · subst q; rw [wk 114 (by decide) (by decide) (by decide) (by decide) (by decide)]
    · exact kn k n z1 (by omega) z3
  · intro n z; rw [wk 117 (by decide) (by decide) (by decide) (by decide) (by decide)]
  · intro k n z1 z2 z3 z4
    have ck : k = 115 ∨ k = 116 ∨ k = 118 ∨ k = 119 ∨ k = 120 := by omega
    rcases ck with rfl | rfl | rfl | rfl | rfl
    · exact p115n n z4
    · exact p116n n z4
    · rw [wk 118 (by decide) (by decide) (by decide) (by decide) (by decide)]
    · rw [wk 119 (by decide) (by decide) (by decide) (by decide) (by decide)]
    · rw [wk 120 (by decide) (by decide) (by decide) (by decide) (by decide)]
  · rw [ge]
    unfold q_pb
    rw [fS4 7 e (by decide), f0, f1, f2, f3, f4, f9, f8, f13, f10, f11, f12]
    refine ⟨n50, n51, n52, rfl, kP.symm, p111.symm, p113.symm, p112.symm, ?_, ?_, ?_, fun _ => ⟨?_, ?_, ?_⟩⟩
    · rw [wk 114 (by decide) (by decide) (by decide) (by decide) (by decide)]; exact z0.1.symm
    · rw [if_neg k2, if_pos (Or.inr kP)]; exact p116.symm
    · exact ⟨fun _ => by decide, fun _ => kP⟩
    · rw [p116j 1 (by decide)]; exact (z0.2.1 1 (by decide)).symm
    · rw [p116j 2 (by decide), z0.2.1 2 (by decide)]; decide
    · rw [p116j 3 (by decide)]; exact (z0.2.1 3 (by decide)).symm
  · refine ⟨⟨5, by decide, by decide, kP⟩, ⟨p, hp, p111⟩, ⟨0, by decide, p113⟩, ⟨d, Nat.le_refl _, p112⟩, ⟨0, by decide, ?_⟩, fun q hq => ?_, fun _ => ⟨⟨num, hnum, p116⟩, 0, by decide, ?_⟩⟩
    · rw [wk 114 (by decide) (by decide) (by decide) (by decide) (by decide)]; exact z0.1
    · rw [p115 q hq]
      by_cases q2 : q = p
      · rw [if_pos q2, tp_ti (by omega)]; exact Int.le_refl _
      · rw [if_neg q2]
        have : (-1 : Int32).toInt = -1 := by decide
        omega
    · rw [p116j 1 (by decide)]; exact z0.2.1 1 (by decide)
  · intro q hq; rw [ge, fS4 50 e (by decide), f50 q hq, p115 q hq]
  · intro s n hs hn
    have n56 := (hsi s hs).2.2.1
    rw [fS4 56 _ (by decide), fS 56 _ (fun _ => n56) (fun z => absurd z (by decide)) (by decide) (by decide) (by decide) (by decide), wk 120 (by decide) (by decide) (by decide) (by decide) (by decide)]
    exact hab0 s n hs hn
  · intro s z1 z2; rw [wk 120 (by decide) (by decide) (by decide) (by decide) (by decide)]; exact (hsm.2.2 s z1 z2).2.2.2.2.2 P hP
  · obtain ⟨a1, a2, a3, a4, a5, a6⟩ := hpl
    have s31 : S4 31 = S 31 := by
      rw [fK4 31 (by decide)]
      exact funext (fun i => fS 31 i (fun y => absurd y (by decide)) (fun y => absurd y (by decide)) (by decide) (by decide) (by decide) (by decide))
    refine ⟨fun q hq => ?_, fun q hq => ?_, fun q h1 h2 => ?_, fun q h1 h2 => ?_, fun q h1 h2 => ?_, fun q h1 h2 => ?_⟩
    · rw [g2 q 0 (by decide) (by decide)]; exact a1 q hq
    · by_cases q2 : q = p
      · rw [q2, g21, w101p]
      · rw [g2o q q2, w101 q q2]; exact a2 q hq
    · rw [g2 q 3 (by decide) (by decide), wk 103 (by decide) (by decide) (by decide) (by decide) (by decide)]; exact a3 q h1 h2
    · rw [g2 q 4 (by decide) (by decide), wk 103 (by decide) (by decide) (by decide) (by decide) (by decide)]; exact a4 q h1 h2
    · rw [g2 q 5 (by decide) (by decide), wk 103 (by decide) (by decide) (by decide) (by decide) (by decide)]; exact a5 q h1 h2
    · rw [s31, wk 104 (by decide) (by decide) (by decide) (by decide) (by decide)]; exact a6 q h1 h2
  · obtain ⟨a1, a2, a3, a4⟩ := hmo
    unfold q_mo
    rw [wk 128 (by decide) (by decide) (by decide) (by decide) (by decide), wk 105 (by decide) (by decide) (by decide) (by decide) (by decide)]
    refine ⟨fun q hq => ?_, a2, a3, ?_⟩
    · by_cases q2 : q = p
      · rw [q2, w101p]; omega
      · rw [w101 q q2]; exact a1 q hq
    · have k1 := tp_sm_upd (n := 5) (q := p) (f := fun q => (M 101 0 q).toInt) (g := fun q => (W 101 0 q).toInt) hp (fun k _ hk => by show (W 101 0 k).toInt = _; rw [w101 k hk])
      have k2 : (W 101 0 p).toInt = (M 101 0 p).toInt + num := by rw [w101p]; exact tz
      omega
  · intro q h1 h2
    by_cases q2 : q = p
    · subst q2
      refine Or.inr ⟨P, by omega, kP, p111, by rw [ge]; exact g215, fun m hm hmn hk hm1 => ?_⟩
      rw [kn 110 m (by decide) (by decide) hmn] at hk
      rw [kn 111 m (by decide) (by decide) hmn] at hm1
      rw [p116n m hmn]
      exact hcl m (by omega) hk hm1
    · rw [g2o q q2]
      have hPq : ¬ W 111 0 P = nI q := by
        rw [p111]
        intro w
        exact q2 ((nI_eq (by omega) (by omega)).mp w).symm
      rcases hlb q h1 h2 with ⟨y1, y2⟩ | ⟨n, y1, y2, y3, y4, y5⟩
      · refine Or.inl ⟨y1, fun n hn hk => ?_⟩
        by_cases e : n = P
        · rw [e]; exact hPq
        · rw [kn 110 n (by decide) (by decide) e] at hk
          rw [kn 111 n (by decide) (by decide) e]; exact y2 n (by omega) hk
      · refine Or.inr ⟨n, by omega, by rw [kn 110 n (by decide) (by decide) (by omega)]; exact y2, by rw [kn 111 n (by decide) (by decide) (by omega)]; exact y3, by rw [gP n y1]; exact y4, fun m hm hmn hk hm1 => ?_⟩
        by_cases e : m = P
        · rw [e] at hm1; exact absurd hm1 hPq
        · rw [kn 110 m (by decide) (by decide) e] at hk
          rw [kn 111 m (by decide) (by decide) e] at hm1
          rw [p116n m e]; exact y5 m (by omega) hmn hk hm1
  · obtain ⟨a1, a2, a3, a4, a5, a6, a7, a8, a9⟩ := hro
    have e1 : tp_CS (tp_C (tp_C C 15 0 c1) 17 0 c2) + C 15 0 + C 17 0 = tp_CS C + c1 + c2 := by
      unfold tp_CS
      simp [tp_C]
      omega
    refine ⟨by omega, by omega, r2, ?_, ?_, ?_, ?_, ?_, ?_⟩
    · simp [tp_C]; exact hc1
    · simp [tp_C]; exact hc2
    · simp [tp_C]; exact a6
    · simp [tp_C]; exact a7
    · intro p hp; simp [tp_C]; exact a8 p hp
    · intro p hp; simp [tp_C]; exact a9 p hp
