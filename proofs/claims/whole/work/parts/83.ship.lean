/-! pure: ships and voyages that are made -/
/-- behind a Ship's constructor -/
theorem tp_sinit {post : tq_Nn → tq_St → Prop} {N : tq_Nn} {S : tq_St} {o : Nat} {p1 p2 p3 : Int32} (h1 : ¬ o < 1) (h2 : N 1 o = 3) (h3 : N 0 0 = o + 1) (hz : ∀ t : Nat, S 1 o t = 0) (r0 : N 0 0 + 3 ≤ tq_CX) (r1 : N 0 1 + 174 ≤ tq_CY)
    (h : ∀ (N1 : tq_Nn) (S1 : tq_St), tp_mono N N1 → N1 8 o = 1 → N1 54 o = 1 → N1 55 o = 1 → N1 56 o = 1 → N1 0 0 = N 0 0 + 3 → N1 0 1 = N 0 1 + 174 → (∀ k i : Nat, ¬ (i = o ∧ (k = 1 ∨ k = 8 ∨ k = 54 ∨ k = 55 ∨ k = 56)) → S1 k i = S k i) → S1 8 o 0 = p1 → S1 8 o 1 = p2 → S1 8 o 2 = p3 → S1 8 o 3 = 0 → S1 8 o 5 = 0 → S1 8 o 6 = -1 → S1 8 o 7 = 0 → S1 54 o = (fun _ => 0) → S1 55 o = (fun _ => 0) → S1 56 o = (fun _ => 0) → post N1 S1) : wpX8_init post N S o p1 p2 p3 := by
  unfold wpX8_init
  simp only [forall_eq, tp_na0, tp_na1]
  refine ⟨h1, h2, h3, by omega, by omega, by omega, by omega, by omega, by omega, ?_, ?_, ?_, ?_⟩
  · simp (disch := decide) only [tq_cpe, tq_upe, tq_upj, tq_upk, tq_cpk]; decide
  · simp (disch := decide) only [tq_cpe, tq_upe, tq_upj, tq_upk, tq_cpk]; decide
  · simp (disch := decide) only [tq_cpe, tq_upe, tq_upj, tq_upk, tq_cpk]; decide
  refine h _ _ ?_ ?_ ?_ ?_ ?_ ?_ ?_ (fun k i q => ?_) ?_ ?_ ?_ ?_ ?_ ?_ ?_ ?_ ?_ ?_
  · exact ((tp_mono_na.tr tp_mono_na).tr tp_mono_na).tr tp_mono_pr
  · exact tp_pre (by decide)
  · rw [tp_prk (by decide) (by decide), tp_nak (by decide) (by decide), tp_nak (by decide) (by decide), tp_nae (by decide)]
  · rw [tp_prk (by decide) (by decide), tp_nak (by decide) (by decide), tp_nae (by decide)]
  · rw [tp_prk (by decide) (by decide), tp_nae (by decide)]
  · rw [tp_prk (by decide) (by decide), tp_na0]
  · rw [tp_prk (by decide) (by decide), tp_na1, tp_na1, tp_na1]
  · have q1 : ¬ (k = 1 ∧ i = o) := fun z => q ⟨z.2, by simp [z.1]⟩
    have q7 : ¬ (k = 8 ∧ i = o) := fun z => q ⟨z.2, by simp [z.1]⟩
    have q50 : ¬ (k = 54 ∧ i = o) := fun z => q ⟨z.2, by simp [z.1]⟩
    have q51 : ¬ (k = 55 ∧ i = o) := fun z => q ⟨z.2, by simp [z.1]⟩
    have q52 : ¬ (k = 56 ∧ i = o) := fun z => q ⟨z.2, by simp [z.1]⟩
    simp only [tq_cp_out q7, tq_cp_out q50, tq_cp_out q51, tq_cp_out q52, tq_up_out q1]
  · simp (disch := decide) only [tq_cpe, tq_upe, tq_upj, tq_upk, tq_cpk, reduceIte, Nat.reduceEqDiff, hz]
  · simp (disch := decide) only [tq_cpe, tq_upe, tq_upj, tq_upk, tq_cpk, reduceIte, Nat.reduceEqDiff, hz]
  · simp (disch := decide) only [tq_cpe, tq_upe, tq_upj, tq_upk, tq_cpk, reduceIte, Nat.reduceEqDiff, hz]
  · simp (disch := decide) only [tq_cpe, tq_upe, tq_upj, tq_upk, tq_cpk, reduceIte, Nat.reduceEqDiff, hz]
  · simp (disch := decide) only [tq_cpe, tq_upe, tq_upj, tq_upk, tq_cpk, reduceIte, Nat.reduceEqDiff, hz]
  · simp (disch := decide) only [tq_cpe, tq_upe, tq_upj, tq_upk, tq_cpk, reduceIte, Nat.reduceEqDiff, hz]
  · simp (disch := decide) only [tq_cpe, tq_upe, tq_upj, tq_upk, tq_cpk, reduceIte, Nat.reduceEqDiff, hz]
  · simp (disch := decide) only [tq_cpe, tq_upe, tq_upj, tq_upk, tq_cpk, reduceIte, Nat.reduceEqDiff, hz]
  · simp (disch := decide) only [tq_cpe, tq_upe, tq_upj, tq_upk, tq_cpk, reduceIte, Nat.reduceEqDiff, hz]
  · simp (disch := decide) only [tq_cpe, tq_upe, tq_upj, tq_upk, tq_cpk, reduceIte, Nat.reduceEqDiff, hz]
theorem RR_addS {c h w d pn P Sh V E A t r eb : Nat} {G : Nat → Nat → Nat → Nat} {C : Nat → Nat → Nat} {OL : Nat → List Nat} {N : tq_Nn} {S M : tq_St} {N2 : tq_Nn} {S2 : tq_St} {e c1 o : Nat} {x : Int32} (h0 : RR c h w d pn P Sh V E A t r eb G C OL N S M) (hS8 : Sh < 8) (ho : o ≤ 3) (hm : tp_mono N N2) (hS : ∀ k i : Nat, (k ∈ tq_dyn → N k i = 1) → (k = 1 → i = 0) → k ≠ 19 → k ≠ 20 → S2 k i = S k i) (hL : tp_L N2 (S2 19) (S2 20) (tp_G G 19 0 Sh e) (tp_C C 19 0 c1) 19 20 8 0 (Sh + 1))
    (n1 : N2 54 e = 1) (n2 : N2 55 e = 1) (n3 : N2 56 e = 1) (f0 : S2 8 e 0 = nI Sh) (f1 : S2 8 e 1 = nI o) (f2 : S2 8 e 2 = x) (f3 : S2 8 e 3 = 0) (f5 : S2 8 e 5 = 0) (f6 : S2 8 e 6 = -1) (f7 : S2 8 e 7 = 0) (g1 : S2 54 e = (fun _ => 0)) (g2 : S2 55 e = (fun _ => 0)) (g3 : S2 56 e = (fun _ => 0)) (hro2 : q_ro c P V (tp_C C 19 0 c1) N2) : RR c h w d pn P (Sh + 1) V E A t r eb (tp_G G 19 0 Sh e) (tp_C C 19 0 c1) OL N2 S2 (tq_up (tq_up (tq_up (tq_up M 122 0 Sh (nI o)) 123 0 Sh x) 130 0 Sh (-1)) 64 0 21 (nI (Sh + 1))) := by
  obtain ⟨hsc, hss, har, hpl, hlg, hsh, hpe, hmo, hpr, hsr, hpa, hkn, hst, hpm, hsi, hab, hsm, hvo, hvm, hbi, hlb, hiv, hod, hol, hoi, hfi, hli, had, hro⟩ := h0
  have st : ∀ k : Nat, k ∉ tq_dyn → k ≠ 1 → k ≠ 19 → S2 k = S k := fun k z1 z2 z3 => funext (fun i => hS k i (fun y => absurd y z1) (fun y => absurd y z2) z3 (fun y => z1 (by subst y; decide)))
  have o1 : S2 1 0 = S 1 0 := hS 1 0 (fun z => absurd z (by decide)) (fun _ => rfl) (by decide) (by decide)
  have dy : ∀ k : Nat, k ∈ tq_dyn → k ≠ 20 → ∀ i, N k i = 1 → S2 k i = S k i := fun k h1 h3 i h2 => hS k i (fun _ => h2) (fun z => absurd h1 (by subst z; decide)) (fun z => absurd h1 (by subst z; decide)) h3
  have mo : ∀ k : Nat, k ∈ tq_dyn → ∀ i, N k i = 1 → N2 k i = 1 := fun k h1 i h2 => hm k i (fun z => absurd h1 (by subst z; decide)) (fun z => absurd h1 (by subst z; decide)) (fun z => absurd h1 (by subst z; decide)) h2
  obtain ⟨l1, l2, l3, l4, l5, l6, l7, l8⟩ := id hli
  have gg : ∀ a b y : Nat, a ≠ 19 → tp_G G 19 0 Sh e a b y = G a b y := fun a b y z => by simp [tp_G, z]
  have g19 : ∀ s, s < Sh → tp_G G 19 0 Sh e 19 0 s = G 19 0 s := fun s hs => by simp [tp_G, Nat.ne_of_lt hs]
  have g19e : tp_G G 19 0 Sh e 19 0 Sh = e := by simp [tp_G]
  have cc : ∀ a b : Nat, a ≠ 19 → tp_C C 19 0 c1 a b = C a b := fun a b z => by simp [tp_C, z]
  have sp : ∀ n : Nat, n < Sh + 1 → n < Sh ∨ n = Sh := fun n hn => by omega
  have z0 := hsm.2.2 Sh (Nat.le_refl _) hS8
  refine ⟨?_, ?_, ?_, ?_, ?_, ?_, ?_, ?_, ?_, ?_, ?_, ?_, ?_, ?_, ?_, ?_, ?_, ?_, ?_, ?_, ?_, ?_, ?_, ?_, ?_, ?_, ?_, ?_, hro2⟩
  · obtain ⟨a1, a2, a3, a4, a5, a6, a7, a8, a9, b1, b2, b3, b4, b5⟩ := hsc
    refine ⟨?_, ?_, ?_, tq_upe, ?_, ?_, ?_, ?_, ?_, b1, b2, b3, by omega, b5⟩
    · simpa (disch := decide) only [tq_upk, tq_upj] using a1
    · simpa (disch := decide) only [tq_upk, tq_upj] using a2
    · simpa (disch := decide) only [tq_upk, tq_upj] using a3
    · simpa (disch := decide) only [tq_upk, tq_upj] using a5
    · simpa (disch := decide) only [tq_upk, tq_upj] using a6
    · simpa (disch := decide) only [tq_upk, tq_upj] using a7
    · simpa (disch := decide) only [tq_upk, tq_upj] using a8
    · simpa (disch := decide) only [tq_upk, tq_upj] using a9
  · unfold q_ss at hss ⊢
    rw [o1, st 3 (by decide) (by decide) (by decide), st 4 (by decide) (by decide) (by decide), st 5 (by decide) (by decide) (by decide)]
    simpa (disch := decide) only [tq_upk, tq_upj] using hss
  · unfold q_ar at har ⊢
    rw [st 13 (by decide) (by decide) (by decide), st 14 (by decide) (by decide) (by decide), st 21 (by decide) (by decide) (by decide), st 25 (by decide) (by decide) (by decide), st 26 (by decide) (by decide) (by decide), st 28 (by decide) (by decide) (by decide), st 30 (by decide) (by decide) (by decide), st 32 (by decide) (by decide) (by decide), st 41 (by decide) (by decide) (by decide), st 43 (by decide) (by decide) (by decide), st 45 (by decide) (by decide) (by decide), st 46 (by decide) (by decide) (by decide), st 47 (by decide) (by decide) (by decide), st 48 (by decide) (by decide) (by decide), st 49 (by decide) (by decide) (by decide)]
    simpa (disch := decide) only [tq_upk, tq_upj] using har
  · unfold q_pl at hpl ⊢
    rw [st 2 (by decide) (by decide) (by decide), st 31 (by decide) (by decide) (by decide)]
    simpa (disch := decide) only [tq_upk, tq_upj] using hpl
  · unfold q_lg at hlg ⊢
    rw [st 24 (by decide) (by decide) (by decide)]
    simpa (disch := decide) only [tq_upk, tq_upj] using hlg
  · unfold q_sh at hsh ⊢
    rw [st 6 (by decide) (by decide) (by decide)]
    simpa (disch := decide) only [tq_upk, tq_upj] using hsh
  · unfold q_pe at hpe ⊢
    simpa (disch := decide) only [tq_upk, tq_upj] using hpe
  · unfold q_mo at hmo ⊢
    simpa (disch := decide) only [tq_upk, tq_upj] using hmo
  · unfold q_pr at hpr ⊢
    simpa (disch := decide) only [tq_upk, tq_upj] using hpr
  · unfold q_sr at hsr ⊢
    simpa (disch := decide) only [tq_upk, tq_upj] using hsr
  · intro n hn
    have h7 := (l1.2 n hn).2.1
    obtain ⟨a1, a2, a3, a4⟩ := hpa n hn
    rw [gg 15 0 n (by decide)]
    unfold q_pb
    rw [dy 7 (by decide) (by decide) _ h7]
    simp (disch := decide) only [tq_upk]
    exact ⟨mo 50 (by decide) _ a1, mo 51 (by decide) _ a2, mo 52 (by decide) _ a3, a4⟩
  · intro n p hn hp
    rw [gg 15 0 n (by decide), dy 50 (by decide) (by decide) _ (hpa n hn).1]
    simp (disch := decide) only [tq_upk]
    exact hkn n p hn hp
  · intro n s hn hs hk
    simp (disch := decide) only [tq_upk] at hk ⊢
    rw [gg 15 0 n (by decide), dy 51 (by decide) (by decide) _ (hpa n hn).2.1]; exact hst n s hn hs hk
  · unfold q_pm at hpm ⊢
    simpa (disch := decide) only [tq_upk, tq_upj, q_pn] using hpm
  · intro s hs
    rcases sp s hs with hs | rfl
    · have h8 := (l2.2 s hs).2.1
      obtain ⟨a1, a2, a3, a4, a5, a6, a7, a8, a9, a10⟩ := hsi s hs
      rw [g19 s hs, dy 8 (by decide) (by decide) _ h8, dy 54 (by decide) (by decide) _ a1, dy 55 (by decide) (by decide) _ a2]
      have e1 : (tq_up (tq_up (tq_up (tq_up M 122 0 Sh (nI o)) 123 0 Sh x) 130 0 Sh (-1)) 64 0 21 (nI (Sh + 1))) 122 0 s = M 122 0 s := by simp (disch := decide) only [tq_upk]; rw [tq_upj (by omega)]
      have e2 : (tq_up (tq_up (tq_up (tq_up M 122 0 Sh (nI o)) 123 0 Sh x) 130 0 Sh (-1)) 64 0 21 (nI (Sh + 1))) 123 0 s = M 123 0 s := by simp (disch := decide) only [tq_upk]; rw [tq_upj (by omega), tq_upk (by decide)]
      have e3 : (tq_up (tq_up (tq_up (tq_up M 122 0 Sh (nI o)) 123 0 Sh x) 130 0 Sh (-1)) 64 0 21 (nI (Sh + 1))) 130 0 s = M 130 0 s := by simp (disch := decide) only [tq_upk]; rw [tq_upj (by omega), tq_upk (by decide), tq_upk (by decide)]
      rw [e1, e2, e3]
      simp (disch := decide) only [tq_upk]
      exact ⟨mo 54 (by decide) _ a1, mo 55 (by decide) _ a2, mo 56 (by decide) _ a3, a4, a5, a6, a7, a8, a9, a10⟩
    · rw [g19e, g1, g2]
      simp (disch := decide) only [tq_upk, tq_upe]
      refine ⟨n1, n2, n3, f0, f1, f2, f3.trans z0.1.symm, f5.trans z0.2.1.symm, f6, fun _ => ⟨f7.trans z0.2.2.1.symm, fun q hq => (z0.2.2.2.1 q hq).symm, fun q hq => (z0.2.2.2.2.1 q hq).symm⟩⟩
  · intro s n hs hn
    simp (disch := decide) only [tq_upk]
    rcases sp s hs with hs | rfl
    · rw [g19 s hs, dy 56 (by decide) (by decide) _ (hsi s hs).2.2.1]; exact hab s n hs hn
    · rw [g19e, g3]; exact (z0.2.2.2.2.2 n hn).symm
  · obtain ⟨a1, a2, a3⟩ := hsm
    refine ⟨fun s hs => ?_, ?_, fun s q1 q2 => ?_⟩
    · rcases sp s hs with hs | rfl
      · rw [g19 s hs, dy 8 (by decide) (by decide) _ (l2.2 s hs).2.1]
        have e1 : (tq_up (tq_up (tq_up (tq_up M 122 0 Sh (nI o)) 123 0 Sh x) 130 0 Sh (-1)) 64 0 21 (nI (Sh + 1))) 122 0 s = M 122 0 s := by simp (disch := decide) only [tq_upk]; rw [tq_upj (by omega)]
        have e3 : (tq_up (tq_up (tq_up (tq_up M 122 0 Sh (nI o)) 123 0 Sh x) 130 0 Sh (-1)) 64 0 21 (nI (Sh + 1))) 130 0 s = M 130 0 s := by simp (disch := decide) only [tq_upk]; rw [tq_upj (by omega), tq_upk (by decide), tq_upk (by decide)]
        rw [e1, e3]
        simp (disch := decide) only [tq_upk]
        exact a1 s hs
      · simp (disch := decide) only [tq_upk, tq_upe]
        rw [z0.1]
        exact ⟨⟨o, ho, rfl⟩, by decide, by decide, fun z => absurd z (by decide)⟩
    · simpa (disch := decide) only [tq_upk] using a2
    · simp (disch := decide) only [tq_upk]
      exact a3 s (by omega) q2
  · intro v hv
    have h9 := (l3.2 v hv).2.1
    obtain ⟨a1, a2, a4⟩ := hvo v hv
    rw [gg 22 0 v (by decide), dy 9 (by decide) (by decide) _ h9, dy 57 (by decide) (by decide) _ a1, dy 58 (by decide) (by decide) _ a2]
    simp (disch := decide) only [tq_upk]
    exact ⟨mo 57 (by decide) _ a1, mo 58 (by decide) _ a2, a4⟩
  · unfold q_vm at hvm ⊢
    simpa (disch := decide) only [tq_upk, tq_upj] using hvm
  · intro k n hk
    simp (disch := decide) only [tq_upk] at hk
    rw [gg 17 0 k (by decide), gg 15 0 n (by decide)]; exact hbi k n hk
  · intro p h1 h2
    rw [st 2 (by decide) (by decide) (by decide)]
    simp (disch := decide) only [tq_upk]
    rcases hlb p h1 h2 with q | ⟨n, q1, q2, q3, q4, q5⟩
    · exact Or.inl q
    · exact Or.inr ⟨n, q1, q2, q3, by rw [gg 15 0 n (by decide)]; exact q4, q5⟩
  · unfold q_iv at hiv ⊢
    rw [st 2 (by decide) (by decide) (by decide)]
    simpa (disch := decide) only [tq_upk, tq_upj] using hiv
  · intro n hn hk
    simp (disch := decide) only [tq_upk] at hk ⊢
    have hq := q_or_fr (hod n hn hk) (hpa n hn).2.2.1 hm (dy 10 (by decide) (by decide)) (dy 11 (by decide) (by decide)) (dy 52 (by decide) (by decide)) (dy 53 (by decide) (by decide)) (dy 59 (by decide) (by decide)) (dy 60 (by decide) (by decide))
    rw [gg 15 0 n (by decide)]
    exact q_or_gc hq (fun a b x h1 => gg a b x (by omega)) (fun a b h1 => cc a b (by omega)) rfl rfl rfl
  · unfold q_ol at hol ⊢
    simpa (disch := decide) only [tq_upk, tq_upj] using hol
  · intro p k n hp hk
    rw [gg 36 p k (by decide), gg 15 0 n (by decide)]; exact hoi p k n hp hk
  · intro p j x g hp hj
    simp (disch := decide) only [tq_upk] at hj
    rw [gg 38 p j (by decide), gg 15 0 x (by decide), gg 52 _ g (by decide)]; exact hfi p j x g hp hj
  · simp (disch := decide) only [q_li, tq_upk]
    have lf : ∀ kl kd ek i n : Nat, kd ∈ tq_dyn → kd ≠ 20 → ek ∈ tq_dyn → kl ≠ 19 → S2 kl = S kl → tp_L N (S kl) (S kd) G C kl kd ek i n → tp_L N2 (S2 kl) (S2 kd) (tp_G G 19 0 Sh e) (tp_C C 19 0 c1) kl kd ek i n := by
      intro kl kd ek i n h1 q1 h2 q4 h4 h5
      refine tp_L_fr h5 (by rw [h4]) (by rw [h4]) (fun z => dy kd h1 q1 _ z) (mo kd h1) (mo ek h2) (fun j _ => gg kl i j q4) (cc kl i q4)
    have s36 := st 36 (by decide) (by decide) (by decide)
    have s38 := st 38 (by decide) (by decide) (by decide)
    refine ⟨lf 15 16 7 0 P (by decide) (by decide) (by decide) (by decide) (st 15 (by decide) (by decide) (by decide)) l1, hL, lf 22 23 9 0 V (by decide) (by decide) (by decide) (by decide) (st 22 (by decide) (by decide) (by decide)) l3, lf 17 18 7 0 _ (by decide) (by decide) (by decide) (by decide) (st 17 (by decide) (by decide) (by decide)) l4, fun p hp => lf 36 37 7 p _ (by decide) (by decide) (by decide) (by decide) s36 (l5 p hp), fun p hp => lf 38 39 10 p _ (by decide) (by decide) (by decide) (by decide) s38 (l6 p hp), ?_, ?_⟩
    · rw [s36]; exact l7
    · rw [s38]; exact l8
  · unfold q_ad at had ⊢
    rw [st 33 (by decide) (by decide) (by decide), st 34 (by decide) (by decide) (by decide), st 35 (by decide) (by decide) (by decide)]
    simpa (disch := decide) only [tq_upk, tq_upj] using had
theorem sim_ship {c : Nat} {N : tq_Nn} {S M : tq_St} {p0 p1 : Int32} (hR : tp_R c N S M) (hc : c < 512) : wpX11_ship (fun N1 S1 r => wpX12_ship (fun M1 r1 => r = r1 ∧ tp_R (c + 1) N1 S1 M1) M p0 p1) N S p0 p1 := by
  have hT := hR.tick hc
  obtain ⟨d, pn, P, Sh, V, E, A, t, r, G, C, OL, h0⟩ := id hR
  obtain ⟨hsc, hss, har, hpl, hlg, hsh, hpe, hmo, hpr, hsr, hpa, hkn, hst, hpm, hsi, hab, hsm, hvo, hvm, hbi, hlb, hiv, hod, hol, hoi, hfi, hli, had, hro⟩ := id h0
  obtain ⟨s1, s2, s3, s4, s5, s6, s7, s8, s9, b1, b2, b3, b4, b5, b6, b7, b8, b9, e1, e2⟩ := id hsc
  obtain ⟨x1, x2, x3, x4, x5, x6, x7⟩ := id hss
  obtain ⟨y1, y2, y3, y4, y5, y6, y7, y8, y9, y10, y11, y12, y13, y14, y15⟩ := id har
  obtain ⟨w1, w2, w3, w4, w5, w6⟩ := id hpl
  obtain ⟨l1, l2, l3, l4, l5, l6, l7, l8⟩ := id hli
  obtain ⟨r0, r1, r2⟩ := tp_room hro e2 b3 b5
  have cC := hro.2.2.2.2.2.1
  by_cases h1 : tp_i 0 3 p0
  · obtain ⟨oo, oo3, rfl⟩ := tp_i_lt (m := 4) h1 (by decide)
    simp (disch := decide) only [wpX11_ship, wpX12_ship, tp_isFactory, tp_isPlace, tp_isSort, tp_isSheet, tp_isHolder, tp_isPerson, tp_isPaper, tp_isShip, tp_isVoyage, tp_within, tp_in, tp_mPlace, tp_mFactory, tp_mSort, tp_mBuyer, tp_b0, tp_b1, Classical.not_not, tp_nb0, tp_nb1, tp_nb, true_and, Int32.reduceToInt, s4, tp_len l2, forall_eq, tq_upk, tq_upj, nI_1]
    by_cases h2 : tp_i 1 60 p1
    · by_cases h3 : Sh < 8
      · have k1 : nI Sh < 8 := nI_lt (b := 8) h3 (by decide)
        have k2 : ¬ nI Sh = 8 := fun z => by have := (nI_eq (b := 8) (by omega) (by decide)).mp z; omega
        have k3 : vp_in (nI Sh) 8 := vp_in_nI h3 (by decide)
        have k4 : (nI Sh).toNatClampNeg = Sh := nI_clamp (by omega)
        repeat' (with_reducible first | refine tp_cT (by first | assumption | decide) ?_ | refine tp_cF (by first | assumption | decide) ?_ | refine tp_dT (by first | assumption | decide) ?_ | refine tp_dF (by first | assumption | decide) ?_ | refine And.intro (by first | assumption | decide) ?_ | refine tp_ae ?_)
        refine ⟨by omega, by omega, fun e he0 he1 hfr => ?_⟩
        refine tp_sinit he0 (tp_nae (by decide)) tp_na0 (fun t => by rw [tq_cpe]) (by rw [tp_na0]; omega) (by rw [tp_na1]; omega) (fun N1 S1 n1 n2 n3 n4 n5 n6 n7 n9 q0 q1 q2 q3 q5 q6 q7 q54 q55 q56 => ?_)
        have mN : tp_mono N N1 := tp_mono_n1.tr n1
        have ne : ∀ k i : Nat, (k ∈ tq_dyn → N k i = 1) → (k = 1 → i = 0) → S1 k i = S k i := by
          intro k i z1 z2
          have : ¬ (i = e ∧ (k = 1 ∨ k = 8 ∨ k = 54 ∨ k = 55 ∨ k = 56)) := by
            rintro ⟨rfl, y⟩
            rcases y with rfl | y
            · have := z2 rfl; omega
            · have : k ∈ tq_dyn := by rcases y with rfl | rfl | rfl | rfl <;> decide
              exact hfr k this (z1 this)
          rw [n9 k i this]
          refine tq_cp_out (fun y => ?_)
          have := z2 y.1
          omega
        have k19 : S1 19 = S 19 := funext (fun i => ne 19 i (fun z => absurd z (by decide)) (fun z => absurd z (by decide)))
        have hL : tp_L N1 (S1 19) (S1 20) G C 19 20 8 0 Sh := tp_L_fr l2 (by rw [k19]) (by rw [k19]) (fun z => ne 20 _ (fun _ => z) (fun z => absurd z (by decide))) (fun j hj => mN 20 j (by decide) (by decide) (by decide) hj) (fun j hj => mN 8 j (by decide) (by decide) (by decide) hj) (fun _ _ => rfl) rfl
        have ex : e ≤ tq_CX := by omega
        rw [tp_na0] at n6
        rw [tp_na1] at n7
        refine ⟨tp_L_aok hL (by omega) n2 ex (by omega) (by omega), fun N2 S2 hadd => ?_⟩
        have hN1 : 1 ≤ N2 0 0 := by
          obtain ⟨_, _, _, _, _, _, _, _, q⟩ := id hadd
          rcases q with ⟨q, _⟩ | ⟨_, _, _, _, q⟩
          · rw [q]; omega
          · rw [q, tp_na0]; omega
        obtain ⟨c1, d1, g1, g2, g3, g4, g5, g6, g7, g8, g9, g10, g11, g12⟩ := tp_L_add hL hadd n2 ex (by decide) (by decide) (by decide) (by decide) (by decide)
        have at7 : ∀ k : Nat, k ≠ 19 → k ≠ 20 → S2 k = S1 k := fun k z1 z2 => funext (fun i => g3 k i (fun y => z1 y.1) (fun y => z2 y.1))
        rw [tp_len g1]
        repeat' (with_reducible first | refine tp_cT (by first | assumption | decide) ?_ | refine tp_cF (by first | assumption | decide) ?_ | refine tp_dT (by first | assumption | decide) ?_ | refine tp_dF (by first | assumption | decide) ?_ | refine And.intro (by first | assumption | decide) ?_ | refine tp_ae ?_)
        rw [k4]
        refine ⟨nI_pred Sh, ?_⟩
        have x19 : (tq_cp S 1 e (fun _ => 0)) 19 0 2 = nI Sh := by rw [tq_cpk (by decide)]; exact tp_len l2
        have q := RR_addS (x := p1) (c1 := c1) (e := e) (h0.wk (Nat.le_succ c) (by omega) (Nat.le_succ _) (by omega)) h3 (show oo ≤ 3 by omega) (mN.tr g2) (fun k i z1 z2 z3 z4 => by rw [at7 k z3 z4]; exact ne k i z1 z2) g1 (g2 54 e (by decide) (by decide) (by decide) n3) (g2 55 e (by decide) (by decide) (by decide) n4) (g2 56 e (by decide) (by decide) (by decide) n5)
          (by rw [at7 8 (by decide) (by decide), q0]; exact tp_len l2) (by rw [at7 8 (by decide) (by decide), q1]) (by rw [at7 8 (by decide) (by decide), q2]) (by rw [at7 8 (by decide) (by decide), q3]) (by rw [at7 8 (by decide) (by decide), q5]) (by rw [at7 8 (by decide) (by decide), q6]) (by rw [at7 8 (by decide) (by decide), q7]) (by rw [at7 54 (by decide) (by decide), q54]) (by rw [at7 55 (by decide) (by decide), q55]) (by rw [at7 56 (by decide) (by decide), q56]) ?_
        · exact ⟨d, pn, P, _, V, E, A, t, r, _, _, OL, q⟩
        · obtain ⟨a1, a2, a3, a4, a5, a6, a7, a8, a9⟩ := hro
          have e1 : tp_CS (tp_C C 19 0 c1) + C 19 0 = tp_CS C + c1 := by
            unfold tp_CS
            simp [tp_C]
            omega
          refine ⟨by omega, by omega, hN1, ?_, ?_, ?_, ?_, ?_, ?_⟩
          · simp [tp_C]; exact a4
          · simp [tp_C]; exact a5
          · simp [tp_C]; exact g10 (by omega) cC
          · simp [tp_C]; exact a7
          · intro p hp; simp [tp_C]; exact a8 p hp
          · intro p hp; simp [tp_C]; exact a9 p hp
      · have k1 : Sh = 8 := by omega
        subst k1
        have k2 : ¬ nI 8 < 8 := by decide
        have k3 : nI 8 = 8 := rfl
        repeat' (with_reducible first | refine tp_cT (by first | assumption | decide) ?_ | refine tp_cF (by first | assumption | decide) ?_ | refine tp_dT (by first | assumption | decide) ?_ | refine tp_dF (by first | assumption | decide) ?_ | refine And.intro (by first | assumption | decide) ?_ | refine tp_ae ?_)
        first | exact ⟨rfl, hT⟩ | exact hT
    · repeat' (with_reducible first | refine tp_cT (by first | assumption | decide) ?_ | refine tp_cF (by first | assumption | decide) ?_ | refine tp_dT (by first | assumption | decide) ?_ | refine tp_dF (by first | assumption | decide) ?_ | refine And.intro (by first | assumption | decide) ?_ | refine tp_ae ?_)
      first | exact ⟨rfl, hT⟩ | exact hT
  · simp (disch := decide) only [wpX11_ship, wpX12_ship, tp_isFactory, tp_isPlace, tp_isSort, tp_isSheet, tp_isHolder, tp_isPerson, tp_isPaper, tp_isShip, tp_isVoyage, tp_within, tp_in, tp_mPlace, tp_mFactory, tp_mSort, tp_mBuyer, tp_b0, tp_b1, Classical.not_not, tp_nb0, tp_nb1, tp_nb, true_and, Int32.reduceToInt]
    repeat' (with_reducible first | refine tp_cT (by first | assumption | decide) ?_ | refine tp_cF (by first | assumption | decide) ?_ | refine tp_dT (by first | assumption | decide) ?_ | refine tp_dF (by first | assumption | decide) ?_ | refine And.intro (by first | assumption | decide) ?_ | refine tp_ae ?_)
    first | exact ⟨rfl, hT⟩ | exact hT
