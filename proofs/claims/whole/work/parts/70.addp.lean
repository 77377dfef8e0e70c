/-! pure: a paper more -/
theorem q_or_gc {n e : Nat} {G G2 : Nat → Nat → Nat → Nat} {C C2 : Nat → Nat → Nat} {N : tq_Nn} {S10 S11 S52 S53 S59 S60 : Nat → Nat → Int32} {U U1 : Nat → Int32} {B B1 T T1 : Nat → Nat → Int32} (h : q_or n e G C N S10 S11 S52 S53 S59 S60 U B T) (hG : ∀ a b x : Nat, 50 < a → G2 a b x = G a b x) (hC : ∀ a b : Nat, 50 < a → C2 a b = C a b) (h1 : U1 n = U n) (h2 : B1 n = B n) (h3 : T1 n = T n) : q_or n e G2 C2 N S10 S11 S52 S53 S59 S60 U1 B1 T1 := by
  obtain ⟨g, a1, a2, a3, a4, a5⟩ := h
  refine ⟨g, a1, a2, h1.trans a3, tp_L_fr0 a4 rfl rfl (fun _ => rfl) (fun _ h => h) (fun _ h => h) (fun j _ => hG 52 e j (by decide)) (hC 52 e (by decide)), fun k hk => ?_⟩
  rw [hG 52 e k (by decide), h2, h3]
  obtain ⟨c1, c2, c3, c4, c5, c6, K, c7, c8, c9, c10⟩ := a5 k hk
  refine ⟨c1, c2, c3, c4, c5, c6, K, c7, c8, tp_L_fr0 c9 rfl rfl (fun _ => rfl) (fun _ h => h) (fun _ h => h) (fun j _ => hG 59 _ j (by decide)) (hC 59 _ (by decide)), fun j hj => ?_⟩
  have := c10 j hj
  unfold q_te at this ⊢
  rw [hG 59 _ j (by decide)]; exact this
theorem tp_FL_mem {U : Nat → Int32} {B : Nat → Nat → Int32} {x g : Nat} : ∀ {l : List Nat}, (x, g) ∈ tp_FL U B l → x ∈ l
  | [], h => absurd h (by simp [tp_FL])
  | y :: l, h => by
    simp only [tp_FL, List.mem_append, List.mem_map, List.mem_filter] at h
    rcases h with ⟨q, _, hq⟩ | h
    · have : y = x := (Prod.mk.injEq _ _ _ _ ▸ hq).1
      rw [← this]; exact List.mem_cons_self
    · exact List.mem_cons_of_mem _ (tp_FL_mem h)
theorem tp_BL_succ {P : Nat} {K : Nat → Int32} : tp_BL (P + 1) K = tp_BL P K ++ (if K P = 5 then [P] else []) := by
  unfold tp_BL
  rw [List.range_succ, List.filter_append]
  by_cases h : K P = 5 <;> simp [h]
theorem tp_BL_cong {P : Nat} {K K1 : Nat → Int32} (h : ∀ n, n < P → K1 n = K n) : tp_BL P K1 = tp_BL P K := by
  unfold tp_BL
  apply List.filter_congr
  intro n hn
  rw [h n (List.mem_range.mp hn)]
theorem RR_addP {c h w d pn P Sh V E A t r eb : Nat} {G : Nat → Nat → Nat → Nat} {C : Nat → Nat → Nat} {OL : Nat → List Nat} {N : tq_Nn} {S M : tq_St} {N2 : tq_Nn} {S2 M1 : tq_St} {G2 : Nat → Nat → Nat → Nat} {C2 : Nat → Nat → Nat} (h0 : RR c h w d pn P Sh V E A t r eb G C OL N S M) (hP : P < 150) (hm : tp_mono N N2)
    (hS : ∀ k i : Nat, (k ∈ tq_dyn → N k i = 1) → (k = 1 → i = 0) → k ≠ 2 → k ≠ 3 → k ≠ 12 → k ≠ 15 → k ≠ 16 → k ≠ 17 → k ≠ 18 → k ≠ 56 → S2 k i = S k i) (h3 : S2 3 0 1 = S 3 0 1) (hS2 : ∀ p j : Nat, j ≠ 1 → j ≠ 15 → S2 2 p j = S 2 p j)
    (hG : ∀ a b x : Nat, a ≠ 15 → a ≠ 17 → G2 a b x = G a b x) (hG1 : ∀ n : Nat, n < P → G2 15 0 n = G 15 0 n) (hC : ∀ a b : Nat, a ≠ 15 → a ≠ 17 → C2 a b = C a b)
    (hl1 : tp_L N2 (S2 15) (S2 16) G2 C2 15 16 7 0 (P + 1)) (hl4 : tp_L N2 (S2 17) (S2 18) G2 C2 17 18 7 0 (tp_BL (P + 1) (M1 110 0)).length) (hbi2 : q_bi (P + 1) G2 M1)
    (m64 : ∀ j : Nat, j ≠ 9 → j ≠ 67 → j ≠ 68 → j ≠ 69 → j ≠ 73 → j ≠ 74 → M1 64 0 j = M 64 0 j) (m9 : M1 64 0 9 = nI (P + 1))
    (mk : ∀ k : Nat, k ≠ 64 → k ≠ 101 → (k < 110 ∨ 120 < k) → (k < 170 ∨ 176 < k) → M1 k = M k) (m0 : ∀ k n : Nat, 110 ≤ k → k ≤ 114 → n ≠ P → M1 k 0 n = M k 0 n) (m117 : ∀ n : Nat, n ≠ P → M1 117 0 n = M 117 0 n) (mr : ∀ k n : Nat, 115 ≤ k → k ≤ 120 → k ≠ 117 → n ≠ P → M1 k n = M k n)
    (hb : q_pb P (G2 15 0 P) N2 S2 M1) (hnP : q_pn d P M1) (h112 : M1 112 0 P = nI d) (hkn2 : ∀ p : Nat, p < 5 → S2 50 (G2 15 0 P) p = M1 115 P p) (hst2 : M1 110 0 P = 1 → ∀ s : Nat, s < 4 → S2 51 (G2 15 0 P) s = M1 116 P s) (hab2 : ∀ s n : Nat, s < Sh → n < 150 → S2 56 (G 19 0 s) n = M1 120 n s) (h120 : ∀ s : Nat, Sh ≤ s → s < 8 → M1 120 P s = 0)
    (hod2 : M1 110 0 P = 2 → q_or P (G2 15 0 P) G2 C2 N2 (S2 10) (S2 11) (S2 52) (S2 53) (S2 59) (S2 60) (M1 117 0) (M1 118) (M1 119)) (hiv2 : M1 110 0 P = 4 → ¬ 0 ≤ M1 115 P 0 ∧ M1 113 0 P = 0) (hko : ∀ p : Nat, p < 5 → M1 110 0 P = 2 → M1 113 0 P = nI p → ¬ 0 ≤ M1 115 P p)
    (hpl2 : q_pl S2 M1) (hmo2 : q_mo c (P + 1) M1) (hlb2 : q_lb (P + 1) G2 S2 M1) (hro2 : q_ro c (P + 1) V C2 N2) : RR c h w d pn (P + 1) Sh V E A t r eb G2 C2 OL N2 S2 M1 := by
  obtain ⟨hsc, hss, har, hpl, hlg, hsh, hpe, hmo, hpr, hsr, hpa, hkn, hst, hpm, hsi, hab, hsm, hvo, hvm, hbi, hlb, hiv, hod, hol, hoi, hfi, hli, had, hro⟩ := h0
  have st : ∀ k : Nat, k ∉ tq_dyn → k ∉ [1, 2, 3, 12, 15, 17] → S2 k = S k := fun k h1 h2 => funext (fun i => by
    simp only [List.mem_cons, List.not_mem_nil, or_false, not_or] at h2
    exact hS k i (fun z => absurd z h1) (fun z => absurd z h2.1) h2.2.1 h2.2.2.1 h2.2.2.2.1 h2.2.2.2.2.1 (fun z => h1 (by subst z; decide)) h2.2.2.2.2.2 (fun z => h1 (by subst z; decide)) (fun z => h1 (by subst z; decide)))
  have o1 : S2 1 0 = S 1 0 := hS 1 0 (fun z => absurd z (by decide)) (fun _ => rfl) (by decide) (by decide) (by decide) (by decide) (by decide) (by decide) (by decide) (by decide)
  have dy : ∀ k : Nat, k ∈ tq_dyn → k ≠ 16 → k ≠ 18 → k ≠ 56 → ∀ i, N k i = 1 → S2 k i = S k i := fun k h1 h4 h5 h6 i h2 => hS k i (fun _ => h2) (fun z => absurd h1 (by subst z; decide)) (fun z => absurd h1 (by subst z; decide)) (fun z => absurd h1 (by subst z; decide)) (fun z => absurd h1 (by subst z; decide)) (fun z => absurd h1 (by subst z; decide)) h4 (fun z => absurd h1 (by subst z; decide)) h5 h6
  have mo : ∀ k : Nat, k ∈ tq_dyn → ∀ i, N k i = 1 → N2 k i = 1 := fun k h1 i h2 => hm k i (fun z => absurd h1 (by subst z; decide)) (fun z => absurd h1 (by subst z; decide)) (fun z => absurd h1 (by subst z; decide)) h2
  obtain ⟨l1, l2, l3, l4, l5, l6, l7, l8⟩ := id hli
  have e : ∀ k : Nat, k ≠ 64 → k ≠ 101 → (k < 110 ∨ 120 < k) → (k < 170 ∨ 176 < k) → M1 k = M k := mk
  have gs : ∀ s : Nat, G2 19 0 s = G 19 0 s := fun s => hG 19 0 s (by decide) (by decide)
  have gv : ∀ s : Nat, G2 22 0 s = G 22 0 s := fun s => hG 22 0 s (by decide) (by decide)
  have sp : ∀ n : Nat, n < P + 1 → n < P ∨ n = P := fun n hn => by omega
  have hF : ∀ p, p < 5 → tp_FL (M1 117 0) (M1 118) (OL p) = tp_FL (M 117 0) (M 118) (OL p) := fun p hp => tp_FL_cong (fun x hx => by
    have hx := ((hol p hp).1 x).mp hx
    exact ⟨m117 x (by have := hx.1; omega), mr 118 x (by decide) (by decide) (by decide) (by have := hx.1; omega)⟩)
  have k0 : ∀ k n : Nat, 110 ≤ k → k ≤ 114 → n < P → M1 k 0 n = M k 0 n := fun k n h1 h2 h4 => m0 k n h1 h2 (by omega)
  have kr : ∀ k n : Nat, 115 ≤ k → k ≤ 120 → k ≠ 117 → n < P → M1 k n = M k n := fun k n h1 h2 h4 h5 => mr k n h1 h2 h4 (by omega)
  refine ⟨?_, ?_, ?_, hpl2, ?_, ?_, ?_, hmo2, ?_, ?_, ?_, ?_, ?_, ?_, ?_, ?_, ?_, ?_, ?_, hbi2, hlb2, ?_, ?_, ?_, ?_, ?_, ?_, ?_, hro2⟩
  · obtain ⟨a1, a2, a3, a4, a5, a6, a7, a8, a9, b1, b2, b3, b4, b5, b6⟩ := hsc
    refine ⟨?_, ?_, m9, ?_, ?_, ?_, ?_, ?_, ?_, b1, b2, by omega, b4, b5, b6⟩
    · rw [m64 0 (by decide) (by decide) (by decide) (by decide) (by decide) (by decide)]; exact a1
    · rw [m64 6 (by decide) (by decide) (by decide) (by decide) (by decide) (by decide)]; exact a2
    · rw [m64 21 (by decide) (by decide) (by decide) (by decide) (by decide) (by decide)]; exact a4
    · rw [m64 31 (by decide) (by decide) (by decide) (by decide) (by decide) (by decide)]; exact a5
    · rw [m64 43 (by decide) (by decide) (by decide) (by decide) (by decide) (by decide)]; exact a6
    · rw [m64 45 (by decide) (by decide) (by decide) (by decide) (by decide) (by decide)]; exact a7
    · rw [m64 61 (by decide) (by decide) (by decide) (by decide) (by decide) (by decide)]; exact a8
    · rw [m64 66 (by decide) (by decide) (by decide) (by decide) (by decide) (by decide)]; exact a9
  · unfold q_ss at hss ⊢
    rw [o1, h3, st 4 (by decide) (by decide), st 5 (by decide) (by decide), m64 0 (by decide) (by decide) (by decide) (by decide) (by decide) (by decide), m64 6 (by decide) (by decide) (by decide) (by decide) (by decide) (by decide), m64 43 (by decide) (by decide) (by decide) (by decide) (by decide) (by decide), m64 58 (by decide) (by decide) (by decide) (by decide) (by decide) (by decide), m64 61 (by decide) (by decide) (by decide) (by decide) (by decide) (by decide), m64 55 (by decide) (by decide) (by decide) (by decide) (by decide) (by decide), m64 66 (by decide) (by decide) (by decide) (by decide) (by decide) (by decide)]; exact hss
  · unfold q_ar at har ⊢
    rw [st 13 (by decide) (by decide), st 14 (by decide) (by decide), st 21 (by decide) (by decide), st 25 (by decide) (by decide), st 26 (by decide) (by decide), st 28 (by decide) (by decide), st 30 (by decide) (by decide), st 32 (by decide) (by decide), st 41 (by decide) (by decide), st 43 (by decide) (by decide), st 45 (by decide) (by decide), st 46 (by decide) (by decide), st 47 (by decide) (by decide), st 48 (by decide) (by decide), st 49 (by decide) (by decide), e 107 (by decide) (by decide) (by decide) (by decide), e 108 (by decide) (by decide) (by decide) (by decide), e 126 (by decide) (by decide) (by decide) (by decide), e 156 (by decide) (by decide) (by decide) (by decide), e 157 (by decide) (by decide) (by decide) (by decide), e 159 (by decide) (by decide) (by decide) (by decide), e 102 (by decide) (by decide) (by decide) (by decide), e 105 (by decide) (by decide) (by decide) (by decide), e 160 (by decide) (by decide) (by decide) (by decide), e 151 (by decide) (by decide) (by decide) (by decide), e 152 (by decide) (by decide) (by decide) (by decide), e 153 (by decide) (by decide) (by decide) (by decide), e 154 (by decide) (by decide) (by decide) (by decide), e 165 (by decide) (by decide) (by decide) (by decide), e 163 (by decide) (by decide) (by decide) (by decide)]; exact har
  · unfold q_lg at hlg ⊢
    rw [st 24 (by decide) (by decide), e 144 (by decide) (by decide) (by decide) (by decide)]; exact hlg
  · unfold q_sh at hsh ⊢
    rw [st 6 (by decide) (by decide), e 162 (by decide) (by decide) (by decide) (by decide), e 164 (by decide) (by decide) (by decide) (by decide)]; exact hsh
  · unfold q_pe at hpe ⊢
    rw [e 108 (by decide) (by decide) (by decide) (by decide)]; exact hpe
  · unfold q_pr at hpr ⊢
    rw [e 104 (by decide) (by decide) (by decide) (by decide), e 152 (by decide) (by decide) (by decide) (by decide), e 103 (by decide) (by decide) (by decide) (by decide), e 159 (by decide) (by decide) (by decide) (by decide)]; exact hpr
  · unfold q_sr at hsr ⊢
    rw [e 156 (by decide) (by decide) (by decide) (by decide)]; exact hsr
  · intro n hn
    rcases sp n hn with hn | rfl
    · rw [hG1 n hn]
      have h7 := (l1.2 n hn).2.1
      obtain ⟨a1, a2, a3, a4⟩ := hpa n hn
      unfold q_pb
      rw [dy 7 (by decide) (by decide) (by decide) (by decide) _ h7, k0 110 n (by decide) (by decide) hn, k0 111 n (by decide) (by decide) hn, k0 112 n (by decide) (by decide) hn, k0 113 n (by decide) (by decide) hn, k0 114 n (by decide) (by decide) hn, m117 n (by omega), kr 116 n (by decide) (by decide) (by decide) hn]
      exact ⟨mo 50 (by decide) _ a1, mo 51 (by decide) _ a2, mo 52 (by decide) _ a3, a4⟩
    · exact hb
  · intro n p hn hp
    rcases sp n hn with hn | rfl
    · rw [hG1 n hn, dy 50 (by decide) (by decide) (by decide) (by decide) _ (hpa n hn).1, kr 115 n (by decide) (by decide) (by decide) hn]; exact hkn n p hn hp
    · exact hkn2 p hp
  · intro n s hn hs hk
    rcases sp n hn with hn | rfl
    · rw [k0 110 n (by decide) (by decide) hn] at hk
      rw [hG1 n hn, dy 51 (by decide) (by decide) (by decide) (by decide) _ (hpa n hn).2.1, kr 116 n (by decide) (by decide) (by decide) hn]; exact hst n s hn hs hk
    · exact hst2 hk s hs
  · obtain ⟨a1, a2, a3⟩ := hpm
    refine ⟨fun n hn => ?_, fun n m h1 h2 => ?_, fun n h1 h2 => ?_⟩
    · rcases sp n hn with hn | rfl
      · have := a1 n hn
        unfold q_pn at this ⊢
        rw [k0 110 n (by decide) (by decide) hn, k0 111 n (by decide) (by decide) hn, k0 112 n (by decide) (by decide) hn, k0 113 n (by decide) (by decide) hn, k0 114 n (by decide) (by decide) hn, kr 115 n (by decide) (by decide) (by decide) hn, kr 116 n (by decide) (by decide) (by decide) hn]
        exact this
      · exact hnP
    · rcases sp m h2 with h2 | rfl
      · rw [k0 112 n (by decide) (by decide) (by omega), k0 112 m (by decide) (by decide) h2]; exact a2 n m h1 h2
      · rw [h112, k0 112 n (by decide) (by decide) h1]
        obtain ⟨x, hx1, hx2⟩ := (a1 n h1).2.2.2.1
        have hd := hsc.2.2.2.2.2.2.2.2.2.1
        rw [hx2]; exact nI_le hx1 (by omega)
    · rw [m0 114 n (by decide) (by decide) (by omega), mr 116 n (by decide) (by decide) (by decide) (by omega), mr 120 n (by decide) (by decide) (by decide) (by omega)]
      exact a3 n (by omega) h2
  · intro s hs
    have h8 := (l2.2 s hs).2.1
    obtain ⟨a1, a2, a3, a4⟩ := hsi s hs
    rw [gs, dy 8 (by decide) (by decide) (by decide) (by decide) _ h8, dy 54 (by decide) (by decide) (by decide) (by decide) _ a1, dy 55 (by decide) (by decide) (by decide) (by decide) _ a2, e 122 (by decide) (by decide) (by decide) (by decide), e 123 (by decide) (by decide) (by decide) (by decide), e 124 (by decide) (by decide) (by decide) (by decide), e 125 (by decide) (by decide) (by decide) (by decide), e 130 (by decide) (by decide) (by decide) (by decide), e 128 (by decide) (by decide) (by decide) (by decide), e 127 (by decide) (by decide) (by decide) (by decide), e 129 (by decide) (by decide) (by decide) (by decide)]
    exact ⟨mo 54 (by decide) _ a1, mo 55 (by decide) _ a2, mo 56 (by decide) _ a3, a4⟩
  · intro s n hs hn
    rw [gs]; exact hab2 s n hs hn
  · obtain ⟨a1, a2, a3⟩ := hsm
    refine ⟨fun s hs => ?_, ?_, fun s h1 h2 => ?_⟩
    · rw [gs, dy 8 (by decide) (by decide) (by decide) (by decide) _ (l2.2 s hs).2.1, e 122 (by decide) (by decide) (by decide) (by decide), e 124 (by decide) (by decide) (by decide) (by decide), e 130 (by decide) (by decide) (by decide) (by decide), e 136 (by decide) (by decide) (by decide) (by decide), e 132 (by decide) (by decide) (by decide) (by decide), e 138 (by decide) (by decide) (by decide) (by decide), e 127 (by decide) (by decide) (by decide) (by decide), e 139 (by decide) (by decide) (by decide) (by decide)]; exact a1 s hs
    · rw [e 129 (by decide) (by decide) (by decide) (by decide)]; exact a2
    · obtain ⟨c1, c2, c3, c4, c5, c6⟩ := a3 s h1 h2
      rw [e 124 (by decide) (by decide) (by decide) (by decide), e 125 (by decide) (by decide) (by decide) (by decide), e 128 (by decide) (by decide) (by decide) (by decide), e 127 (by decide) (by decide) (by decide) (by decide), e 129 (by decide) (by decide) (by decide) (by decide)]
      refine ⟨c1, c2, c3, c4, c5, fun n hn => ?_⟩
      by_cases q : n = P
      · subst q; exact h120 s h1 h2
      · rw [mr 120 n (by decide) (by decide) (by decide) q]; exact c6 n hn
  · intro v hv
    have h9 := (l3.2 v hv).2.1
    obtain ⟨a1, a2, a4⟩ := hvo v hv
    rw [gv, dy 9 (by decide) (by decide) (by decide) (by decide) _ h9, dy 57 (by decide) (by decide) (by decide) (by decide) _ a1, dy 58 (by decide) (by decide) (by decide) (by decide) _ a2, e 132 (by decide) (by decide) (by decide) (by decide), e 133 (by decide) (by decide) (by decide) (by decide), e 134 (by decide) (by decide) (by decide) (by decide), e 135 (by decide) (by decide) (by decide) (by decide), e 136 (by decide) (by decide) (by decide) (by decide), e 137 (by decide) (by decide) (by decide) (by decide), e 138 (by decide) (by decide) (by decide) (by decide), e 141 (by decide) (by decide) (by decide) (by decide), e 142 (by decide) (by decide) (by decide) (by decide), e 139 (by decide) (by decide) (by decide) (by decide), e 140 (by decide) (by decide) (by decide) (by decide)]
    exact ⟨mo 57 (by decide) _ a1, mo 58 (by decide) _ a2, a4⟩
  · unfold q_vm at hvm ⊢
    rw [e 134 (by decide) (by decide) (by decide) (by decide), e 138 (by decide) (by decide) (by decide) (by decide), e 137 (by decide) (by decide) (by decide) (by decide)]; exact hvm
  · refine ⟨fun n hn hk => ?_, fun p h1 h2 x hx => ?_⟩
    · rcases sp n hn with hn | rfl
      · rw [k0 110 n (by decide) (by decide) hn] at hk
        rw [k0 113 n (by decide) (by decide) hn]; exact hiv.1 n hn hk
      · exact (hiv2 hk).2
    rw [hS2 p 16 (by decide) (by decide)]
    refine (hiv.2 p h1 h2 x hx).trans ⟨?_, ?_⟩
    · rintro ⟨n, q1, q2, q3, q4, q5⟩
      exact ⟨n, by omega, by rw [k0 110 n (by decide) (by decide) q1]; exact q2, by rw [k0 111 n (by decide) (by decide) q1]; exact q3, by rw [k0 112 n (by decide) (by decide) q1]; exact q4, by rw [kr 115 n (by decide) (by decide) (by decide) q1]; exact q5⟩
    · rintro ⟨n, q1, q2, q3, q4, q5⟩
      rcases sp n q1 with q1 | rfl
      · exact ⟨n, q1, by rw [← k0 110 n (by decide) (by decide) q1]; exact q2, by rw [← k0 111 n (by decide) (by decide) q1]; exact q3, by rw [← k0 112 n (by decide) (by decide) q1]; exact q4, by rw [← kr 115 n (by decide) (by decide) (by decide) q1]; exact q5⟩
      · exact absurd q5 (hiv2 q2).1
  · intro n hn hk
    rcases sp n hn with hn | rfl
    · rw [k0 110 n (by decide) (by decide) hn] at hk
      have hq := q_or_fr (hod n hn hk) (hpa n hn).2.2.1 hm (dy 10 (by decide) (by decide) (by decide) (by decide)) (dy 11 (by decide) (by decide) (by decide) (by decide)) (dy 52 (by decide) (by decide) (by decide) (by decide)) (dy 53 (by decide) (by decide) (by decide) (by decide)) (dy 59 (by decide) (by decide) (by decide) (by decide)) (dy 60 (by decide) (by decide) (by decide) (by decide))
      rw [hG1 n hn]
      exact q_or_gc hq (fun a b x h1 => hG a b x (by omega) (by omega)) (fun a b h1 => hC a b (by omega) (by omega)) (m117 n (by omega)) (kr 118 n (by decide) (by decide) (by decide) hn) (kr 119 n (by decide) (by decide) (by decide) hn)
    · exact hod2 hk
  · intro p hp
    obtain ⟨a1, a2⟩ := hol p hp
    refine ⟨fun n => (a1 n).trans ⟨?_, ?_⟩, ?_⟩
    · rintro ⟨q1, q2, q3, q4⟩
      exact ⟨by omega, by rw [k0 110 n (by decide) (by decide) q1]; exact q2, by rw [k0 113 n (by decide) (by decide) q1]; exact q3, by rw [kr 115 n (by decide) (by decide) (by decide) q1]; exact q4⟩
    · rintro ⟨q1, q2, q3, q4⟩
      rcases sp n q1 with q1 | rfl
      · exact ⟨q1, by rw [← k0 110 n (by decide) (by decide) q1]; exact q2, by rw [← k0 113 n (by decide) (by decide) q1]; exact q3, by rw [← kr 115 n (by decide) (by decide) (by decide) q1]; exact q4⟩
      · exact absurd q4 (hko p hp q2 q3)
    · refine a2.imp_of_mem (fun {x y} hx hy hxy => ?_)
      have hx := ((a1 x).mp hx).1
      have hy := ((a1 y).mp hy).1
      unfold tp_ah at hxy ⊢
      rw [kr 115 x (by decide) (by decide) (by decide) hx, kr 115 y (by decide) (by decide) (by decide) hy]; exact hxy
  · intro p k n hp hk
    have hn := ((hol p hp).1 n).mp (List.mem_of_getElem? hk)
    rw [hG 36 p k (by decide) (by decide), hG1 n hn.1]; exact hoi p k n hp hk
  · intro p j x g hp hj
    rw [hF p hp] at hj
    have hx := ((hol p hp).1 x).mp (tp_FL_mem (List.mem_of_getElem? hj))
    rw [hG 38 p j (by decide) (by decide), hG1 x hx.1, hG 52 _ g (by decide) (by decide)]; exact hfi p j x g hp hj
  · have lf : ∀ kl kd ek i n : Nat, kd ∈ tq_dyn → kd ≠ 16 → kd ≠ 18 → kd ≠ 56 → ek ∈ tq_dyn → kl ≠ 15 → kl ≠ 17 → S2 kl = S kl → tp_L N (S kl) (S kd) G C kl kd ek i n → tp_L N2 (S2 kl) (S2 kd) G2 C2 kl kd ek i n := by
      intro kl kd ek i n h1 q1 q2 q3 h2 q4 q5 h4 h5
      refine tp_L_fr h5 (by rw [h4]) (by rw [h4]) (fun z => dy kd h1 q1 q2 q3 _ z) (mo kd h1) (mo ek h2) (fun j _ => hG kl i j q4 q5) (hC kl i q4 q5)
    have s36 := st 36 (by decide) (by decide)
    have s38 := st 38 (by decide) (by decide)
    refine ⟨hl1, lf 19 20 8 0 Sh (by decide) (by decide) (by decide) (by decide) (by decide) (by decide) (by decide) (st 19 (by decide) (by decide)) l2, lf 22 23 9 0 V (by decide) (by decide) (by decide) (by decide) (by decide) (by decide) (by decide) (st 22 (by decide) (by decide)) l3, hl4, fun p hp => lf 36 37 7 p _ (by decide) (by decide) (by decide) (by decide) (by decide) (by decide) (by decide) s36 (l5 p hp), fun p hp => by rw [hF p hp]; exact lf 38 39 10 p _ (by decide) (by decide) (by decide) (by decide) (by decide) (by decide) (by decide) s38 (l6 p hp), ?_, ?_⟩
    · rw [s36]; exact l7
    · rw [s38]; exact l8
  · unfold q_ad at had ⊢
    rw [st 33 (by decide) (by decide), st 34 (by decide) (by decide), st 35 (by decide) (by decide), e 146 (by decide) (by decide) (by decide) (by decide), e 147 (by decide) (by decide) (by decide) (by decide), e 148 (by decide) (by decide) (by decide) (by decide), e 149 (by decide) (by decide) (by decide) (by decide), e 150 (by decide) (by decide) (by decide) (by decide)]; exact had
