/-! pure: the relation and what lies outside of it -/
theorem q_pg_fr {n g q : Nat} {G : Nat → Nat → Nat → Nat} {C : Nat → Nat → Nat} {N N1 : tq_Nn} {S10 S11 S59 S60 T10 T11 T59 T60 : Nat → Nat → Int32} {M118 M119 : Nat → Int32} (h : q_pg n g q G C N S10 S11 S59 S60 M118 M119) (hq : N 10 q = 1) (hm : tp_mono N N1) (e10 : ∀ i, N 10 i = 1 → T10 i = S10 i) (e11 : ∀ i, N 11 i = 1 → T11 i = S11 i) (e59 : ∀ i, N 59 i = 1 → T59 i = S59 i) (e60 : ∀ i, N 60 i = 1 → T60 i = S60 i) : q_pg n g q G C N1 T10 T11 T59 T60 M118 M119 := by
  obtain ⟨a1, a2, a3, a4, a5, a6, K, a7, a8, a9, a10⟩ := h
  unfold q_pg
  rw [e10 q hq]
  refine ⟨hm _ _ (by decide) (by decide) (by decide) a1, a2, a3, a4, a5, a6, K, a7, a8, ?_, ?_⟩
  · refine tp_L_fr0 a9 ?_ ?_ ?_ (fun j hj => hm _ _ (by decide) (by decide) (by decide) hj) (fun j hj => hm _ _ (by decide) (by decide) (by decide) hj) (fun _ _ => rfl) rfl
    · rw [e59 q a1]
    · rw [e59 q a1]
    · exact fun z => e60 _ z
  · intro k hk
    have := a10 k hk
    unfold q_te at this ⊢
    rw [e11 _ (a9.2 k hk).2.1]
    exact this
theorem q_or_fr {n e : Nat} {G : Nat → Nat → Nat → Nat} {C : Nat → Nat → Nat} {N N1 : tq_Nn} {S10 S11 S52 S53 S59 S60 T10 T11 T52 T53 T59 T60 : Nat → Nat → Int32} {M117 : Nat → Int32} {M118 M119 : Nat → Nat → Int32} (h : q_or n e G C N S10 S11 S52 S53 S59 S60 M117 M118 M119) (he : N 52 e = 1) (hm : tp_mono N N1) (e10 : ∀ i, N 10 i = 1 → T10 i = S10 i) (e11 : ∀ i, N 11 i = 1 → T11 i = S11 i) (e52 : ∀ i, N 52 i = 1 → T52 i = S52 i) (e53 : ∀ i, N 53 i = 1 → T53 i = S53 i) (e59 : ∀ i, N 59 i = 1 → T59 i = S59 i) (e60 : ∀ i, N 60 i = 1 → T60 i = S60 i) : q_or n e G C N1 T10 T11 T52 T53 T59 T60 M117 M118 M119 := by
  obtain ⟨g, a1, a2, a3, a4, a5⟩ := h
  refine ⟨g, a1, a2, a3, ?_, ?_⟩
  · refine tp_L_fr0 a4 ?_ ?_ ?_ (fun j hj => hm _ _ (by decide) (by decide) (by decide) hj) (fun j hj => hm _ _ (by decide) (by decide) (by decide) hj) (fun _ _ => rfl) rfl
    · rw [e52 e he]
    · rw [e52 e he]
    · exact fun z => e53 _ z
  · intro k hk
    exact q_pg_fr (a5 k hk) (a4.2 k hk).2.1 hm e10 e11 e59 e60

theorem RR.fr {c h w d pn P Sh V E A t r eb : Nat} {G : Nat → Nat → Nat → Nat} {C : Nat → Nat → Nat} {OL : Nat → List Nat} {N : tq_Nn} {S M : tq_St} {N1 : tq_Nn} {S1 : tq_St} (h0 : RR c h w d pn P Sh V E A t r eb G C OL N S M) (hm : tp_mono N N1) (hS : ∀ k i : Nat, (k ∈ tq_dyn → N k i = 1) → (k = 1 → i = 0) → k ≠ 3 → k ≠ 12 → S1 k i = S k i) (h3 : S1 3 0 1 = S 3 0 1) (hro1 : q_ro c P V C N1) : RR c h w d pn P Sh V E A t r eb G C OL N1 S1 M := by
  obtain ⟨hsc, hss, har, hpl, hlg, hsh, hpe, hmo, hpr, hsr, hpa, hkn, hst, hpm, hsi, hab, hsm, hvo, hvm, hbi, hlb, hiv, hod, hol, hoi, hfi, hli, had, hro⟩ := h0
  have st : ∀ k : Nat, k ∉ tq_dyn → k ≠ 1 → k ≠ 3 → k ≠ 12 → S1 k = S k := fun k h1 h2 h4 h5 => funext (fun i => hS k i (fun z => absurd z h1) (fun z => absurd z h2) h4 h5)
  have o1 : S1 1 0 = S 1 0 := hS 1 0 (fun z => absurd z (by decide)) (fun _ => rfl) (by decide) (by decide)
  have dy : ∀ k : Nat, k ∈ tq_dyn → ∀ i, N k i = 1 → S1 k i = S k i := fun k h1 i h2 => hS k i (fun _ => h2) (fun z => absurd h1 (by subst z; decide)) (fun z => absurd h1 (by subst z; decide)) (fun z => absurd h1 (by subst z; decide))
  have mo : ∀ k : Nat, k ∈ tq_dyn → ∀ i, N k i = 1 → N1 k i = 1 := fun k h1 i h2 => hm k i (fun z => absurd h1 (by subst z; decide)) (fun z => absurd h1 (by subst z; decide)) (fun z => absurd h1 (by subst z; decide)) h2
  obtain ⟨l1, l2, l3, l4, l5, l6, l7, l8⟩ := id hli
  refine ⟨hsc, ?_, ?_, ?_, ?_, ?_, hpe, hmo, hpr, hsr, ?_, ?_, ?_, hpm, ?_, ?_, ?_, ?_, hvm, hbi, ?_, ?_, ?_, hol, hoi, hfi, ?_, ?_, hro1⟩
  · unfold q_ss at hss ⊢
    rw [o1, h3, st 4 (by decide) (by decide) (by decide) (by decide), st 5 (by decide) (by decide) (by decide) (by decide)]; exact hss
  · unfold q_ar at har ⊢
    rw [st 13 (by decide) (by decide) (by decide) (by decide), st 14 (by decide) (by decide) (by decide) (by decide), st 21 (by decide) (by decide) (by decide) (by decide), st 25 (by decide) (by decide) (by decide) (by decide), st 26 (by decide) (by decide) (by decide) (by decide), st 28 (by decide) (by decide) (by decide) (by decide), st 30 (by decide) (by decide) (by decide) (by decide), st 32 (by decide) (by decide) (by decide) (by decide), st 41 (by decide) (by decide) (by decide) (by decide), st 43 (by decide) (by decide) (by decide) (by decide), st 45 (by decide) (by decide) (by decide) (by decide), st 46 (by decide) (by decide) (by decide) (by decide), st 47 (by decide) (by decide) (by decide) (by decide), st 48 (by decide) (by decide) (by decide) (by decide), st 49 (by decide) (by decide) (by decide) (by decide)]; exact har
  · unfold q_pl at hpl ⊢
    rw [st 2 (by decide) (by decide) (by decide) (by decide), st 31 (by decide) (by decide) (by decide) (by decide)]; exact hpl
  · unfold q_lg at hlg ⊢
    rw [st 24 (by decide) (by decide) (by decide) (by decide)]; exact hlg
  · unfold q_sh at hsh ⊢
    rw [st 6 (by decide) (by decide) (by decide) (by decide)]; exact hsh
  · intro n hn
    have h7 := (l1.2 n hn).2.1
    obtain ⟨a1, a2, a3, a4⟩ := hpa n hn
    unfold q_pb
    rw [dy 7 (by decide) _ h7]
    exact ⟨mo 50 (by decide) _ a1, mo 51 (by decide) _ a2, mo 52 (by decide) _ a3, a4⟩
  · intro n p hn hp
    rw [dy 50 (by decide) _ (hpa n hn).1]; exact hkn n p hn hp
  · intro n s hn hs hk
    rw [dy 51 (by decide) _ (hpa n hn).2.1]; exact hst n s hn hs hk
  · intro s hs
    have h8 := (l2.2 s hs).2.1
    obtain ⟨a1, a2, a3, a4⟩ := hsi s hs
    rw [dy 8 (by decide) _ h8, dy 54 (by decide) _ a1, dy 55 (by decide) _ a2]
    exact ⟨mo 54 (by decide) _ a1, mo 55 (by decide) _ a2, mo 56 (by decide) _ a3, a4⟩
  · intro s n hs hn
    rw [dy 56 (by decide) _ (hsi s hs).2.2.1]; exact hab s n hs hn
  · obtain ⟨a1, a2, a3⟩ := hsm
    refine ⟨fun s hs => ?_, a2, a3⟩
    rw [dy 8 (by decide) _ (l2.2 s hs).2.1]; exact a1 s hs
  · intro v hv
    have h9 := (l3.2 v hv).2.1
    obtain ⟨a1, a2, a4⟩ := hvo v hv
    rw [dy 9 (by decide) _ h9, dy 57 (by decide) _ a1, dy 58 (by decide) _ a2]
    exact ⟨mo 57 (by decide) _ a1, mo 58 (by decide) _ a2, a4⟩
  · unfold q_lb at hlb ⊢
    rw [st 2 (by decide) (by decide) (by decide) (by decide)]; exact hlb
  · unfold q_iv at hiv ⊢
    rw [st 2 (by decide) (by decide) (by decide) (by decide)]; exact hiv
  · intro n hn hk
    exact q_or_fr (hod n hn hk) (hpa n hn).2.2.1 hm (dy 10 (by decide)) (dy 11 (by decide)) (dy 52 (by decide)) (dy 53 (by decide)) (dy 59 (by decide)) (dy 60 (by decide))
  · have lf : ∀ kl kd ek i n : Nat, kd ∈ tq_dyn → ek ∈ tq_dyn → S1 kl = S kl → tp_L N (S kl) (S kd) G C kl kd ek i n → tp_L N1 (S1 kl) (S1 kd) G C kl kd ek i n := by
      intro kl kd ek i n h1 h2 h4 h5
      refine tp_L_fr h5 (by rw [h4]) (by rw [h4]) (fun z => dy kd h1 _ z) (mo kd h1) (mo ek h2) (fun _ _ => rfl) rfl
    have s36 := st 36 (by decide) (by decide) (by decide) (by decide)
    have s38 := st 38 (by decide) (by decide) (by decide) (by decide)
    refine ⟨lf 15 16 7 0 P (by decide) (by decide) (st 15 (by decide) (by decide) (by decide) (by decide)) l1, lf 19 20 8 0 Sh (by decide) (by decide) (st 19 (by decide) (by decide) (by decide) (by decide)) l2, lf 22 23 9 0 V (by decide) (by decide) (st 22 (by decide) (by decide) (by decide) (by decide)) l3, lf 17 18 7 0 _ (by decide) (by decide) (st 17 (by decide) (by decide) (by decide) (by decide)) l4, fun p hp => lf 36 37 7 p _ (by decide) (by decide) s36 (l5 p hp), fun p hp => lf 38 39 10 p _ (by decide) (by decide) s38 (l6 p hp), ?_, ?_⟩
    · rw [s36]; exact l7
    · rw [s38]; exact l8
  · unfold q_ad at had ⊢
    rw [st 33 (by decide) (by decide) (by decide) (by decide), st 34 (by decide) (by decide) (by decide) (by decide), st 35 (by decide) (by decide) (by decide) (by decide)]; exact had
theorem tp_FL_cong {U U1 : Nat → Int32} {B B1 : Nat → Nat → Int32} : ∀ {l : List Nat}, (∀ x ∈ l, U1 x = U x ∧ B1 x = B x) → tp_FL U1 B1 l = tp_FL U B l
  | [], _ => rfl
  | x :: l, h => by
    have ih := tp_FL_cong (U := U) (U1 := U1) (B := B) (B1 := B1) (l := l) (fun y hy => h y (List.mem_cons_of_mem _ hy))
    obtain ⟨hx1, hx2⟩ := h x List.mem_cons_self
    have hh : ∀ g y, y ∈ l → tp_has U1 B1 x g y = tp_has U B x g y := by
      intro g y hy
      obtain ⟨a1, a2⟩ := h y (List.mem_cons_of_mem _ hy)
      unfold tp_has
      rw [a1, a2, hx2]
    have hf : (fun g => @decide (∀ y ∈ l, ¬ tp_has U1 B1 x g y) (Classical.propDecidable _)) = (fun g => @decide (∀ y ∈ l, ¬ tp_has U B x g y) (Classical.propDecidable _)) := by
      funext g
      have : (∀ y ∈ l, ¬ tp_has U1 B1 x g y) = (∀ y ∈ l, ¬ tp_has U B x g y) := propext ⟨fun q y hy z => q y hy (by rw [hh g y hy]; exact z), fun q y hy z => q y hy (by rw [← hh g y hy]; exact z)⟩
      exact congrArg (fun q => @decide q (Classical.propDecidable q)) this
    simp only [tp_FL]
    rw [ih, hf, hx1]
theorem RR.mf {c h w d pn P Sh V E A t r eb : Nat} {G : Nat → Nat → Nat → Nat} {C : Nat → Nat → Nat} {OL : Nat → List Nat} {N : tq_Nn} {S M : tq_St} {M1 : tq_St} (h0 : RR c h w d pn P Sh V E A t r eb G C OL N S M) (h64 : ∀ j : Nat, j ≠ 67 → j ≠ 68 → j ≠ 69 → j ≠ 73 → j ≠ 74 → M1 64 0 j = M 64 0 j) (hM : ∀ k : Nat, k ≠ 64 → k ≠ 117 → k ≠ 118 → k ≠ 119 → k ≠ 170 → k ≠ 171 → k ≠ 172 → k ≠ 175 → k ≠ 176 → M1 k = M k) (h117 : ∀ n, n < P → M1 117 0 n = M 117 0 n) (h118 : ∀ n, n < P → M1 118 n = M 118 n) (h119 : ∀ n, n < P → M1 119 n = M 119 n) : RR c h w d pn P Sh V E A t r eb G C OL N S M1 := by
  obtain ⟨hsc, hss, har, hpl, hlg, hsh, hpe, hmo, hpr, hsr, hpa, hkn, hst, hpm, hsi, hab, hsm, hvo, hvm, hbi, hlb, hiv, hod, hol, hoi, hfi, hli, had, hro⟩ := h0
  have e : ∀ k : Nat, k ≠ 64 → (k ≤ 116 ∨ 120 ≤ k) → (k < 170 ∨ 176 < k) → M1 k = M k := fun k h1 h2 h3 => hM k h1 (by omega) (by omega) (by omega) (by omega) (by omega) (by omega) (by omega) (by omega)
  have hF : ∀ p, p < 5 → tp_FL (M1 117 0) (M1 118) (OL p) = tp_FL (M 117 0) (M 118) (OL p) := fun p hp => tp_FL_cong (fun x hx => by
    have hx := ((hol p hp).1 x).mp hx
    exact ⟨h117 x hx.1, h118 x hx.1⟩)
  refine ⟨?_, ?_, ?_, ?_, ?_, ?_, ?_, ?_, ?_, ?_, ?_, ?_, ?_, ?_, ?_, ?_, ?_, ?_, ?_, ?_, ?_, ?_, ?_, ?_, hoi, ?_, ?_, ?_, hro⟩
  · unfold q_sc at hsc ⊢
    rw [h64 0 (by decide) (by decide) (by decide) (by decide) (by decide), h64 6 (by decide) (by decide) (by decide) (by decide) (by decide), h64 9 (by decide) (by decide) (by decide) (by decide) (by decide), h64 21 (by decide) (by decide) (by decide) (by decide) (by decide), h64 31 (by decide) (by decide) (by decide) (by decide) (by decide), h64 43 (by decide) (by decide) (by decide) (by decide) (by decide), h64 45 (by decide) (by decide) (by decide) (by decide) (by decide), h64 61 (by decide) (by decide) (by decide) (by decide) (by decide), h64 66 (by decide) (by decide) (by decide) (by decide) (by decide)]; exact hsc
  · unfold q_ss at hss ⊢
    rw [h64 0 (by decide) (by decide) (by decide) (by decide) (by decide), h64 6 (by decide) (by decide) (by decide) (by decide) (by decide), h64 43 (by decide) (by decide) (by decide) (by decide) (by decide), h64 58 (by decide) (by decide) (by decide) (by decide) (by decide), h64 61 (by decide) (by decide) (by decide) (by decide) (by decide), h64 55 (by decide) (by decide) (by decide) (by decide) (by decide), h64 66 (by decide) (by decide) (by decide) (by decide) (by decide)]; exact hss
  · unfold q_ar at har ⊢
    rw [e 107 (by decide) (by decide) (by decide), e 108 (by decide) (by decide) (by decide), e 126 (by decide) (by decide) (by decide), e 156 (by decide) (by decide) (by decide), e 157 (by decide) (by decide) (by decide), e 159 (by decide) (by decide) (by decide), e 102 (by decide) (by decide) (by decide), e 105 (by decide) (by decide) (by decide), e 160 (by decide) (by decide) (by decide), e 151 (by decide) (by decide) (by decide), e 152 (by decide) (by decide) (by decide), e 153 (by decide) (by decide) (by decide), e 154 (by decide) (by decide) (by decide), e 165 (by decide) (by decide) (by decide), e 163 (by decide) (by decide) (by decide)]; exact har
  · unfold q_pl at hpl ⊢
    rw [e 101 (by decide) (by decide) (by decide), e 103 (by decide) (by decide) (by decide), e 104 (by decide) (by decide) (by decide)]; exact hpl
  · unfold q_lg at hlg ⊢
    rw [e 144 (by decide) (by decide) (by decide)]; exact hlg
  · unfold q_sh at hsh ⊢
    rw [e 162 (by decide) (by decide) (by decide), e 164 (by decide) (by decide) (by decide)]; exact hsh
  · unfold q_pe at hpe ⊢
    rw [e 108 (by decide) (by decide) (by decide)]; exact hpe
  · unfold q_mo at hmo ⊢
    rw [e 101 (by decide) (by decide) (by decide), e 128 (by decide) (by decide) (by decide), e 105 (by decide) (by decide) (by decide)]; exact hmo
  · unfold q_pr at hpr ⊢
    rw [e 104 (by decide) (by decide) (by decide), e 152 (by decide) (by decide) (by decide), e 103 (by decide) (by decide) (by decide), e 159 (by decide) (by decide) (by decide)]; exact hpr
  · unfold q_sr at hsr ⊢
    rw [e 156 (by decide) (by decide) (by decide)]; exact hsr
  · intro n hn
    have := hpa n hn
    unfold q_pb at this ⊢
    rw [e 110 (by decide) (by decide) (by decide), e 111 (by decide) (by decide) (by decide), e 113 (by decide) (by decide) (by decide), e 112 (by decide) (by decide) (by decide), e 114 (by decide) (by decide) (by decide), e 116 (by decide) (by decide) (by decide), h117 n hn]; exact this
  · unfold q_kn at hkn ⊢
    rw [e 115 (by decide) (by decide) (by decide)]; exact hkn
  · unfold q_st at hst ⊢
    rw [e 110 (by decide) (by decide) (by decide), e 116 (by decide) (by decide) (by decide)]; exact hst
  · unfold q_pm at hpm ⊢
    unfold q_pn at hpm ⊢
    rw [e 110 (by decide) (by decide) (by decide), e 111 (by decide) (by decide) (by decide), e 113 (by decide) (by decide) (by decide), e 112 (by decide) (by decide) (by decide), e 114 (by decide) (by decide) (by decide), e 115 (by decide) (by decide) (by decide), e 116 (by decide) (by decide) (by decide), e 120 (by decide) (by decide) (by decide)]; exact hpm
  · unfold q_si at hsi ⊢
    rw [e 122 (by decide) (by decide) (by decide), e 123 (by decide) (by decide) (by decide), e 124 (by decide) (by decide) (by decide), e 125 (by decide) (by decide) (by decide), e 130 (by decide) (by decide) (by decide), e 128 (by decide) (by decide) (by decide), e 127 (by decide) (by decide) (by decide), e 129 (by decide) (by decide) (by decide)]; exact hsi
  · unfold q_ab at hab ⊢
    rw [e 120 (by decide) (by decide) (by decide)]; exact hab
  · unfold q_sm at hsm ⊢
    rw [e 122 (by decide) (by decide) (by decide), e 124 (by decide) (by decide) (by decide), e 130 (by decide) (by decide) (by decide), e 136 (by decide) (by decide) (by decide), e 132 (by decide) (by decide) (by decide), e 138 (by decide) (by decide) (by decide), e 127 (by decide) (by decide) (by decide), e 139 (by decide) (by decide) (by decide), e 129 (by decide) (by decide) (by decide), e 125 (by decide) (by decide) (by decide), e 128 (by decide) (by decide) (by decide), e 120 (by decide) (by decide) (by decide)]; exact hsm
  · unfold q_vo at hvo ⊢
    rw [e 132 (by decide) (by decide) (by decide), e 133 (by decide) (by decide) (by decide), e 134 (by decide) (by decide) (by decide), e 135 (by decide) (by decide) (by decide), e 136 (by decide) (by decide) (by decide), e 137 (by decide) (by decide) (by decide), e 138 (by decide) (by decide) (by decide), e 141 (by decide) (by decide) (by decide), e 142 (by decide) (by decide) (by decide), e 139 (by decide) (by decide) (by decide), e 140 (by decide) (by decide) (by decide)]; exact hvo
  · unfold q_vm at hvm ⊢
    rw [e 134 (by decide) (by decide) (by decide), e 138 (by decide) (by decide) (by decide), e 137 (by decide) (by decide) (by decide)]; exact hvm
  · unfold q_bi at hbi ⊢
    rw [e 110 (by decide) (by decide) (by decide)]; exact hbi
  · unfold q_lb at hlb ⊢
    rw [e 110 (by decide) (by decide) (by decide), e 111 (by decide) (by decide) (by decide), e 116 (by decide) (by decide) (by decide)]; exact hlb
  · unfold q_iv at hiv ⊢
    rw [e 110 (by decide) (by decide) (by decide), e 111 (by decide) (by decide) (by decide), e 112 (by decide) (by decide) (by decide), e 113 (by decide) (by decide) (by decide), e 115 (by decide) (by decide) (by decide)]; exact hiv
  · intro n hn hk
    rw [e 110 (by decide) (by decide) (by decide)] at hk
    obtain ⟨g, a1, a2, a3, a4, a5⟩ := hod n hn hk
    refine ⟨g, a1, a2, by rw [h117 n hn]; exact a3, a4, fun k hk => ?_⟩
    rw [h118 n hn, h119 n hn]; exact a5 k hk
  · unfold q_ol at hol ⊢
    rw [e 110 (by decide) (by decide) (by decide), e 113 (by decide) (by decide) (by decide), e 115 (by decide) (by decide) (by decide)]; exact hol
  · intro p j x g hp hj
    rw [hF p hp] at hj; exact hfi p j x g hp hj
  · obtain ⟨l1, l2, l3, l4, l5, l6, l7, l8⟩ := hli
    refine ⟨l1, l2, l3, by rw [e 110 (by decide) (by decide) (by decide)]; exact l4, l5, fun p hp => by rw [hF p hp]; exact l6 p hp, l7, l8⟩
  · unfold q_ad at had ⊢
    rw [e 146 (by decide) (by decide) (by decide), e 147 (by decide) (by decide) (by decide), e 148 (by decide) (by decide) (by decide), e 149 (by decide) (by decide) (by decide), e 150 (by decide) (by decide) (by decide)]; exact had
