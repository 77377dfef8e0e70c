/-! pure: a paper is read -/
theorem RR_read {c h w d pn P Sh V E A t r eb : Nat} {G : Nat → Nat → Nat → Nat} {C : Nat → Nat → Nat} {OL : Nat → List Nat} {N : tq_Nn} {S M : tq_St} {N1 : tq_Nn} {S1 : tq_St} {G1 : Nat → Nat → Nat → Nat} {C1 : Nat → Nat → Nat} {OL1 : Nat → List Nat} {n p : Nat} (h0 : RR c h w d pn P Sh V E A t r eb G C OL N S M) (hn : n < P) (hp : p < 5) (hm : tp_mono N N1)
    (fS : ∀ k i, (k ∈ tq_dyn → N k i = 1) → (k = 1 → i = 0) → k ≠ 2 → k ≠ 36 → k ≠ 37 → k ≠ 38 → k ≠ 39 → k ≠ 40 → k ≠ 50 → S1 k i = S k i) (f2 : ∀ a j, j ≠ 16 → S1 2 a j = S 2 a j) (f50 : ∀ m q, m < P → q < 5 → S1 50 (G 15 0 m) q = if m = n ∧ q = p then nI d else S 50 (G 15 0 m) q)
    (hG : ∀ a b x, a ≠ 36 → a ≠ 38 → G1 a b x = G a b x) (hC : ∀ a b, a ≠ 36 → a ≠ 38 → C1 a b = C a b) (hiv1 : q_iv P S1 (tq_up M 115 n p (nI d))) (hol1 : q_ol P OL1 (tq_up M 115 n p (nI d))) (hoi1 : q_oi OL1 G1) (hfi1 : q_fi OL1 G1 (tq_up M 115 n p (nI d)))
    (hl5 : ∀ q, q < 5 → tp_L N1 (S1 36) (S1 37) G1 C1 36 37 7 q (OL1 q).length) (hl6 : ∀ q, q < 5 → tp_L N1 (S1 38) (S1 39) G1 C1 38 39 10 q (tp_FL (M 117 0) (M 118) (OL1 q)).length)
    (hl7 : ∀ a b : Nat, a < 5 → b < 5 → a ≠ b → 0 < S1 36 a 1 → 0 < S1 36 b 1 → (S1 36 a 1).toNatClampNeg ≠ (S1 36 b 1).toNatClampNeg) (hl8 : ∀ a b : Nat, a < 5 → b < 5 → a ≠ b → 0 < S1 38 a 1 → 0 < S1 38 b 1 → (S1 38 a 1).toNatClampNeg ≠ (S1 38 b 1).toNatClampNeg) (hro1 : q_ro c P V C1 N1) : RR c h w d pn P Sh V E A t r eb G1 C1 OL1 N1 S1 (tq_up M 115 n p (nI d)) := by
  obtain ⟨hsc, hss, har, hpl, hlg, hsh, hpe, hmo, hpr, hsr, hpa, hkn, hst, hpm, hsi, hab, hsm, hvo, hvm, hbi, hlb, hiv, hod, hol, hoi, hfi, hli, had, hro⟩ := h0
  have b1 := hsc.2.2.2.2.2.2.2.2.2.1
  have eM : ∀ k, k ≠ 115 → (tq_up M 115 n p (nI d)) k = M k := fun k h => tq_upk h
  have st : ∀ k : Nat, k ∉ tq_dyn → k ≠ 1 → k ≠ 2 → k ≠ 36 → k ≠ 38 → k ≠ 40 → S1 k = S k := fun k h1 h2 h3 h4 h5 h6 => funext (fun i => fS k i (fun z => absurd z h1) (fun z => absurd z h2) h3 h4 (fun z => h1 (by subst z; decide)) h5 (fun z => h1 (by subst z; decide)) h6 (fun z => h1 (by subst z; decide)))
  have o1 : S1 1 0 = S 1 0 := fS 1 0 (fun z => absurd z (by decide)) (fun _ => rfl) (by decide) (by decide) (by decide) (by decide) (by decide) (by decide) (by decide)
  have dy : ∀ k : Nat, k ∈ tq_dyn → k ≠ 37 → k ≠ 39 → k ≠ 50 → ∀ i, N k i = 1 → S1 k i = S k i := fun k h1 h2 h3 h4 i hi => fS k i (fun _ => hi) (fun z => absurd h1 (by subst z; decide)) (fun z => absurd h1 (by subst z; decide)) (fun z => absurd h1 (by subst z; decide)) h2 (fun z => absurd h1 (by subst z; decide)) h3 (fun z => absurd h1 (by subst z; decide)) h4
  have mo : ∀ k : Nat, k ∈ tq_dyn → ∀ i, N k i = 1 → N1 k i = 1 := fun k h1 i hi => dyn_m hm h1 hi
  have e15 : ∀ z, G1 15 0 z = G 15 0 z := fun z => hG 15 0 z (by decide) (by decide)
  have e17 : ∀ z, G1 17 0 z = G 17 0 z := fun z => hG 17 0 z (by decide) (by decide)
  have e19 : ∀ z, G1 19 0 z = G 19 0 z := fun z => hG 19 0 z (by decide) (by decide)
  have e22 : ∀ z, G1 22 0 z = G 22 0 z := fun z => hG 22 0 z (by decide) (by decide)
  obtain ⟨l1, l2, l3, l4, l5, l6, l7, l8⟩ := id hli
  have n7 : ∀ m, m < P → N 7 (G 15 0 m) = 1 := fun m hm' => (l1.2 m hm').2.1
  have n8 : ∀ m, m < Sh → N 8 (G 19 0 m) = 1 := fun m hm' => (l2.2 m hm').2.1
  have n9 : ∀ m, m < V → N 9 (G 22 0 m) = 1 := fun m hm' => (l3.2 m hm').2.1
  refine ⟨?_, ?_, ?_, ?_, ?_, ?_, ?_, ?_, ?_, ?_, ?_, ?_, ?_, ?_, ?_, ?_, ?_, ?_, ?_, ?_, ?_, hiv1, ?_, hol1, hoi1, hfi1, ?_, ?_, hro1⟩
  · unfold q_sc at hsc ⊢
    rw [eM 64 (by decide)]; exact hsc
  · unfold q_ss at hss ⊢
    rw [eM 64 (by decide), o1, st 3 (by decide) (by decide) (by decide) (by decide) (by decide) (by decide), st 4 (by decide) (by decide) (by decide) (by decide) (by decide) (by decide), st 5 (by decide) (by decide) (by decide) (by decide) (by decide) (by decide)]; exact hss
  · unfold q_ar at har ⊢
    rw [st 13 (by decide) (by decide) (by decide) (by decide) (by decide) (by decide), st 14 (by decide) (by decide) (by decide) (by decide) (by decide) (by decide), st 21 (by decide) (by decide) (by decide) (by decide) (by decide) (by decide), st 25 (by decide) (by decide) (by decide) (by decide) (by decide) (by decide), st 26 (by decide) (by decide) (by decide) (by decide) (by decide) (by decide), st 28 (by decide) (by decide) (by decide) (by decide) (by decide) (by decide), st 30 (by decide) (by decide) (by decide) (by decide) (by decide) (by decide), st 32 (by decide) (by decide) (by decide) (by decide) (by decide) (by decide), st 41 (by decide) (by decide) (by decide) (by decide) (by decide) (by decide), st 43 (by decide) (by decide) (by decide) (by decide) (by decide) (by decide), st 45 (by decide) (by decide) (by decide) (by decide) (by decide) (by decide), st 46 (by decide) (by decide) (by decide) (by decide) (by decide) (by decide), st 47 (by decide) (by decide) (by decide) (by decide) (by decide) (by decide), st 48 (by decide) (by decide) (by decide) (by decide) (by decide) (by decide), st 49 (by decide) (by decide) (by decide) (by decide) (by decide) (by decide), eM 107 (by decide), eM 108 (by decide), eM 126 (by decide), eM 156 (by decide), eM 157 (by decide), eM 159 (by decide), eM 102 (by decide), eM 105 (by decide), eM 160 (by decide), eM 151 (by decide), eM 152 (by decide), eM 153 (by decide), eM 154 (by decide), eM 165 (by decide), eM 163 (by decide)]; exact har
  · obtain ⟨a1, a2, a3, a4, a5, a6⟩ := hpl
    unfold q_pl
    rw [eM 101 (by decide), eM 103 (by decide), eM 104 (by decide), st 31 (by decide) (by decide) (by decide) (by decide) (by decide) (by decide)]
    exact ⟨fun q hq => by rw [f2 q 0 (by decide)]; exact a1 q hq, fun q hq => by rw [f2 q 1 (by decide)]; exact a2 q hq, fun q h1 h2 => by rw [f2 q 3 (by decide)]; exact a3 q h1 h2, fun q h1 h2 => by rw [f2 q 4 (by decide)]; exact a4 q h1 h2, fun q h1 h2 => by rw [f2 q 5 (by decide)]; exact a5 q h1 h2, a6⟩
  · unfold q_lg at hlg ⊢
    rw [st 24 (by decide) (by decide) (by decide) (by decide) (by decide) (by decide), eM 144 (by decide)]; exact hlg
  · unfold q_sh at hsh ⊢
    rw [st 6 (by decide) (by decide) (by decide) (by decide) (by decide) (by decide), eM 162 (by decide), eM 164 (by decide)]; exact hsh
  · unfold q_pe at hpe ⊢
    rw [eM 108 (by decide)]; exact hpe
  · unfold q_mo at hmo ⊢
    rw [eM 101 (by decide), eM 128 (by decide), eM 105 (by decide)]; exact hmo
  · unfold q_pr at hpr ⊢
    rw [eM 104 (by decide), eM 152 (by decide), eM 103 (by decide), eM 159 (by decide)]; exact hpr
  · unfold q_sr at hsr ⊢
    rw [eM 156 (by decide)]; exact hsr
  · intro m hm'
    have h := hpa m hm'
    unfold q_pb at h ⊢
    rw [e15, dy 7 (by decide) (by decide) (by decide) (by decide) _ (n7 m hm'), eM 110 (by decide), eM 111 (by decide), eM 112 (by decide), eM 113 (by decide), eM 114 (by decide), eM 116 (by decide), eM 117 (by decide)]
    exact ⟨mo 50 (by decide) _ h.1, mo 51 (by decide) _ h.2.1, mo 52 (by decide) _ h.2.2.1, h.2.2.2⟩
  · intro m q hm' hq
    rw [e15, f50 m q hm' hq]
    by_cases e : m = n
    · subst e
      by_cases e2 : q = p
      · subst e2; rw [if_pos ⟨rfl, rfl⟩, tq_upe]
      · rw [if_neg (fun z => e2 z.2), tq_upj e2]; exact hkn m q hm' hq
    · rw [if_neg (fun z => e z.1), tq_upi e]; exact hkn m q hm' hq
  · intro m s hm' hs hk
    rw [eM 110 (by decide)] at hk
    rw [e15, dy 51 (by decide) (by decide) (by decide) (by decide) _ (hpa m hm').2.1, eM 116 (by decide)]
    exact hst m s hm' hs hk
  · obtain ⟨a1, a2, a3⟩ := hpm
    refine ⟨fun m hm' => ?_, ?_, ?_⟩
    · have h := a1 m hm'
      unfold q_pn at h ⊢
      rw [eM 110 (by decide), eM 111 (by decide), eM 112 (by decide), eM 113 (by decide), eM 114 (by decide), eM 116 (by decide)]
      refine ⟨h.1, h.2.1, h.2.2.1, h.2.2.2.1, h.2.2.2.2.1, fun q hq => ?_, h.2.2.2.2.2.2⟩
      have hold := h.2.2.2.2.2.1 q hq
      by_cases e : m = n
      · subst e
        by_cases e2 : q = p
        · subst e2; rw [tq_upe, tp_ti (by omega)]; exact Int.le_refl _
        · rw [tq_upj e2]; exact hold
      · rw [tq_upi e]; exact hold
    · rw [eM 112 (by decide)]; exact a2
    · rw [eM 114 (by decide), eM 116 (by decide), eM 120 (by decide)]; exact a3
  · intro s hs
    have h := hsi s hs
    rw [e19, dy 8 (by decide) (by decide) (by decide) (by decide) _ (n8 s hs), dy 54 (by decide) (by decide) (by decide) (by decide) _ h.1, dy 55 (by decide) (by decide) (by decide) (by decide) _ h.2.1, eM 122 (by decide), eM 123 (by decide), eM 124 (by decide), eM 125 (by decide), eM 130 (by decide), eM 128 (by decide), eM 127 (by decide), eM 129 (by decide)]
    exact ⟨mo 54 (by decide) _ h.1, mo 55 (by decide) _ h.2.1, mo 56 (by decide) _ h.2.2.1, h.2.2.2⟩
  · intro s m hs hm'
    rw [e19, dy 56 (by decide) (by decide) (by decide) (by decide) _ (hsi s hs).2.2.1, eM 120 (by decide)]; exact hab s m hs hm'
  · obtain ⟨a1, a2, a3⟩ := hsm
    unfold q_sm
    rw [eM 122 (by decide), eM 124 (by decide), eM 130 (by decide), eM 136 (by decide), eM 132 (by decide), eM 138 (by decide), eM 127 (by decide), eM 139 (by decide), eM 129 (by decide), eM 125 (by decide), eM 128 (by decide), eM 120 (by decide)]
    refine ⟨fun s hs => ?_, a2, a3⟩
    rw [e19, dy 8 (by decide) (by decide) (by decide) (by decide) _ (n8 s hs)]
    exact a1 s hs
  · intro v hv
    have h := hvo v hv
    rw [e22, dy 9 (by decide) (by decide) (by decide) (by decide) _ (n9 v hv), dy 57 (by decide) (by decide) (by decide) (by decide) _ h.1, dy 58 (by decide) (by decide) (by decide) (by decide) _ h.2.1, eM 132 (by decide), eM 133 (by decide), eM 134 (by decide), eM 135 (by decide), eM 136 (by decide), eM 137 (by decide), eM 138 (by decide), eM 141 (by decide), eM 142 (by decide), eM 139 (by decide), eM 140 (by decide)]
    exact ⟨mo 57 (by decide) _ h.1, mo 58 (by decide) _ h.2.1, h.2.2⟩
  · unfold q_vm at hvm ⊢
    rw [eM 134 (by decide), eM 138 (by decide), eM 137 (by decide)]; exact hvm
  · intro k m hk
    rw [eM 110 (by decide)] at hk
    rw [e17, e15]; exact hbi k m hk
  · intro q h1 h2
    rw [f2 q 15 (by decide), eM 110 (by decide), eM 111 (by decide), eM 116 (by decide)]
    rcases hlb q h1 h2 with y | ⟨m, y1, y2, y3, y4, y5⟩
    · exact Or.inl y
    · exact Or.inr ⟨m, y1, y2, y3, by rw [e15]; exact y4, y5⟩
  · intro m hm' hk
    rw [eM 110 (by decide)] at hk
    rw [e15, eM 117 (by decide), eM 118 (by decide), eM 119 (by decide)]
    have hq := q_or_fr (hod m hm' hk) (hpa m hm').2.2.1 hm (dy 10 (by decide) (by decide) (by decide) (by decide)) (dy 11 (by decide) (by decide) (by decide) (by decide)) (dy 52 (by decide) (by decide) (by decide) (by decide)) (dy 53 (by decide) (by decide) (by decide) (by decide)) (dy 59 (by decide) (by decide) (by decide) (by decide)) (dy 60 (by decide) (by decide) (by decide) (by decide))
    exact q_or_gc hq (fun a b x z => hG a b x (by omega) (by omega)) (fun a b z => hC a b (by omega) (by omega)) rfl rfl rfl
  · unfold q_li
    rw [eM 110 (by decide), eM 117 (by decide), eM 118 (by decide)]
    refine ⟨?_, ?_, ?_, ?_, hl5, hl6, hl7, hl8⟩
    · rw [st 15 (by decide) (by decide) (by decide) (by decide) (by decide) (by decide)]
      exact tp_L_fr0 l1 rfl rfl (fun z => dy 16 (by decide) (by decide) (by decide) (by decide) _ z) (fun j hj => mo 16 (by decide) j hj) (fun j hj => mo 7 (by decide) j hj) (fun j _ => e15 j) (hC 15 0 (by decide) (by decide))
    · rw [st 19 (by decide) (by decide) (by decide) (by decide) (by decide) (by decide)]
      exact tp_L_fr0 l2 rfl rfl (fun z => dy 20 (by decide) (by decide) (by decide) (by decide) _ z) (fun j hj => mo 20 (by decide) j hj) (fun j hj => mo 8 (by decide) j hj) (fun j _ => e19 j) (hC 19 0 (by decide) (by decide))
    · rw [st 22 (by decide) (by decide) (by decide) (by decide) (by decide) (by decide)]
      exact tp_L_fr0 l3 rfl rfl (fun z => dy 23 (by decide) (by decide) (by decide) (by decide) _ z) (fun j hj => mo 23 (by decide) j hj) (fun j hj => mo 9 (by decide) j hj) (fun j _ => e22 j) (hC 22 0 (by decide) (by decide))
    · rw [st 17 (by decide) (by decide) (by decide) (by decide) (by decide) (by decide)]
      exact tp_L_fr0 l4 rfl rfl (fun z => dy 18 (by decide) (by decide) (by decide) (by decide) _ z) (fun j hj => mo 18 (by decide) j hj) (fun j hj => mo 7 (by decide) j hj) (fun j _ => e17 j) (hC 17 0 (by decide) (by decide))
  · unfold q_ad at had ⊢
    rw [eM 146 (by decide), eM 147 (by decide), eM 148 (by decide), eM 149 (by decide), eM 150 (by decide), st 33 (by decide) (by decide) (by decide) (by decide) (by decide) (by decide), st 34 (by decide) (by decide) (by decide) (by decide) (by decide) (by decide), st 35 (by decide) (by decide) (by decide) (by decide) (by decide) (by decide)]; exact had
