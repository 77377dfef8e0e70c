/-! pure: the relation goes with single changes -/
theorem tp_sm_cong {f g : Nat → Int} : ∀ {n : Nat}, (∀ k, k < n → g k = f k) → tp_sm g n = tp_sm f n
  | 0, _ => rfl
  | n + 1, h => by
    simp only [tp_sm]
    rw [tp_sm_cong (fun k hk => h k (by omega)), h n (by omega)]
theorem tp_sm_upd {f g : Nat → Int} {q : Nat} : ∀ {n : Nat}, q < n → (∀ k, k < n → k ≠ q → g k = f k) → tp_sm g n = tp_sm f n - f q + g q
  | 0, h, _ => absurd h (Nat.not_lt_zero _)
  | n + 1, h, hk => by
    simp only [tp_sm]
    by_cases e : q = n
    · subst e
      rw [tp_sm_cong (f := f) (g := g) (fun k h2 => hk k (by omega) (by omega))]; omega
    · rw [tp_sm_upd (f := f) (g := g) (by omega) (fun k h2 => hk k (by omega)), hk n (by omega) (fun z => e z.symm)]; omega
theorem tp_sm_nn {f : Nat → Int} : ∀ {n : Nat}, (∀ k, k < n → 0 ≤ f k) → 0 ≤ tp_sm f n
  | 0, _ => Int.le_refl 0
  | n + 1, h => by
    simp only [tp_sm]
    have := tp_sm_nn (f := f) (n := n) (fun k hk => h k (by omega))
    have := h n (by omega)
    omega
theorem tp_sm_ge {f : Nat → Int} {q : Nat} : ∀ {n : Nat}, q < n → (∀ k, k < n → 0 ≤ f k) → f q ≤ tp_sm f n
  | 0, h, _ => absurd h (Nat.not_lt_zero _)
  | n + 1, h, hk => by
    simp only [tp_sm]
    have h1 := tp_sm_nn (f := f) (n := n) (fun k h2 => hk k (by omega))
    have h2 := hk n (by omega)
    by_cases e : q = n
    · subst e; omega
    · have := tp_sm_ge (f := f) (q := q) (n := n) (by omega) (fun k h2 => hk k (by omega)); omega
/-- what coins there can be -/
theorem tp_mo {c P : Nat} {M : tq_St} (h : q_mo c P M) (hc : c ≤ 512) (hP : P ≤ 150) : (∀ p : Nat, p < 5 → 0 ≤ (M 101 0 p).toInt ∧ (M 101 0 p).toInt ≤ 564699850) ∧ (∀ s : Nat, s < 8 → 0 ≤ (M 128 0 s).toInt ∧ (M 128 0 s).toInt ≤ 564699850) ∧ (∀ p s : Nat, p < 5 → s < 4 → 0 ≤ (M 105 p s).toInt ∧ (M 105 p s).toInt ≤ 564699850) ∧ (∀ p s : Nat, p < 5 → s < 8 → (M 101 0 p).toInt + (M 128 0 s).toInt ≤ 564699850) ∧ (∀ p q s : Nat, p < 5 → q < 5 → s < 4 → (M 101 0 p).toInt + (M 105 q s).toInt ≤ 564699850) := by
  obtain ⟨h1, h2, h3, h4⟩ := h
  have a1 := tp_sm_nn (n := 5) h1
  have a2 := tp_sm_nn (n := 8) h2
  have a4 : ∀ p, p < 5 → 0 ≤ tp_sm (fun s => (M 105 p s).toInt) 4 := fun p hp => tp_sm_nn (fun s hs => h3 p s hp hs)
  have a3 := tp_sm_nn (n := 5) a4
  have b1 : ∀ p, p < 5 → _ := fun p hp => tp_sm_ge (n := 5) hp h1
  have b2 : ∀ s, s < 8 → _ := fun s hs => tp_sm_ge (n := 8) hs h2
  have b3 : ∀ p, p < 5 → _ := fun p hp => tp_sm_ge (n := 5) hp a4
  have b4 : ∀ p s, p < 5 → s < 4 → (M 105 p s).toInt ≤ tp_sm (fun s => (M 105 p s).toInt) 4 := fun p s hp hs => tp_sm_ge (f := fun s => (M 105 p s).toInt) (n := 4) hs (fun k hk => h3 p k hp hk)
  refine ⟨fun p hp => ⟨h1 p hp, ?_⟩, fun s hs => ⟨h2 s hs, ?_⟩, fun p s hp hs => ⟨h3 p s hp hs, ?_⟩, fun p s hp hs => ?_, fun p q s hp hq hs => ?_⟩
  · have := b1 p hp; omega
  · have := b2 s hs; omega
  · have := b3 p hp; have := b4 p s hp hs; omega
  · have := b1 p hp; have := b2 s hs; omega
  · have := b1 p hp; have := b3 q hq; have := b4 q s hq hs; omega
theorem RR.wk {c h w d pn P Sh V E A t r eb : Nat} {G : Nat → Nat → Nat → Nat} {C : Nat → Nat → Nat} {OL : Nat → List Nat} {N : tq_Nn} {S M : tq_St} {c' eb' : Nat} (h0 : RR c h w d pn P Sh V E A t r eb G C OL N S M) (h1 : c ≤ c') (h2 : c' ≤ 512) (h3 : eb ≤ eb') (h4 : eb' ≤ 100000000) : RR c' h w d pn P Sh V E A t r eb' G C OL N S M := by
  obtain ⟨hsc, hss, har, hpl, hlg, hsh, hpe, hmo, hpr, hsr, hpa, hkn, hst, hpm, hsi, hab, hsm, hvo, hvm, hbi, hlb, hiv, hod, hol, hoi, hfi, hli, had, hro⟩ := h0
  refine ⟨?_, hss, har, hpl, hlg, hsh, hpe, ?_, hpr, hsr, hpa, hkn, hst, hpm, hsi, hab, hsm, hvo, hvm, hbi, hlb, hiv, hod, hol, hoi, hfi, hli, had, ?_⟩
  · obtain ⟨a1, a2, a3, a4, a5, a6, a7, a8, a9, b1, b2, b3, b4, b5, b6, b7, b8, b9, e1, e2⟩ := hsc
    exact ⟨a1, a2, a3, a4, a5, a6, a7, a8, a9, b1, b2, b3, b4, b5, by omega, h4, b8, b9, e1, h2⟩
  · obtain ⟨a1, a2, a3, a4⟩ := hmo
    exact ⟨a1, a2, a3, by omega⟩
  · obtain ⟨a1, a2, a3⟩ := hro
    exact ⟨by omega, by omega, a3⟩
theorem tp_R.tick {c : Nat} {N : tq_Nn} {S M : tq_St} (h : tp_R c N S M) (hc : c < 512) : tp_R (c + 1) N S M := by
  obtain ⟨d, pn, P, Sh, V, E, A, t, r, G, C, OL, h0⟩ := h
  have hd := h0.1.2.2.2.2.2.2.2.2.2.1
  exact ⟨d, pn, P, Sh, V, E, A, t, r, G, C, OL, h0.wk (by omega) (by omega) (by omega) (by omega)⟩
theorem RR.R {c h w d pn P Sh V E A t r eb : Nat} {G : Nat → Nat → Nat → Nat} {C : Nat → Nat → Nat} {OL : Nat → List Nat} {N : tq_Nn} {S M : tq_St} (h0 : RR c h w d pn P Sh V E A t r eb G C OL N S M) (hc : c < 512) (h8 : h = 8) (h5 : w = 5) (he : eb = 5000 * d + c) : tp_R (c + 1) N S M := by
  subst h8; subst h5; subst he
  exact tp_R.tick ⟨d, pn, P, Sh, V, E, A, t, r, G, C, OL, h0⟩ hc
theorem RR_way0 {c h w d pn P Sh V E A t r eb : Nat} {G : Nat → Nat → Nat → Nat} {C : Nat → Nat → Nat} {OL : Nat → List Nat} {N : tq_Nn} {S M : tq_St} (h0 : RR c h w d pn P Sh V E A t r eb G C OL N S M) {p : Nat} {v : Int32} : RR c h w d pn P Sh V E A t r eb G C OL N (tq_up S 2 p 3 v) (tq_up M 103 p 0 v) := by
  obtain ⟨hsc, hss, har, hpl, hlg, hsh, hpe, hmo, hpr, hsr, hpa, hkn, hst, hpm, hsi, hab, hsm, hvo, hvm, hbi, hlb, hiv, hod, hol, hoi, hfi, hli, had, hro⟩ := h0
  refine ⟨?_, ?_, ?_, ?_, ?_, ?_, ?_, ?_, ?_, ?_, ?_, ?_, ?_, ?_, ?_, ?_, ?_, ?_, ?_, ?_, ?_, ?_, ?_, ?_, ?_, ?_, ?_, ?_, ?_⟩
  · simpa (disch := decide) only [q_sc, tq_upk, tq_upj, tq_cpk] using hsc
  · simpa (disch := decide) only [q_ss, tq_upk, tq_upj, tq_cpk] using hss
  · simpa (disch := decide) only [q_ar, tq_upk, tq_upj, tq_cpk] using har
  · obtain ⟨a1, a2, a3, a4, a5, a6⟩ := hpl
    refine ⟨?_, ?_, ?_, ?_, ?_, ?_⟩
    · simpa (disch := decide) only [tq_upk, tq_upj, tq_cpk] using a1
    · simpa (disch := decide) only [tq_upk, tq_upj, tq_cpk] using a2
    · intro q h1 h2
      by_cases e : q = p
      · subst e; rw [tq_upe, tq_upe]
      · rw [tq_upi e, tq_upi e]; exact a3 q h1 h2
    · intro q h1 h2
      by_cases e : q = p
      · subst e; rw [tq_upj (by decide), tq_upj (by decide)]; exact a4 q h1 h2
      · rw [tq_upi e, tq_upi e]; exact a4 q h1 h2
    · intro q h1 h2
      by_cases e : q = p
      · subst e; rw [tq_upj (by decide), tq_upj (by decide)]; exact a5 q h1 h2
      · rw [tq_upi e, tq_upi e]; exact a5 q h1 h2
    · simpa (disch := decide) only [tq_upk, tq_upj, tq_cpk] using a6
  · simpa (disch := decide) only [q_lg, tq_upk, tq_upj, tq_cpk] using hlg
  · simpa (disch := decide) only [q_sh, tq_upk, tq_upj, tq_cpk] using hsh
  · simpa (disch := decide) only [q_pe, tq_upk, tq_upj, tq_cpk] using hpe
  · simpa (disch := decide) only [q_mo, tq_upk, tq_upj, tq_cpk] using hmo
  · obtain ⟨a1, a2, a3, a4⟩ := hpr
    refine ⟨?_, ?_, ?_, ?_⟩
    · simpa (disch := decide) only [tq_upk, tq_upj, tq_cpk] using a1
    · simpa (disch := decide) only [tq_upk, tq_upj, tq_cpk] using a2
    · intro q h1 h2
      rw [tq_upj (by decide)]; exact a3 q h1 h2
    · simpa (disch := decide) only [tq_upk, tq_upj, tq_cpk] using a4
  · simpa (disch := decide) only [q_sr, tq_upk, tq_upj, tq_cpk] using hsr
  · simpa (disch := decide) only [q_pa, q_pb, tq_upk, tq_upj, tq_cpk] using hpa
  · simpa (disch := decide) only [q_kn, tq_upk, tq_upj, tq_cpk] using hkn
  · simpa (disch := decide) only [q_st, tq_upk, tq_upj, tq_cpk] using hst
  · simpa (disch := decide) only [q_pm, q_pn, tq_upk, tq_upj, tq_cpk] using hpm
  · simpa (disch := decide) only [q_si, tq_upk, tq_upj, tq_cpk] using hsi
  · simpa (disch := decide) only [q_ab, tq_upk, tq_upj, tq_cpk] using hab
  · simpa (disch := decide) only [q_sm, tq_upk, tq_upj, tq_cpk] using hsm
  · simpa (disch := decide) only [q_vo, tq_upk, tq_upj, tq_cpk] using hvo
  · simpa (disch := decide) only [q_vm, tq_upk, tq_upj, tq_cpk] using hvm
  · simpa (disch := decide) only [q_bi, tq_upk, tq_upj, tq_cpk] using hbi
  · simpa (disch := decide) only [q_lb, tq_upk, tq_upj, tq_cpk] using hlb
  · simpa (disch := decide) only [q_iv, tq_upk, tq_upj, tq_cpk] using hiv
  · simpa (disch := decide) only [q_od, tq_upk, tq_upj, tq_cpk] using hod
  · simpa (disch := decide) only [q_ol, tq_upk, tq_upj, tq_cpk] using hol
  · simpa (disch := decide) only [q_oi, tq_upk, tq_upj, tq_cpk] using hoi
  · simpa (disch := decide) only [q_fi, tq_upk, tq_upj, tq_cpk] using hfi
  · simpa (disch := decide) only [q_li, tq_upk, tq_upj, tq_cpk] using hli
  · simpa (disch := decide) only [q_ad, tq_upk, tq_upj, tq_cpk] using had
  · simpa (disch := decide) only [q_ro, tq_upk, tq_upj, tq_cpk] using hro
theorem RR_way1 {c h w d pn P Sh V E A t r eb : Nat} {G : Nat → Nat → Nat → Nat} {C : Nat → Nat → Nat} {OL : Nat → List Nat} {N : tq_Nn} {S M : tq_St} (h0 : RR c h w d pn P Sh V E A t r eb G C OL N S M) {p : Nat} {v : Int32} : RR c h w d pn P Sh V E A t r eb G C OL N (tq_up S 2 p 4 v) (tq_up M 103 p 1 v) := by
  obtain ⟨hsc, hss, har, hpl, hlg, hsh, hpe, hmo, hpr, hsr, hpa, hkn, hst, hpm, hsi, hab, hsm, hvo, hvm, hbi, hlb, hiv, hod, hol, hoi, hfi, hli, had, hro⟩ := h0
  refine ⟨?_, ?_, ?_, ?_, ?_, ?_, ?_, ?_, ?_, ?_, ?_, ?_, ?_, ?_, ?_, ?_, ?_, ?_, ?_, ?_, ?_, ?_, ?_, ?_, ?_, ?_, ?_, ?_, ?_⟩
  · simpa (disch := decide) only [q_sc, tq_upk, tq_upj, tq_cpk] using hsc
  · simpa (disch := decide) only [q_ss, tq_upk, tq_upj, tq_cpk] using hss
  · simpa (disch := decide) only [q_ar, tq_upk, tq_upj, tq_cpk] using har
  · obtain ⟨a1, a2, a3, a4, a5, a6⟩ := hpl
    refine ⟨?_, ?_, ?_, ?_, ?_, ?_⟩
    · simpa (disch := decide) only [tq_upk, tq_upj, tq_cpk] using a1
    · simpa (disch := decide) only [tq_upk, tq_upj, tq_cpk] using a2
    · intro q h1 h2
      by_cases e : q = p
      · subst e; rw [tq_upj (by decide), tq_upj (by decide)]; exact a3 q h1 h2
      · rw [tq_upi e, tq_upi e]; exact a3 q h1 h2
    · intro q h1 h2
      by_cases e : q = p
      · subst e; rw [tq_upe, tq_upe]
      · rw [tq_upi e, tq_upi e]; exact a4 q h1 h2
    · intro q h1 h2
      by_cases e : q = p
      · subst e; rw [tq_upj (by decide), tq_upj (by decide)]; exact a5 q h1 h2
      · rw [tq_upi e, tq_upi e]; exact a5 q h1 h2
    · simpa (disch := decide) only [tq_upk, tq_upj, tq_cpk] using a6
  · simpa (disch := decide) only [q_lg, tq_upk, tq_upj, tq_cpk] using hlg
  · simpa (disch := decide) only [q_sh, tq_upk, tq_upj, tq_cpk] using hsh
  · simpa (disch := decide) only [q_pe, tq_upk, tq_upj, tq_cpk] using hpe
  · simpa (disch := decide) only [q_mo, tq_upk, tq_upj, tq_cpk] using hmo
  · obtain ⟨a1, a2, a3, a4⟩ := hpr
    refine ⟨?_, ?_, ?_, ?_⟩
    · simpa (disch := decide) only [tq_upk, tq_upj, tq_cpk] using a1
    · simpa (disch := decide) only [tq_upk, tq_upj, tq_cpk] using a2
    · intro q h1 h2
      rw [tq_upj (by decide)]; exact a3 q h1 h2
    · simpa (disch := decide) only [tq_upk, tq_upj, tq_cpk] using a4
  · simpa (disch := decide) only [q_sr, tq_upk, tq_upj, tq_cpk] using hsr
  · simpa (disch := decide) only [q_pa, q_pb, tq_upk, tq_upj, tq_cpk] using hpa
  · simpa (disch := decide) only [q_kn, tq_upk, tq_upj, tq_cpk] using hkn
  · simpa (disch := decide) only [q_st, tq_upk, tq_upj, tq_cpk] using hst
  · simpa (disch := decide) only [q_pm, q_pn, tq_upk, tq_upj, tq_cpk] using hpm
  · simpa (disch := decide) only [q_si, tq_upk, tq_upj, tq_cpk] using hsi
  · simpa (disch := decide) only [q_ab, tq_upk, tq_upj, tq_cpk] using hab
  · simpa (disch := decide) only [q_sm, tq_upk, tq_upj, tq_cpk] using hsm
  · simpa (disch := decide) only [q_vo, tq_upk, tq_upj, tq_cpk] using hvo
  · simpa (disch := decide) only [q_vm, tq_upk, tq_upj, tq_cpk] using hvm
  · simpa (disch := decide) only [q_bi, tq_upk, tq_upj, tq_cpk] using hbi
  · simpa (disch := decide) only [q_lb, tq_upk, tq_upj, tq_cpk] using hlb
  · simpa (disch := decide) only [q_iv, tq_upk, tq_upj, tq_cpk] using hiv
  · simpa (disch := decide) only [q_od, tq_upk, tq_upj, tq_cpk] using hod
  · simpa (disch := decide) only [q_ol, tq_upk, tq_upj, tq_cpk] using hol
  · simpa (disch := decide) only [q_oi, tq_upk, tq_upj, tq_cpk] using hoi
  · simpa (disch := decide) only [q_fi, tq_upk, tq_upj, tq_cpk] using hfi
  · simpa (disch := decide) only [q_li, tq_upk, tq_upj, tq_cpk] using hli
  · simpa (disch := decide) only [q_ad, tq_upk, tq_upj, tq_cpk] using had
  · simpa (disch := decide) only [q_ro, tq_upk, tq_upj, tq_cpk] using hro
theorem RR_way2 {c h w d pn P Sh V E A t r eb : Nat} {G : Nat → Nat → Nat → Nat} {C : Nat → Nat → Nat} {OL : Nat → List Nat} {N : tq_Nn} {S M : tq_St} (h0 : RR c h w d pn P Sh V E A t r eb G C OL N S M) {p : Nat} {v : Int32} (hv : 0 ≤ v.toInt ∧ v.toInt ≤ 50) : RR c h w d pn P Sh V E A t r eb G C OL N (tq_up S 2 p 5 v) (tq_up M 103 p 2 v) := by
  obtain ⟨hsc, hss, har, hpl, hlg, hsh, hpe, hmo, hpr, hsr, hpa, hkn, hst, hpm, hsi, hab, hsm, hvo, hvm, hbi, hlb, hiv, hod, hol, hoi, hfi, hli, had, hro⟩ := h0
  refine ⟨?_, ?_, ?_, ?_, ?_, ?_, ?_, ?_, ?_, ?_, ?_, ?_, ?_, ?_, ?_, ?_, ?_, ?_, ?_, ?_, ?_, ?_, ?_, ?_, ?_, ?_, ?_, ?_, ?_⟩
  · simpa (disch := decide) only [q_sc, tq_upk, tq_upj, tq_cpk] using hsc
  · simpa (disch := decide) only [q_ss, tq_upk, tq_upj, tq_cpk] using hss
  · simpa (disch := decide) only [q_ar, tq_upk, tq_upj, tq_cpk] using har
  · obtain ⟨a1, a2, a3, a4, a5, a6⟩ := hpl
    refine ⟨?_, ?_, ?_, ?_, ?_, ?_⟩
    · simpa (disch := decide) only [tq_upk, tq_upj, tq_cpk] using a1
    · simpa (disch := decide) only [tq_upk, tq_upj, tq_cpk] using a2
    · intro q h1 h2
      by_cases e : q = p
      · subst e; rw [tq_upj (by decide), tq_upj (by decide)]; exact a3 q h1 h2
      · rw [tq_upi e, tq_upi e]; exact a3 q h1 h2
    · intro q h1 h2
      by_cases e : q = p
      · subst e; rw [tq_upj (by decide), tq_upj (by decide)]; exact a4 q h1 h2
      · rw [tq_upi e, tq_upi e]; exact a4 q h1 h2
    · intro q h1 h2
      by_cases e : q = p
      · subst e; rw [tq_upe, tq_upe]
      · rw [tq_upi e, tq_upi e]; exact a5 q h1 h2
    · simpa (disch := decide) only [tq_upk, tq_upj, tq_cpk] using a6
  · simpa (disch := decide) only [q_lg, tq_upk, tq_upj, tq_cpk] using hlg
  · simpa (disch := decide) only [q_sh, tq_upk, tq_upj, tq_cpk] using hsh
  · simpa (disch := decide) only [q_pe, tq_upk, tq_upj, tq_cpk] using hpe
  · simpa (disch := decide) only [q_mo, tq_upk, tq_upj, tq_cpk] using hmo
  · obtain ⟨a1, a2, a3, a4⟩ := hpr
    refine ⟨?_, ?_, ?_, ?_⟩
    · simpa (disch := decide) only [tq_upk, tq_upj, tq_cpk] using a1
    · simpa (disch := decide) only [tq_upk, tq_upj, tq_cpk] using a2
    · intro q h1 h2
      by_cases e : q = p
      · subst e; rw [tq_upe]; exact hv
      · rw [tq_upi e]; exact a3 q h1 h2
    · simpa (disch := decide) only [tq_upk, tq_upj, tq_cpk] using a4
  · simpa (disch := decide) only [q_sr, tq_upk, tq_upj, tq_cpk] using hsr
  · simpa (disch := decide) only [q_pa, q_pb, tq_upk, tq_upj, tq_cpk] using hpa
  · simpa (disch := decide) only [q_kn, tq_upk, tq_upj, tq_cpk] using hkn
  · simpa (disch := decide) only [q_st, tq_upk, tq_upj, tq_cpk] using hst
  · simpa (disch := decide) only [q_pm, q_pn, tq_upk, tq_upj, tq_cpk] using hpm
  · simpa (disch := decide) only [q_si, tq_upk, tq_upj, tq_cpk] using hsi
  · simpa (disch := decide) only [q_ab, tq_upk, tq_upj, tq_cpk] using hab
  · simpa (disch := decide) only [q_sm, tq_upk, tq_upj, tq_cpk] using hsm
  · simpa (disch := decide) only [q_vo, tq_upk, tq_upj, tq_cpk] using hvo
  · simpa (disch := decide) only [q_vm, tq_upk, tq_upj, tq_cpk] using hvm
  · simpa (disch := decide) only [q_bi, tq_upk, tq_upj, tq_cpk] using hbi
  · simpa (disch := decide) only [q_lb, tq_upk, tq_upj, tq_cpk] using hlb
  · simpa (disch := decide) only [q_iv, tq_upk, tq_upj, tq_cpk] using hiv
  · simpa (disch := decide) only [q_od, tq_upk, tq_upj, tq_cpk] using hod
  · simpa (disch := decide) only [q_ol, tq_upk, tq_upj, tq_cpk] using hol
  · simpa (disch := decide) only [q_oi, tq_upk, tq_upj, tq_cpk] using hoi
  · simpa (disch := decide) only [q_fi, tq_upk, tq_upj, tq_cpk] using hfi
  · simpa (disch := decide) only [q_li, tq_upk, tq_upj, tq_cpk] using hli
  · simpa (disch := decide) only [q_ad, tq_upk, tq_upj, tq_cpk] using had
  · simpa (disch := decide) only [q_ro, tq_upk, tq_upj, tq_cpk] using hro
theorem RR_base {c h w d pn P Sh V E A t r eb : Nat} {G : Nat → Nat → Nat → Nat} {C : Nat → Nat → Nat} {OL : Nat → List Nat} {N : tq_Nn} {S M : tq_St} (h0 : RR c h w d pn P Sh V E A t r eb G C OL N S M) {p s : Nat} {v : Int32} (hv : 1 ≤ v.toInt ∧ v.toInt ≤ 999) : RR c h w d pn P Sh V E A t r eb G C OL N (tq_up S 31 p s v) (tq_up M 104 p s v) := by
  obtain ⟨hsc, hss, har, hpl, hlg, hsh, hpe, hmo, hpr, hsr, hpa, hkn, hst, hpm, hsi, hab, hsm, hvo, hvm, hbi, hlb, hiv, hod, hol, hoi, hfi, hli, had, hro⟩ := h0
  refine ⟨?_, ?_, ?_, ?_, ?_, ?_, ?_, ?_, ?_, ?_, ?_, ?_, ?_, ?_, ?_, ?_, ?_, ?_, ?_, ?_, ?_, ?_, ?_, ?_, ?_, ?_, ?_, ?_, ?_⟩
  · simpa (disch := decide) only [q_sc, tq_upk, tq_upj, tq_cpk] using hsc
  · simpa (disch := decide) only [q_ss, tq_upk, tq_upj, tq_cpk] using hss
  · simpa (disch := decide) only [q_ar, tq_upk, tq_upj, tq_cpk] using har
  · obtain ⟨a1, a2, a3, a4, a5, a6⟩ := hpl
    refine ⟨?_, ?_, ?_, ?_, ?_, ?_⟩
    · simpa (disch := decide) only [tq_upk, tq_upj, tq_cpk] using a1
    · simpa (disch := decide) only [tq_upk, tq_upj, tq_cpk] using a2
    · simpa (disch := decide) only [tq_upk, tq_upj, tq_cpk] using a3
    · simpa (disch := decide) only [tq_upk, tq_upj, tq_cpk] using a4
    · simpa (disch := decide) only [tq_upk, tq_upj, tq_cpk] using a5
    · intro q h1 h2
      by_cases e : q = p
      · subst e; rw [tq_up_cell, tq_up_cell, a6 q h1 h2]
      · rw [tq_upi e, tq_upi e]; exact a6 q h1 h2
  · simpa (disch := decide) only [q_lg, tq_upk, tq_upj, tq_cpk] using hlg
  · simpa (disch := decide) only [q_sh, tq_upk, tq_upj, tq_cpk] using hsh
  · simpa (disch := decide) only [q_pe, tq_upk, tq_upj, tq_cpk] using hpe
  · simpa (disch := decide) only [q_mo, tq_upk, tq_upj, tq_cpk] using hmo
  · obtain ⟨a1, a2, a3, a4⟩ := hpr
    refine ⟨?_, ?_, ?_, ?_⟩
    · intro q x h1 h2 h3
      by_cases e : q = p
      · subst e
        by_cases e2 : x = s
        · subst e2; rw [tq_upe]; exact hv
        · rw [tq_upj e2]; exact a1 q x h1 h2 h3
      · rw [tq_upi e]; exact a1 q x h1 h2 h3
    · simpa (disch := decide) only [tq_upk, tq_upj, tq_cpk] using a2
    · simpa (disch := decide) only [tq_upk, tq_upj, tq_cpk] using a3
    · simpa (disch := decide) only [tq_upk, tq_upj, tq_cpk] using a4
  · simpa (disch := decide) only [q_sr, tq_upk, tq_upj, tq_cpk] using hsr
  · simpa (disch := decide) only [q_pa, q_pb, tq_upk, tq_upj, tq_cpk] using hpa
  · simpa (disch := decide) only [q_kn, tq_upk, tq_upj, tq_cpk] using hkn
  · simpa (disch := decide) only [q_st, tq_upk, tq_upj, tq_cpk] using hst
  · simpa (disch := decide) only [q_pm, q_pn, tq_upk, tq_upj, tq_cpk] using hpm
  · simpa (disch := decide) only [q_si, tq_upk, tq_upj, tq_cpk] using hsi
  · simpa (disch := decide) only [q_ab, tq_upk, tq_upj, tq_cpk] using hab
  · simpa (disch := decide) only [q_sm, tq_upk, tq_upj, tq_cpk] using hsm
  · simpa (disch := decide) only [q_vo, tq_upk, tq_upj, tq_cpk] using hvo
  · simpa (disch := decide) only [q_vm, tq_upk, tq_upj, tq_cpk] using hvm
  · simpa (disch := decide) only [q_bi, tq_upk, tq_upj, tq_cpk] using hbi
  · simpa (disch := decide) only [q_lb, tq_upk, tq_upj, tq_cpk] using hlb
  · simpa (disch := decide) only [q_iv, tq_upk, tq_upj, tq_cpk] using hiv
  · simpa (disch := decide) only [q_od, tq_upk, tq_upj, tq_cpk] using hod
  · simpa (disch := decide) only [q_ol, tq_upk, tq_upj, tq_cpk] using hol
  · simpa (disch := decide) only [q_oi, tq_upk, tq_upj, tq_cpk] using hoi
  · simpa (disch := decide) only [q_fi, tq_upk, tq_upj, tq_cpk] using hfi
  · simpa (disch := decide) only [q_li, tq_upk, tq_upj, tq_cpk] using hli
  · simpa (disch := decide) only [q_ad, tq_upk, tq_upj, tq_cpk] using had
  · simpa (disch := decide) only [q_ro, tq_upk, tq_upj, tq_cpk] using hro
theorem RR_coin {c h w d pn P Sh V E A t r eb : Nat} {G : Nat → Nat → Nat → Nat} {C : Nat → Nat → Nat} {OL : Nat → List Nat} {N : tq_Nn} {S M : tq_St} (h0 : RR c h w d pn P Sh V E A t r eb G C OL N S M) {c' p : Nat} {v : Int32} (hp : p < 5) (hv0 : 0 ≤ v.toInt) (hv : v.toInt + 1100000 * (c : Int) ≤ (M 101 0 p).toInt + 1100000 * (c' : Int)) (hcc : c ≤ c') (hc : c' ≤ 512) : RR c' h w d pn P Sh V E A t r eb G C OL N (tq_up S 2 p 1 v) (tq_up M 101 0 p v) := by
  obtain ⟨hsc, hss, har, hpl, hlg, hsh, hpe, hmo, hpr, hsr, hpa, hkn, hst, hpm, hsi, hab, hsm, hvo, hvm, hbi, hlb, hiv, hod, hol, hoi, hfi, hli, had, hro⟩ := h0
  refine ⟨?_, ?_, ?_, ?_, ?_, ?_, ?_, ?_, ?_, ?_, ?_, ?_, ?_, ?_, ?_, ?_, ?_, ?_, ?_, ?_, ?_, ?_, ?_, ?_, ?_, ?_, ?_, ?_, ?_⟩
  · obtain ⟨a1, a2, a3, a4, a5, a6, a7, a8, a9, b1, b2, b3, b4, b5, b6, b7, b8, b9, e1, e2⟩ := hsc
    exact ⟨by rw [tq_upk (by decide)]; exact a1, by rw [tq_upk (by decide)]; exact a2, by rw [tq_upk (by decide)]; exact a3, by rw [tq_upk (by decide)]; exact a4, by rw [tq_upk (by decide)]; exact a5, by rw [tq_upk (by decide)]; exact a6, by rw [tq_upk (by decide)]; exact a7, by rw [tq_upk (by decide)]; exact a8, by rw [tq_upk (by decide)]; exact a9, b1, b2, b3, b4, b5, b6, b7, b8, b9, e1, hc⟩
  · simpa (disch := decide) only [q_ss, tq_upk, tq_upj, tq_cpk] using hss
  · simpa (disch := decide) only [q_ar, tq_upk, tq_upj, tq_cpk] using har
  · obtain ⟨a1, a2, a3, a4, a5, a6⟩ := hpl
    refine ⟨?_, ?_, ?_, ?_, ?_, ?_⟩
    · simpa (disch := decide) only [tq_upk, tq_upj, tq_cpk] using a1
    · intro q h1
      by_cases e : q = p
      · subst e; rw [tq_upe, tq_upe]
      · rw [tq_upi e, tq_upj e]; exact a2 q h1
    · simpa (disch := decide) only [tq_upk, tq_upj, tq_cpk] using a3
    · simpa (disch := decide) only [tq_upk, tq_upj, tq_cpk] using a4
    · simpa (disch := decide) only [tq_upk, tq_upj, tq_cpk] using a5
    · simpa (disch := decide) only [tq_upk, tq_upj, tq_cpk] using a6
  · simpa (disch := decide) only [q_lg, tq_upk, tq_upj, tq_cpk] using hlg
  · simpa (disch := decide) only [q_sh, tq_upk, tq_upj, tq_cpk] using hsh
  · simpa (disch := decide) only [q_pe, tq_upk, tq_upj, tq_cpk] using hpe
  · obtain ⟨a1, a2, a3, a4⟩ := hmo
    refine ⟨?_, ?_, ?_, ?_⟩
    · intro q h1
      by_cases e : q = p
      · subst e; rw [tq_upe]; exact hv0
      · rw [tq_upj e]; exact a1 q h1
    · simpa (disch := decide) only [tq_upk, tq_upj] using a2
    · simpa (disch := decide) only [tq_upk, tq_upj] using a3
    · have k1 := tp_sm_upd (f := fun q => (M 101 0 q).toInt) (g := fun q => (tq_up M 101 0 p v 101 0 q).toInt) hp (fun k _ hk => by show (tq_up M 101 0 p v 101 0 k).toInt = _; rw [tq_upj hk])
      have k2 : (tq_up M 101 0 p v 101 0 p).toInt = v.toInt := by rw [tq_upe]
      simp (disch := decide) only [tq_upk] at k1 k2 ⊢
      omega
  · simpa (disch := decide) only [q_pr, tq_upk, tq_upj, tq_cpk] using hpr
  · simpa (disch := decide) only [q_sr, tq_upk, tq_upj, tq_cpk] using hsr
  · simpa (disch := decide) only [q_pa, q_pb, tq_upk, tq_upj, tq_cpk] using hpa
  · simpa (disch := decide) only [q_kn, tq_upk, tq_upj, tq_cpk] using hkn
  · simpa (disch := decide) only [q_st, tq_upk, tq_upj, tq_cpk] using hst
  · simpa (disch := decide) only [q_pm, q_pn, tq_upk, tq_upj, tq_cpk] using hpm
  · simpa (disch := decide) only [q_si, tq_upk, tq_upj, tq_cpk] using hsi
  · simpa (disch := decide) only [q_ab, tq_upk, tq_upj, tq_cpk] using hab
  · simpa (disch := decide) only [q_sm, tq_upk, tq_upj, tq_cpk] using hsm
  · simpa (disch := decide) only [q_vo, tq_upk, tq_upj, tq_cpk] using hvo
  · simpa (disch := decide) only [q_vm, tq_upk, tq_upj, tq_cpk] using hvm
  · simpa (disch := decide) only [q_bi, tq_upk, tq_upj, tq_cpk] using hbi
  · simpa (disch := decide) only [q_lb, tq_upk, tq_upj, tq_cpk] using hlb
  · simpa (disch := decide) only [q_iv, tq_upk, tq_upj, tq_cpk] using hiv
  · simpa (disch := decide) only [q_od, tq_upk, tq_upj, tq_cpk] using hod
  · simpa (disch := decide) only [q_ol, tq_upk, tq_upj, tq_cpk] using hol
  · simpa (disch := decide) only [q_oi, tq_upk, tq_upj, tq_cpk] using hoi
  · simpa (disch := decide) only [q_fi, tq_upk, tq_upj, tq_cpk] using hfi
  · simpa (disch := decide) only [q_li, tq_upk, tq_upj, tq_cpk] using hli
  · simpa (disch := decide) only [q_ad, tq_upk, tq_upj, tq_cpk] using had
  · obtain ⟨a1, a2, a3⟩ := hro
    exact ⟨by omega, by omega, a3⟩
theorem RR_person {c h w d pn P Sh V E A t r eb : Nat} {G : Nat → Nat → Nat → Nat} {C : Nat → Nat → Nat} {OL : Nat → List Nat} {N : tq_Nn} {S M : tq_St} (h0 : RR c h w d pn P Sh V E A t r eb G C OL N S M) {p k : Nat} (hpn : pn < 20) (hk : k ≤ 9) : RR c h w d (pn + 1) P Sh V E A t r eb G C OL N (tq_up (tq_up (tq_up S 13 0 pn (nI p)) 14 0 pn (nI k)) 1 0 2 (nI (pn + 1))) (tq_up (tq_up (tq_up M 107 0 pn (nI p)) 108 0 pn (nI k)) 64 0 6 (nI (pn + 1))) := by
  obtain ⟨hsc, hss, har, hpl, hlg, hsh, hpe, hmo, hpr, hsr, hpa, hkn, hst, hpm, hsi, hab, hsm, hvo, hvm, hbi, hlb, hiv, hod, hol, hoi, hfi, hli, had, hro⟩ := h0
  refine ⟨?_, ?_, ?_, ?_, ?_, ?_, ?_, ?_, ?_, ?_, ?_, ?_, ?_, ?_, ?_, ?_, ?_, ?_, ?_, ?_, ?_, ?_, ?_, ?_, ?_, ?_, ?_, ?_, ?_⟩
  · obtain ⟨a1, a2, a3, a4, a5, a6, a7, a8, a9, b1, b2, b3, b4, b5, b6, b7, b8, b9, e1, e2⟩ := hsc
    refine ⟨?_, ?_, ?_, ?_, ?_, ?_, ?_, ?_, ?_, b1, by omega, b3, b4, b5, b6, b7, b8, b9, e1, e2⟩
    · simpa (disch := decide) only [tq_upk, tq_upj, tq_cpk] using a1
    · exact tq_upe
    · simpa (disch := decide) only [tq_upk, tq_upj, tq_cpk] using a3
    · simpa (disch := decide) only [tq_upk, tq_upj, tq_cpk] using a4
    · simpa (disch := decide) only [tq_upk, tq_upj, tq_cpk] using a5
    · simpa (disch := decide) only [tq_upk, tq_upj, tq_cpk] using a6
    · simpa (disch := decide) only [tq_upk, tq_upj, tq_cpk] using a7
    · simpa (disch := decide) only [tq_upk, tq_upj, tq_cpk] using a8
    · simpa (disch := decide) only [tq_upk, tq_upj, tq_cpk] using a9
  · obtain ⟨a1, a2, a3, a4, a5, a6, a7⟩ := hss
    refine ⟨?_, ?_, ?_, ?_, ?_, ?_, ?_⟩
    · simpa (disch := decide) only [tq_upk, tq_upj, tq_cpk] using a1
    · rw [tq_upe, tq_upe]
    · simpa (disch := decide) only [tq_upk, tq_upj, tq_cpk] using a3
    · simpa (disch := decide) only [tq_upk, tq_upj, tq_cpk] using a4
    · simpa (disch := decide) only [tq_upk, tq_upj, tq_cpk] using a5
    · simpa (disch := decide) only [tq_upk, tq_upj, tq_cpk] using a6
    · simpa (disch := decide) only [tq_upk, tq_upj, tq_cpk] using a7
  · obtain ⟨y1, y2, y3, y4, y5, y6, y7, y8, y9, y10, y11, y12, y13, y14, y15⟩ := har
    refine ⟨?_, ?_, ?_, ?_, ?_, ?_, ?_, ?_, ?_, ?_, ?_, ?_, ?_, ?_, ?_⟩
    · first | exact tp_up2 y1 | (simp (disch := decide) only [tq_upk]; exact tp_up2 y1)
    · first | exact tp_up2 y2 | (simp (disch := decide) only [tq_upk]; exact tp_up2 y2)
    · simpa (disch := decide) only [tq_upk, tq_upj, tq_cpk] using y3
    · simpa (disch := decide) only [tq_upk, tq_upj, tq_cpk] using y4
    · simpa (disch := decide) only [tq_upk, tq_upj, tq_cpk] using y5
    · simpa (disch := decide) only [tq_upk, tq_upj, tq_cpk] using y6
    · simpa (disch := decide) only [tq_upk, tq_upj, tq_cpk] using y7
    · simpa (disch := decide) only [tq_upk, tq_upj, tq_cpk] using y8
    · simpa (disch := decide) only [tq_upk, tq_upj, tq_cpk] using y9
    · simpa (disch := decide) only [tq_upk, tq_upj, tq_cpk] using y10
    · simpa (disch := decide) only [tq_upk, tq_upj, tq_cpk] using y11
    · simpa (disch := decide) only [tq_upk, tq_upj, tq_cpk] using y12
    · simpa (disch := decide) only [tq_upk, tq_upj, tq_cpk] using y13
    · simpa (disch := decide) only [tq_upk, tq_upj, tq_cpk] using y14
    · simpa (disch := decide) only [tq_upk, tq_upj, tq_cpk] using y15
  · simpa (disch := decide) only [q_pl, tq_upk, tq_upj, tq_cpk] using hpl
  · simpa (disch := decide) only [q_lg, tq_upk, tq_upj, tq_cpk] using hlg
  · simpa (disch := decide) only [q_sh, tq_upk, tq_upj, tq_cpk] using hsh
  · intro i hi
    simp (disch := decide) only [tq_upk]
    by_cases e : i = pn
    · subst e; exact ⟨k, hk, tq_upe⟩
    · rw [tq_upj e]; exact hpe i (by omega)
  · simpa (disch := decide) only [q_mo, tq_upk, tq_upj, tq_cpk] using hmo
  · simpa (disch := decide) only [q_pr, tq_upk, tq_upj, tq_cpk] using hpr
  · simpa (disch := decide) only [q_sr, tq_upk, tq_upj, tq_cpk] using hsr
  · simpa (disch := decide) only [q_pa, q_pb, tq_upk, tq_upj, tq_cpk] using hpa
  · simpa (disch := decide) only [q_kn, tq_upk, tq_upj, tq_cpk] using hkn
  · simpa (disch := decide) only [q_st, tq_upk, tq_upj, tq_cpk] using hst
  · simpa (disch := decide) only [q_pm, q_pn, tq_upk, tq_upj, tq_cpk] using hpm
  · simpa (disch := decide) only [q_si, tq_upk, tq_upj, tq_cpk] using hsi
  · simpa (disch := decide) only [q_ab, tq_upk, tq_upj, tq_cpk] using hab
  · obtain ⟨a1, a2, a3⟩ := hsm
    refine ⟨?_, ?_, ?_⟩
    · simpa (disch := decide) only [tq_upk, tq_upj, tq_cpk] using a1
    · intro s q h1 h2 h3
      rw [tq_upk (by decide), tq_upk (by decide), tq_upk (by decide)]
      exact a2 s q h1 (by omega) h3
    · simpa (disch := decide) only [tq_upk, tq_upj, tq_cpk] using a3
  · simpa (disch := decide) only [q_vo, tq_upk, tq_upj, tq_cpk] using hvo
  · simpa (disch := decide) only [q_vm, tq_upk, tq_upj, tq_cpk] using hvm
  · simpa (disch := decide) only [q_bi, tq_upk, tq_upj, tq_cpk] using hbi
  · simpa (disch := decide) only [q_lb, tq_upk, tq_upj, tq_cpk] using hlb
  · simpa (disch := decide) only [q_iv, tq_upk, tq_upj, tq_cpk] using hiv
  · simpa (disch := decide) only [q_od, tq_upk, tq_upj, tq_cpk] using hod
  · simpa (disch := decide) only [q_ol, tq_upk, tq_upj, tq_cpk] using hol
  · simpa (disch := decide) only [q_oi, tq_upk, tq_upj, tq_cpk] using hoi
  · simpa (disch := decide) only [q_fi, tq_upk, tq_upj, tq_cpk] using hfi
  · simpa (disch := decide) only [q_li, tq_upk, tq_upj, tq_cpk] using hli
  · simpa (disch := decide) only [q_ad, tq_upk, tq_upj, tq_cpk] using had
  · simpa (disch := decide) only [q_ro, tq_upk, tq_upj, tq_cpk] using hro
theorem RR_goes {c h w d pn P Sh V E A t r eb : Nat} {G : Nat → Nat → Nat → Nat} {C : Nat → Nat → Nat} {OL : Nat → List Nat} {N : tq_Nn} {S M : tq_St} (h0 : RR c h w d pn P Sh V E A t r eb G C OL N S M) {i : Nat} {v : Int32} : RR c h w d pn P Sh V E A t r eb G C OL N (tq_up S 13 0 i v) (tq_up M 107 0 i v) := by
  obtain ⟨hsc, hss, har, hpl, hlg, hsh, hpe, hmo, hpr, hsr, hpa, hkn, hst, hpm, hsi, hab, hsm, hvo, hvm, hbi, hlb, hiv, hod, hol, hoi, hfi, hli, had, hro⟩ := h0
  refine ⟨?_, ?_, ?_, ?_, ?_, ?_, ?_, ?_, ?_, ?_, ?_, ?_, ?_, ?_, ?_, ?_, ?_, ?_, ?_, ?_, ?_, ?_, ?_, ?_, ?_, ?_, ?_, ?_, ?_⟩
  · simpa (disch := decide) only [q_sc, tq_upk, tq_upj, tq_cpk] using hsc
  · simpa (disch := decide) only [q_ss, tq_upk, tq_upj, tq_cpk] using hss
  · obtain ⟨y1, y2, y3, y4, y5, y6, y7, y8, y9, y10, y11, y12, y13, y14, y15⟩ := har
    refine ⟨?_, ?_, ?_, ?_, ?_, ?_, ?_, ?_, ?_, ?_, ?_, ?_, ?_, ?_, ?_⟩
    · first | exact tp_up2 y1 | (simp (disch := decide) only [tq_upk]; exact tp_up2 y1)
    · simpa (disch := decide) only [tq_upk, tq_upj, tq_cpk] using y2
    · simpa (disch := decide) only [tq_upk, tq_upj, tq_cpk] using y3
    · simpa (disch := decide) only [tq_upk, tq_upj, tq_cpk] using y4
    · simpa (disch := decide) only [tq_upk, tq_upj, tq_cpk] using y5
    · simpa (disch := decide) only [tq_upk, tq_upj, tq_cpk] using y6
    · simpa (disch := decide) only [tq_upk, tq_upj, tq_cpk] using y7
    · simpa (disch := decide) only [tq_upk, tq_upj, tq_cpk] using y8
    · simpa (disch := decide) only [tq_upk, tq_upj, tq_cpk] using y9
    · simpa (disch := decide) only [tq_upk, tq_upj, tq_cpk] using y10
    · simpa (disch := decide) only [tq_upk, tq_upj, tq_cpk] using y11
    · simpa (disch := decide) only [tq_upk, tq_upj, tq_cpk] using y12
    · simpa (disch := decide) only [tq_upk, tq_upj, tq_cpk] using y13
    · simpa (disch := decide) only [tq_upk, tq_upj, tq_cpk] using y14
    · simpa (disch := decide) only [tq_upk, tq_upj, tq_cpk] using y15
  · simpa (disch := decide) only [q_pl, tq_upk, tq_upj, tq_cpk] using hpl
  · simpa (disch := decide) only [q_lg, tq_upk, tq_upj, tq_cpk] using hlg
  · simpa (disch := decide) only [q_sh, tq_upk, tq_upj, tq_cpk] using hsh
  · simpa (disch := decide) only [q_pe, tq_upk, tq_upj, tq_cpk] using hpe
  · simpa (disch := decide) only [q_mo, tq_upk, tq_upj, tq_cpk] using hmo
  · simpa (disch := decide) only [q_pr, tq_upk, tq_upj, tq_cpk] using hpr
  · simpa (disch := decide) only [q_sr, tq_upk, tq_upj, tq_cpk] using hsr
  · simpa (disch := decide) only [q_pa, q_pb, tq_upk, tq_upj, tq_cpk] using hpa
  · simpa (disch := decide) only [q_kn, tq_upk, tq_upj, tq_cpk] using hkn
  · simpa (disch := decide) only [q_st, tq_upk, tq_upj, tq_cpk] using hst
  · simpa (disch := decide) only [q_pm, q_pn, tq_upk, tq_upj, tq_cpk] using hpm
  · simpa (disch := decide) only [q_si, tq_upk, tq_upj, tq_cpk] using hsi
  · simpa (disch := decide) only [q_ab, tq_upk, tq_upj, tq_cpk] using hab
  · simpa (disch := decide) only [q_sm, tq_upk, tq_upj, tq_cpk] using hsm
  · simpa (disch := decide) only [q_vo, tq_upk, tq_upj, tq_cpk] using hvo
  · simpa (disch := decide) only [q_vm, tq_upk, tq_upj, tq_cpk] using hvm
  · simpa (disch := decide) only [q_bi, tq_upk, tq_upj, tq_cpk] using hbi
  · simpa (disch := decide) only [q_lb, tq_upk, tq_upj, tq_cpk] using hlb
  · simpa (disch := decide) only [q_iv, tq_upk, tq_upj, tq_cpk] using hiv
  · simpa (disch := decide) only [q_od, tq_upk, tq_upj, tq_cpk] using hod
  · simpa (disch := decide) only [q_ol, tq_upk, tq_upj, tq_cpk] using hol
  · simpa (disch := decide) only [q_oi, tq_upk, tq_upj, tq_cpk] using hoi
  · simpa (disch := decide) only [q_fi, tq_upk, tq_upj, tq_cpk] using hfi
  · simpa (disch := decide) only [q_li, tq_upk, tq_upj, tq_cpk] using hli
  · simpa (disch := decide) only [q_ad, tq_upk, tq_upj, tq_cpk] using had
  · simpa (disch := decide) only [q_ro, tq_upk, tq_upj, tq_cpk] using hro
theorem RR_year {c h w d pn P Sh V E A t r eb : Nat} {G : Nat → Nat → Nat → Nat} {C : Nat → Nat → Nat} {OL : Nat → List Nat} {N : tq_Nn} {S M : tq_St} (h0 : RR c h w d pn P Sh V E A t r eb G C OL N S M) {y s : Nat} {v : Int32} (hv : 0 ≤ v.toInt ∧ v.toInt ≤ 999) : RR c h w d pn P Sh V E A t r eb G C OL N (tq_up S 28 y s v) (tq_up M 159 y s v) := by
  obtain ⟨hsc, hss, har, hpl, hlg, hsh, hpe, hmo, hpr, hsr, hpa, hkn, hst, hpm, hsi, hab, hsm, hvo, hvm, hbi, hlb, hiv, hod, hol, hoi, hfi, hli, had, hro⟩ := h0
  refine ⟨?_, ?_, ?_, ?_, ?_, ?_, ?_, ?_, ?_, ?_, ?_, ?_, ?_, ?_, ?_, ?_, ?_, ?_, ?_, ?_, ?_, ?_, ?_, ?_, ?_, ?_, ?_, ?_, ?_⟩
  · simpa (disch := decide) only [q_sc, tq_upk, tq_upj, tq_cpk] using hsc
  · simpa (disch := decide) only [q_ss, tq_upk, tq_upj, tq_cpk] using hss
  · obtain ⟨y1, y2, y3, y4, y5, y6, y7, y8, y9, y10, y11, y12, y13, y14, y15⟩ := har
    refine ⟨?_, ?_, ?_, ?_, ?_, ?_, ?_, ?_, ?_, ?_, ?_, ?_, ?_, ?_, ?_⟩
    · simpa (disch := decide) only [tq_upk, tq_upj, tq_cpk] using y1
    · simpa (disch := decide) only [tq_upk, tq_upj, tq_cpk] using y2
    · simpa (disch := decide) only [tq_upk, tq_upj, tq_cpk] using y3
    · simpa (disch := decide) only [tq_upk, tq_upj, tq_cpk] using y4
    · simpa (disch := decide) only [tq_upk, tq_upj, tq_cpk] using y5
    · first | exact tp_up2 y6 | (simp (disch := decide) only [tq_upk]; exact tp_up2 y6)
    · simpa (disch := decide) only [tq_upk, tq_upj, tq_cpk] using y7
    · simpa (disch := decide) only [tq_upk, tq_upj, tq_cpk] using y8
    · simpa (disch := decide) only [tq_upk, tq_upj, tq_cpk] using y9
    · simpa (disch := decide) only [tq_upk, tq_upj, tq_cpk] using y10
    · simpa (disch := decide) only [tq_upk, tq_upj, tq_cpk] using y11
    · simpa (disch := decide) only [tq_upk, tq_upj, tq_cpk] using y12
    · simpa (disch := decide) only [tq_upk, tq_upj, tq_cpk] using y13
    · simpa (disch := decide) only [tq_upk, tq_upj, tq_cpk] using y14
    · simpa (disch := decide) only [tq_upk, tq_upj, tq_cpk] using y15
  · simpa (disch := decide) only [q_pl, tq_upk, tq_upj, tq_cpk] using hpl
  · simpa (disch := decide) only [q_lg, tq_upk, tq_upj, tq_cpk] using hlg
  · simpa (disch := decide) only [q_sh, tq_upk, tq_upj, tq_cpk] using hsh
  · simpa (disch := decide) only [q_pe, tq_upk, tq_upj, tq_cpk] using hpe
  · simpa (disch := decide) only [q_mo, tq_upk, tq_upj, tq_cpk] using hmo
  · obtain ⟨a1, a2, a3, a4⟩ := hpr
    refine ⟨?_, ?_, ?_, ?_⟩
    · simpa (disch := decide) only [tq_upk, tq_upj, tq_cpk] using a1
    · simpa (disch := decide) only [tq_upk, tq_upj, tq_cpk] using a2
    · simpa (disch := decide) only [tq_upk, tq_upj, tq_cpk] using a3
    · intro q x h1 h2
      by_cases e : q = y
      · subst e
        by_cases e2 : x = s
        · subst e2; rw [tq_upe]; exact hv
        · rw [tq_upj e2]; exact a4 q x h1 h2
      · rw [tq_upi e]; exact a4 q x h1 h2
  · simpa (disch := decide) only [q_sr, tq_upk, tq_upj, tq_cpk] using hsr
  · simpa (disch := decide) only [q_pa, q_pb, tq_upk, tq_upj, tq_cpk] using hpa
  · simpa (disch := decide) only [q_kn, tq_upk, tq_upj, tq_cpk] using hkn
  · simpa (disch := decide) only [q_st, tq_upk, tq_upj, tq_cpk] using hst
  · simpa (disch := decide) only [q_pm, q_pn, tq_upk, tq_upj, tq_cpk] using hpm
  · simpa (disch := decide) only [q_si, tq_upk, tq_upj, tq_cpk] using hsi
  · simpa (disch := decide) only [q_ab, tq_upk, tq_upj, tq_cpk] using hab
  · simpa (disch := decide) only [q_sm, tq_upk, tq_upj, tq_cpk] using hsm
  · simpa (disch := decide) only [q_vo, tq_upk, tq_upj, tq_cpk] using hvo
  · simpa (disch := decide) only [q_vm, tq_upk, tq_upj, tq_cpk] using hvm
  · simpa (disch := decide) only [q_bi, tq_upk, tq_upj, tq_cpk] using hbi
  · simpa (disch := decide) only [q_lb, tq_upk, tq_upj, tq_cpk] using hlb
  · simpa (disch := decide) only [q_iv, tq_upk, tq_upj, tq_cpk] using hiv
  · simpa (disch := decide) only [q_od, tq_upk, tq_upj, tq_cpk] using hod
  · simpa (disch := decide) only [q_ol, tq_upk, tq_upj, tq_cpk] using hol
  · simpa (disch := decide) only [q_oi, tq_upk, tq_upj, tq_cpk] using hoi
  · simpa (disch := decide) only [q_fi, tq_upk, tq_upj, tq_cpk] using hfi
  · simpa (disch := decide) only [q_li, tq_upk, tq_upj, tq_cpk] using hli
  · simpa (disch := decide) only [q_ad, tq_upk, tq_upj, tq_cpk] using had
  · simpa (disch := decide) only [q_ro, tq_upk, tq_upj, tq_cpk] using hro
theorem RR_wants {c h w d pn P Sh V E A t r eb : Nat} {G : Nat → Nat → Nat → Nat} {C : Nat → Nat → Nat} {OL : Nat → List Nat} {N : tq_Nn} {S M : tq_St} (h0 : RR c h w d pn P Sh V E A t r eb G C OL N S M) {b s : Nat} {v x : Int32} (hx : 0 ≤ x.toInt ∧ x.toInt ≤ 999) : RR c h w d pn P Sh V E A t r eb G C OL N (tq_up (tq_up S 43 b s v) 45 b s x) (tq_up (tq_up M 151 b s v) 152 b s x) := by
  obtain ⟨hsc, hss, har, hpl, hlg, hsh, hpe, hmo, hpr, hsr, hpa, hkn, hst, hpm, hsi, hab, hsm, hvo, hvm, hbi, hlb, hiv, hod, hol, hoi, hfi, hli, had, hro⟩ := h0
  refine ⟨?_, ?_, ?_, ?_, ?_, ?_, ?_, ?_, ?_, ?_, ?_, ?_, ?_, ?_, ?_, ?_, ?_, ?_, ?_, ?_, ?_, ?_, ?_, ?_, ?_, ?_, ?_, ?_, ?_⟩
  · simpa (disch := decide) only [q_sc, tq_upk, tq_upj, tq_cpk] using hsc
  · simpa (disch := decide) only [q_ss, tq_upk, tq_upj, tq_cpk] using hss
  · obtain ⟨y1, y2, y3, y4, y5, y6, y7, y8, y9, y10, y11, y12, y13, y14, y15⟩ := har
    refine ⟨?_, ?_, ?_, ?_, ?_, ?_, ?_, ?_, ?_, ?_, ?_, ?_, ?_, ?_, ?_⟩
    · simpa (disch := decide) only [tq_upk, tq_upj, tq_cpk] using y1
    · simpa (disch := decide) only [tq_upk, tq_upj, tq_cpk] using y2
    · simpa (disch := decide) only [tq_upk, tq_upj, tq_cpk] using y3
    · simpa (disch := decide) only [tq_upk, tq_upj, tq_cpk] using y4
    · simpa (disch := decide) only [tq_upk, tq_upj, tq_cpk] using y5
    · simpa (disch := decide) only [tq_upk, tq_upj, tq_cpk] using y6
    · simpa (disch := decide) only [tq_upk, tq_upj, tq_cpk] using y7
    · simpa (disch := decide) only [tq_upk, tq_upj, tq_cpk] using y8
    · simpa (disch := decide) only [tq_upk, tq_upj, tq_cpk] using y9
    · first | exact tp_up2 y10 | (simp (disch := decide) only [tq_upk]; exact tp_up2 y10)
    · first | exact tp_up2 y11 | (simp (disch := decide) only [tq_upk]; exact tp_up2 y11)
    · simpa (disch := decide) only [tq_upk, tq_upj, tq_cpk] using y12
    · simpa (disch := decide) only [tq_upk, tq_upj, tq_cpk] using y13
    · simpa (disch := decide) only [tq_upk, tq_upj, tq_cpk] using y14
    · simpa (disch := decide) only [tq_upk, tq_upj, tq_cpk] using y15
  · simpa (disch := decide) only [q_pl, tq_upk, tq_upj, tq_cpk] using hpl
  · simpa (disch := decide) only [q_lg, tq_upk, tq_upj, tq_cpk] using hlg
  · simpa (disch := decide) only [q_sh, tq_upk, tq_upj, tq_cpk] using hsh
  · simpa (disch := decide) only [q_pe, tq_upk, tq_upj, tq_cpk] using hpe
  · simpa (disch := decide) only [q_mo, tq_upk, tq_upj, tq_cpk] using hmo
  · obtain ⟨a1, a2, a3, a4⟩ := hpr
    refine ⟨?_, ?_, ?_, ?_⟩
    · simpa (disch := decide) only [tq_upk, tq_upj, tq_cpk] using a1
    · intro q y h1 h2
      by_cases e : q = b
      · subst e
        by_cases e2 : y = s
        · subst e2; rw [tq_upe]; exact hx
        · rw [tq_upj e2, tq_upk (by decide)]; exact a2 q y h1 h2
      · rw [tq_upi e, tq_upk (by decide)]; exact a2 q y h1 h2
    · simpa (disch := decide) only [tq_upk, tq_upj, tq_cpk] using a3
    · simpa (disch := decide) only [tq_upk, tq_upj, tq_cpk] using a4
  · simpa (disch := decide) only [q_sr, tq_upk, tq_upj, tq_cpk] using hsr
  · simpa (disch := decide) only [q_pa, q_pb, tq_upk, tq_upj, tq_cpk] using hpa
  · simpa (disch := decide) only [q_kn, tq_upk, tq_upj, tq_cpk] using hkn
  · simpa (disch := decide) only [q_st, tq_upk, tq_upj, tq_cpk] using hst
  · simpa (disch := decide) only [q_pm, q_pn, tq_upk, tq_upj, tq_cpk] using hpm
  · simpa (disch := decide) only [q_si, tq_upk, tq_upj, tq_cpk] using hsi
  · simpa (disch := decide) only [q_ab, tq_upk, tq_upj, tq_cpk] using hab
  · simpa (disch := decide) only [q_sm, tq_upk, tq_upj, tq_cpk] using hsm
  · simpa (disch := decide) only [q_vo, tq_upk, tq_upj, tq_cpk] using hvo
  · simpa (disch := decide) only [q_vm, tq_upk, tq_upj, tq_cpk] using hvm
  · simpa (disch := decide) only [q_bi, tq_upk, tq_upj, tq_cpk] using hbi
  · simpa (disch := decide) only [q_lb, tq_upk, tq_upj, tq_cpk] using hlb
  · simpa (disch := decide) only [q_iv, tq_upk, tq_upj, tq_cpk] using hiv
  · simpa (disch := decide) only [q_od, tq_upk, tq_upj, tq_cpk] using hod
  · simpa (disch := decide) only [q_ol, tq_upk, tq_upj, tq_cpk] using hol
  · simpa (disch := decide) only [q_oi, tq_upk, tq_upj, tq_cpk] using hoi
  · simpa (disch := decide) only [q_fi, tq_upk, tq_upj, tq_cpk] using hfi
  · simpa (disch := decide) only [q_li, tq_upk, tq_upj, tq_cpk] using hli
  · simpa (disch := decide) only [q_ad, tq_upk, tq_upj, tq_cpk] using had
  · simpa (disch := decide) only [q_ro, tq_upk, tq_upj, tq_cpk] using hro
