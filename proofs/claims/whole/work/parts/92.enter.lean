/-! pure: an entry -/
theorem RR_ecell {c h w d pn P Sh V E A t r eb : Nat} {G : Nat → Nat → Nat → Nat} {C : Nat → Nat → Nat} {OL : Nat → List Nat} {N : tq_Nn} {S M : tq_St} (h0 : RR c h w d pn P Sh V E A t r eb G C OL N S M) {j0 : Nat} {v : Int32} (hE : E < 500) (hj : j0 < 8) : RR c h w d pn P Sh V E A t r eb G C OL N (tq_up S 24 0 (E * 8 + j0) v) (tq_up M 144 E j0 v) := by
  obtain ⟨hsc, hss, har, hpl, hlg, hsh, hpe, hmo, hpr, hsr, hpa, hkn, hst, hpm, hsi, hab, hsm, hvo, hvm, hbi, hlb, hiv, hod, hol, hoi, hfi, hli, had, hro⟩ := h0
  refine ⟨?_, ?_, ?_, ?_, ?_, ?_, ?_, ?_, ?_, ?_, ?_, ?_, ?_, ?_, ?_, ?_, ?_, ?_, ?_, ?_, ?_, ?_, ?_, ?_, ?_, ?_, ?_, ?_, ?_⟩
  · simpa (disch := decide) only [q_sc, tq_upk, tq_upj, tq_cpk] using hsc
  · simpa (disch := decide) only [q_ss, tq_upk, tq_upj, tq_cpk] using hss
  · simpa (disch := decide) only [q_ar, tq_upk, tq_upj, tq_cpk] using har
  · simpa (disch := decide) only [q_pl, tq_upk, tq_upj, tq_cpk] using hpl
  · obtain ⟨a1, a2⟩ := hlg
    refine ⟨fun i j h1 h2 => ?_, fun i h1 h2 => ?_⟩
    · by_cases e : i = E
      · subst e
        by_cases e2 : j = j0
        · subst e2; rw [tq_upe, tq_upe]
        · rw [tq_upj (by omega), tq_upj e2]; exact a1 i j h1 h2
      · rw [tq_upj (by omega), tq_upi e]; exact a1 i j h1 h2
    · rw [tq_upi (by omega)]; exact a2 i h1 h2
  · simpa (disch := decide) only [q_sh, tq_upk, tq_upj, tq_cpk] using hsh
  · simpa (disch := decide) only [q_pe, tq_upk, tq_upj, tq_cpk] using hpe
  · simpa (disch := decide) only [q_mo, tq_upk, tq_upj, tq_cpk] using hmo
  · simpa (disch := decide) only [q_pr, tq_upk, tq_upj, tq_cpk] using hpr
  · simpa (disch := decide) only [q_sr, tq_upk, tq_upj, tq_cpk] using hsr
  · simpa (disch := decide) only [q_pa, q_pb, tq_upk, tq_upj, tq_cpk] using hpa
  · simpa (disch := decide) only [q_kn, tq_upk, tq_upj, tq_cpk] using hkn
  · simpa (disch := decide) only [q_st, tq_upk, tq_upj, tq_cpk] using hst
  · simpa (disch := decide) only [q_pm, q_pn, tq_upk, tq_upj, tq_cpk] using hpm
  · simpa (disch := decide) only [q_si, tq_upk, tq_upj, tq_cpk] using hsi
  · simpa (disch := decide) only [q_ab, tq_upk, tq_upj, tq_cpk] using hab
  · simpa (disch := decide) only [q_sm, tq_upk, tq_upj, tq_cpk] using hsm
  · simpa (disch := decide) only [q_vo, tq_upk, tq_upj, tq_cpk] using hvo
  · simpa (disch := decide) only [q_vm, tq_upk, tq_upj, tq_cpk] using hvm
  · simpa (disch := decide) only [q_bi, tq_upk, tq_upj, tq_cpk] using hbi
  · simpa (disch := decide) only [q_lb, tq_upk, tq_upj, tq_cpk] using hlb
  · simpa (disch := decide) only [q_iv, tq_upk, tq_upj, tq_cpk] using hiv
  · simpa (disch := decide) only [q_od, tq_upk, tq_upj, tq_cpk] using hod
  · simpa (disch := decide) only [q_ol, tq_upk, tq_upj, tq_cpk] using hol
  · simpa (disch := decide) only [q_oi, tq_upk, tq_upj, tq_cpk] using hoi
  · simpa (disch := decide) only [q_fi, tq_upk, tq_upj, tq_cpk] using hfi
  · simpa (disch := decide) only [q_li, tq_upk, tq_upj, tq_cpk] using hli
  · simpa (disch := decide) only [q_ad, tq_upk, tq_upj, tq_cpk] using had
  · simpa (disch := decide) only [q_ro, tq_upk, tq_upj, tq_cpk] using hro
theorem RR_ecount {c h w d pn P Sh V E A t r eb : Nat} {G : Nat → Nat → Nat → Nat} {C : Nat → Nat → Nat} {OL : Nat → List Nat} {N : tq_Nn} {S M : tq_St} (h0 : RR c h w d pn P Sh V E A t r eb G C OL N S M) {p : Nat} (hp1 : 1 ≤ p) (hp : p ≤ 4) (hb : eb + 1 ≤ 100000000) (hr : E < 500 → M 144 E 0 = nI d ∧ M 144 E 1 = nI p) : RR c h w d pn P Sh V (E + 1) A t r (eb + 1) G C OL N (tq_up S 1 0 10 (nI (E + 1))) (tq_up M 64 0 43 (nI (E + 1))) := by
  obtain ⟨hsc, hss, har, hpl, hlg, hsh, hpe, hmo, hpr, hsr, hpa, hkn, hst, hpm, hsi, hab, hsm, hvo, hvm, hbi, hlb, hiv, hod, hol, hoi, hfi, hli, had, hro⟩ := h0
  refine ⟨?_, ?_, ?_, ?_, ?_, ?_, ?_, ?_, ?_, ?_, ?_, ?_, ?_, ?_, ?_, ?_, ?_, ?_, ?_, ?_, ?_, ?_, ?_, ?_, ?_, ?_, ?_, ?_, ?_⟩
  · obtain ⟨a1, a2, a3, a4, a5, a6, a7, a8, a9, b1, b2, b3, b4, b5, b6, b7, b8, b9, e1, e2⟩ := hsc
    refine ⟨?_, ?_, ?_, ?_, ?_, ?_, ?_, ?_, ?_, b1, b2, b3, b4, b5, by omega, hb, b8, b9, e1, e2⟩
    · rw [tq_upj (by decide)]; exact a1
    · rw [tq_upj (by decide)]; exact a2
    · rw [tq_upj (by decide)]; exact a3
    · rw [tq_upj (by decide)]; exact a4
    · rw [tq_upj (by decide)]; exact a5
    · rw [tq_upe]
    · rw [tq_upj (by decide)]; exact a7
    · rw [tq_upj (by decide)]; exact a8
    · rw [tq_upj (by decide)]; exact a9
  · obtain ⟨a1, a2, a3, a4, a5, a6, a7⟩ := hss
    refine ⟨?_, ?_, ?_, ?_, ?_, ?_, ?_⟩
    · simpa (disch := decide) only [tq_upk, tq_upj, tq_cpk] using a1
    · simpa (disch := decide) only [tq_upk, tq_upj, tq_cpk] using a2
    · rw [tq_upe, tq_upe]
    · simpa (disch := decide) only [tq_upk, tq_upj, tq_cpk] using a4
    · simpa (disch := decide) only [tq_upk, tq_upj, tq_cpk] using a5
    · simpa (disch := decide) only [tq_upk, tq_upj, tq_cpk] using a6
    · simpa (disch := decide) only [tq_upk, tq_upj, tq_cpk] using a7
  · simpa (disch := decide) only [q_ar, tq_upk, tq_upj, tq_cpk] using har
  · simpa (disch := decide) only [q_pl, tq_upk, tq_upj, tq_cpk] using hpl
  · obtain ⟨a1, a2⟩ := hlg
    refine ⟨fun i j h1 h2 => ?_, fun i h1 h2 => ?_⟩
    · rw [tq_upk (by decide), tq_upk (by decide)]; exact a1 i j h1 h2
    · rw [tq_upk (by decide)]
      by_cases e : i = E
      · subst e
        obtain ⟨r1, r2⟩ := hr h2
        exact ⟨⟨d, Nat.le_refl _, r1⟩, p, hp1, hp, r2⟩
      · exact a2 i (by omega) h2
  · simpa (disch := decide) only [q_sh, tq_upk, tq_upj, tq_cpk] using hsh
  · simpa (disch := decide) only [q_pe, tq_upk, tq_upj, tq_cpk] using hpe
  · simpa (disch := decide) only [q_mo, tq_upk, tq_upj, tq_cpk] using hmo
  · simpa (disch := decide) only [q_pr, tq_upk, tq_upj, tq_cpk] using hpr
  · simpa (disch := decide) only [q_sr, tq_upk, tq_upj, tq_cpk] using hsr
  · simpa (disch := decide) only [q_pa, q_pb, tq_upk, tq_upj, tq_cpk] using hpa
  · simpa (disch := decide) only [q_kn, tq_upk, tq_upj, tq_cpk] using hkn
  · simpa (disch := decide) only [q_st, tq_upk, tq_upj, tq_cpk] using hst
  · simpa (disch := decide) only [q_pm, q_pn, tq_upk, tq_upj, tq_cpk] using hpm
  · simpa (disch := decide) only [q_si, tq_upk, tq_upj, tq_cpk] using hsi
  · simpa (disch := decide) only [q_ab, tq_upk, tq_upj, tq_cpk] using hab
  · simpa (disch := decide) only [q_sm, tq_upk, tq_upj, tq_cpk] using hsm
  · simpa (disch := decide) only [q_vo, tq_upk, tq_upj, tq_cpk] using hvo
  · simpa (disch := decide) only [q_vm, tq_upk, tq_upj, tq_cpk] using hvm
  · simpa (disch := decide) only [q_bi, tq_upk, tq_upj, tq_cpk] using hbi
  · simpa (disch := decide) only [q_lb, tq_upk, tq_upj, tq_cpk] using hlb
  · simpa (disch := decide) only [q_iv, tq_upk, tq_upj, tq_cpk] using hiv
  · simpa (disch := decide) only [q_od, tq_upk, tq_upj, tq_cpk] using hod
  · simpa (disch := decide) only [q_ol, tq_upk, tq_upj, tq_cpk] using hol
  · simpa (disch := decide) only [q_oi, tq_upk, tq_upj, tq_cpk] using hoi
  · simpa (disch := decide) only [q_fi, tq_upk, tq_upj, tq_cpk] using hfi
  · simpa (disch := decide) only [q_li, tq_upk, tq_upj, tq_cpk] using hli
  · simpa (disch := decide) only [q_ad, tq_upk, tq_upj, tq_cpk] using had
  · simpa (disch := decide) only [q_ro, tq_upk, tq_upj, tq_cpk] using hro
theorem tp_enter {c h w d pn P Sh V E A t r eb : Nat} {G : Nat → Nat → Nat → Nat} {C : Nat → Nat → Nat} {OL : Nat → List Nat} {N : tq_Nn} {S M : tq_St} {p : Nat} {v2 v3 v4 v5 v6 v7 : Int32} (h0 : RR c h w d pn P Sh V E A t r eb G C OL N S M) (hp1 : 1 ≤ p) (hp : p ≤ 4) (hb : eb + 1 ≤ 100000000) : ∃ S1 M1 : tq_St, RR c h w d pn P Sh V (E + 1) A t r (eb + 1) G C OL N S1 M1 ∧ (∀ k, k ≠ 24 → k ≠ 1 → S1 k = S k) ∧ (∀ k, k ≠ 144 → k ≠ 64 → M1 k = M k) ∧ (∀ j, j ≠ 43 → M1 64 0 j = M 64 0 j) ∧ (∀ j, j ≠ 10 → S1 1 0 j = S 1 0 j) ∧ (∀ post : tq_St → Prop, post S1 → wpX11_enter N post S (nI p) v2 v3 v4 v5 v6 v7) ∧ (∀ post : tq_St → Prop, post M1 → wpX12_enter post M (nI p) v2 v3 v4 v5 v6 v7) := by
  have x1 : S 1 0 0 = M 64 0 0 := h0.2.1.1
  have x3 : S 1 0 10 = M 64 0 43 := h0.2.1.2.2.1
  have s1 : M 64 0 0 = nI d := h0.1.1
  have s6 : M 64 0 43 = nI E := h0.1.2.2.2.2.2.1
  have b6 := h0.1.2.2.2.2.2.2.2.2.2.2.2.2.2.2.1
  have b7 := h0.1.2.2.2.2.2.2.2.2.2.2.2.2.2.2.2.1
  by_cases q : E < 500
  · have h8 := RR_ecell (j0 := 7) (v := v7) (RR_ecell (j0 := 6) (v := v6) (RR_ecell (j0 := 5) (v := v5) (RR_ecell (j0 := 4) (v := v4) (RR_ecell (j0 := 3) (v := v3) (RR_ecell (j0 := 2) (v := v2) (RR_ecell (j0 := 1) (v := nI p) (RR_ecell (j0 := 0) (v := nI d) h0 q (by decide)) q (by decide)) q (by decide)) q (by decide)) q (by decide)) q (by decide)) q (by decide)) q (by decide)
    have h9 := RR_ecount h8 hp1 hp hb (fun _ => ⟨by simp (disch := decide) only [tq_upj, tq_upe], by simp (disch := decide) only [tq_upj, tq_upe]⟩)
    refine ⟨_, _, h9, ?_, ?_, ?_, ?_, ?_, ?_⟩
    · intro k k1 k2
      rw [tq_upk k2, tq_upk k1, tq_upk k1, tq_upk k1, tq_upk k1, tq_upk k1, tq_upk k1, tq_upk k1, tq_upk k1]
    · intro k k1 k2
      rw [tq_upk k2, tq_upk k1, tq_upk k1, tq_upk k1, tq_upk k1, tq_upk k1, tq_upk k1, tq_upk k1, tq_upk k1]
    · intro j hj
      rw [tq_upj hj, tq_upk (by decide), tq_upk (by decide), tq_upk (by decide), tq_upk (by decide), tq_upk (by decide), tq_upk (by decide), tq_upk (by decide), tq_upk (by decide)]
    · intro j hj
      rw [tq_upj hj, tq_upk (by decide), tq_upk (by decide), tq_upk (by decide), tq_upk (by decide), tq_upk (by decide), tq_upk (by decide), tq_upk (by decide), tq_upk (by decide)]
    · intro post hpost
      unfold wpX11_enter wbX11_enter_106
      have m8 : nI E * 8 = nI (E * 8) := pk_mul E 8
      have vv : ∀ j : Nat, j < 8 → vp_in (nI (E * 8 + j)) 4000 := fun j hj => vp_in_nI (by omega) (by decide)
      have cc : ∀ j : Nat, j < 8 → (nI (E * 8 + j)).toNatClampNeg = E * 8 + j := fun j hj => nI_clamp (by omega)
      rw [x3, s6, x1, s1, m8]
      have n0 : nI (E * 8) = nI (E * 8 + 0) := rfl
      have n1 : nI (E * 8) + 1 = nI (E * 8 + 1) := nI_add _ 1
      have n2 : nI (E * 8) + 2 = nI (E * 8 + 2) := nI_add _ 2
      have n3 : nI (E * 8) + 3 = nI (E * 8 + 3) := nI_add _ 3
      have n4 : nI (E * 8) + 4 = nI (E * 8 + 4) := nI_add _ 4
      have n5 : nI (E * 8) + 5 = nI (E * 8 + 5) := nI_add _ 5
      have n6 : nI (E * 8) + 6 = nI (E * 8 + 6) := nI_add _ 6
      have n7 : nI (E * 8) + 7 = nI (E * 8 + 7) := nI_add _ 7
      rw [n1, n2, n3, n4, n5, n6, n7, n0, cc 0 (by decide), cc 1 (by decide), cc 2 (by decide), cc 3 (by decide), cc 4 (by decide), cc 5 (by decide), cc 6 (by decide), cc 7 (by decide)]
      refine tp_dF (show ¬ nI 500 ≤ nI E from nI_ge q (by decide)) ⟨vv 0 (by decide), tp_ae ⟨vv 1 (by decide), tp_ae ⟨vv 2 (by decide), tp_ae ⟨vv 3 (by decide), tp_ae ⟨vv 4 (by decide), tp_ae ⟨vv 5 (by decide), tp_ae ⟨vv 6 (by decide), tp_ae ⟨vv 7 (by decide), tp_ae (tp_ae ?_)⟩⟩⟩⟩⟩⟩⟩⟩
      simp (disch := decide) only [tq_upk]
      rw [x3, s6, nI_1]
      exact hpost
    · intro post hpost
      unfold wpX12_enter wbX12_enter_70
      rw [s6, s1, nI_clamp (by omega)]
      refine tp_dF (show ¬ nI 500 ≤ nI E from nI_ge q (by decide)) ⟨vp_in_nI q (by decide), tp_ae (tp_ae (tp_ae (tp_ae (tp_ae (tp_ae (tp_ae (tp_ae (tp_ae ?_))))))))⟩
      simp (disch := decide) only [tq_upk]
      rw [s6, nI_1]
      exact hpost
  · have h9 := RR_ecount h0 hp1 hp hb (fun z => absurd z q)
    refine ⟨_, _, h9, ?_, ?_, ?_, ?_, ?_, ?_⟩
    · intro k k1 k2
      rw [tq_upk k2]
    · intro k k1 k2
      rw [tq_upk k2]
    · intro j hj
      rw [tq_upj hj]
    · intro j hj
      rw [tq_upj hj]
    · intro post hpost
      unfold wpX11_enter wbX11_enter_106
      rw [x3, s6, nI_1]
      exact tp_dT (show nI 500 ≤ nI E from nI_le (by omega) (by omega)) (tp_ae hpost)
    · intro post hpost
      unfold wpX12_enter wbX12_enter_70
      rw [s6, nI_1]
      exact tp_dT (show nI 500 ≤ nI E from nI_le (by omega) (by omega)) (tp_ae hpost)
