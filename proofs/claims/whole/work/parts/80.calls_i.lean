/-! pure: calls, the ninth: gain, divide, sale, taken -/
def tp_inv (P : Nat) (M : tq_St) (p x : Int32) : Prop := ∃ n : Nat, n < P ∧ M 110 0 n = 4 ∧ M 111 0 n = p ∧ ¬ M 112 0 n < x ∧ ¬ M 115 n 0 < 0
theorem tp_invoiced {M : tq_St} {post : tq_St → Int32 → Prop} {P : Nat} {p x : Int32} (hP : M 64 0 9 = nI P) (hP2 : P ≤ 150) (h : post M (tp_b (tp_inv P M p x))) : wpX12_invoiced post M p x := by
  refine ⟨P + 1, tp_loopx0 (W := fun m i => wbX12_invoiced_2 post m M p x (nI i)) (n := P) (c := fun n => ¬ (M 110 0 n = 4 ∧ M 111 0 n = p ∧ ¬ M 112 0 n < x ∧ ¬ M 115 n 0 < 0)) (fun hh m => ?_) (fun m i hi hcc hw => ?_) (fun m i hi hj hcc => ?_)⟩
  · unfold wbX12_invoiced_2
    rw [tp_bf (fun ⟨n, z1, z2⟩ => hh n z1 z2)] at h
    exact tp_dT (by rw [hP]; exact nI_le (Nat.le_refl _) (by omega)) h
  · have ic : (nI i).toNatClampNeg = i := nI_clamp (by omega)
    unfold wbX12_invoiced_2
    refine tp_dF (by rw [hP]; exact nI_ge hi (by omega)) ⟨vp_in_nI (by omega) (by decide), ?_⟩
    simp only [wbX12_invoiced_53, ic, nI_1]
    by_cases e1 : M 110 0 i = 4
    · refine tp_cT e1 ?_
      by_cases e2 : M 111 0 i = p
      · refine tp_cT e2 ?_
        by_cases e3 : M 112 0 i < x
        · exact tp_dT e3 hw
        · refine tp_dF e3 ?_
          by_cases e4 : M 115 i 0 < 0
          · exact tp_dT e4 hw
          · exact absurd ⟨e1, e2, e3, e4⟩ hcc
      · exact tp_cF e2 hw
    · exact tp_cF e1 hw
  · have ic : (nI i).toNatClampNeg = i := nI_clamp (by omega)
    obtain ⟨e1, e2, e3, e4⟩ := Classical.not_not.mp hcc
    unfold wbX12_invoiced_2
    refine tp_dF (by rw [hP]; exact nI_ge hi (by omega)) ⟨vp_in_nI (by omega) (by decide), ?_⟩
    simp only [ic]
    rw [tp_bt ⟨i, hi, e1, e2, e3, e4⟩] at h
    exact tp_cT e1 (tp_cT e2 (tp_dF e3 (tp_dF e4 h)))
def tp_gs (P : Nat) (M : tq_St) (i : Nat) : Prop := (M 144 i 2 = 0 ∨ M 144 i 2 = 1 ∨ M 144 i 2 = 5) ∧ tp_inv P M (M 144 i 1) (M 144 i 0)
noncomputable def tp_gn (P : Nat) (M : tq_St) (i : Nat) (a : Int32) : Int32 := @ite _ (tp_gs P M i) (Classical.propDecidable _) (a - M 144 i 5) a
noncomputable def tp_gv (P E : Nat) (M : tq_St) : Int32 := tp_it (tp_gn P M) (min 500 E) (M 64 0 55 - M 64 0 58)
theorem tp_gn_y {P : Nat} {M : tq_St} {i : Nat} {a : Int32} (h : tp_gs P M i) : tp_gn P M i a = a - M 144 i 5 := by unfold tp_gn; rw [if_pos h]
theorem tp_gn_n {P : Nat} {M : tq_St} {i : Nat} {a : Int32} (h : ¬ tp_gs P M i) : tp_gn P M i a = a := by unfold tp_gn; rw [if_neg h]
theorem tp_gainM {M : tq_St} {post : tq_St → Int32 → Prop} {P E : Nat} (hP : M 64 0 9 = nI P) (hP2 : P ≤ 150) (hE : M 64 0 43 = nI E) (hE2 : E ≤ 100000000) (h : post M (tp_gv P E M)) : wpX12_gain post M := by
  have mm : (if (500 : Int32) < M 64 0 43 then 500 else M 64 0 43) = nI (min 500 E) := tp_min hE (by omega) (by decide)
  refine ⟨min 500 E + 1, tp_loop0 (W := fun m a i => wbX12_gain_12 post m M a (nI i)) (n := min 500 E) (f := tp_gn P M) (s0 := M 64 0 55 - M 64 0 58) (fun m => ?_) (fun m i hi hw => ?_)⟩
  · unfold wbX12_gain_12
    rw [mm]
    exact tp_dT (nI_le (Nat.le_refl _) (by omega)) h
  · have ic : (nI i).toNatClampNeg = i := nI_clamp (by omega)
    unfold wbX12_gain_12
    rw [mm]
    refine tp_dF (nI_ge hi (by omega)) ⟨vp_in_nI (by omega) (by decide), ?_⟩
    simp only [wbX12_gain_53, wbX12_gain_58, wbX12_gain_85, wbX12_gain_86, ic, nI_1, Int32.sub_zero]
    simp only [tp_it] at hw
    have yes : (M 144 i 2 = 0 ∨ M 144 i 2 = 1 ∨ M 144 i 2 = 5) → i < 500 ∧ wpX12_invoiced (fun M8 r9 => (r9 = 0 → wbX12_gain_12 post m M8 (tp_it (tp_gn P M) i (M 64 0 55 - M 64 0 58)) (nI (i + 1))) ∧ (¬ r9 = 0 → wbX12_gain_12 post m M8 (tp_it (tp_gn P M) i (M 64 0 55 - M 64 0 58) - M8 144 i 5) (nI (i + 1)))) M (M 144 i 1) (M 144 i 0) := by
      intro z
      refine ⟨by omega, tp_invoiced hP hP2 ?_⟩
      by_cases e : tp_inv P M (M 144 i 1) (M 144 i 0)
      · rw [tp_bt e]
        rw [tp_gn_y ⟨z, e⟩] at hw
        exact tp_dF (by decide) hw
      · rw [tp_bf e]
        rw [tp_gn_n (fun y => e y.2)] at hw
        exact tp_dT (by first | rfl | trivial) hw
    by_cases e1 : M 144 i 2 = 0
    · exact tp_dT e1 (tp_dF (by decide) (yes (Or.inl e1)))
    · refine tp_dF e1 ?_
      by_cases e2 : M 144 i 2 = 1
      · exact tp_dT e2 (tp_dF (by decide) (yes (Or.inr (Or.inl e2))))
      · refine tp_dF e2 ?_
        by_cases e3 : M 144 i 2 = 5
        · exact tp_cT e3 (tp_dF (by decide) (yes (Or.inr (Or.inr e3))))
        · rw [tp_gn_n (fun y => by rcases y.1 with y | y | y; exact e1 y; exact e2 y; exact e3 y)] at hw
          exact tp_cF e3 (tp_dT (by first | rfl | trivial) hw)
theorem tp_gainS {c h w d pn P Sh V E A t r eb : Nat} {G : Nat → Nat → Nat → Nat} {C : Nat → Nat → Nat} {OL : Nat → List Nat} {N : tq_Nn} {S M : tq_St} {post : tq_St → Int32 → Prop} (h0 : RR c h w d pn P Sh V E A t r eb G C OL N S M) (h : post S (tp_gv P E M)) : wpX11_gain N post S := by
  obtain ⟨hsc, hss, har, hpl, hlg, hsh, hpe, hmo, hpr, hsr, hpa, hkn, hst, hpm, hsi, hab, hsm, hvo, hvm, hbi, hlb, hiv, hod, hol, hoi, hfi, hli, had, hro⟩ := h0
  obtain ⟨s1, s2, s3, s4, s5, s6, s7, s8, s9, b1, b2, b3, b4, b5, b6, b7, b8, b9, e1, e2⟩ := id hsc
  obtain ⟨x1, x2, x3, x4, x5, x6, x7⟩ := id hss
  have mm : (if (500 : Int32) < S 1 0 10 then 500 else S 1 0 10) = nI (min 500 E) := tp_min (x3.trans s6) (by omega) (by decide)
  unfold wpX11_gain
  rw [x6, x4]
  refine ⟨min 500 E + 1, tp_loop0 (W := fun m a i => wbX11_gain_15 N post m S a (nI i)) (n := min 500 E) (f := tp_gn P M) (s0 := M 64 0 55 - M 64 0 58) (fun m => ?_) (fun m i hi hw => ?_)⟩
  · unfold wbX11_gain_15 wpX11_entriesKept
    rw [mm]
    exact tp_dT (nI_le (Nat.le_refl _) (by omega)) h
  · have ic : (nI i).toNatClampNeg = i := nI_clamp (by omega)
    obtain ⟨⟨x, hx1, hx2⟩, p, hp1, hp2, hp3⟩ := hlg.2 i (by omega) (by omega)
    have r8 : nI i * 8 = nI (i * 8) := pk_mul i 8
    have r2 : nI i * 8 + 2 = nI (i * 8 + 2) := by rw [r8]; exact nI_add _ 2
    have r1 : nI i * 8 + 1 = nI (i * 8 + 1) := by rw [r8]; exact nI_add _ 1
    have r5 : nI i * 8 + 5 = nI (i * 8 + 5) := by rw [r8]; exact nI_add _ 5
    have q0 : S 24 0 (i * 8) = M 144 i 0 := hlg.1 i 0 (by omega) (by decide)
    have q1 : S 24 0 (i * 8 + 1) = M 144 i 1 := hlg.1 i 1 (by omega) (by decide)
    have q2 : S 24 0 (i * 8 + 2) = M 144 i 2 := hlg.1 i 2 (by omega) (by decide)
    have q5 : S 24 0 (i * 8 + 5) = M 144 i 5 := hlg.1 i 5 (by omega) (by decide)
    have c8 : (nI (i * 8)).toNatClampNeg = i * 8 := nI_clamp (by omega)
    have c1 : (nI (i * 8 + 1)).toNatClampNeg = i * 8 + 1 := nI_clamp (by omega)
    have c2 : (nI (i * 8 + 2)).toNatClampNeg = i * 8 + 2 := nI_clamp (by omega)
    have c5 : (nI (i * 8 + 5)).toNatClampNeg = i * 8 + 5 := nI_clamp (by omega)
    have pc : (nI p).toNatClampNeg = p := nI_clamp (by omega)
    have pi : tp_i 1 4 (nI p) := by rw [tp_iI (by omega)]; omega
    have v2 : vp_in (nI (i * 8 + 2)) 4000 := vp_in_nI (by omega) (by decide)
    have v0 : vp_in (nI (i * 8)) 4000 := vp_in_nI (by omega) (by decide)
    have v1 : vp_in (nI (i * 8 + 1)) 4000 := vp_in_nI (by omega) (by decide)
    have v5 : vp_in (nI (i * 8 + 5)) 4000 := vp_in_nI (by omega) (by decide)
    have pv : vp_in (nI p) 5 := vp_in_nI (by omega) (by decide)
    have iv : (S 2 p 16 < M 144 i 0) ↔ ¬ tp_inv P M (M 144 i 1) (M 144 i 0) := by
      have := hiv.2 p hp1 (by omega) (M 144 i 0) (by rw [hx2]; exact nI_pos' (by omega))
      rw [tp_lt]
      rw [tp_le] at this
      constructor
      · rintro z ⟨n, z1, z2, z3, z4, z5⟩
        have := this.mpr ⟨n, z1, z2, by rw [z3, hp3], by rw [tp_le]; rw [tp_lt] at z4; omega, by rw [tp_le]; rw [tp_lt] at z5; omega⟩
        omega
      · intro z
        by_cases y : (M 144 i 0).toInt ≤ (S 2 p 16).toInt
        · obtain ⟨n, z1, z2, z3, z4, z5⟩ := this.mp y
          exact absurd ⟨n, z1, z2, by rw [z3, hp3], by rw [tp_lt]; rw [tp_le] at z4; omega, by rw [tp_lt]; rw [tp_le] at z5; omega⟩ z
        · omega
    unfold wbX11_gain_15 wpX11_entriesKept
    rw [mm]
    refine tp_dF (nI_ge hi (by omega)) ?_
    simp only [wbX11_gain_55, wbX11_gain_60, wbX11_gain_99, wpX11_invoicedTo, wbX11_invoicedTo_20, tp_isFactory, tp_b0, Classical.not_not, r8, nI_1]
    have r2b : nI (i * 8) + 2 = nI (i * 8 + 2) := nI_add _ 2
    have r5b : nI (i * 8) + 5 = nI (i * 8 + 5) := nI_add _ 5
    simp only [r2b, r5b, nI_1, c8, c1, c2, c5, q0, q1, q2, q5, hp3, pc]
    refine ⟨v2, ?_⟩
    simp only [tp_it] at hw
    have yes : (M 144 i 2 = 0 ∨ M 144 i 2 = 1 ∨ M 144 i 2 = 5) → (S 2 p 16 < M 144 i 0 → wbX11_gain_15 N post m S (tp_it (tp_gn P M) i (M 64 0 55 - M 64 0 58)) (nI (i + 1))) ∧ (¬ S 2 p 16 < M 144 i 0 → vp_in (nI (i * 8 + 5)) 4000 ∧ wbX11_gain_15 N post m S (tp_it (tp_gn P M) i (M 64 0 55 - M 64 0 58) - M 144 i 5) (nI (i + 1))) := by
      intro z
      by_cases e : tp_inv P M (M 144 i 1) (M 144 i 0)
      · rw [tp_gn_y ⟨z, e⟩] at hw
        exact tp_dF (fun y => (iv.mp y) e) ⟨v5, hw⟩
      · rw [tp_gn_n (fun y => e y.2)] at hw
        exact tp_dT (iv.mpr e) hw
    by_cases e1 : M 144 i 2 = 0
    · exact tp_dT e1 (tp_dF (by decide) ⟨v0, v1, tp_cT pi ⟨pv, yes (Or.inl e1)⟩⟩)
    · refine tp_dF e1 ?_
      by_cases e2 : M 144 i 2 = 1
      · exact tp_dT e2 (tp_dF (by decide) ⟨v0, v1, tp_cT pi ⟨pv, yes (Or.inr (Or.inl e2))⟩⟩)
      · refine tp_dF e2 ?_
        by_cases e3 : M 144 i 2 = 5
        · exact tp_cT e3 (tp_dF (by decide) ⟨v0, v1, tp_cT pi ⟨pv, yes (Or.inr (Or.inr e3))⟩⟩)
        · rw [tp_gn_n (fun y => by rcases y.1 with y | y | y; exact e1 y; exact e2 y; exact e3 y)] at hw
          exact tp_cF e3 (tp_dT (by first | rfl | trivial) hw)
theorem sim_gain {c : Nat} {N : tq_Nn} {S M : tq_St} (hR : tp_R c N S M) (hc : c < 512) : wpX11_gain N (fun S1 r => wpX12_gain (fun M1 r1 => r = r1 ∧ tp_R (c + 1) N S1 M1) M ) S := by
  have hT := hR.tick hc
  obtain ⟨d, pn, P, Sh, V, E, A, t, r, G, C, OL, h0⟩ := id hR
  obtain ⟨hsc, hss, har, hpl, hlg, hsh, hpe, hmo, hpr, hsr, hpa, hkn, hst, hpm, hsi, hab, hsm, hvo, hvm, hbi, hlb, hiv, hod, hol, hoi, hfi, hli, had, hro⟩ := id h0
  obtain ⟨s1, s2, s3, s4, s5, s6, s7, s8, s9, b1, b2, b3, b4, b5, b6, b7, b8, b9, e1, e2⟩ := id hsc
  obtain ⟨x1, x2, x3, x4, x5, x6, x7⟩ := id hss
  obtain ⟨y1, y2, y3, y4, y5, y6, y7, y8, y9, y10, y11, y12, y13, y14, y15⟩ := id har
  obtain ⟨w1, w2, w3, w4, w5, w6⟩ := id hpl
  obtain ⟨l1, l2, l3, l4, l5, l6, l7, l8⟩ := id hli
  exact tp_gainS h0 (tp_gainM s3 b3 s6 (by omega) ⟨rfl, hT⟩)
theorem RR_divs {c h w d pn P Sh V E A t r eb : Nat} {G : Nat → Nat → Nat → Nat} {C : Nat → Nat → Nat} {OL : Nat → List Nat} {N : tq_Nn} {S M : tq_St} (h0 : RR c h w d pn P Sh V E A t r eb G C OL N S M) {x : Nat} {v : Int32} : RR c h w d pn P Sh V E A t r eb G C OL N (tq_up S 26 0 x v) (tq_up M 157 0 x v) := by
  obtain ⟨hsc, hss, har, hpl, hlg, hsh, hpe, hmo, hpr, hsr, hpa, hkn, hst, hpm, hsi, hab, hsm, hvo, hvm, hbi, hlb, hiv, hod, hol, hoi, hfi, hli, had, hro⟩ := h0
  refine ⟨?_, ?_, ?_, ?_, ?_, ?_, ?_, ?_, ?_, ?_, ?_, ?_, ?_, ?_, ?_, ?_, ?_, ?_, ?_, ?_, ?_, ?_, ?_, ?_, ?_, ?_, ?_, ?_, ?_⟩
  · simpa (disch := decide) only [q_sc, tq_upk, tq_upj, tq_cpk] using hsc
  · simpa (disch := decide) only [q_ss, tq_upk, tq_upj, tq_cpk] using hss
  · obtain ⟨y1, y2, y3, y4, y5, y6, y7, y8, y9, y10, y11, y12, y13, y14, y15⟩ := har
    refine ⟨?_, ?_, ?_, ?_, ?_, ?_, ?_, ?_, ?_, ?_, ?_, ?_, ?_, ?_, ?_⟩
    · simpa (disch := decide) only [tq_upk, tq_upj, tq_cpk] using y1
    · simpa (disch := decide) only [tq_upk, tq_upj, tq_cpk] using y2
    · simpa (disch := decide) only [tq_upk, tq_upj, tq_cpk] using y3
    · simpa (disch := decide) only [tq_upk, tq_upj, tq_cpk] using y4
    · first | exact tp_up2 y5 | (simp (disch := decide) only [tq_upk, tq_cpk]; exact tp_up2 y5)
    · simpa (disch := decide) only [tq_upk, tq_upj, tq_cpk] using y6
    · simpa (disch := decide) only [tq_upk, tq_upj, tq_cpk] using y7
    · simpa (disch := decide) only [tq_upk, tq_upj, tq_cpk] using y8
    · simpa (disch := decide) only [tq_upk, tq_upj, tq_cpk] using y9
    · simpa (disch := decide) only [tq_upk, tq_upj, tq_cpk] using y10
    · simpa (disch := decide) only [tq_upk, tq_upj, tq_cpk] using y11
    · simpa (disch := decide) only [tq_upk, tq_upj, tq_cpk] using y12
    · simpa (disch := decide) only [tq_upk, tq_upj, tq_cpk] using y13
    · simpa (disch := decide) only [tq_upk, tq_upj, tq_cpk] using y14
    · simpa (disch := decide) only [tq_upk, tq_upj, tq_cpk] using y15
  · simpa (disch := decide) only [q_pl, tq_upk, tq_upj, tq_cpk] using hpl
  · simpa (disch := decide) only [q_lg, tq_upk, tq_upj, tq_cpk] using hlg
  · simpa (disch := decide) only [q_sh, tq_upk, tq_upj, tq_cpk] using hsh
  · simpa (disch := decide) only [q_pe, tq_upk, tq_upj, tq_cpk] using hpe
  · simpa (disch := decide) only [q_mo, tq_upk, tq_upj, tq_cpk] using hmo
  · simpa (disch := decide) only [q_pr, tq_upk, tq_upj, tq_cpk] using hpr
  · simpa (disch := decide) only [q_sr, tq_upk, tq_upj, tq_cpk] using hsr
  · simpa (disch := decide) only [q_pa, q_pb, tq_upk, tq_upj, tq_cpk] using hpa
  · simpa (disch := decide) only [q_kn, tq_upk, tq_upj, tq_cpk] using hkn
  · simpa (disch := decide) only [q_st, tq_upk, tq_upj, tq_cpk] using hst
  · simpa (disch := decide) only [q_pm, q_pn, tq_upk, tq_upj, tq_cpk] using hpm
  · simpa (disch := decide) only [q_si, tq_upk, tq_upj, tq_cpk] using hsi
  · simpa (disch := decide) only [q_ab, tq_upk, tq_upj, tq_cpk] using hab
  · simpa (disch := decide) only [q_sm, tq_upk, tq_upj, tq_cpk] using hsm
  · simpa (disch := decide) only [q_vo, tq_upk, tq_upj, tq_cpk] using hvo
  · simpa (disch := decide) only [q_vm, tq_upk, tq_upj, tq_cpk] using hvm
  · simpa (disch := decide) only [q_bi, tq_upk, tq_upj, tq_cpk] using hbi
  · simpa (disch := decide) only [q_lb, tq_upk, tq_upj, tq_cpk] using hlb
  · simpa (disch := decide) only [q_iv, tq_upk, tq_upj, tq_cpk] using hiv
  · simpa (disch := decide) only [q_od, tq_upk, tq_upj, tq_cpk] using hod
  · simpa (disch := decide) only [q_ol, tq_upk, tq_upj, tq_cpk] using hol
  · simpa (disch := decide) only [q_oi, tq_upk, tq_upj, tq_cpk] using hoi
  · simpa (disch := decide) only [q_fi, tq_upk, tq_upj, tq_cpk] using hfi
  · simpa (disch := decide) only [q_li, tq_upk, tq_upj, tq_cpk] using hli
  · simpa (disch := decide) only [q_ad, tq_upk, tq_upj, tq_cpk] using had
  · simpa (disch := decide) only [q_ro, tq_upk, tq_upj, tq_cpk] using hro
theorem RR_dvd {c h w d pn P Sh V E A t r eb : Nat} {G : Nat → Nat → Nat → Nat} {C : Nat → Nat → Nat} {OL : Nat → List Nat} {N : tq_Nn} {S M : tq_St} (h0 : RR c h w d pn P Sh V E A t r eb G C OL N S M) {v : Int32} : RR c h w d pn P Sh V E A t r eb G C OL N (tq_up S 1 0 16 v) (tq_up M 64 0 58 v) := by
  obtain ⟨hsc, hss, har, hpl, hlg, hsh, hpe, hmo, hpr, hsr, hpa, hkn, hst, hpm, hsi, hab, hsm, hvo, hvm, hbi, hlb, hiv, hod, hol, hoi, hfi, hli, had, hro⟩ := h0
  refine ⟨?_, ?_, ?_, ?_, ?_, ?_, ?_, ?_, ?_, ?_, ?_, ?_, ?_, ?_, ?_, ?_, ?_, ?_, ?_, ?_, ?_, ?_, ?_, ?_, ?_, ?_, ?_, ?_, ?_⟩
  · simpa (disch := decide) only [q_sc, tq_upk, tq_upj, tq_cpk] using hsc
  · obtain ⟨a1, a2, a3, a4, a5, a6, a7⟩ := hss
    refine ⟨?_, ?_, ?_, ?_, ?_, ?_, ?_⟩
    · simpa (disch := decide) only [tq_upk, tq_upj, tq_cpk] using a1
    · simpa (disch := decide) only [tq_upk, tq_upj, tq_cpk] using a2
    · simpa (disch := decide) only [tq_upk, tq_upj, tq_cpk] using a3
    · rw [tq_upe, tq_upe]
    · simpa (disch := decide) only [tq_upk, tq_upj, tq_cpk] using a5
    · simpa (disch := decide) only [tq_upk, tq_upj, tq_cpk] using a6
    · simpa (disch := decide) only [tq_upk, tq_upj, tq_cpk] using a7
  · simpa (disch := decide) only [q_ar, tq_upk, tq_upj, tq_cpk] using har
  · simpa (disch := decide) only [q_pl, tq_upk, tq_upj, tq_cpk] using hpl
  · simpa (disch := decide) only [q_lg, tq_upk, tq_upj, tq_cpk] using hlg
  · simpa (disch := decide) only [q_sh, tq_upk, tq_upj, tq_cpk] using hsh
  · simpa (disch := decide) only [q_pe, tq_upk, tq_upj, tq_cpk] using hpe
  · simpa (disch := decide) only [q_mo, tq_upk, tq_upj, tq_cpk] using hmo
  · simpa (disch := decide) only [q_pr, tq_upk, tq_upj, tq_cpk] using hpr
  · simpa (disch := decide) only [q_sr, tq_upk, tq_upj, tq_cpk] using hsr
  · simpa (disch := decide) only [q_pa, q_pb, tq_upk, tq_upj, tq_cpk] using hpa
  · simpa (disch := decide) only [q_kn, tq_upk, tq_upj, tq_cpk] using hkn
  · simpa (disch := decide) only [q_st, tq_upk, tq_upj, tq_cpk] using hst
  · simpa (disch := decide) only [q_pm, q_pn, tq_upk, tq_upj, tq_cpk] using hpm
  · simpa (disch := decide) only [q_si, tq_upk, tq_upj, tq_cpk] using hsi
  · simpa (disch := decide) only [q_ab, tq_upk, tq_upj, tq_cpk] using hab
  · simpa (disch := decide) only [q_sm, tq_upk, tq_upj, tq_cpk] using hsm
  · simpa (disch := decide) only [q_vo, tq_upk, tq_upj, tq_cpk] using hvo
  · simpa (disch := decide) only [q_vm, tq_upk, tq_upj, tq_cpk] using hvm
  · simpa (disch := decide) only [q_bi, tq_upk, tq_upj, tq_cpk] using hbi
  · simpa (disch := decide) only [q_lb, tq_upk, tq_upj, tq_cpk] using hlb
  · simpa (disch := decide) only [q_iv, tq_upk, tq_upj, tq_cpk] using hiv
  · simpa (disch := decide) only [q_od, tq_upk, tq_upj, tq_cpk] using hod
  · simpa (disch := decide) only [q_ol, tq_upk, tq_upj, tq_cpk] using hol
  · simpa (disch := decide) only [q_oi, tq_upk, tq_upj, tq_cpk] using hoi
  · simpa (disch := decide) only [q_fi, tq_upk, tq_upj, tq_cpk] using hfi
  · simpa (disch := decide) only [q_li, tq_upk, tq_upj, tq_cpk] using hli
  · simpa (disch := decide) only [q_ad, tq_upk, tq_upj, tq_cpk] using had
  · simpa (disch := decide) only [q_ro, tq_upk, tq_upj, tq_cpk] using hro
theorem RR_sls {c h w d pn P Sh V E A t r eb : Nat} {G : Nat → Nat → Nat → Nat} {C : Nat → Nat → Nat} {OL : Nat → List Nat} {N : tq_Nn} {S M : tq_St} (h0 : RR c h w d pn P Sh V E A t r eb G C OL N S M) {v : Int32} : RR c h w d pn P Sh V E A t r eb G C OL N (tq_up S 4 0 4 v) (tq_up M 64 0 55 v) := by
  obtain ⟨hsc, hss, har, hpl, hlg, hsh, hpe, hmo, hpr, hsr, hpa, hkn, hst, hpm, hsi, hab, hsm, hvo, hvm, hbi, hlb, hiv, hod, hol, hoi, hfi, hli, had, hro⟩ := h0
  refine ⟨?_, ?_, ?_, ?_, ?_, ?_, ?_, ?_, ?_, ?_, ?_, ?_, ?_, ?_, ?_, ?_, ?_, ?_, ?_, ?_, ?_, ?_, ?_, ?_, ?_, ?_, ?_, ?_, ?_⟩
  · simpa (disch := decide) only [q_sc, tq_upk, tq_upj, tq_cpk] using hsc
  · obtain ⟨a1, a2, a3, a4, a5, a6, a7⟩ := hss
    refine ⟨?_, ?_, ?_, ?_, ?_, ?_, ?_⟩
    · simpa (disch := decide) only [tq_upk, tq_upj, tq_cpk] using a1
    · simpa (disch := decide) only [tq_upk, tq_upj, tq_cpk] using a2
    · simpa (disch := decide) only [tq_upk, tq_upj, tq_cpk] using a3
    · simpa (disch := decide) only [tq_upk, tq_upj, tq_cpk] using a4
    · simpa (disch := decide) only [tq_upk, tq_upj, tq_cpk] using a5
    · rw [tq_upe, tq_upe]
    · simpa (disch := decide) only [tq_upk, tq_upj, tq_cpk] using a7
  · simpa (disch := decide) only [q_ar, tq_upk, tq_upj, tq_cpk] using har
  · simpa (disch := decide) only [q_pl, tq_upk, tq_upj, tq_cpk] using hpl
  · simpa (disch := decide) only [q_lg, tq_upk, tq_upj, tq_cpk] using hlg
  · simpa (disch := decide) only [q_sh, tq_upk, tq_upj, tq_cpk] using hsh
  · simpa (disch := decide) only [q_pe, tq_upk, tq_upj, tq_cpk] using hpe
  · simpa (disch := decide) only [q_mo, tq_upk, tq_upj, tq_cpk] using hmo
  · simpa (disch := decide) only [q_pr, tq_upk, tq_upj, tq_cpk] using hpr
  · simpa (disch := decide) only [q_sr, tq_upk, tq_upj, tq_cpk] using hsr
  · simpa (disch := decide) only [q_pa, q_pb, tq_upk, tq_upj, tq_cpk] using hpa
  · simpa (disch := decide) only [q_kn, tq_upk, tq_upj, tq_cpk] using hkn
  · simpa (disch := decide) only [q_st, tq_upk, tq_upj, tq_cpk] using hst
  · simpa (disch := decide) only [q_pm, q_pn, tq_upk, tq_upj, tq_cpk] using hpm
  · simpa (disch := decide) only [q_si, tq_upk, tq_upj, tq_cpk] using hsi
  · simpa (disch := decide) only [q_ab, tq_upk, tq_upj, tq_cpk] using hab
  · simpa (disch := decide) only [q_sm, tq_upk, tq_upj, tq_cpk] using hsm
  · simpa (disch := decide) only [q_vo, tq_upk, tq_upj, tq_cpk] using hvo
  · simpa (disch := decide) only [q_vm, tq_upk, tq_upj, tq_cpk] using hvm
  · simpa (disch := decide) only [q_bi, tq_upk, tq_upj, tq_cpk] using hbi
  · simpa (disch := decide) only [q_lb, tq_upk, tq_upj, tq_cpk] using hlb
  · simpa (disch := decide) only [q_iv, tq_upk, tq_upj, tq_cpk] using hiv
  · simpa (disch := decide) only [q_od, tq_upk, tq_upj, tq_cpk] using hod
  · simpa (disch := decide) only [q_ol, tq_upk, tq_upj, tq_cpk] using hol
  · simpa (disch := decide) only [q_oi, tq_upk, tq_upj, tq_cpk] using hoi
  · simpa (disch := decide) only [q_fi, tq_upk, tq_upj, tq_cpk] using hfi
  · simpa (disch := decide) only [q_li, tq_upk, tq_upj, tq_cpk] using hli
  · simpa (disch := decide) only [q_ad, tq_upk, tq_upj, tq_cpk] using had
  · simpa (disch := decide) only [q_ro, tq_upk, tq_upj, tq_cpk] using hro
theorem tp_part {c s : Nat} (hc : c < 2 ^ 31) (hs : s ≤ 800) : (((nI c).toInt64 * (nI s).toInt64) / 800).toInt32 = nI (c * s / 800) ∧ 800 * (c * s / 800) ≤ c * s ∧ c * s / 800 ≤ c := by
  have h1 : c * s ≤ 2147483648 * 800 := Nat.mul_le_mul (by omega) hs
  have h2 : c * s ≤ c * 800 := Nat.mul_le_mul_left _ hs
  refine ⟨?_, Nat.mul_div_le _ _, by omega⟩
  rw [nI_l hc, nI_l (by omega), lN_mul, show (800 : Int64) = lN 800 from rfl, pk_lDiv (by omega) (by decide) (by decide), lN_i]
theorem div_aux {h w d pn P Sh V E A t r eb c : Nat} {G : Nat → Nat → Nat → Nat} {C : Nat → Nat → Nat} {OL : Nat → List Nat} {N : tq_Nn} {x : Nat} (hx : x < 2 ^ 31) (hcc : c ≤ 512) (hPP : P ≤ 150) : ∀ (k j y : Nat) (S M : tq_St), RR c h w d pn P Sh V E A t r eb G C OL N S M → j + k = 8 → (x : Int) ≤ (M 101 0 0).toInt → 800 * (y : Int) ≤ x * tp_sm (fun h => (M 156 0 h).toInt) j → wbX11_divide_32 N (fun S1 r1 => ∃ nq, wbX12_divide_29 (fun M1 r2 => r1 = r2 ∧ RR c h w d pn P Sh V E A t r eb G C OL N S1 M1) nq M (nI x) (nI y) (nI j)) (k + 1) S (nI x) (nI y) (nI j)
  | 0, j, y, S, M, h0, hj, hxc, hy => by
    have e8 : j = 8 := by omega
    subst e8
    have hs8 := h0.2.2.2.2.2.2.2.2.2.1.2
    rw [hs8] at hy
    have m1 := (tp_mo h0.2.2.2.2.2.2.2.1 hcc hPP).1 0 (by decide)
    have w2 : S 2 0 1 = M 101 0 0 := h0.2.2.2.1.2.1 0 (by decide)
    have x4 : S 1 0 16 = M 64 0 58 := h0.2.1.2.2.2.1
    have yx : (y : Int) ≤ x := by omega
    have yt := tp_ti (show y < 2 ^ 31 by omega)
    have z1 : (M 101 0 0 - nI y).toInt = (M 101 0 0).toInt - y := by rw [tp_sub (by rw [yt]; omega) (by rw [yt]; omega), yt]
    unfold wbX11_divide_32
    refine tp_dT (by decide) (tp_ae (tp_ae ⟨1, ?_⟩))
    unfold wbX12_divide_29
    refine tp_dT (by decide) (tp_ae (tp_ae ⟨rfl, ?_⟩))
    rw [tq_upk (by decide), tq_upk (by decide), w2, x4]
    exact RR_dvd (RR_coin (p := 0) (c' := c) h0 (by decide) (by omega) (by omega) (by omega) hcc)
  | k + 1, j, y, S, M, h0, hj, hxc, hy => by
    have y4 : S 25 = M 156 := h0.2.2.1.2.2.2.1
    have y5 : S 26 = M 157 := h0.2.2.1.2.2.2.2.1
    have hsr := h0.2.2.2.2.2.2.2.2.2.1
    have jc : (nI j).toNatClampNeg = j := nI_clamp (by omega)
    obtain ⟨s, s1, s2, s3⟩ := tp_nat (hsr.1 j (by omega))
    have sm1 : (M 156 0 j).toInt ≤ 800 := by rw [← hsr.2]; exact tp_sm_ge (f := fun h => (M 156 0 h).toInt) (show j < 8 by omega) (fun k hk => hsr.1 k hk)
    obtain ⟨p1, p2, p3⟩ := tp_part hx (show s ≤ 800 by omega)
    unfold wbX11_divide_32
    refine tp_dF (nI_ge (a := j) (b := 8) (by omega) (by decide)) ⟨vp_in_nI (by omega) (by decide), tp_ae ?_⟩
    rw [jc, y4, y5, s2, p1, nI_add, nI_1]
    have ih := div_aux (N := N) hx hcc hPP k (j + 1) (y + x * s / 800) _ _ (RR_divs (x := j) (v := M 157 0 j + nI (x * s / 800)) h0) (by omega) (by rw [tq_upk (by decide)]; exact hxc) (by
      rw [tq_upk (by decide)]
      simp only [tp_sm]
      rw [Int.mul_add, s3, Int.natCast_add, Int.mul_add]
      have this := Int.ofNat_le.mpr p2
      rw [Int.natCast_mul, Int.natCast_mul] at this
      generalize x * s / 800 = q at this ⊢
      generalize (x : Int) * tp_sm (fun h => (M 156 0 h).toInt) j = u at hy ⊢
      generalize (x : Int) * (s : Int) = v at this ⊢
      have e800 : ((800 : Nat) : Int) = 800 := rfl
      rw [e800] at this
      omega)
    refine mn_bX11_divide_32 _ _ _ _ _ _ _ (fun S1 r1 hh => ?_) ih
    obtain ⟨nq, hh⟩ := hh
    refine ⟨nq + 1, ?_⟩
    unfold wbX12_divide_29
    refine tp_dF (nI_ge (a := j) (b := 8) (by omega) (by decide)) ⟨vp_in_nI (by omega) (by decide), tp_ae ?_⟩
    rw [jc, s2, p1, nI_add, nI_1]
    exact hh
theorem sim_divide {c : Nat} {N : tq_Nn} {S M : tq_St} {p0 : Int32} (hR : tp_R c N S M) (hc : c < 512) : wpX11_divide N (fun S1 r => wpX12_divide (fun M1 r1 => r = r1 ∧ tp_R (c + 1) N S1 M1) M p0) S p0 := by
  have hT := hR.tick hc
  obtain ⟨d, pn, P, Sh, V, E, A, t, r, G, C, OL, h0⟩ := id hR
  obtain ⟨hsc, hss, har, hpl, hlg, hsh, hpe, hmo, hpr, hsr, hpa, hkn, hst, hpm, hsi, hab, hsm, hvo, hvm, hbi, hlb, hiv, hod, hol, hoi, hfi, hli, had, hro⟩ := id h0
  obtain ⟨s1, s2, s3, s4, s5, s6, s7, s8, s9, b1, b2, b3, b4, b5, b6, b7, b8, b9, e1, e2⟩ := id hsc
  obtain ⟨x1, x2, x3, x4, x5, x6, x7⟩ := id hss
  obtain ⟨y1, y2, y3, y4, y5, y6, y7, y8, y9, y10, y11, y12, y13, y14, y15⟩ := id har
  obtain ⟨w1, w2, w3, w4, w5, w6⟩ := id hpl
  obtain ⟨l1, l2, l3, l4, l5, l6, l7, l8⟩ := id hli
  have mo := tp_mo hmo e2 b3
  have ec : S 2 0 1 = M 101 0 0 := w2 0 (by decide)
  simp (disch := decide) only [wpX11_divide, wbX11_divide_25, wpX12_divide, wbX12_divide_22, tp_isFactory, tp_isPlace, tp_isSort, tp_isSheet, tp_isHolder, tp_isPerson, tp_isPaper, tp_isShip, tp_isVoyage, tp_within, tp_in, tp_mPlace, tp_mFactory, tp_mSort, tp_mBuyer, tp_b0, tp_b1, Classical.not_not, tp_nb0, tp_nb1, tp_nb, true_and, Int32.reduceToInt]
  by_cases h1 : p0 < 0
  · repeat' (with_reducible first | refine tp_cT (by first | assumption | decide) ?_ | refine tp_cF (by first | assumption | decide) ?_ | refine tp_dT (by first | assumption | decide) ?_ | refine tp_dF (by first | assumption | decide) ?_ | refine And.intro (by first | assumption | decide) ?_ | refine tp_ae ?_)
    first | exact ⟨rfl, hT⟩ | exact hT
  · obtain ⟨x, hx, rfl⟩ := nI_of h1
    refine tp_dF h1 (tp_gainS h0 ?_)
    have hG : ∀ post : tq_St → Int32 → Prop, post M (tp_gv P E M) → wpX12_gain post M := fun post z => tp_gainM s3 b3 s6 (by omega) z
    by_cases h2 : tp_gv P E M < nI x
    · refine tp_dT h2 (tp_dF h1 (hG _ (tp_dT h2 ?_)))
      first | exact ⟨rfl, hT⟩ | exact hT
    · refine tp_dF h2 ?_
      rw [ec]
      by_cases h3 : nI x ≤ M 101 0 0
      · have xt := tp_ti hx
        refine tp_dT h3 ⟨9, mn_bX11_divide_32 _ _ _ _ _ _ _ (fun S1 r1 hh => ?_) (div_aux hx e2 b3 8 0 0 S M h0 rfl (by rw [tp_le, xt] at h3; exact h3) (by simp [tp_sm]))⟩
        obtain ⟨nq, hh⟩ := hh
        refine tp_dF h1 (hG _ (tp_dF h2 (tp_dT h3 ⟨nq, ?_⟩)))
        obtain ⟨M1, r2, ⟨hq, hr⟩, kk⟩ := dt_bX12_divide_29 _ _ _ _ _ _ hh
        exact kk _ ⟨hq, hr.R hc rfl rfl rfl⟩
      · refine tp_dF h3 (tp_dF h1 (hG _ (tp_dF h2 (tp_dF h3 ?_))))
        first | exact ⟨rfl, hT⟩ | exact hT
