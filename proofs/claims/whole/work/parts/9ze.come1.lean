/-! pure: a ship comes, single changes -/
theorem RR.hole {c w d pn P Sh V E A t r eb : Nat} {G : Nat → Nat → Nat → Nat} {C : Nat → Nat → Nat} {OL : Nat → List Nat} {N : tq_Nn} {S M : tq_St} {s : Nat} (h0 : RR c 8 w d pn P Sh V E A t r eb G C OL N S M) : RR c s w d pn P Sh V E A t r eb G C OL N S M := by
  obtain ⟨hsc, hss, har, hpl, hlg, hsh, hpe, hmo, hpr, hsr, hpa, hkn, hst, hpm, hsi, hab, hsm, hvo, hvm, hbi, hlb, hiv, hod, hol, hoi, hfi, hli, had, hro⟩ := h0
  have b4 := hsc.2.2.2.2.2.2.2.2.2.2.2.2.1
  refine ⟨hsc, hss, har, hpl, hlg, hsh, hpe, hmo, hpr, hsr, hpa, hkn, hst, hpm, fun x hx => ?_, hab, hsm, hvo, hvm, hbi, hlb, hiv, hod, hol, hoi, hfi, hli, had, hro⟩
  obtain ⟨a1, a2, a3, a4, a5, a6, a7, a8, a9, a10⟩ := hsi x hx
  exact ⟨a1, a2, a3, a4, a5, a6, a7, a8, a9, fun _ => a10 (by omega)⟩
theorem RR_place {c h w d pn P Sh V E A t r eb : Nat} {G : Nat → Nat → Nat → Nat} {C : Nat → Nat → Nat} {OL : Nat → List Nat} {N : tq_Nn} {S M : tq_St} (h0 : RR c h w d pn P Sh V E A t r eb G C OL N S M) {s : Nat} {x : Int32} (hs : s < Sh) (hx1 : ¬ x = -1) (hx2 : -2 ≤ x.toInt) (hx4 : x.toInt ≤ 4) : RR c h w d pn P Sh V E A t r eb G C OL N (tq_up S 8 (G 19 0 s) 3 x) (tq_up M 124 0 s x) := by
  obtain ⟨hsc, hss, har, hpl, hlg, hsh, hpe, hmo, hpr, hsr, hpa, hkn, hst, hpm, hsi, hab, hsm, hvo, hvm, hbi, hlb, hiv, hod, hol, hoi, hfi, hli, had, hro⟩ := h0
  have b5 := hsc.2.2.2.2.2.2.2.2.2.2.2.2.2.1
  have b4 := hsc.2.2.2.2.2.2.2.2.2.2.2.2.1
  have b3 := hsc.2.2.2.2.2.2.2.2.2.2.2.1
  have b2 := hsc.2.2.2.2.2.2.2.2.2.2.1
  refine ⟨?_, ?_, ?_, ?_, ?_, ?_, ?_, ?_, ?_, ?_, ?_, ?_, ?_, ?_, ?_, ?_, ?_, ?_, ?_, ?_, ?_, ?_, ?_, ?_, ?_, ?_, ?_, ?_, ?_⟩
  · simpa (disch := decide) only [q_sc, tq_upk, tq_upj, tq_cpk] using hsc
  · simpa (disch := decide) only [q_ss, tq_upk, tq_upj, tq_cpk] using hss
  · simpa (disch := decide) only [q_ar, tq_upk, tq_upj, tq_cpk] using har
  · simpa (disch := decide) only [q_pl, tq_upk, tq_upj, tq_cpk] using hpl
  · simpa (disch := decide) only [q_lg, tq_upk, tq_upj, tq_cpk] using hlg
  · simpa (disch := decide) only [q_sh, tq_upk, tq_upj, tq_cpk] using hsh
  · simpa (disch := decide) only [q_pe, tq_upk, tq_upj, tq_cpk] using hpe
  · simpa (disch := decide) only [q_mo, tq_upk, tq_upj, tq_cpk] using hmo
  · simpa (disch := decide) only [q_pr, tq_upk, tq_upj, tq_cpk] using hpr
  · simpa (disch := decide) only [q_sr, tq_upk, tq_upj, tq_cpk] using hsr
  · simpa (disch := decide) only [q_pa, q_pb, tq_upk, tq_upj, tq_cpk] using hpa
  · simpa (disch := decide) only [q_kn, tq_upk, tq_upj, tq_cpk] using hkn
  · simpa (disch := decide) only [q_st, tq_upk, tq_upj, tq_cpk] using hst
  · simpa (disch := decide) only [q_pm, q_pn, tq_upk, tq_upj, tq_cpk] using hpm
  · intro y hy
    obtain ⟨a1, a2, a3, a4, a5, a6, a7, a8, a9, a10⟩ := hsi y hy
    have key : tq_up S 8 (G 19 0 s) 3 x 8 (G 19 0 y) 3 = tq_up M 124 0 s x 124 0 y := by
      by_cases e : y = s
      · subst e; rw [tq_upe, tq_upe]
      · rw [tq_upi (fun z => e (hsi.inj b4 hy hs z)), tq_upj e]; exact a7
    simp (disch := decide) only [tq_upk, tq_upj]
    exact ⟨a1, a2, a3, a4, a5, a6, key, a8, a9, a10⟩
  · simpa (disch := decide) only [q_ab, tq_upk, tq_upj, tq_cpk] using hab
  · obtain ⟨a1, a2, a3⟩ := hsm
    refine ⟨fun y hy => ?_, ?_, fun y h1 h2 => ?_⟩
    · obtain ⟨c1, c2, c3, c4⟩ := a1 y hy
      simp (disch := decide) only [tq_upk, tq_upj]
      by_cases e : y = s
      · subst e
        rw [tq_upe]
        exact ⟨c1, hx2, hx4, fun z => absurd z hx1⟩
      · rw [tq_upj e]
        exact ⟨c1, c2, c3, c4⟩
    · simpa (disch := decide) only [tq_upk] using a2
    · have z : tq_up M 124 0 s x 124 0 y = M 124 0 y := by rw [tq_upj (show y ≠ s by omega)]
      simp (disch := decide) only [tq_upk]
      rw [z]
      exact a3 y h1 h2
  · simpa (disch := decide) only [q_vo, tq_upk, tq_upj, tq_cpk] using hvo
  · simpa (disch := decide) only [q_vm, tq_upk, tq_upj, tq_cpk] using hvm
  · simpa (disch := decide) only [q_bi, tq_upk, tq_upj, tq_cpk] using hbi
  · simpa (disch := decide) only [q_lb, tq_upk, tq_upj, tq_cpk] using hlb
  · simpa (disch := decide) only [q_iv, tq_upk, tq_upj, tq_cpk] using hiv
  · simpa (disch := decide) only [q_od, tq_upk, tq_upj, tq_cpk] using hod
  · simpa (disch := decide) only [q_ol, tq_upk, tq_upj, tq_cpk] using hol
  · simpa (disch := decide) only [q_oi, tq_upk, tq_upj, tq_cpk] using hoi
  · simpa (disch := decide) only [q_fi, tq_upk, tq_upj, tq_cpk] using hfi
  · simpa (disch := decide) only [q_li, tq_upk, tq_upj, tq_cpk] using hli
  · simpa (disch := decide) only [q_ad, tq_upk, tq_upj, tq_cpk] using had
  · simpa (disch := decide) only [q_ro, tq_upk, tq_upj, tq_cpk] using hro
theorem RR_upz {c h w d pn P Sh V E A t r eb : Nat} {G : Nat → Nat → Nat → Nat} {C : Nat → Nat → Nat} {OL : Nat → List Nat} {N : tq_Nn} {S M : tq_St} (h0 : RR c h w d pn P Sh V E A t r eb G C OL N S M) {s : Nat} {x : Int32} (hs : s < Sh) : RR c h w d pn P Sh V E A t r eb G C OL N (tq_up S 8 (G 19 0 s) 5 x) (tq_up M 125 0 s x) := by
  obtain ⟨hsc, hss, har, hpl, hlg, hsh, hpe, hmo, hpr, hsr, hpa, hkn, hst, hpm, hsi, hab, hsm, hvo, hvm, hbi, hlb, hiv, hod, hol, hoi, hfi, hli, had, hro⟩ := h0
  have b5 := hsc.2.2.2.2.2.2.2.2.2.2.2.2.2.1
  have b4 := hsc.2.2.2.2.2.2.2.2.2.2.2.2.1
  have b3 := hsc.2.2.2.2.2.2.2.2.2.2.2.1
  have b2 := hsc.2.2.2.2.2.2.2.2.2.2.1
  refine ⟨?_, ?_, ?_, ?_, ?_, ?_, ?_, ?_, ?_, ?_, ?_, ?_, ?_, ?_, ?_, ?_, ?_, ?_, ?_, ?_, ?_, ?_, ?_, ?_, ?_, ?_, ?_, ?_, ?_⟩
  · simpa (disch := decide) only [q_sc, tq_upk, tq_upj, tq_cpk] using hsc
  · simpa (disch := decide) only [q_ss, tq_upk, tq_upj, tq_cpk] using hss
  · simpa (disch := decide) only [q_ar, tq_upk, tq_upj, tq_cpk] using har
  · simpa (disch := decide) only [q_pl, tq_upk, tq_upj, tq_cpk] using hpl
  · simpa (disch := decide) only [q_lg, tq_upk, tq_upj, tq_cpk] using hlg
  · simpa (disch := decide) only [q_sh, tq_upk, tq_upj, tq_cpk] using hsh
  · simpa (disch := decide) only [q_pe, tq_upk, tq_upj, tq_cpk] using hpe
  · simpa (disch := decide) only [q_mo, tq_upk, tq_upj, tq_cpk] using hmo
  · simpa (disch := decide) only [q_pr, tq_upk, tq_upj, tq_cpk] using hpr
  · simpa (disch := decide) only [q_sr, tq_upk, tq_upj, tq_cpk] using hsr
  · simpa (disch := decide) only [q_pa, q_pb, tq_upk, tq_upj, tq_cpk] using hpa
  · simpa (disch := decide) only [q_kn, tq_upk, tq_upj, tq_cpk] using hkn
  · simpa (disch := decide) only [q_st, tq_upk, tq_upj, tq_cpk] using hst
  · simpa (disch := decide) only [q_pm, q_pn, tq_upk, tq_upj, tq_cpk] using hpm
  · intro y hy
    obtain ⟨a1, a2, a3, a4, a5, a6, a7, a8, a9, a10⟩ := hsi y hy
    have key : tq_up S 8 (G 19 0 s) 5 x 8 (G 19 0 y) 5 = tq_up M 125 0 s x 125 0 y := by
      by_cases e : y = s
      · subst e; rw [tq_upe, tq_upe]
      · rw [tq_upi (fun z => e (hsi.inj b4 hy hs z)), tq_upj e]; exact a8
    simp (disch := decide) only [tq_upk, tq_upj]
    exact ⟨a1, a2, a3, a4, a5, a6, a7, key, a9, a10⟩
  · simpa (disch := decide) only [q_ab, tq_upk, tq_upj, tq_cpk] using hab
  · obtain ⟨a1, a2, a3⟩ := hsm
    refine ⟨?_, ?_, fun y h1 h2 => ?_⟩
    · simpa (disch := decide) only [tq_upk, tq_upj] using a1
    · simpa (disch := decide) only [tq_upk] using a2
    · have z : tq_up M 125 0 s x 125 0 y = M 125 0 y := by rw [tq_upj (show y ≠ s by omega)]
      simp (disch := decide) only [tq_upk]
      rw [z]
      exact a3 y h1 h2
  · simpa (disch := decide) only [q_vo, tq_upk, tq_upj, tq_cpk] using hvo
  · simpa (disch := decide) only [q_vm, tq_upk, tq_upj, tq_cpk] using hvm
  · simpa (disch := decide) only [q_bi, tq_upk, tq_upj, tq_cpk] using hbi
  · simpa (disch := decide) only [q_lb, tq_upk, tq_upj, tq_cpk] using hlb
  · simpa (disch := decide) only [q_iv, tq_upk, tq_upj, tq_cpk] using hiv
  · simpa (disch := decide) only [q_od, tq_upk, tq_upj, tq_cpk] using hod
  · simpa (disch := decide) only [q_ol, tq_upk, tq_upj, tq_cpk] using hol
  · simpa (disch := decide) only [q_oi, tq_upk, tq_upj, tq_cpk] using hoi
  · simpa (disch := decide) only [q_fi, tq_upk, tq_upj, tq_cpk] using hfi
  · simpa (disch := decide) only [q_li, tq_upk, tq_upj, tq_cpk] using hli
  · simpa (disch := decide) only [q_ad, tq_upk, tq_upj, tq_cpk] using had
  · simpa (disch := decide) only [q_ro, tq_upk, tq_upj, tq_cpk] using hro
theorem RR_stk {c h w d pn P Sh V E A t r eb : Nat} {G : Nat → Nat → Nat → Nat} {C : Nat → Nat → Nat} {OL : Nat → List Nat} {N : tq_Nn} {S M : tq_St} (h0 : RR c h w d pn P Sh V E A t r eb G C OL N S M) {p q : Nat} {u : Int32} : RR c h w d pn P Sh V E A t r eb G C OL N (tq_up S 30 p q u) (tq_up M 102 p q u) := by
  obtain ⟨hsc, hss, har, hpl, hlg, hsh, hpe, hmo, hpr, hsr, hpa, hkn, hst, hpm, hsi, hab, hsm, hvo, hvm, hbi, hlb, hiv, hod, hol, hoi, hfi, hli, had, hro⟩ := h0
  refine ⟨?_, ?_, ?_, ?_, ?_, ?_, ?_, ?_, ?_, ?_, ?_, ?_, ?_, ?_, ?_, ?_, ?_, ?_, ?_, ?_, ?_, ?_, ?_, ?_, ?_, ?_, ?_, ?_, ?_⟩
  · simpa (disch := decide) only [q_sc, tq_upk, tq_upj, tq_cpk] using hsc
  · simpa (disch := decide) only [q_ss, tq_upk, tq_upj, tq_cpk] using hss
  · obtain ⟨y1, y2, y3, y4, y5, y6, y7, y8, y9, y10, y11, y12, y13, y14, y15⟩ := har
    refine ⟨?_, ?_, ?_, ?_, ?_, ?_, ?_, ?_, ?_, ?_, ?_, ?_, ?_, ?_, ?_⟩
    · simpa (disch := decide) only [tq_upk, tq_upj, tq_cpk] using y1
    · simpa (disch := decide) only [tq_upk, tq_upj, tq_cpk] using y2
    · simpa (disch := decide) only [tq_upk, tq_upj, tq_cpk] using y3
    · simpa (disch := decide) only [tq_upk, tq_upj, tq_cpk] using y4
    · simpa (disch := decide) only [tq_upk, tq_upj, tq_cpk] using y5
    · simpa (disch := decide) only [tq_upk, tq_upj, tq_cpk] using y6
    · first | exact tp_up2 y7 | (simp (disch := decide) only [tq_upk, tq_cpk]; exact tp_up2 y7)
    · simpa (disch := decide) only [tq_upk, tq_upj, tq_cpk] using y8
    · simpa (disch := decide) only [tq_upk, tq_upj, tq_cpk] using y9
    · simpa (disch := decide) only [tq_upk, tq_upj, tq_cpk] using y10
    · simpa (disch := decide) only [tq_upk, tq_upj, tq_cpk] using y11
    · simpa (disch := decide) only [tq_upk, tq_upj, tq_cpk] using y12
    · simpa (disch := decide) only [tq_upk, tq_upj, tq_cpk] using y13
    · simpa (disch := decide) only [tq_upk, tq_upj, tq_cpk] using y14
    · simpa (disch := decide) only [tq_upk, tq_upj, tq_cpk] using y15
  · simpa (disch := decide) only [q_pl, tq_upk, tq_upj, tq_cpk] using hpl
  · simpa (disch := decide) only [q_lg, tq_upk, tq_upj, tq_cpk] using hlg
  · simpa (disch := decide) only [q_sh, tq_upk, tq_upj, tq_cpk] using hsh
  · simpa (disch := decide) only [q_pe, tq_upk, tq_upj, tq_cpk] using hpe
  · simpa (disch := decide) only [q_mo, tq_upk, tq_upj, tq_cpk] using hmo
  · simpa (disch := decide) only [q_pr, tq_upk, tq_upj, tq_cpk] using hpr
  · simpa (disch := decide) only [q_sr, tq_upk, tq_upj, tq_cpk] using hsr
  · simpa (disch := decide) only [q_pa, q_pb, tq_upk, tq_upj, tq_cpk] using hpa
  · simpa (disch := decide) only [q_kn, tq_upk, tq_upj, tq_cpk] using hkn
  · simpa (disch := decide) only [q_st, tq_upk, tq_upj, tq_cpk] using hst
  · simpa (disch := decide) only [q_pm, q_pn, tq_upk, tq_upj, tq_cpk] using hpm
  · simpa (disch := decide) only [q_si, tq_upk, tq_upj, tq_cpk] using hsi
  · simpa (disch := decide) only [q_ab, tq_upk, tq_upj, tq_cpk] using hab
  · simpa (disch := decide) only [q_sm, tq_upk, tq_upj, tq_cpk] using hsm
  · simpa (disch := decide) only [q_vo, tq_upk, tq_upj, tq_cpk] using hvo
  · simpa (disch := decide) only [q_vm, tq_upk, tq_upj, tq_cpk] using hvm
  · simpa (disch := decide) only [q_bi, tq_upk, tq_upj, tq_cpk] using hbi
  · simpa (disch := decide) only [q_lb, tq_upk, tq_upj, tq_cpk] using hlb
  · simpa (disch := decide) only [q_iv, tq_upk, tq_upj, tq_cpk] using hiv
  · simpa (disch := decide) only [q_od, tq_upk, tq_upj, tq_cpk] using hod
  · simpa (disch := decide) only [q_ol, tq_upk, tq_upj, tq_cpk] using hol
  · simpa (disch := decide) only [q_oi, tq_upk, tq_upj, tq_cpk] using hoi
  · simpa (disch := decide) only [q_fi, tq_upk, tq_upj, tq_cpk] using hfi
  · simpa (disch := decide) only [q_li, tq_upk, tq_upj, tq_cpk] using hli
  · simpa (disch := decide) only [q_ad, tq_upk, tq_upj, tq_cpk] using had
  · simpa (disch := decide) only [q_ro, tq_upk, tq_upj, tq_cpk] using hro
theorem RR_v140 {c h w d pn P Sh V E A t r eb : Nat} {G : Nat → Nat → Nat → Nat} {C : Nat → Nat → Nat} {OL : Nat → List Nat} {N : tq_Nn} {S M : tq_St} (h0 : RR c h w d pn P Sh V E A t r eb G C OL N S M) {v q : Nat} {x : Int32} (he : M 138 0 v = 0) : RR c h w d pn P Sh V E A t r eb G C OL N S (tq_up M 140 v q x) := by
  obtain ⟨hsc, hss, har, hpl, hlg, hsh, hpe, hmo, hpr, hsr, hpa, hkn, hst, hpm, hsi, hab, hsm, hvo, hvm, hbi, hlb, hiv, hod, hol, hoi, hfi, hli, had, hro⟩ := h0
  refine ⟨?_, ?_, ?_, ?_, ?_, ?_, ?_, ?_, ?_, ?_, ?_, ?_, ?_, ?_, ?_, ?_, ?_, ?_, ?_, ?_, ?_, ?_, ?_, ?_, ?_, ?_, ?_, ?_, ?_⟩
  · simpa (disch := decide) only [q_sc, tq_upk, tq_upj, tq_cpk] using hsc
  · simpa (disch := decide) only [q_ss, tq_upk, tq_upj, tq_cpk] using hss
  · simpa (disch := decide) only [q_ar, tq_upk, tq_upj, tq_cpk] using har
  · simpa (disch := decide) only [q_pl, tq_upk, tq_upj, tq_cpk] using hpl
  · simpa (disch := decide) only [q_lg, tq_upk, tq_upj, tq_cpk] using hlg
  · simpa (disch := decide) only [q_sh, tq_upk, tq_upj, tq_cpk] using hsh
  · simpa (disch := decide) only [q_pe, tq_upk, tq_upj, tq_cpk] using hpe
  · simpa (disch := decide) only [q_mo, tq_upk, tq_upj, tq_cpk] using hmo
  · simpa (disch := decide) only [q_pr, tq_upk, tq_upj, tq_cpk] using hpr
  · simpa (disch := decide) only [q_sr, tq_upk, tq_upj, tq_cpk] using hsr
  · simpa (disch := decide) only [q_pa, q_pb, tq_upk, tq_upj, tq_cpk] using hpa
  · simpa (disch := decide) only [q_kn, tq_upk, tq_upj, tq_cpk] using hkn
  · simpa (disch := decide) only [q_st, tq_upk, tq_upj, tq_cpk] using hst
  · simpa (disch := decide) only [q_pm, q_pn, tq_upk, tq_upj, tq_cpk] using hpm
  · simpa (disch := decide) only [q_si, tq_upk, tq_upj, tq_cpk] using hsi
  · simpa (disch := decide) only [q_ab, tq_upk, tq_upj, tq_cpk] using hab
  · simpa (disch := decide) only [q_sm, tq_upk, tq_upj, tq_cpk] using hsm
  · intro y hy
    obtain ⟨a1, a2, a3, a4, a5, a6, a7, a8, a9, a10, a11, a12, a13, a14, a15⟩ := hvo y hy
    simp (disch := decide) only [tq_upk]
    refine ⟨a1, a2, a3, a4, a5, a6, a7, a8, a9, a10, a11, a12, a13, fun z => ?_, a15⟩
    by_cases e : y = v
    · subst e; rw [he] at z; exact absurd z (by decide)
    · rw [tq_upi e]; exact a14 z
  · simpa (disch := decide) only [q_vm, tq_upk, tq_upj, tq_cpk] using hvm
  · simpa (disch := decide) only [q_bi, tq_upk, tq_upj, tq_cpk] using hbi
  · simpa (disch := decide) only [q_lb, tq_upk, tq_upj, tq_cpk] using hlb
  · simpa (disch := decide) only [q_iv, tq_upk, tq_upj, tq_cpk] using hiv
  · simpa (disch := decide) only [q_od, tq_upk, tq_upj, tq_cpk] using hod
  · simpa (disch := decide) only [q_ol, tq_upk, tq_upj, tq_cpk] using hol
  · simpa (disch := decide) only [q_oi, tq_upk, tq_upj, tq_cpk] using hoi
  · simpa (disch := decide) only [q_fi, tq_upk, tq_upj, tq_cpk] using hfi
  · simpa (disch := decide) only [q_li, tq_upk, tq_upj, tq_cpk] using hli
  · simpa (disch := decide) only [q_ad, tq_upk, tq_upj, tq_cpk] using had
  · simpa (disch := decide) only [q_ro, tq_upk, tq_upj, tq_cpk] using hro
theorem RR_vend {c h w d pn P Sh V E A t r eb : Nat} {G : Nat → Nat → Nat → Nat} {C : Nat → Nat → Nat} {OL : Nat → List Nat} {N : tq_Nn} {S M : tq_St} (h0 : RR c h w d pn P Sh V E A t r eb G C OL N S M) {v e : Nat} (hv : v < V) (he : e ≤ 2) (he0 : e ≠ 0) (hq : M 138 0 v = 0) (h140 : e = 1 → ∀ q : Nat, q < 4 → M 140 v q = M 139 v q) (hno : ∀ s : Nat, s < Sh → M 124 0 s = -1 → ¬ M 130 0 s = nI v) : RR c h w d pn P Sh V E A t r eb G C OL N (tq_up S 9 (G 22 0 v) 9 (nI e)) (tq_up M 138 0 v (nI e)) := by
  obtain ⟨hsc, hss, har, hpl, hlg, hsh, hpe, hmo, hpr, hsr, hpa, hkn, hst, hpm, hsi, hab, hsm, hvo, hvm, hbi, hlb, hiv, hod, hol, hoi, hfi, hli, had, hro⟩ := h0
  have b5 := hsc.2.2.2.2.2.2.2.2.2.2.2.2.2.1
  have b4 := hsc.2.2.2.2.2.2.2.2.2.2.2.2.1
  have b3 := hsc.2.2.2.2.2.2.2.2.2.2.2.1
  have b2 := hsc.2.2.2.2.2.2.2.2.2.2.1
  refine ⟨?_, ?_, ?_, ?_, ?_, ?_, ?_, ?_, ?_, ?_, ?_, ?_, ?_, ?_, ?_, ?_, ?_, ?_, ?_, ?_, ?_, ?_, ?_, ?_, ?_, ?_, ?_, ?_, ?_⟩
  · simpa (disch := decide) only [q_sc, tq_upk, tq_upj, tq_cpk] using hsc
  · simpa (disch := decide) only [q_ss, tq_upk, tq_upj, tq_cpk] using hss
  · simpa (disch := decide) only [q_ar, tq_upk, tq_upj, tq_cpk] using har
  · simpa (disch := decide) only [q_pl, tq_upk, tq_upj, tq_cpk] using hpl
  · simpa (disch := decide) only [q_lg, tq_upk, tq_upj, tq_cpk] using hlg
  · simpa (disch := decide) only [q_sh, tq_upk, tq_upj, tq_cpk] using hsh
  · simpa (disch := decide) only [q_pe, tq_upk, tq_upj, tq_cpk] using hpe
  · simpa (disch := decide) only [q_mo, tq_upk, tq_upj, tq_cpk] using hmo
  · simpa (disch := decide) only [q_pr, tq_upk, tq_upj, tq_cpk] using hpr
  · simpa (disch := decide) only [q_sr, tq_upk, tq_upj, tq_cpk] using hsr
  · simpa (disch := decide) only [q_pa, q_pb, tq_upk, tq_upj, tq_cpk] using hpa
  · simpa (disch := decide) only [q_kn, tq_upk, tq_upj, tq_cpk] using hkn
  · simpa (disch := decide) only [q_st, tq_upk, tq_upj, tq_cpk] using hst
  · simpa (disch := decide) only [q_pm, q_pn, tq_upk, tq_upj, tq_cpk] using hpm
  · simpa (disch := decide) only [q_si, tq_upk, tq_upj, tq_cpk] using hsi
  · simpa (disch := decide) only [q_ab, tq_upk, tq_upj, tq_cpk] using hab
  · obtain ⟨a1, a2, a3⟩ := hsm
    refine ⟨fun y hy => ?_, ?_, fun y h1 h2 => ?_⟩
    · obtain ⟨c1, c2, c3, c4⟩ := a1 y hy
      have n1 := hno y hy
      simp (disch := decide) only [tq_upk]
      refine ⟨c1, c2, c3, fun z => ?_⟩
      obtain ⟨v', w1, w2, w3, w4, w5, w6⟩ := c4 z
      refine ⟨v', w1, w2, w3, w4, ?_, w6⟩
      rw [tq_upj (fun y2 => n1 z (by rw [w2, y2]))]; exact w5
    · simpa (disch := decide) only [tq_upk] using a2
    · simp (disch := decide) only [tq_upk]
      exact a3 y h1 h2
  · intro y hy
    obtain ⟨a1, a2, a3, a4, a5, a6, a7, a8, a9, a10, a11, a12, a13, a14, a15⟩ := hvo y hy
    by_cases e1 : y = v
    · subst e1
      have u : ∀ j, j ≠ 9 → tq_up S 9 (G 22 0 y) 9 (nI e) 9 (G 22 0 y) j = S 9 (G 22 0 y) j := fun j hj => tq_upj hj
      have u9 : tq_up S 9 (G 22 0 y) 9 (nI e) 9 (G 22 0 y) 9 = tq_up M 138 0 y (nI e) 138 0 y := by rw [tq_upe, tq_upe]
      have u1 : tq_up M 138 0 y (nI e) 138 0 y = nI e := tq_upe
      rw [u 0 (by decide), u 1 (by decide), u 2 (by decide), u 3 (by decide), u 4 (by decide), u 5 (by decide), u 8 (by decide), u 10 (by decide), u 11 (by decide), u9, u1]
      simp (disch := decide) only [tq_upk]
      refine ⟨a1, a2, a3, a4, a5, a6, a7, a8, a9, trivial, a11, a12, a13, fun z q hq2 => ?_, fun z => ?_⟩
      · have ee : e = 1 := (nI_eq (b := 1) (by omega) (by omega)).mp z
        rw [h140 ee q hq2]; exact a15 hq q hq2
      · have ee : e = 0 := (nI_eq (b := 0) (by omega) (by omega)).mp z
        exact absurd ee he0
    · have z : G 22 0 y ≠ G 22 0 v := fun z => e1 (hvo.inj b5 hy hv z)
      have u2 : tq_up M 138 0 v (nI e) 138 0 y = M 138 0 y := tq_upj e1
      rw [tq_upi z, u2]
      simp (disch := decide) only [tq_upk]
      exact ⟨a1, a2, a3, a4, a5, a6, a7, a8, a9, a10, a11, a12, a13, a14, a15⟩
  · obtain ⟨a1, a2⟩ := hvm
    refine ⟨fun y hy => ?_, fun y h1 h2 => ?_⟩
    · obtain ⟨c1, c2⟩ := a1 y hy
      rw [tq_upk (show (134 : Nat) ≠ 138 by decide)]
      refine ⟨c1, ?_⟩
      by_cases e1 : y = v
      · subst e1; exact ⟨e, he, tq_upe⟩
      · rw [tq_upj e1]; exact c2
    · rw [tq_upk (show (137 : Nat) ≠ 138 by decide), tq_upj (show y ≠ v by omega)]; exact a2 y h1 h2
  · simpa (disch := decide) only [q_bi, tq_upk, tq_upj, tq_cpk] using hbi
  · simpa (disch := decide) only [q_lb, tq_upk, tq_upj, tq_cpk] using hlb
  · simpa (disch := decide) only [q_iv, tq_upk, tq_upj, tq_cpk] using hiv
  · simpa (disch := decide) only [q_od, tq_upk, tq_upj, tq_cpk] using hod
  · simpa (disch := decide) only [q_ol, tq_upk, tq_upj, tq_cpk] using hol
  · simpa (disch := decide) only [q_oi, tq_upk, tq_upj, tq_cpk] using hoi
  · simpa (disch := decide) only [q_fi, tq_upk, tq_upj, tq_cpk] using hfi
  · simpa (disch := decide) only [q_li, tq_upk, tq_upj, tq_cpk] using hli
  · simpa (disch := decide) only [q_ad, tq_upk, tq_upj, tq_cpk] using had
  · simpa (disch := decide) only [q_ro, tq_upk, tq_upj, tq_cpk] using hro
theorem RR_ec {c h w d pn P Sh V E A t r eb : Nat} {G : Nat → Nat → Nat → Nat} {C : Nat → Nat → Nat} {OL : Nat → List Nat} {N : tq_Nn} {S M : tq_St} (h0 : RR c h w d pn P Sh V E A t r eb G C OL N S M) {s p : Nat} {z : Int32} (hs : s < Sh) (hp : p < 5) (hh : h = s) (hz0 : 0 ≤ z.toInt) (hz : z.toInt ≤ (M 101 0 p).toInt + (M 128 0 s).toInt) : RR c h w d pn P Sh V E A t r eb G C OL N (tq_up S 2 p 1 z) (tq_up (tq_up M 101 0 p z) 128 0 s 0) := by
  obtain ⟨hsc, hss, har, hpl, hlg, hsh, hpe, hmo, hpr, hsr, hpa, hkn, hst, hpm, hsi, hab, hsm, hvo, hvm, hbi, hlb, hiv, hod, hol, hoi, hfi, hli, had, hro⟩ := h0
  have b5 := hsc.2.2.2.2.2.2.2.2.2.2.2.2.2.1
  have b4 := hsc.2.2.2.2.2.2.2.2.2.2.2.2.1
  have b3 := hsc.2.2.2.2.2.2.2.2.2.2.2.1
  have b2 := hsc.2.2.2.2.2.2.2.2.2.2.1
  refine ⟨?_, ?_, ?_, ?_, ?_, ?_, ?_, ?_, ?_, ?_, ?_, ?_, ?_, ?_, ?_, ?_, ?_, ?_, ?_, ?_, ?_, ?_, ?_, ?_, ?_, ?_, ?_, ?_, ?_⟩
  · simpa (disch := decide) only [q_sc, tq_upk, tq_upj, tq_cpk] using hsc
  · simpa (disch := decide) only [q_ss, tq_upk, tq_upj, tq_cpk] using hss
  · simpa (disch := decide) only [q_ar, tq_upk, tq_upj, tq_cpk] using har
  · obtain ⟨a1, a2, a3, a4, a5, a6⟩ := hpl
    refine ⟨?_, ?_, ?_, ?_, ?_, ?_⟩
    · simpa (disch := decide) only [tq_upk, tq_upj, tq_cpk] using a1
    · intro q h1
      by_cases e : q = p
      · subst e; rw [tq_upe, tq_upk (show (101 : Nat) ≠ 128 by decide), tq_upe]
      · rw [tq_upi e, tq_upk (show (101 : Nat) ≠ 128 by decide), tq_upj e]; exact a2 q h1
    · simpa (disch := decide) only [tq_upk, tq_upj, tq_cpk] using a3
    · simpa (disch := decide) only [tq_upk, tq_upj, tq_cpk] using a4
    · simpa (disch := decide) only [tq_upk, tq_upj, tq_cpk] using a5
    · simpa (disch := decide) only [tq_upk, tq_upj, tq_cpk] using a6
  · simpa (disch := decide) only [q_lg, tq_upk, tq_upj, tq_cpk] using hlg
  · simpa (disch := decide) only [q_sh, tq_upk, tq_upj, tq_cpk] using hsh
  · simpa (disch := decide) only [q_pe, tq_upk, tq_upj, tq_cpk] using hpe
  · obtain ⟨a1, a2, a3, a4⟩ := hmo
    have t0 : (0 : Int32).toInt = 0 := by decide
    refine ⟨?_, ?_, ?_, ?_⟩
    · intro q h1
      rw [tq_upk (by decide)]
      by_cases e : q = p
      · subst e; rw [tq_upe]; exact hz0
      · rw [tq_upj e]; exact a1 q h1
    · intro q h1
      by_cases e : q = s
      · subst e; rw [tq_upe, t0]; exact Int.le_refl _
      · rw [tq_upj e, tq_upk (by decide)]; exact a2 q h1
    · simpa (disch := decide) only [tq_upk, tq_upj, tq_cpk] using a3
    · have k1 := tp_sm_upd (f := fun q => (M 101 0 q).toInt) (g := fun q => (tq_up M 101 0 p z 101 0 q).toInt) hp (fun k _ hk => by show (tq_up M 101 0 p z 101 0 k).toInt = _; rw [tq_upj hk])
      have k2 : (tq_up M 101 0 p z 101 0 p).toInt = z.toInt := by rw [tq_upe]
      have k3 := tp_sm_upd (f := fun q => (M 128 0 q).toInt) (g := fun q => (tq_up M 128 0 s 0 128 0 q).toInt) (q := s) (n := 8) (by omega) (fun k _ hk => by show (tq_up M 128 0 s 0 128 0 k).toInt = _; rw [tq_upj hk])
      have k4 : (tq_up M 128 0 s 0 128 0 s).toInt = 0 := by rw [tq_upe, t0]
      have k5 : ∀ q, tq_up (tq_up M 101 0 p z) 128 0 s 0 128 0 q = tq_up M 128 0 s 0 128 0 q := fun q => by
        by_cases e : q = s
        · subst e; rw [tq_upe, tq_upe]
        · rw [tq_upj e, tq_upj e, tq_upk (by decide)]
      simp only [k5]
      simp (disch := decide) only [tq_upk] at k1 k2 k3 k4 ⊢
      omega
  · simpa (disch := decide) only [q_pr, tq_upk, tq_upj, tq_cpk] using hpr
  · simpa (disch := decide) only [q_sr, tq_upk, tq_upj, tq_cpk] using hsr
  · simpa (disch := decide) only [q_pa, q_pb, tq_upk, tq_upj, tq_cpk] using hpa
  · simpa (disch := decide) only [q_kn, tq_upk, tq_upj, tq_cpk] using hkn
  · simpa (disch := decide) only [q_st, tq_upk, tq_upj, tq_cpk] using hst
  · simpa (disch := decide) only [q_pm, q_pn, tq_upk, tq_upj, tq_cpk] using hpm
  · intro q hq
    obtain ⟨a1, a2, a3, a4, a5, a6, a7, a8, a9, a10⟩ := hsi q hq
    simp (disch := decide) only [tq_upk]
    refine ⟨a1, a2, a3, a4, a5, a6, a7, a8, a9, ?_⟩
    intro h1
    obtain ⟨c1, c2, c3⟩ := a10 h1
    refine ⟨?_, c2, c3⟩
    rw [tq_upj (fun e => h1 (by rw [hh]; exact e)), tq_upk (by decide)]; exact c1
  · simpa (disch := decide) only [q_ab, tq_upk, tq_upj, tq_cpk] using hab
  · obtain ⟨a1, a2, a3⟩ := hsm
    refine ⟨?_, ?_, ?_⟩
    · simpa (disch := decide) only [tq_upk, tq_upj, tq_cpk] using a1
    · simpa (disch := decide) only [tq_upk, tq_upj, tq_cpk] using a2
    · intro q h1 h2
      have z2 : tq_up (tq_up M 101 0 p z) 128 0 s 0 128 0 q = M 128 0 q := by rw [tq_upj (show q ≠ s by omega), tq_upk (by decide)]
      simp (disch := decide) only [tq_upk]
      rw [z2]
      exact a3 q h1 h2
  · simpa (disch := decide) only [q_vo, tq_upk, tq_upj, tq_cpk] using hvo
  · simpa (disch := decide) only [q_vm, tq_upk, tq_upj, tq_cpk] using hvm
  · simpa (disch := decide) only [q_bi, tq_upk, tq_upj, tq_cpk] using hbi
  · simpa (disch := decide) only [q_lb, tq_upk, tq_upj, tq_cpk] using hlb
  · simpa (disch := decide) only [q_iv, tq_upk, tq_upj, tq_cpk] using hiv
  · simpa (disch := decide) only [q_od, tq_upk, tq_upj, tq_cpk] using hod
  · simpa (disch := decide) only [q_ol, tq_upk, tq_upj, tq_cpk] using hol
  · simpa (disch := decide) only [q_oi, tq_upk, tq_upj, tq_cpk] using hoi
  · simpa (disch := decide) only [q_fi, tq_upk, tq_upj, tq_cpk] using hfi
  · simpa (disch := decide) only [q_li, tq_upk, tq_upj, tq_cpk] using hli
  · simpa (disch := decide) only [q_ad, tq_upk, tq_upj, tq_cpk] using had
  · simpa (disch := decide) only [q_ro, tq_upk, tq_upj, tq_cpk] using hro
theorem RR_e127 {c h w d pn P Sh V E A t r eb : Nat} {G : Nat → Nat → Nat → Nat} {C : Nat → Nat → Nat} {OL : Nat → List Nat} {N : tq_Nn} {S M : tq_St} (h0 : RR c h w d pn P Sh V E A t r eb G C OL N S M) {s : Nat} {f : Nat → Int32} (hs : s < Sh) (hh : h = s) (hat : ¬ M 124 0 s = -1) : RR c h w d pn P Sh V E A t r eb G C OL N S (tq_cp M 127 s f) := by
  obtain ⟨hsc, hss, har, hpl, hlg, hsh, hpe, hmo, hpr, hsr, hpa, hkn, hst, hpm, hsi, hab, hsm, hvo, hvm, hbi, hlb, hiv, hod, hol, hoi, hfi, hli, had, hro⟩ := h0
  have b5 := hsc.2.2.2.2.2.2.2.2.2.2.2.2.2.1
  have b4 := hsc.2.2.2.2.2.2.2.2.2.2.2.2.1
  have b3 := hsc.2.2.2.2.2.2.2.2.2.2.2.1
  have b2 := hsc.2.2.2.2.2.2.2.2.2.2.1
  refine ⟨?_, ?_, ?_, ?_, ?_, ?_, ?_, ?_, ?_, ?_, ?_, ?_, ?_, ?_, ?_, ?_, ?_, ?_, ?_, ?_, ?_, ?_, ?_, ?_, ?_, ?_, ?_, ?_, ?_⟩
  · simpa (disch := decide) only [q_sc, tq_upk, tq_upj, tq_cpk] using hsc
  · simpa (disch := decide) only [q_ss, tq_upk, tq_upj, tq_cpk] using hss
  · simpa (disch := decide) only [q_ar, tq_upk, tq_upj, tq_cpk] using har
  · simpa (disch := decide) only [q_pl, tq_upk, tq_upj, tq_cpk] using hpl
  · simpa (disch := decide) only [q_lg, tq_upk, tq_upj, tq_cpk] using hlg
  · simpa (disch := decide) only [q_sh, tq_upk, tq_upj, tq_cpk] using hsh
  · simpa (disch := decide) only [q_pe, tq_upk, tq_upj, tq_cpk] using hpe
  · simpa (disch := decide) only [q_mo, tq_upk, tq_upj, tq_cpk] using hmo
  · simpa (disch := decide) only [q_pr, tq_upk, tq_upj, tq_cpk] using hpr
  · simpa (disch := decide) only [q_sr, tq_upk, tq_upj, tq_cpk] using hsr
  · simpa (disch := decide) only [q_pa, q_pb, tq_upk, tq_upj, tq_cpk] using hpa
  · simpa (disch := decide) only [q_kn, tq_upk, tq_upj, tq_cpk] using hkn
  · simpa (disch := decide) only [q_st, tq_upk, tq_upj, tq_cpk] using hst
  · simpa (disch := decide) only [q_pm, q_pn, tq_upk, tq_upj, tq_cpk] using hpm
  · intro q hq
    obtain ⟨a1, a2, a3, a4, a5, a6, a7, a8, a9, a10⟩ := hsi q hq
    simp (disch := decide) only [tq_cpk]
    refine ⟨a1, a2, a3, a4, a5, a6, a7, a8, a9, ?_⟩
    intro h1
    obtain ⟨c1, c2, c3⟩ := a10 h1
    refine ⟨c1, ?_, c3⟩
    rw [tq_cpi (fun e => h1 (by rw [hh]; exact e))]; exact c2
  · simpa (disch := decide) only [q_ab, tq_upk, tq_upj, tq_cpk] using hab
  · obtain ⟨a1, a2, a3⟩ := hsm
    refine ⟨fun y hy => ?_, ?_, fun y h1 h2 => ?_⟩
    · obtain ⟨c1, c2, c3, c4⟩ := a1 y hy
      simp (disch := decide) only [tq_cpk]
      refine ⟨c1, c2, c3, fun z => ?_⟩
      rw [tq_cpi (fun e => hat (by rw [← e]; exact z))]; exact c4 z
    · simpa (disch := decide) only [tq_cpk] using a2
    · simp (disch := decide) only [tq_cpk]
      rw [tq_cpi (show y ≠ s by omega)]; exact a3 y h1 h2
  · simpa (disch := decide) only [q_vo, tq_upk, tq_upj, tq_cpk] using hvo
  · simpa (disch := decide) only [q_vm, tq_upk, tq_upj, tq_cpk] using hvm
  · simpa (disch := decide) only [q_bi, tq_upk, tq_upj, tq_cpk] using hbi
  · simpa (disch := decide) only [q_lb, tq_upk, tq_upj, tq_cpk] using hlb
  · simpa (disch := decide) only [q_iv, tq_upk, tq_upj, tq_cpk] using hiv
  · simpa (disch := decide) only [q_od, tq_upk, tq_upj, tq_cpk] using hod
  · simpa (disch := decide) only [q_ol, tq_upk, tq_upj, tq_cpk] using hol
  · simpa (disch := decide) only [q_oi, tq_upk, tq_upj, tq_cpk] using hoi
  · simpa (disch := decide) only [q_fi, tq_upk, tq_upj, tq_cpk] using hfi
  · simpa (disch := decide) only [q_li, tq_upk, tq_upj, tq_cpk] using hli
  · simpa (disch := decide) only [q_ad, tq_upk, tq_upj, tq_cpk] using had
  · simpa (disch := decide) only [q_ro, tq_upk, tq_upj, tq_cpk] using hro
theorem RR_e129 {c h w d pn P Sh V E A t r eb : Nat} {G : Nat → Nat → Nat → Nat} {C : Nat → Nat → Nat} {OL : Nat → List Nat} {N : tq_Nn} {S M : tq_St} (h0 : RR c h w d pn P Sh V E A t r eb G C OL N S M) {s : Nat} {f : Nat → Int32} (hs : s < Sh) (hh : h = s) (hf : ∀ q : Nat, q < 20 → f q = 0) : RR c h w d pn P Sh V E A t r eb G C OL N S (tq_cp M 129 s f) := by
  obtain ⟨hsc, hss, har, hpl, hlg, hsh, hpe, hmo, hpr, hsr, hpa, hkn, hst, hpm, hsi, hab, hsm, hvo, hvm, hbi, hlb, hiv, hod, hol, hoi, hfi, hli, had, hro⟩ := h0
  have b5 := hsc.2.2.2.2.2.2.2.2.2.2.2.2.2.1
  have b4 := hsc.2.2.2.2.2.2.2.2.2.2.2.2.1
  have b3 := hsc.2.2.2.2.2.2.2.2.2.2.2.1
  have b2 := hsc.2.2.2.2.2.2.2.2.2.2.1
  refine ⟨?_, ?_, ?_, ?_, ?_, ?_, ?_, ?_, ?_, ?_, ?_, ?_, ?_, ?_, ?_, ?_, ?_, ?_, ?_, ?_, ?_, ?_, ?_, ?_, ?_, ?_, ?_, ?_, ?_⟩
  · simpa (disch := decide) only [q_sc, tq_upk, tq_upj, tq_cpk] using hsc
  · simpa (disch := decide) only [q_ss, tq_upk, tq_upj, tq_cpk] using hss
  · simpa (disch := decide) only [q_ar, tq_upk, tq_upj, tq_cpk] using har
  · simpa (disch := decide) only [q_pl, tq_upk, tq_upj, tq_cpk] using hpl
  · simpa (disch := decide) only [q_lg, tq_upk, tq_upj, tq_cpk] using hlg
  · simpa (disch := decide) only [q_sh, tq_upk, tq_upj, tq_cpk] using hsh
  · simpa (disch := decide) only [q_pe, tq_upk, tq_upj, tq_cpk] using hpe
  · simpa (disch := decide) only [q_mo, tq_upk, tq_upj, tq_cpk] using hmo
  · simpa (disch := decide) only [q_pr, tq_upk, tq_upj, tq_cpk] using hpr
  · simpa (disch := decide) only [q_sr, tq_upk, tq_upj, tq_cpk] using hsr
  · simpa (disch := decide) only [q_pa, q_pb, tq_upk, tq_upj, tq_cpk] using hpa
  · simpa (disch := decide) only [q_kn, tq_upk, tq_upj, tq_cpk] using hkn
  · simpa (disch := decide) only [q_st, tq_upk, tq_upj, tq_cpk] using hst
  · simpa (disch := decide) only [q_pm, q_pn, tq_upk, tq_upj, tq_cpk] using hpm
  · intro q hq
    obtain ⟨a1, a2, a3, a4, a5, a6, a7, a8, a9, a10⟩ := hsi q hq
    simp (disch := decide) only [tq_cpk]
    refine ⟨a1, a2, a3, a4, a5, a6, a7, a8, a9, ?_⟩
    intro h1
    obtain ⟨c1, c2, c3⟩ := a10 h1
    refine ⟨c1, c2, ?_⟩
    rw [tq_cpi (fun e => h1 (by rw [hh]; exact e))]; exact c3
  · simpa (disch := decide) only [q_ab, tq_upk, tq_upj, tq_cpk] using hab
  · obtain ⟨a1, a2, a3⟩ := hsm
    refine ⟨?_, fun y q h1 h2 h3 => ?_, fun y h1 h2 => ?_⟩
    · simpa (disch := decide) only [tq_cpk] using a1
    · by_cases e : y = s
      · subst e; rw [tq_cpe]; exact hf q h3
      · rw [tq_cpi e]; exact a2 y q h1 h2 h3
    · simp (disch := decide) only [tq_cpk]
      rw [tq_cpi (show y ≠ s by omega)]; exact a3 y h1 h2
  · simpa (disch := decide) only [q_vo, tq_upk, tq_upj, tq_cpk] using hvo
  · simpa (disch := decide) only [q_vm, tq_upk, tq_upj, tq_cpk] using hvm
  · simpa (disch := decide) only [q_bi, tq_upk, tq_upj, tq_cpk] using hbi
  · simpa (disch := decide) only [q_lb, tq_upk, tq_upj, tq_cpk] using hlb
  · simpa (disch := decide) only [q_iv, tq_upk, tq_upj, tq_cpk] using hiv
  · simpa (disch := decide) only [q_od, tq_upk, tq_upj, tq_cpk] using hod
  · simpa (disch := decide) only [q_ol, tq_upk, tq_upj, tq_cpk] using hol
  · simpa (disch := decide) only [q_oi, tq_upk, tq_upj, tq_cpk] using hoi
  · simpa (disch := decide) only [q_fi, tq_upk, tq_upj, tq_cpk] using hfi
  · simpa (disch := decide) only [q_li, tq_upk, tq_upj, tq_cpk] using hli
  · simpa (disch := decide) only [q_ad, tq_upk, tq_upj, tq_cpk] using had
  · simpa (disch := decide) only [q_ro, tq_upk, tq_upj, tq_cpk] using hro
theorem RR_c0 {c h w d pn P Sh V E A t r eb : Nat} {G : Nat → Nat → Nat → Nat} {C : Nat → Nat → Nat} {OL : Nat → List Nat} {N : tq_Nn} {S M : tq_St} (h0 : RR c h w d pn P Sh V E A t r eb G C OL N S M) {s n : Nat} (hs : s < Sh) (hn : n < P) : RR c h w d pn P Sh V E A t r eb G C OL N (tq_up S 56 (G 19 0 s) n 0) (tq_up M 120 n s 0) := by
  obtain ⟨hsc, hss, har, hpl, hlg, hsh, hpe, hmo, hpr, hsr, hpa, hkn, hst, hpm, hsi, hab, hsm, hvo, hvm, hbi, hlb, hiv, hod, hol, hoi, hfi, hli, had, hro⟩ := h0
  have b5 := hsc.2.2.2.2.2.2.2.2.2.2.2.2.2.1
  have b4 := hsc.2.2.2.2.2.2.2.2.2.2.2.2.1
  have b3 := hsc.2.2.2.2.2.2.2.2.2.2.2.1
  have b2 := hsc.2.2.2.2.2.2.2.2.2.2.1
  refine ⟨?_, ?_, ?_, ?_, ?_, ?_, ?_, ?_, ?_, ?_, ?_, ?_, ?_, ?_, ?_, ?_, ?_, ?_, ?_, ?_, ?_, ?_, ?_, ?_, ?_, ?_, ?_, ?_, ?_⟩
  · simpa (disch := decide) only [q_sc, tq_upk, tq_upj, tq_cpk] using hsc
  · simpa (disch := decide) only [q_ss, tq_upk, tq_upj, tq_cpk] using hss
  · simpa (disch := decide) only [q_ar, tq_upk, tq_upj, tq_cpk] using har
  · simpa (disch := decide) only [q_pl, tq_upk, tq_upj, tq_cpk] using hpl
  · simpa (disch := decide) only [q_lg, tq_upk, tq_upj, tq_cpk] using hlg
  · simpa (disch := decide) only [q_sh, tq_upk, tq_upj, tq_cpk] using hsh
  · simpa (disch := decide) only [q_pe, tq_upk, tq_upj, tq_cpk] using hpe
  · simpa (disch := decide) only [q_mo, tq_upk, tq_upj, tq_cpk] using hmo
  · simpa (disch := decide) only [q_pr, tq_upk, tq_upj, tq_cpk] using hpr
  · simpa (disch := decide) only [q_sr, tq_upk, tq_upj, tq_cpk] using hsr
  · simpa (disch := decide) only [q_pa, q_pb, tq_upk, tq_upj, tq_cpk] using hpa
  · simpa (disch := decide) only [q_kn, tq_upk, tq_upj, tq_cpk] using hkn
  · simpa (disch := decide) only [q_st, tq_upk, tq_upj, tq_cpk] using hst
  · obtain ⟨c1, c2, c3⟩ := hpm
    refine ⟨?_, ?_, fun m h1 h2 => ?_⟩
    · simpa (disch := decide) only [q_pn, tq_upk] using c1
    · simpa (disch := decide) only [tq_upk] using c2
    · rw [tq_upk (show (114 : Nat) ≠ 120 by decide), tq_upk (show (116 : Nat) ≠ 120 by decide), tq_upi (show m ≠ n by omega)]; exact c3 m h1 h2
  · simpa (disch := decide) only [q_si, tq_upk, tq_upj, tq_cpk] using hsi
  · intro y m hy hm
    by_cases e : y = s
    · subst e
      by_cases e2 : m = n
      · subst e2; rw [tq_upe, tq_upe]
      · rw [tq_upj e2, tq_upi e2]; exact hab y m hy hm
    · rw [tq_upi (fun z => e (hsi.inj b4 hy hs z)), tq_upj e]; exact hab y m hy hm
  · obtain ⟨a1, a2, a3⟩ := hsm
    refine ⟨?_, ?_, fun y h1 h2 => ?_⟩
    · simpa (disch := decide) only [tq_upk, tq_upj] using a1
    · simpa (disch := decide) only [tq_upk] using a2
    · obtain ⟨d1, d2, d3, d4, d5, d6⟩ := a3 y h1 h2
      simp (disch := decide) only [tq_upk]
      refine ⟨d1, d2, d3, d4, d5, fun m hm => ?_⟩
      rw [tq_upj (show y ≠ s by omega)]; exact d6 m hm
  · simpa (disch := decide) only [q_vo, tq_upk, tq_upj, tq_cpk] using hvo
  · simpa (disch := decide) only [q_vm, tq_upk, tq_upj, tq_cpk] using hvm
  · simpa (disch := decide) only [q_bi, tq_upk, tq_upj, tq_cpk] using hbi
  · simpa (disch := decide) only [q_lb, tq_upk, tq_upj, tq_cpk] using hlb
  · simpa (disch := decide) only [q_iv, tq_upk, tq_upj, tq_cpk] using hiv
  · simpa (disch := decide) only [q_od, tq_upk, tq_upj, tq_cpk] using hod
  · simpa (disch := decide) only [q_ol, tq_upk, tq_upj, tq_cpk] using hol
  · simpa (disch := decide) only [q_oi, tq_upk, tq_upj, tq_cpk] using hoi
  · simpa (disch := decide) only [q_fi, tq_upk, tq_upj, tq_cpk] using hfi
  · simpa (disch := decide) only [q_li, tq_upk, tq_upj, tq_cpk] using hli
  · simpa (disch := decide) only [q_ad, tq_upk, tq_upj, tq_cpk] using had
  · simpa (disch := decide) only [q_ro, tq_upk, tq_upj, tq_cpk] using hro
theorem RR_c56 {c h w d pn P Sh V E A t r eb : Nat} {G : Nat → Nat → Nat → Nat} {C : Nat → Nat → Nat} {OL : Nat → List Nat} {N : tq_Nn} {S M : tq_St} (h0 : RR c h w d pn P Sh V E A t r eb G C OL N S M) {s : Nat} {f : Nat → Int32} (hs : s < Sh) (hf : ∀ n : Nat, n < 150 → f n = M 120 n s) : RR c h w d pn P Sh V E A t r eb G C OL N (tq_cp S 56 (G 19 0 s) f) M := by
  obtain ⟨hsc, hss, har, hpl, hlg, hsh, hpe, hmo, hpr, hsr, hpa, hkn, hst, hpm, hsi, hab, hsm, hvo, hvm, hbi, hlb, hiv, hod, hol, hoi, hfi, hli, had, hro⟩ := h0
  have b5 := hsc.2.2.2.2.2.2.2.2.2.2.2.2.2.1
  have b4 := hsc.2.2.2.2.2.2.2.2.2.2.2.2.1
  have b3 := hsc.2.2.2.2.2.2.2.2.2.2.2.1
  have b2 := hsc.2.2.2.2.2.2.2.2.2.2.1
  refine ⟨?_, ?_, ?_, ?_, ?_, ?_, ?_, ?_, ?_, ?_, ?_, ?_, ?_, ?_, ?_, ?_, ?_, ?_, ?_, ?_, ?_, ?_, ?_, ?_, ?_, ?_, ?_, ?_, ?_⟩
  · simpa (disch := decide) only [q_sc, tq_upk, tq_upj, tq_cpk] using hsc
  · simpa (disch := decide) only [q_ss, tq_upk, tq_upj, tq_cpk] using hss
  · simpa (disch := decide) only [q_ar, tq_upk, tq_upj, tq_cpk] using har
  · simpa (disch := decide) only [q_pl, tq_upk, tq_upj, tq_cpk] using hpl
  · simpa (disch := decide) only [q_lg, tq_upk, tq_upj, tq_cpk] using hlg
  · simpa (disch := decide) only [q_sh, tq_upk, tq_upj, tq_cpk] using hsh
  · simpa (disch := decide) only [q_pe, tq_upk, tq_upj, tq_cpk] using hpe
  · simpa (disch := decide) only [q_mo, tq_upk, tq_upj, tq_cpk] using hmo
  · simpa (disch := decide) only [q_pr, tq_upk, tq_upj, tq_cpk] using hpr
  · simpa (disch := decide) only [q_sr, tq_upk, tq_upj, tq_cpk] using hsr
  · simpa (disch := decide) only [q_pa, q_pb, tq_upk, tq_upj, tq_cpk] using hpa
  · simpa (disch := decide) only [q_kn, tq_upk, tq_upj, tq_cpk] using hkn
  · simpa (disch := decide) only [q_st, tq_upk, tq_upj, tq_cpk] using hst
  · simpa (disch := decide) only [q_pm, q_pn, tq_upk, tq_upj, tq_cpk] using hpm
  · simpa (disch := decide) only [q_si, tq_upk, tq_upj, tq_cpk] using hsi
  · intro y m hy hm
    by_cases e : y = s
    · subst e; rw [tq_cpe]; exact hf m hm
    · rw [tq_cpi (fun z => e (hsi.inj b4 hy hs z))]; exact hab y m hy hm
  · simpa (disch := decide) only [q_sm, tq_upk, tq_upj, tq_cpk] using hsm
  · simpa (disch := decide) only [q_vo, tq_upk, tq_upj, tq_cpk] using hvo
  · simpa (disch := decide) only [q_vm, tq_upk, tq_upj, tq_cpk] using hvm
  · simpa (disch := decide) only [q_bi, tq_upk, tq_upj, tq_cpk] using hbi
  · simpa (disch := decide) only [q_lb, tq_upk, tq_upj, tq_cpk] using hlb
  · simpa (disch := decide) only [q_iv, tq_upk, tq_upj, tq_cpk] using hiv
  · simpa (disch := decide) only [q_od, tq_upk, tq_upj, tq_cpk] using hod
  · simpa (disch := decide) only [q_ol, tq_upk, tq_upj, tq_cpk] using hol
  · simpa (disch := decide) only [q_oi, tq_upk, tq_upj, tq_cpk] using hoi
  · simpa (disch := decide) only [q_fi, tq_upk, tq_upj, tq_cpk] using hfi
  · simpa (disch := decide) only [q_li, tq_upk, tq_upj, tq_cpk] using hli
  · simpa (disch := decide) only [q_ad, tq_upk, tq_upj, tq_cpk] using had
  · simpa (disch := decide) only [q_ro, tq_upk, tq_upj, tq_cpk] using hro
theorem RR_clear {c h w d pn P Sh V E A t r eb : Nat} {G : Nat → Nat → Nat → Nat} {C : Nat → Nat → Nat} {OL : Nat → List Nat} {N : tq_Nn} {S M : tq_St} (h0 : RR c h w d pn P Sh V E A t r eb G C OL N S M) {s : Nat} {f g : Nat → Int32} (hs : s < Sh) (hh : h = s) (hf : ∀ q : Nat, q < 4 → f q = 0) (hg : ∀ q : Nat, q < 20 → g q = 0) (m128 : M 128 0 s = 0) (m127 : ∀ q : Nat, q < 4 → M 127 s q = 0) (m129 : ∀ q : Nat, q < 20 → M 129 s q = 0) : RR c 8 w d pn P Sh V E A t r eb G C OL N (tq_cp (tq_cp (tq_up S 8 (G 19 0 s) 7 0) 54 (G 19 0 s) f) 55 (G 19 0 s) g) M := by
  obtain ⟨hsc, hss, har, hpl, hlg, hsh, hpe, hmo, hpr, hsr, hpa, hkn, hst, hpm, hsi, hab, hsm, hvo, hvm, hbi, hlb, hiv, hod, hol, hoi, hfi, hli, had, hro⟩ := h0
  have b5 := hsc.2.2.2.2.2.2.2.2.2.2.2.2.2.1
  have b4 := hsc.2.2.2.2.2.2.2.2.2.2.2.2.1
  have b3 := hsc.2.2.2.2.2.2.2.2.2.2.2.1
  have b2 := hsc.2.2.2.2.2.2.2.2.2.2.1
  refine ⟨?_, ?_, ?_, ?_, ?_, ?_, ?_, ?_, ?_, ?_, ?_, ?_, ?_, ?_, ?_, ?_, ?_, ?_, ?_, ?_, ?_, ?_, ?_, ?_, ?_, ?_, ?_, ?_, ?_⟩
  · simpa (disch := decide) only [q_sc, tq_upk, tq_upj, tq_cpk] using hsc
  · simpa (disch := decide) only [q_ss, tq_upk, tq_upj, tq_cpk] using hss
  · simpa (disch := decide) only [q_ar, tq_upk, tq_upj, tq_cpk] using har
  · simpa (disch := decide) only [q_pl, tq_upk, tq_upj, tq_cpk] using hpl
  · simpa (disch := decide) only [q_lg, tq_upk, tq_upj, tq_cpk] using hlg
  · simpa (disch := decide) only [q_sh, tq_upk, tq_upj, tq_cpk] using hsh
  · simpa (disch := decide) only [q_pe, tq_upk, tq_upj, tq_cpk] using hpe
  · simpa (disch := decide) only [q_mo, tq_upk, tq_upj, tq_cpk] using hmo
  · simpa (disch := decide) only [q_pr, tq_upk, tq_upj, tq_cpk] using hpr
  · simpa (disch := decide) only [q_sr, tq_upk, tq_upj, tq_cpk] using hsr
  · simpa (disch := decide) only [q_pa, q_pb, tq_upk, tq_upj, tq_cpk] using hpa
  · simpa (disch := decide) only [q_kn, tq_upk, tq_upj, tq_cpk] using hkn
  · simpa (disch := decide) only [q_st, tq_upk, tq_upj, tq_cpk] using hst
  · simpa (disch := decide) only [q_pm, q_pn, tq_upk, tq_upj, tq_cpk] using hpm
  · intro y hy
    obtain ⟨a1, a2, a3, a4, a5, a6, a7, a8, a9, a10⟩ := hsi y hy
    by_cases e : y = s
    · subst e
      have u : ∀ j, j ≠ 7 → tq_cp (tq_cp (tq_up S 8 (G 19 0 y) 7 0) 54 (G 19 0 y) f) 55 (G 19 0 y) g 8 (G 19 0 y) j = S 8 (G 19 0 y) j := fun j hj => by rw [tq_cpk (by decide), tq_cpk (by decide), tq_upj hj]
      have u7 : tq_cp (tq_cp (tq_up S 8 (G 19 0 y) 7 0) 54 (G 19 0 y) f) 55 (G 19 0 y) g 8 (G 19 0 y) 7 = 0 := by rw [tq_cpk (by decide), tq_cpk (by decide), tq_upe]
      rw [u 0 (by decide), u 1 (by decide), u 2 (by decide), u 3 (by decide), u 5 (by decide), u 6 (by decide), u7]
      refine ⟨a1, a2, a3, a4, a5, a6, a7, a8, a9, fun _ => ⟨m128.symm, fun q hq => ?_, fun q hq => ?_⟩⟩
      · rw [tq_cpk (by decide), tq_cpe, m127 q hq]; exact hf q hq
      · rw [tq_cpe, m129 q hq]; exact hg q hq
    · have z : G 19 0 y ≠ G 19 0 s := fun z => e (hsi.inj b4 hy hs z)
      rw [tq_cpi z, tq_cpi z, tq_upi z, tq_cpi z, tq_cpi z, tq_upi z, tq_cpi z, tq_cpi z, tq_upi z]
      exact ⟨a1, a2, a3, a4, a5, a6, a7, a8, a9, fun _ => a10 (by omega)⟩
  · simpa (disch := decide) only [q_ab, tq_upk, tq_upj, tq_cpk] using hab
  · simpa (disch := decide) only [q_sm, tq_upk, tq_upj, tq_cpk] using hsm
  · simpa (disch := decide) only [q_vo, tq_upk, tq_upj, tq_cpk] using hvo
  · simpa (disch := decide) only [q_vm, tq_upk, tq_upj, tq_cpk] using hvm
  · simpa (disch := decide) only [q_bi, tq_upk, tq_upj, tq_cpk] using hbi
  · simpa (disch := decide) only [q_lb, tq_upk, tq_upj, tq_cpk] using hlb
  · simpa (disch := decide) only [q_iv, tq_upk, tq_upj, tq_cpk] using hiv
  · simpa (disch := decide) only [q_od, tq_upk, tq_upj, tq_cpk] using hod
  · simpa (disch := decide) only [q_ol, tq_upk, tq_upj, tq_cpk] using hol
  · simpa (disch := decide) only [q_oi, tq_upk, tq_upj, tq_cpk] using hoi
  · simpa (disch := decide) only [q_fi, tq_upk, tq_upj, tq_cpk] using hfi
  · simpa (disch := decide) only [q_li, tq_upk, tq_upj, tq_cpk] using hli
  · simpa (disch := decide) only [q_ad, tq_upk, tq_upj, tq_cpk] using had
  · simpa (disch := decide) only [q_ro, tq_upk, tq_upj, tq_cpk] using hro
theorem RR_day0 {c h w d pn P Sh V E A t r eb : Nat} {G : Nat → Nat → Nat → Nat} {C : Nat → Nat → Nat} {OL : Nat → List Nat} {N : tq_Nn} {S M : tq_St} (h0 : RR c h w d pn P Sh V E A t r eb G C OL N S M) (hd : d + 1 ≤ 2999) (hw5 : w = 5) : RR c h 1 (d + 1) pn P Sh V E A t r eb G C OL N (tq_up S 1 0 0 (nI (d + 1))) (tq_up M 64 0 0 (nI (d + 1))) := by
  obtain ⟨hsc, hss, har, hpl, hlg, hsh, hpe, hmo, hpr, hsr, hpa, hkn, hst, hpm, hsi, hab, hsm, hvo, hvm, hbi, hlb, hiv, hod, hol, hoi, hfi, hli, had, hro⟩ := h0
  refine ⟨?_, ?_, ?_, ?_, ?_, ?_, ?_, ?_, ?_, ?_, ?_, ?_, ?_, ?_, ?_, ?_, ?_, ?_, ?_, ?_, ?_, ?_, ?_, ?_, ?_, ?_, ?_, ?_, ?_⟩
  · obtain ⟨a1, a2, a3, a4, a5, a6, a7, a8, a9, b1, b2⟩ := hsc
    refine ⟨tq_upe, ?_, ?_, ?_, ?_, ?_, ?_, ?_, ?_, hd, b2⟩
    · rw [tq_upj (by decide)]; exact a2
    · rw [tq_upj (by decide)]; exact a3
    · rw [tq_upj (by decide)]; exact a4
    · rw [tq_upj (by decide)]; exact a5
    · rw [tq_upj (by decide)]; exact a6
    · rw [tq_upj (by decide)]; exact a7
    · rw [tq_upj (by decide)]; exact a8
    · rw [tq_upj (by decide)]; exact a9
  · obtain ⟨a1, a2, a3, a4, a5, a6, a7⟩ := hss
    refine ⟨by rw [tq_upe, tq_upe], ?_, ?_, ?_, ?_, ?_, ?_⟩
    · rw [tq_upj (by decide), tq_upj (by decide)]; exact a2
    · rw [tq_upj (by decide), tq_upj (by decide)]; exact a3
    · rw [tq_upj (by decide), tq_upj (by decide)]; exact a4
    · rw [tq_upk (by decide), tq_upj (by decide)]; exact a5
    · rw [tq_upk (by decide), tq_upj (by decide)]; exact a6
    · rw [tq_upk (by decide), tq_upj (by decide)]; exact a7
  · simpa (disch := decide) only [q_ar, tq_upk, tq_upj, tq_cpk] using har
  · simpa (disch := decide) only [q_pl, tq_upk, tq_upj, tq_cpk] using hpl
  · obtain ⟨a1, a2⟩ := hlg
    unfold q_lg
    rw [tq_upk (show (24 : Nat) ≠ 1 by decide), tq_upk (show (144 : Nat) ≠ 64 by decide)]
    refine ⟨a1, fun i h1 h2 => ?_⟩
    obtain ⟨⟨x, x1, x2⟩, c2⟩ := a2 i h1 h2
    exact ⟨⟨x, by omega, x2⟩, c2⟩
  · simpa (disch := decide) only [q_sh, tq_upk, tq_upj, tq_cpk] using hsh
  · simpa (disch := decide) only [q_pe, tq_upk, tq_upj, tq_cpk] using hpe
  · simpa (disch := decide) only [q_mo, tq_upk, tq_upj, tq_cpk] using hmo
  · simpa (disch := decide) only [q_pr, tq_upk, tq_upj, tq_cpk] using hpr
  · simpa (disch := decide) only [q_sr, tq_upk, tq_upj, tq_cpk] using hsr
  · simpa (disch := decide) only [q_pa, q_pb, tq_upk, tq_upj, tq_cpk] using hpa
  · simpa (disch := decide) only [q_kn, tq_upk, tq_upj, tq_cpk] using hkn
  · simpa (disch := decide) only [q_st, tq_upk, tq_upj, tq_cpk] using hst
  · obtain ⟨c1, c2, c3⟩ := hpm
    refine ⟨fun m hm => ?_, ?_, ?_⟩
    · obtain ⟨a1, a2, a3, ⟨x, x1, x2⟩, a5, a6, a7⟩ := c1 m hm
      unfold q_pn
      simp (disch := decide) only [tq_upk]
      exact ⟨a1, a2, a3, ⟨x, by omega, x2⟩, a5, fun p hp => by have := a6 p hp; omega, a7⟩
    · simpa (disch := decide) only [tq_upk] using c2
    · simpa (disch := decide) only [tq_upk] using c3
  · simpa (disch := decide) only [q_si, tq_upk, tq_upj, tq_cpk] using hsi
  · simpa (disch := decide) only [q_ab, tq_upk, tq_upj, tq_cpk] using hab
  · simpa (disch := decide) only [q_sm, tq_upk, tq_upj, tq_cpk] using hsm
  · simpa (disch := decide) only [q_vo, tq_upk, tq_upj, tq_cpk] using hvo
  · simpa (disch := decide) only [q_vm, tq_upk, tq_upj, tq_cpk] using hvm
  · simpa (disch := decide) only [q_bi, tq_upk, tq_upj, tq_cpk] using hbi
  · simpa (disch := decide) only [q_lb, tq_upk, tq_upj, tq_cpk] using hlb
  · simpa (disch := decide) only [q_iv, tq_upk, tq_upj, tq_cpk] using hiv
  · simpa (disch := decide) only [q_od, tq_upk, tq_upj, tq_cpk] using hod
  · simpa (disch := decide) only [q_ol, tq_upk, tq_upj, tq_cpk] using hol
  · simpa (disch := decide) only [q_oi, tq_upk, tq_upj, tq_cpk] using hoi
  · simpa (disch := decide) only [q_fi, tq_upk, tq_upj, tq_cpk] using hfi
  · simpa (disch := decide) only [q_li, tq_upk, tq_upj, tq_cpk] using hli
  · obtain ⟨a1, a2, a3⟩ := had
    unfold q_ad
    simp (disch := decide) only [tq_upk]
    refine ⟨fun a ha => ?_, a2, fun p s h1 h2 h3 => ?_⟩
    · obtain ⟨c1, c2, c3, ⟨x, x1, x2⟩, c5⟩ := a1 a ha
      exact ⟨c1, c2, c3, ⟨x, by omega, x2⟩, c5⟩
    · rcases a3 p s h1 h2 h3 with z | ⟨a, b, o, t', z1, z2, z3, z4, z5, z6, z7, z8, z9, z10, z11, z12, z13⟩
      · exact Or.inl z
      · have z14 := z12 (by omega)
        exact Or.inr ⟨a, b, o, t', z1, z2, z3, z4, z5, z6, by omega, z8, z9, z10, z11, fun q => by omega, fun q => ⟨by omega, by rw [z14, Nat.add_sub_cancel]⟩⟩
  · simpa (disch := decide) only [q_ro, tq_upk, tq_upj, tq_cpk] using hro
