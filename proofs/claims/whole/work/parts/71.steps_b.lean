/-! pure: the relation goes with single changes of objects -/
theorem tq_upk_in {S : tq_St} {k i j k2 i2 j2 : Nat} {v v2 : Int32} (h : k2 ≠ k) : tq_up (tq_up S k i j v) k2 i2 j2 v2 k2 = tq_up S k2 i2 j2 v2 k2 := by
  funext a b
  simp only [tq_up, true_and]
  by_cases q : a = i2 ∧ b = j2
  · rw [if_pos q, if_pos q]
  · rw [if_neg q, if_neg q, if_neg (fun z => h z.1)]
theorem q_pa.inj {P : Nat} {G : Nat → Nat → Nat → Nat} {N : tq_Nn} {S M : tq_St} (h : q_pa P G N S M) (hP : P ≤ 150) {n m : Nat} (hn : n < P) (hm : m < P) (e : G 15 0 n = G 15 0 m) : n = m := by
  have h1 := (h n hn).2.2.2.1
  have h2 := (h m hm).2.2.2.1
  rw [e] at h1
  exact (nI_eq (by omega) (by omega)).mp (h1.symm.trans h2)
theorem q_si.inj {h Sh : Nat} {G : Nat → Nat → Nat → Nat} {N : tq_Nn} {S M : tq_St} (q : q_si h Sh G N S M) (hP : Sh ≤ 8) {n m : Nat} (hn : n < Sh) (hm : m < Sh) (e : G 19 0 n = G 19 0 m) : n = m := by
  have h1 := (q n hn).2.2.2.1
  have h2 := (q m hm).2.2.2.1
  rw [e] at h1
  exact (nI_eq (by omega) (by omega)).mp (h1.symm.trans h2)
theorem q_vo.inj {V : Nat} {G : Nat → Nat → Nat → Nat} {N : tq_Nn} {S M : tq_St} (q : q_vo V G N S M) (hP : V ≤ 99) {n m : Nat} (hn : n < V) (hm : m < V) (e : G 22 0 n = G 22 0 m) : n = m := by
  have h1 := (q n hn).2.2.1
  have h2 := (q m hm).2.2.1
  rw [e] at h1
  exact (nI_eq (by omega) (by omega)).mp (h1.symm.trans h2)
theorem RR_lose {c h w d pn P Sh V E A t r eb : Nat} {G : Nat → Nat → Nat → Nat} {C : Nat → Nat → Nat} {OL : Nat → List Nat} {N : tq_Nn} {S M : tq_St} (h0 : RR c h w d pn P Sh V E A t r eb G C OL N S M) {v : Nat} (hv : v < V) : RR c h w d pn P Sh V E A t r eb G C OL N (tq_up S 9 (G 22 0 v) 8 1) (tq_up M 137 0 v 1) := by
  obtain ⟨hsc, hss, har, hpl, hlg, hsh, hpe, hmo, hpr, hsr, hpa, hkn, hst, hpm, hsi, hab, hsm, hvo, hvm, hbi, hlb, hiv, hod, hol, hoi, hfi, hli, had, hro⟩ := h0
  have b5 := hsc.2.2.2.2.2.2.2.2.2.2.2.2.2.1
  have b4 := hsc.2.2.2.2.2.2.2.2.2.2.2.2.1
  have b3 := hsc.2.2.2.2.2.2.2.2.2.2.2.1
  have b2 := hsc.2.2.2.2.2.2.2.2.2.2.1
  refine ⟨?_, ?_, ?_, ?_, ?_, ?_, ?_, ?_, ?_, ?_, ?_, ?_, ?_, ?_, ?_, ?_, ?_, ?_, ?_, ?_, ?_, ?_, ?_, ?_, ?_, ?_, ?_, ?_, ?_⟩
  · simpa (disch := decide) only [q_sc, tq_upk, tq_upj, tq_cpk] using hsc
  · simpa (disch := decide) only [q_ss, tq_upk, tq_upj, tq_cpk] using hss
  · simpa (disch := decide) only [q_ar, tq_upk, tq_upj, tq_cpk] using har
  · simpa (disch := decide) only [q_pl, tq_upk, tq_upj, tq_cpk] using hpl
  · simpa (disch := decide) only [q_lg, tq_upk, tq_upj, tq_cpk] using hlg
  · simpa (disch := decide) only [q_sh, tq_upk, tq_upj, tq_cpk] using hsh
  · simpa (disch := decide) only [q_pe, tq_upk, tq_upj, tq_cpk] using hpe
  · simpa (disch := decide) only [q_mo, tq_upk, tq_upj, tq_cpk] using hmo
  · simpa (disch := decide) only [q_pr, tq_upk, tq_upj, tq_cpk] using hpr
  · simpa (disch := decide) only [q_sr, tq_upk, tq_upj, tq_cpk] using hsr
  · simpa (disch := decide) only [q_pa, q_pb, tq_upk, tq_upj, tq_cpk] using hpa
  · simpa (disch := decide) only [q_kn, tq_upk, tq_upj, tq_cpk] using hkn
  · simpa (disch := decide) only [q_st, tq_upk, tq_upj, tq_cpk] using hst
  · simpa (disch := decide) only [q_pm, q_pn, tq_upk, tq_upj, tq_cpk] using hpm
  · simpa (disch := decide) only [q_si, tq_upk, tq_upj, tq_cpk] using hsi
  · simpa (disch := decide) only [q_ab, tq_upk, tq_upj, tq_cpk] using hab
  · simpa (disch := decide) only [q_sm, tq_upk, tq_upj, tq_cpk] using hsm
  · intro x hx
    obtain ⟨a1, a2, a3, a4, a5, a6, a7, a8, a9, a10, a11, a12, a13, a14, a15⟩ := hvo x hx
    have key : tq_up S 9 (G 22 0 v) 8 1 9 (G 22 0 x) 8 = tq_up M 137 0 v 1 137 0 x := by
      by_cases e : x = v
      · subst e; rw [tq_upe, tq_upe]
      · rw [tq_upi (fun z => e (hvo.inj b5 hx hv z)), tq_upj e]; exact a9
    simp (disch := decide) only [tq_upk, tq_upj]
    exact ⟨a1, a2, a3, a4, a5, a6, a7, a8, key, a10, a11, a12, a13, a14, a15⟩
  · obtain ⟨a1, a2⟩ := hvm
    refine ⟨?_, ?_⟩
    · simpa (disch := decide) only [tq_upk, tq_upj, tq_cpk] using a1
    · intro x h1 h2
      rw [tq_upj (by omega), tq_upk (by decide)]; exact a2 x h1 h2
  · simpa (disch := decide) only [q_bi, tq_upk, tq_upj, tq_cpk] using hbi
  · simpa (disch := decide) only [q_lb, tq_upk, tq_upj, tq_cpk] using hlb
  · simpa (disch := decide) only [q_iv, tq_upk, tq_upj, tq_cpk] using hiv
  · simpa (disch := decide) only [q_od, tq_upk, tq_upj, tq_cpk] using hod
  · simpa (disch := decide) only [q_ol, tq_upk, tq_upj, tq_cpk] using hol
  · simpa (disch := decide) only [q_oi, tq_upk, tq_upj, tq_cpk] using hoi
  · simpa (disch := decide) only [q_fi, tq_upk, tq_upj, tq_cpk] using hfi
  · simpa (disch := decide) only [q_li, tq_upk, tq_upj, tq_cpk] using hli
  · simpa (disch := decide) only [q_ad, tq_upk, tq_upj, tq_cpk] using had
  · simpa (disch := decide) only [q_ro, tq_upk, tq_upj, tq_cpk] using hro
theorem RR_recount {c h w d pn P Sh V E A t r eb : Nat} {G : Nat → Nat → Nat → Nat} {C : Nat → Nat → Nat} {OL : Nat → List Nat} {N : tq_Nn} {S M : tq_St} (h0 : RR c h w d pn P Sh V E A t r eb G C OL N S M) {v s : Nat} {x : Int32} (hv : v < V) (he : M 138 0 v = 1) : RR c h w d pn P Sh V E A t r eb G C OL N (tq_up S 58 (G 22 0 v) s x) (tq_up M 140 v s x) := by
  obtain ⟨hsc, hss, har, hpl, hlg, hsh, hpe, hmo, hpr, hsr, hpa, hkn, hst, hpm, hsi, hab, hsm, hvo, hvm, hbi, hlb, hiv, hod, hol, hoi, hfi, hli, had, hro⟩ := h0
  have b5 := hsc.2.2.2.2.2.2.2.2.2.2.2.2.2.1
  have b4 := hsc.2.2.2.2.2.2.2.2.2.2.2.2.1
  have b3 := hsc.2.2.2.2.2.2.2.2.2.2.2.1
  have b2 := hsc.2.2.2.2.2.2.2.2.2.2.1
  refine ⟨?_, ?_, ?_, ?_, ?_, ?_, ?_, ?_, ?_, ?_, ?_, ?_, ?_, ?_, ?_, ?_, ?_, ?_, ?_, ?_, ?_, ?_, ?_, ?_, ?_, ?_, ?_, ?_, ?_⟩
  · simpa (disch := decide) only [q_sc, tq_upk, tq_upj, tq_cpk] using hsc
  · simpa (disch := decide) only [q_ss, tq_upk, tq_upj, tq_cpk] using hss
  · simpa (disch := decide) only [q_ar, tq_upk, tq_upj, tq_cpk] using har
  · simpa (disch := decide) only [q_pl, tq_upk, tq_upj, tq_cpk] using hpl
  · simpa (disch := decide) only [q_lg, tq_upk, tq_upj, tq_cpk] using hlg
  · simpa (disch := decide) only [q_sh, tq_upk, tq_upj, tq_cpk] using hsh
  · simpa (disch := decide) only [q_pe, tq_upk, tq_upj, tq_cpk] using hpe
  · simpa (disch := decide) only [q_mo, tq_upk, tq_upj, tq_cpk] using hmo
  · simpa (disch := decide) only [q_pr, tq_upk, tq_upj, tq_cpk] using hpr
  · simpa (disch := decide) only [q_sr, tq_upk, tq_upj, tq_cpk] using hsr
  · simpa (disch := decide) only [q_pa, q_pb, tq_upk, tq_upj, tq_cpk] using hpa
  · simpa (disch := decide) only [q_kn, tq_upk, tq_upj, tq_cpk] using hkn
  · simpa (disch := decide) only [q_st, tq_upk, tq_upj, tq_cpk] using hst
  · simpa (disch := decide) only [q_pm, q_pn, tq_upk, tq_upj, tq_cpk] using hpm
  · simpa (disch := decide) only [q_si, tq_upk, tq_upj, tq_cpk] using hsi
  · simpa (disch := decide) only [q_ab, tq_upk, tq_upj, tq_cpk] using hab
  · simpa (disch := decide) only [q_sm, tq_upk, tq_upj, tq_cpk] using hsm
  · intro y hy
    obtain ⟨a1, a2, a3, a4, a5, a6, a7, a8, a9, a10, a11, a12, a13, a14, a15⟩ := hvo y hy
    simp (disch := decide) only [tq_upk]
    refine ⟨a1, a2, a3, a4, a5, a6, a7, a8, a9, a10, a11, a12, a13, ?_, ?_⟩
    · intro h1 q hq
      by_cases e : y = v
      · subst e
        by_cases e2 : q = s
        · subst e2; rw [tq_upe, tq_upe]
        · rw [tq_upj e2, tq_upj e2]; exact a14 h1 q hq
      · rw [tq_upi (fun z => e (hvo.inj b5 hy hv z)), tq_upi e]; exact a14 h1 q hq
    · intro h1 q hq
      by_cases e : y = v
      · subst e; rw [h1] at he; exact absurd he (by decide)
      · rw [tq_upi (fun z => e (hvo.inj b5 hy hv z))]; exact a15 h1 q hq
  · simpa (disch := decide) only [q_vm, tq_upk, tq_upj, tq_cpk] using hvm
  · simpa (disch := decide) only [q_bi, tq_upk, tq_upj, tq_cpk] using hbi
  · simpa (disch := decide) only [q_lb, tq_upk, tq_upj, tq_cpk] using hlb
  · simpa (disch := decide) only [q_iv, tq_upk, tq_upj, tq_cpk] using hiv
  · simpa (disch := decide) only [q_od, tq_upk, tq_upj, tq_cpk] using hod
  · simpa (disch := decide) only [q_ol, tq_upk, tq_upj, tq_cpk] using hol
  · simpa (disch := decide) only [q_oi, tq_upk, tq_upj, tq_cpk] using hoi
  · simpa (disch := decide) only [q_fi, tq_upk, tq_upj, tq_cpk] using hfi
  · simpa (disch := decide) only [q_li, tq_upk, tq_upj, tq_cpk] using hli
  · simpa (disch := decide) only [q_ad, tq_upk, tq_upj, tq_cpk] using had
  · simpa (disch := decide) only [q_ro, tq_upk, tq_upj, tq_cpk] using hro
theorem RR_stow {c h w d pn P Sh V E A t r eb : Nat} {G : Nat → Nat → Nat → Nat} {C : Nat → Nat → Nat} {OL : Nat → List Nat} {N : tq_Nn} {S M : tq_St} (h0 : RR c h w d pn P Sh V E A t r eb G C OL N S M) {s i : Nat} {x : Int32} (hs : s < Sh) (hi : i < pn) (h8 : h = 8) : RR c h w d pn P Sh V E A t r eb G C OL N (tq_up S 55 (G 19 0 s) i x) (tq_up M 129 s i x) := by
  obtain ⟨hsc, hss, har, hpl, hlg, hsh, hpe, hmo, hpr, hsr, hpa, hkn, hst, hpm, hsi, hab, hsm, hvo, hvm, hbi, hlb, hiv, hod, hol, hoi, hfi, hli, had, hro⟩ := h0
  have b5 := hsc.2.2.2.2.2.2.2.2.2.2.2.2.2.1
  have b4 := hsc.2.2.2.2.2.2.2.2.2.2.2.2.1
  have b3 := hsc.2.2.2.2.2.2.2.2.2.2.2.1
  have b2 := hsc.2.2.2.2.2.2.2.2.2.2.1
  refine ⟨?_, ?_, ?_, ?_, ?_, ?_, ?_, ?_, ?_, ?_, ?_, ?_, ?_, ?_, ?_, ?_, ?_, ?_, ?_, ?_, ?_, ?_, ?_, ?_, ?_, ?_, ?_, ?_, ?_⟩
  · simpa (disch := decide) only [q_sc, tq_upk, tq_upj, tq_cpk] using hsc
  · simpa (disch := decide) only [q_ss, tq_upk, tq_upj, tq_cpk] using hss
  · simpa (disch := decide) only [q_ar, tq_upk, tq_upj, tq_cpk] using har
  · simpa (disch := decide) only [q_pl, tq_upk, tq_upj, tq_cpk] using hpl
  · simpa (disch := decide) only [q_lg, tq_upk, tq_upj, tq_cpk] using hlg
  · simpa (disch := decide) only [q_sh, tq_upk, tq_upj, tq_cpk] using hsh
  · simpa (disch := decide) only [q_pe, tq_upk, tq_upj, tq_cpk] using hpe
  · simpa (disch := decide) only [q_mo, tq_upk, tq_upj, tq_cpk] using hmo
  · simpa (disch := decide) only [q_pr, tq_upk, tq_upj, tq_cpk] using hpr
  · simpa (disch := decide) only [q_sr, tq_upk, tq_upj, tq_cpk] using hsr
  · simpa (disch := decide) only [q_pa, q_pb, tq_upk, tq_upj, tq_cpk] using hpa
  · simpa (disch := decide) only [q_kn, tq_upk, tq_upj, tq_cpk] using hkn
  · simpa (disch := decide) only [q_st, tq_upk, tq_upj, tq_cpk] using hst
  · simpa (disch := decide) only [q_pm, q_pn, tq_upk, tq_upj, tq_cpk] using hpm
  · intro y hy
    obtain ⟨a1, a2, a3, a4, a5, a6, a7, a8, a9, a10⟩ := hsi y hy
    simp (disch := decide) only [tq_upk]
    refine ⟨a1, a2, a3, a4, a5, a6, a7, a8, a9, ?_⟩
    intro h1
    obtain ⟨c1, c2, c3⟩ := a10 h1
    refine ⟨c1, c2, fun q hq => ?_⟩
    by_cases e : y = s
    · subst e
      by_cases e2 : q = i
      · subst e2; rw [tq_upe, tq_upe]
      · rw [tq_upj e2, tq_upj e2]; exact c3 q hq
    · rw [tq_upi (fun z => e (hsi.inj b4 hy hs z)), tq_upi e]; exact c3 q hq
  · simpa (disch := decide) only [q_ab, tq_upk, tq_upj, tq_cpk] using hab
  · obtain ⟨a1, a2, a3⟩ := hsm
    refine ⟨?_, ?_, ?_⟩
    · simpa (disch := decide) only [tq_upk, tq_upj, tq_cpk] using a1
    · intro y q h1 h2 h3
      rw [tq_upj (by omega)]; exact a2 y q h1 h2 h3
    · intro y h1 h2
      have z : tq_up M 129 s i x 129 y = M 129 y := tq_upi (by omega)
      simp (disch := decide) only [tq_upk]
      rw [z]
      exact a3 y h1 h2
  · simpa (disch := decide) only [q_vo, tq_upk, tq_upj, tq_cpk] using hvo
  · simpa (disch := decide) only [q_vm, tq_upk, tq_upj, tq_cpk] using hvm
  · simpa (disch := decide) only [q_bi, tq_upk, tq_upj, tq_cpk] using hbi
  · simpa (disch := decide) only [q_lb, tq_upk, tq_upj, tq_cpk] using hlb
  · simpa (disch := decide) only [q_iv, tq_upk, tq_upj, tq_cpk] using hiv
  · simpa (disch := decide) only [q_od, tq_upk, tq_upj, tq_cpk] using hod
  · simpa (disch := decide) only [q_ol, tq_upk, tq_upj, tq_cpk] using hol
  · simpa (disch := decide) only [q_oi, tq_upk, tq_upj, tq_cpk] using hoi
  · simpa (disch := decide) only [q_fi, tq_upk, tq_upj, tq_cpk] using hfi
  · simpa (disch := decide) only [q_li, tq_upk, tq_upj, tq_cpk] using hli
  · simpa (disch := decide) only [q_ad, tq_upk, tq_upj, tq_cpk] using had
  · simpa (disch := decide) only [q_ro, tq_upk, tq_upj, tq_cpk] using hro
theorem RR_load {c h w d pn P Sh V E A t r eb : Nat} {G : Nat → Nat → Nat → Nat} {C : Nat → Nat → Nat} {OL : Nat → List Nat} {N : tq_Nn} {S M : tq_St} (h0 : RR c h w d pn P Sh V E A t r eb G C OL N S M) {s p : Nat} {x y : Int32} (hs : s < Sh) (hp : p < 5) (h8 : h = 8) (hx0 : 0 ≤ x.toInt) (hy0 : 0 ≤ y.toInt) (hxy : x.toInt + y.toInt = (M 128 0 s).toInt + (M 101 0 p).toInt) : RR c h w d pn P Sh V E A t r eb G C OL N (tq_up (tq_up S 8 (G 19 0 s) 7 x) 2 p 1 y) (tq_up (tq_up M 101 0 p y) 128 0 s x) := by
  obtain ⟨hsc, hss, har, hpl, hlg, hsh, hpe, hmo, hpr, hsr, hpa, hkn, hst, hpm, hsi, hab, hsm, hvo, hvm, hbi, hlb, hiv, hod, hol, hoi, hfi, hli, had, hro⟩ := h0
  have b5 := hsc.2.2.2.2.2.2.2.2.2.2.2.2.2.1
  have b4 := hsc.2.2.2.2.2.2.2.2.2.2.2.2.1
  have b3 := hsc.2.2.2.2.2.2.2.2.2.2.2.1
  have b2 := hsc.2.2.2.2.2.2.2.2.2.2.1
  refine ⟨?_, ?_, ?_, ?_, ?_, ?_, ?_, ?_, ?_, ?_, ?_, ?_, ?_, ?_, ?_, ?_, ?_, ?_, ?_, ?_, ?_, ?_, ?_, ?_, ?_, ?_, ?_, ?_, ?_⟩
  · simpa (disch := decide) only [q_sc, tq_upk, tq_upj, tq_cpk] using hsc
  · simpa (disch := decide) only [q_ss, tq_upk, tq_upj, tq_cpk] using hss
  · simpa (disch := decide) only [q_ar, tq_upk, tq_upj, tq_cpk] using har
  · obtain ⟨a1, a2, a3, a4, a5, a6⟩ := hpl
    refine ⟨?_, ?_, ?_, ?_, ?_, ?_⟩
    · simpa (disch := decide) only [tq_upk, tq_upj, tq_cpk] using a1
    · intro q h1
      by_cases e : q = p
      · subst e; rw [tq_upe, tq_upk (show (101 : Nat) ≠ 128 by decide), tq_upe]
      · rw [tq_upi e, tq_upk (show (2 : Nat) ≠ 8 by decide), tq_upk (show (101 : Nat) ≠ 128 by decide), tq_upj e]; exact a2 q h1
    · simpa (disch := decide) only [tq_upk, tq_upj, tq_cpk] using a3
    · simpa (disch := decide) only [tq_upk, tq_upj, tq_cpk] using a4
    · simpa (disch := decide) only [tq_upk, tq_upj, tq_cpk] using a5
    · simpa (disch := decide) only [tq_upk, tq_upj, tq_cpk] using a6
  · simpa (disch := decide) only [q_lg, tq_upk, tq_upj, tq_cpk] using hlg
  · simpa (disch := decide) only [q_sh, tq_upk, tq_upj, tq_cpk] using hsh
  · simpa (disch := decide) only [q_pe, tq_upk, tq_upj, tq_cpk] using hpe
  · obtain ⟨a1, a2, a3, a4⟩ := hmo
    refine ⟨?_, ?_, ?_, ?_⟩
    · intro q h1
      rw [tq_upk (by decide)]
      by_cases e : q = p
      · subst e; rw [tq_upe]; exact hy0
      · rw [tq_upj e]; exact a1 q h1
    · intro q h1
      by_cases e : q = s
      · subst e; rw [tq_upe]; exact hx0
      · rw [tq_upj e, tq_upk (by decide)]; exact a2 q h1
    · simpa (disch := decide) only [tq_upk, tq_upj, tq_cpk] using a3
    · have k1 := tp_sm_upd (f := fun q => (M 101 0 q).toInt) (g := fun q => (tq_up M 101 0 p y 101 0 q).toInt) hp (fun k _ hk => by show (tq_up M 101 0 p y 101 0 k).toInt = _; rw [tq_upj hk])
      have k2 : (tq_up M 101 0 p y 101 0 p).toInt = y.toInt := by rw [tq_upe]
      have k3 := tp_sm_upd (f := fun q => (M 128 0 q).toInt) (g := fun q => (tq_up M 128 0 s x 128 0 q).toInt) (q := s) (n := 8) (by omega) (fun k _ hk => by show (tq_up M 128 0 s x 128 0 k).toInt = _; rw [tq_upj hk])
      have k4 : (tq_up M 128 0 s x 128 0 s).toInt = x.toInt := by rw [tq_upe]
      have k5 : ∀ q, tq_up (tq_up M 101 0 p y) 128 0 s x 128 0 q = tq_up M 128 0 s x 128 0 q := fun q => by
        by_cases e : q = s
        · subst e; rw [tq_upe, tq_upe]
        · rw [tq_upj e, tq_upj e, tq_upk (by decide)]
      simp only [k5]
      simp (disch := decide) only [tq_upk] at k1 k2 k3 k4 ⊢
      omega
  · simpa (disch := decide) only [q_pr, tq_upk, tq_upj, tq_cpk] using hpr
  · simpa (disch := decide) only [q_sr, tq_upk, tq_upj, tq_cpk] using hsr
  · simpa (disch := decide) only [q_pa, q_pb, tq_upk, tq_upj, tq_cpk] using hpa
  · simpa (disch := decide) only [q_kn, tq_upk, tq_upj, tq_cpk] using hkn
  · simpa (disch := decide) only [q_st, tq_upk, tq_upj, tq_cpk] using hst
  · simpa (disch := decide) only [q_pm, q_pn, tq_upk, tq_upj, tq_cpk] using hpm
  · intro q hq
    obtain ⟨a1, a2, a3, a4, a5, a6, a7, a8, a9, a10⟩ := hsi q hq
    simp (disch := decide) only [tq_upk, tq_upj]
    refine ⟨a1, a2, a3, a4, a5, a6, a7, a8, a9, ?_⟩
    intro h1
    obtain ⟨c1, c2, c3⟩ := a10 h1
    refine ⟨?_, c2, c3⟩
    by_cases e : q = s
    · subst e; rw [tq_upe, tq_upe]
    · rw [tq_upi (fun z => e (hsi.inj b4 hq hs z)), tq_upj e, tq_upk (by decide)]; exact c1
  · simpa (disch := decide) only [q_ab, tq_upk, tq_upj, tq_cpk] using hab
  · obtain ⟨a1, a2, a3⟩ := hsm
    refine ⟨?_, ?_, ?_⟩
    · simpa (disch := decide) only [tq_upk, tq_upj, tq_cpk] using a1
    · simpa (disch := decide) only [tq_upk, tq_upj, tq_cpk] using a2
    · intro q h1 h2
      have z : tq_up (tq_up M 101 0 p y) 128 0 s x 128 0 q = M 128 0 q := by rw [tq_upj (show q ≠ s by omega), tq_upk (by decide)]
      simp (disch := decide) only [tq_upk]
      rw [z]
      exact a3 q h1 h2
  · simpa (disch := decide) only [q_vo, tq_upk, tq_upj, tq_cpk] using hvo
  · simpa (disch := decide) only [q_vm, tq_upk, tq_upj, tq_cpk] using hvm
  · simpa (disch := decide) only [q_bi, tq_upk, tq_upj, tq_cpk] using hbi
  · simpa (disch := decide) only [q_lb, tq_upk, tq_upj, tq_cpk] using hlb
  · simpa (disch := decide) only [q_iv, tq_upk, tq_upj, tq_cpk] using hiv
  · simpa (disch := decide) only [q_od, tq_upk, tq_upj, tq_cpk] using hod
  · simpa (disch := decide) only [q_ol, tq_upk, tq_upj, tq_cpk] using hol
  · simpa (disch := decide) only [q_oi, tq_upk, tq_upj, tq_cpk] using hoi
  · simpa (disch := decide) only [q_fi, tq_upk, tq_upj, tq_cpk] using hfi
  · simpa (disch := decide) only [q_li, tq_upk, tq_upj, tq_cpk] using hli
  · simpa (disch := decide) only [q_ad, tq_upk, tq_upj, tq_cpk] using had
  · simpa (disch := decide) only [q_ro, tq_upk, tq_upj, tq_cpk] using hro
theorem RR_take {c h w d pn P Sh V E A t r eb : Nat} {G : Nat → Nat → Nat → Nat} {C : Nat → Nat → Nat} {OL : Nat → List Nat} {N : tq_Nn} {S M : tq_St} (h0 : RR c h w d pn P Sh V E A t r eb G C OL N S M) {s o : Nat} (hs : s < Sh) (ho : o < 4) : RR c h w d pn P Sh V E A t r eb G C OL N (tq_up (tq_up S 8 (G 19 0 s) 5 1) 21 0 o (M 126 0 o + 1)) (tq_up (tq_up M 125 0 s 1) 126 0 o (M 126 0 o + 1)) := by
  obtain ⟨hsc, hss, har, hpl, hlg, hsh, hpe, hmo, hpr, hsr, hpa, hkn, hst, hpm, hsi, hab, hsm, hvo, hvm, hbi, hlb, hiv, hod, hol, hoi, hfi, hli, had, hro⟩ := h0
  have b5 := hsc.2.2.2.2.2.2.2.2.2.2.2.2.2.1
  have b4 := hsc.2.2.2.2.2.2.2.2.2.2.2.2.1
  have b3 := hsc.2.2.2.2.2.2.2.2.2.2.2.1
  have b2 := hsc.2.2.2.2.2.2.2.2.2.2.1
  refine ⟨?_, ?_, ?_, ?_, ?_, ?_, ?_, ?_, ?_, ?_, ?_, ?_, ?_, ?_, ?_, ?_, ?_, ?_, ?_, ?_, ?_, ?_, ?_, ?_, ?_, ?_, ?_, ?_, ?_⟩
  · simpa (disch := decide) only [q_sc, tq_upk, tq_upj, tq_cpk] using hsc
  · simpa (disch := decide) only [q_ss, tq_upk, tq_upj, tq_cpk] using hss
  · obtain ⟨y1, y2, y3, y4, y5, y6, y7, y8, y9, y10, y11, y12, y13, y14, y15⟩ := har
    refine ⟨?_, ?_, ?_, ?_, ?_, ?_, ?_, ?_, ?_, ?_, ?_, ?_, ?_, ?_, ?_⟩
    · simpa (disch := decide) only [tq_upk, tq_upj, tq_cpk] using y1
    · simpa (disch := decide) only [tq_upk, tq_upj, tq_cpk] using y2
    · first | exact tp_up2 y3 | (simp (disch := decide) only [tq_upk, tq_cpk]; exact tp_up2 y3)
    · simpa (disch := decide) only [tq_upk, tq_upj, tq_cpk] using y4
    · simpa (disch := decide) only [tq_upk, tq_upj, tq_cpk] using y5
    · simpa (disch := decide) only [tq_upk, tq_upj, tq_cpk] using y6
    · simpa (disch := decide) only [tq_upk, tq_upj, tq_cpk] using y7
    · simpa (disch := decide) only [tq_upk, tq_upj, tq_cpk] using y8
    · simpa (disch := decide) only [tq_upk, tq_upj, tq_cpk] using y9
    · simpa (disch := decide) only [tq_upk, tq_upj, tq_cpk] using y10
    · simpa (disch := decide) only [tq_upk, tq_upj, tq_cpk] using y11
    · simpa (disch := decide) only [tq_upk, tq_upj, tq_cpk] using y12
    · simpa (disch := decide) only [tq_upk, tq_upj, tq_cpk] using y13
    · simpa (disch := decide) only [tq_upk, tq_upj, tq_cpk] using y14
    · simpa (disch := decide) only [tq_upk, tq_upj, tq_cpk] using y15
  · simpa (disch := decide) only [q_pl, tq_upk, tq_upj, tq_cpk] using hpl
  · simpa (disch := decide) only [q_lg, tq_upk, tq_upj, tq_cpk] using hlg
  · simpa (disch := decide) only [q_sh, tq_upk, tq_upj, tq_cpk] using hsh
  · simpa (disch := decide) only [q_pe, tq_upk, tq_upj, tq_cpk] using hpe
  · simpa (disch := decide) only [q_mo, tq_upk, tq_upj, tq_cpk] using hmo
  · simpa (disch := decide) only [q_pr, tq_upk, tq_upj, tq_cpk] using hpr
  · simpa (disch := decide) only [q_sr, tq_upk, tq_upj, tq_cpk] using hsr
  · simpa (disch := decide) only [q_pa, q_pb, tq_upk, tq_upj, tq_cpk] using hpa
  · simpa (disch := decide) only [q_kn, tq_upk, tq_upj, tq_cpk] using hkn
  · simpa (disch := decide) only [q_st, tq_upk, tq_upj, tq_cpk] using hst
  · simpa (disch := decide) only [q_pm, q_pn, tq_upk, tq_upj, tq_cpk] using hpm
  · intro q hq
    obtain ⟨a1, a2, a3, a4, a5, a6, a7, a8, a9, a10⟩ := hsi q hq
    have key : tq_up S 8 (G 19 0 s) 5 1 8 (G 19 0 q) 5 = tq_up M 125 0 s 1 125 0 q := by
      by_cases e : q = s
      · subst e; rw [tq_upe, tq_upe]
      · rw [tq_upi (fun z => e (hsi.inj b4 hq hs z)), tq_upj e]; exact a8
    simp (disch := decide) only [tq_upk, tq_upj]
    exact ⟨a1, a2, a3, a4, a5, a6, a7, key, a9, a10⟩
  · simpa (disch := decide) only [q_ab, tq_upk, tq_upj, tq_cpk] using hab
  · obtain ⟨a1, a2, a3⟩ := hsm
    refine ⟨?_, ?_, ?_⟩
    · simpa (disch := decide) only [tq_upk, tq_upj, tq_cpk] using a1
    · simpa (disch := decide) only [tq_upk, tq_upj, tq_cpk] using a2
    · intro q h1 h2
      have key : tq_up M 125 0 s 1 125 0 q = 0 := by rw [tq_upj (by omega)]; exact (a3 q h1 h2).2.1
      simp (disch := decide) only [tq_upk]
      obtain ⟨c1, c2, c3⟩ := a3 q h1 h2
      exact ⟨c1, key, c3⟩
  · simpa (disch := decide) only [q_vo, tq_upk, tq_upj, tq_cpk] using hvo
  · simpa (disch := decide) only [q_vm, tq_upk, tq_upj, tq_cpk] using hvm
  · simpa (disch := decide) only [q_bi, tq_upk, tq_upj, tq_cpk] using hbi
  · simpa (disch := decide) only [q_lb, tq_upk, tq_upj, tq_cpk] using hlb
  · simpa (disch := decide) only [q_iv, tq_upk, tq_upj, tq_cpk] using hiv
  · simpa (disch := decide) only [q_od, tq_upk, tq_upj, tq_cpk] using hod
  · simpa (disch := decide) only [q_ol, tq_upk, tq_upj, tq_cpk] using hol
  · simpa (disch := decide) only [q_oi, tq_upk, tq_upj, tq_cpk] using hoi
  · simpa (disch := decide) only [q_fi, tq_upk, tq_upj, tq_cpk] using hfi
  · simpa (disch := decide) only [q_li, tq_upk, tq_upj, tq_cpk] using hli
  · simpa (disch := decide) only [q_ad, tq_upk, tq_upj, tq_cpk] using had
  · simpa (disch := decide) only [q_ro, tq_upk, tq_upj, tq_cpk] using hro
theorem RR_copy {c h w d pn P Sh V E A t r eb : Nat} {G : Nat → Nat → Nat → Nat} {C : Nat → Nat → Nat} {OL : Nat → List Nat} {N : tq_Nn} {S M : tq_St} (h0 : RR c h w d pn P Sh V E A t r eb G C OL N S M) {n s k : Nat} (hn : n < P) (hs : s < Sh) (hk : k ≤ 3) : RR c h w d pn P Sh V E A t r eb G C OL N (tq_up (tq_up S 7 (G 15 0 n) 9 (nI k)) 56 (G 19 0 s) n (M 120 n s + 1)) (tq_up (tq_up M 114 0 n (nI k)) 120 n s (M 120 n s + 1)) := by
  obtain ⟨hsc, hss, har, hpl, hlg, hsh, hpe, hmo, hpr, hsr, hpa, hkn, hst, hpm, hsi, hab, hsm, hvo, hvm, hbi, hlb, hiv, hod, hol, hoi, hfi, hli, had, hro⟩ := h0
  have b5 := hsc.2.2.2.2.2.2.2.2.2.2.2.2.2.1
  have b4 := hsc.2.2.2.2.2.2.2.2.2.2.2.2.1
  have b3 := hsc.2.2.2.2.2.2.2.2.2.2.2.1
  have b2 := hsc.2.2.2.2.2.2.2.2.2.2.1
  refine ⟨?_, ?_, ?_, ?_, ?_, ?_, ?_, ?_, ?_, ?_, ?_, ?_, ?_, ?_, ?_, ?_, ?_, ?_, ?_, ?_, ?_, ?_, ?_, ?_, ?_, ?_, ?_, ?_, ?_⟩
  · simpa (disch := decide) only [q_sc, tq_upk, tq_upj, tq_cpk] using hsc
  · simpa (disch := decide) only [q_ss, tq_upk, tq_upj, tq_cpk] using hss
  · simpa (disch := decide) only [q_ar, tq_upk, tq_upj, tq_cpk] using har
  · simpa (disch := decide) only [q_pl, tq_upk, tq_upj, tq_cpk] using hpl
  · simpa (disch := decide) only [q_lg, tq_upk, tq_upj, tq_cpk] using hlg
  · simpa (disch := decide) only [q_sh, tq_upk, tq_upj, tq_cpk] using hsh
  · simpa (disch := decide) only [q_pe, tq_upk, tq_upj, tq_cpk] using hpe
  · simpa (disch := decide) only [q_mo, tq_upk, tq_upj, tq_cpk] using hmo
  · simpa (disch := decide) only [q_pr, tq_upk, tq_upj, tq_cpk] using hpr
  · simpa (disch := decide) only [q_sr, tq_upk, tq_upj, tq_cpk] using hsr
  · intro m hm
    obtain ⟨a1, a2, a3, a4, a5, a6, a7, a8, a9, a10, a11, a12⟩ := hpa m hm
    have key : tq_up S 7 (G 15 0 n) 9 (nI k) 7 (G 15 0 m) 9 = tq_up M 114 0 n (nI k) 114 0 m := by
      by_cases e : m = n
      · subst e; rw [tq_upe, tq_upe]
      · rw [tq_upi (fun z => e (hpa.inj b3 hm hn z)), tq_upj e]; exact a9
    unfold q_pb
    simp (disch := decide) only [tq_upk, tq_upj]
    exact ⟨a1, a2, a3, a4, a5, a6, a7, a8, key, a10, a11, a12⟩
  · simpa (disch := decide) only [q_kn, tq_upk, tq_upj, tq_cpk] using hkn
  · simpa (disch := decide) only [q_st, tq_upk, tq_upj, tq_cpk] using hst
  · obtain ⟨c1, c2, c3⟩ := hpm
    refine ⟨fun m hm => ?_, ?_, fun m h1 h2 => ?_⟩
    · obtain ⟨a1, a2, a3, a4, a5, a6⟩ := c1 m hm
      have key : ∃ y : Nat, y ≤ 3 ∧ tq_up M 114 0 n (nI k) 114 0 m = nI y := by
        by_cases e : m = n
        · subst e; exact ⟨k, hk, tq_upe⟩
        · rw [tq_upj e]; exact a5
      unfold q_pn
      simp (disch := decide) only [tq_upk]
      exact ⟨a1, a2, a3, a4, key, a6⟩
    · simpa (disch := decide) only [tq_upk, tq_upj, tq_cpk] using c2
    · have z : tq_up (tq_up M 114 0 n (nI k)) 120 n s (M 120 n s + 1) 120 m = M 120 m := by rw [tq_upi (show m ≠ n by omega), tq_upk (by decide)]
      have key : tq_up M 114 0 n (nI k) 114 0 m = 0 := by rw [tq_upj (by omega)]; exact (c3 m h1 h2).1
      simp (disch := decide) only [tq_upk]
      rw [z]
      exact ⟨key, (c3 m h1 h2).2⟩
  · simpa (disch := decide) only [q_si, tq_upk, tq_upj, tq_cpk] using hsi
  · intro y m hy hm
    rw [tq_upk_in (show (56 : Nat) ≠ 7 by decide), tq_upk_in (show (120 : Nat) ≠ 114 by decide)]
    by_cases e : y = s
    · subst e
      by_cases e2 : m = n
      · subst e2; rw [tq_upe, tq_upe]
      · rw [tq_upj e2, tq_upi e2]; exact hab y m hy hm
    · rw [tq_upi (fun z => e (hsi.inj b4 hy hs z)), tq_upj e]; exact hab y m hy hm
  · obtain ⟨a1, a2, a3⟩ := hsm
    refine ⟨?_, ?_, ?_⟩
    · simpa (disch := decide) only [tq_upk, tq_upj, tq_cpk] using a1
    · simpa (disch := decide) only [tq_upk, tq_upj, tq_cpk] using a2
    · intro q h1 h2
      obtain ⟨c1, c2, c3, c4, c5, c6⟩ := a3 q h1 h2
      simp (disch := decide) only [tq_upk]
      refine ⟨c1, c2, c3, c4, c5, fun m hm => ?_⟩
      rw [tq_upj (show q ≠ s by omega), tq_upk (by decide)]; exact c6 m hm
  · simpa (disch := decide) only [q_vo, tq_upk, tq_upj, tq_cpk] using hvo
  · simpa (disch := decide) only [q_vm, tq_upk, tq_upj, tq_cpk] using hvm
  · simpa (disch := decide) only [q_bi, tq_upk, tq_upj, tq_cpk] using hbi
  · simpa (disch := decide) only [q_lb, tq_upk, tq_upj, tq_cpk] using hlb
  · simpa (disch := decide) only [q_iv, tq_upk, tq_upj, tq_cpk] using hiv
  · simpa (disch := decide) only [q_od, tq_upk, tq_upj, tq_cpk] using hod
  · simpa (disch := decide) only [q_ol, tq_upk, tq_upj, tq_cpk] using hol
  · simpa (disch := decide) only [q_oi, tq_upk, tq_upj, tq_cpk] using hoi
  · simpa (disch := decide) only [q_fi, tq_upk, tq_upj, tq_cpk] using hfi
  · simpa (disch := decide) only [q_li, tq_upk, tq_upj, tq_cpk] using hli
  · simpa (disch := decide) only [q_ad, tq_upk, tq_upj, tq_cpk] using had
  · simpa (disch := decide) only [q_ro, tq_upk, tq_upj, tq_cpk] using hro
theorem RR_accept {c h w d pn P Sh V E A t r eb : Nat} {G : Nat → Nat → Nat → Nat} {C : Nat → Nat → Nat} {OL : Nat → List Nat} {N : tq_Nn} {S M : tq_St} (h0 : RR c h w d pn P Sh V E A t r eb G C OL N S M) {n : Nat} (hn : n < P) (hk : M 110 0 n = 5) (h60 : d ≤ 2999) (hz : M 116 n 1 = 0) : RR c h w d pn P Sh V E A t r eb G C OL N (tq_up (tq_up S 7 (G 15 0 n) 10 1) 7 (G 15 0 n) 11 (nI (d + 60))) (tq_up (tq_up M 116 n 1 1) 116 n 2 (nI (d + 61))) := by
  obtain ⟨hsc, hss, har, hpl, hlg, hsh, hpe, hmo, hpr, hsr, hpa, hkn, hst, hpm, hsi, hab, hsm, hvo, hvm, hbi, hlb, hiv, hod, hol, hoi, hfi, hli, had, hro⟩ := h0
  have b5 := hsc.2.2.2.2.2.2.2.2.2.2.2.2.2.1
  have b4 := hsc.2.2.2.2.2.2.2.2.2.2.2.2.1
  have b3 := hsc.2.2.2.2.2.2.2.2.2.2.2.1
  have b2 := hsc.2.2.2.2.2.2.2.2.2.2.1
  refine ⟨?_, ?_, ?_, ?_, ?_, ?_, ?_, ?_, ?_, ?_, ?_, ?_, ?_, ?_, ?_, ?_, ?_, ?_, ?_, ?_, ?_, ?_, ?_, ?_, ?_, ?_, ?_, ?_, ?_⟩
  · simpa (disch := decide) only [q_sc, tq_upk, tq_upj, tq_cpk] using hsc
  · simpa (disch := decide) only [q_ss, tq_upk, tq_upj, tq_cpk] using hss
  · simpa (disch := decide) only [q_ar, tq_upk, tq_upj, tq_cpk] using har
  · simpa (disch := decide) only [q_pl, tq_upk, tq_upj, tq_cpk] using hpl
  · simpa (disch := decide) only [q_lg, tq_upk, tq_upj, tq_cpk] using hlg
  · simpa (disch := decide) only [q_sh, tq_upk, tq_upj, tq_cpk] using hsh
  · simpa (disch := decide) only [q_pe, tq_upk, tq_upj, tq_cpk] using hpe
  · simpa (disch := decide) only [q_mo, tq_upk, tq_upj, tq_cpk] using hmo
  · simpa (disch := decide) only [q_pr, tq_upk, tq_upj, tq_cpk] using hpr
  · simpa (disch := decide) only [q_sr, tq_upk, tq_upj, tq_cpk] using hsr
  · intro m hm
    obtain ⟨a1, a2, a3, a4, a5, a6, a7, a8, a9, a10, a11, a12⟩ := hpa m hm
    unfold q_pb
    by_cases e : m = n
    · subst e
      refine ⟨a1, a2, a3, ?_, ?_, ?_, ?_, ?_, ?_, ?_, ?_, ?_⟩
      · rw [tq_upj (by decide), tq_upj (by decide)]; exact a4
      · rw [tq_upj (by decide), tq_upj (by decide), tq_upk (by decide), tq_upk (by decide)]; exact a5
      · rw [tq_upj (by decide), tq_upj (by decide), tq_upk (by decide), tq_upk (by decide)]; exact a6
      · rw [tq_upj (by decide), tq_upj (by decide), tq_upk (by decide), tq_upk (by decide)]; exact a7
      · rw [tq_upj (by decide), tq_upj (by decide), tq_upk (by decide), tq_upk (by decide)]; exact a8
      · rw [tq_upj (by decide), tq_upj (by decide), tq_upk (by decide), tq_upk (by decide)]; exact a9
      · simp (disch := decide) only [tq_upj, tq_upk]; exact a10
      · simp (disch := decide) only [tq_upj, tq_upk]; exact a11
      · intro _
        obtain ⟨c1, c2, c3⟩ := a12 hk
        refine ⟨?_, ?_, ?_⟩
        · rw [tq_upj (by decide), tq_upe, tq_upj (by decide), tq_upe]
        · rw [tq_upe, tq_upe]; exact (nI_pred (d + 60)).symm
        · simp (disch := decide) only [tq_upj]; exact c3
    · have z : G 15 0 m ≠ G 15 0 n := fun z => e (hpa.inj b3 hm hn z)
      rw [tq_upi z, tq_upi z, tq_upk (by decide), tq_upk (by decide), tq_upk (by decide), tq_upk (by decide), tq_upk (by decide), tq_upk (by decide), tq_upk (by decide), tq_upk (by decide), tq_upk (by decide), tq_upk (by decide), tq_upk (by decide), tq_upk (by decide), tq_upi e, tq_upi e]
      exact hpa m hm
  · simpa (disch := decide) only [q_kn, tq_upk, tq_upj, tq_cpk] using hkn
  · intro m s hm hs h1
    by_cases e : m = n
    · subst e; rw [tq_upk (by decide), tq_upk (by decide)] at h1; rw [hk] at h1; exact absurd h1 (by decide)
    · rw [tq_upk (by decide), tq_upk (by decide), tq_upi e, tq_upi e]
      rw [tq_upk (by decide), tq_upk (by decide)] at h1
      exact hst m s hm hs h1
  · obtain ⟨c1, c2, c3⟩ := hpm
    refine ⟨fun m hm => ?_, ?_, fun m h1 h2 => ?_⟩
    · obtain ⟨a1, a2, a3, a4, a5, a6, a7⟩ := c1 m hm
      unfold q_pn
      simp (disch := decide) only [tq_upk]
      refine ⟨a1, a2, a3, a4, a5, a6, fun h5 => ?_⟩
      obtain ⟨f1, f2⟩ := a7 h5
      by_cases e : m = n
      · subst e
        refine ⟨?_, 1, by decide, ?_⟩
        · rw [tq_upj (by decide), tq_upj (by decide)]; exact f1
        · rw [tq_upj (by decide), tq_upe]; rfl
      · rw [tq_upi e, tq_upi e]; exact ⟨f1, f2⟩
    · simpa (disch := decide) only [tq_upk, tq_upj, tq_cpk] using c2
    · rw [tq_upi (show m ≠ n by omega), tq_upi (show m ≠ n by omega)]
      simp (disch := decide) only [tq_upk]
      exact c3 m h1 h2
  · simpa (disch := decide) only [q_si, tq_upk, tq_upj, tq_cpk] using hsi
  · simpa (disch := decide) only [q_ab, tq_upk, tq_upj, tq_cpk] using hab
  · simpa (disch := decide) only [q_sm, tq_upk, tq_upj, tq_cpk] using hsm
  · simpa (disch := decide) only [q_vo, tq_upk, tq_upj, tq_cpk] using hvo
  · simpa (disch := decide) only [q_vm, tq_upk, tq_upj, tq_cpk] using hvm
  · simpa (disch := decide) only [q_bi, tq_upk, tq_upj, tq_cpk] using hbi
  · intro p h1 h2
    rcases hlb p h1 h2 with ⟨q1, q2⟩ | ⟨m, q1, q2, q3, q4, q5⟩
    · refine Or.inl ⟨?_, ?_⟩
      · simpa (disch := decide) only [tq_upk, tq_upj, tq_cpk] using q1
      · simpa (disch := decide) only [tq_upk, tq_upj, tq_cpk] using q2
    · refine Or.inr ⟨m, q1, ?_, ?_, ?_, ?_⟩
      · simpa (disch := decide) only [tq_upk, tq_upj, tq_cpk] using q2
      · simpa (disch := decide) only [tq_upk, tq_upj, tq_cpk] using q3
      · simpa (disch := decide) only [tq_upk, tq_upj, tq_cpk] using q4
      · intro x hx hxm
        simp (disch := decide) only [tq_upk]
        intro hx5 hx1
        by_cases e : x = n
        · subst e
          have := q5 x hx hxm hx5 hx1
          rw [hz] at this; exact absurd (show (0 : Int32) < 2 by decide) this
        · rw [tq_upi e, tq_upi e]; exact q5 x hx hxm hx5 hx1
  · simpa (disch := decide) only [q_iv, tq_upk, tq_upj, tq_cpk] using hiv
  · simpa (disch := decide) only [q_od, tq_upk, tq_upj, tq_cpk] using hod
  · simpa (disch := decide) only [q_ol, tq_upk, tq_upj, tq_cpk] using hol
  · simpa (disch := decide) only [q_oi, tq_upk, tq_upj, tq_cpk] using hoi
  · simpa (disch := decide) only [q_fi, tq_upk, tq_upj, tq_cpk] using hfi
  · simpa (disch := decide) only [q_li, tq_upk, tq_upj, tq_cpk] using hli
  · simpa (disch := decide) only [q_ad, tq_upk, tq_upj, tq_cpk] using had
  · simpa (disch := decide) only [q_ro, tq_upk, tq_upj, tq_cpk] using hro
