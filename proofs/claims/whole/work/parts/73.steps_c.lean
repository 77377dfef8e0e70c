/-! pure: more single changes -/
theorem tq_up_cj {S : tq_St} {k i j k2 i2 j2 : Nat} {v v2 : Int32} (h : ¬ (k = k2 ∧ i = i2 ∧ j = j2)) : tq_up (tq_up S k i j v) k2 i2 j2 v2 = tq_up (tq_up S k2 i2 j2 v2) k i j v := by
  funext a b c
  simp only [tq_up]
  by_cases q : a = k ∧ b = i ∧ c = j
  · rw [if_pos q, if_neg (fun z => h ⟨q.1.symm.trans z.1, q.2.1.symm.trans z.2.1, q.2.2.symm.trans z.2.2⟩), if_pos q]
  · rw [if_neg q, if_neg q]
theorem tq_up_ow {S : tq_St} {k i j : Nat} {v v2 : Int32} : tq_up (tq_up S k i j v) k i j v2 = tq_up S k i j v2 := by
  funext a b c
  simp only [tq_up]
  by_cases q : a = k ∧ b = i ∧ c = j
  · rw [if_pos q, if_pos q]
  · rw [if_neg q, if_neg q, if_neg q]
theorem RR_settle {c h w d pn P Sh V E A t r eb : Nat} {G : Nat → Nat → Nat → Nat} {C : Nat → Nat → Nat} {OL : Nat → List Nat} {N : tq_Nn} {S M : tq_St} (h0 : RR c h w d pn P Sh V E A t r eb G C OL N S M) {n st : Nat} {x : Int32} (hn : n < P) (hk : M 110 0 n = 5) (hs2 : 2 ≤ st) (hs3 : st ≤ 3) : RR c h w d pn P Sh V E A t r eb G C OL N (tq_up (tq_up S 7 (G 15 0 n) 10 (nI st)) 7 (G 15 0 n) 12 x) (tq_up (tq_up M 116 n 1 (nI st)) 116 n 3 x) := by
  obtain ⟨hsc, hss, har, hpl, hlg, hsh, hpe, hmo, hpr, hsr, hpa, hkn, hst, hpm, hsi, hab, hsm, hvo, hvm, hbi, hlb, hiv, hod, hol, hoi, hfi, hli, had, hro⟩ := h0
  have b5 := hsc.2.2.2.2.2.2.2.2.2.2.2.2.2.1
  have b4 := hsc.2.2.2.2.2.2.2.2.2.2.2.2.1
  have b3 := hsc.2.2.2.2.2.2.2.2.2.2.2.1
  have b2 := hsc.2.2.2.2.2.2.2.2.2.2.1
  refine ⟨?_, ?_, ?_, ?_, ?_, ?_, ?_, ?_, ?_, ?_, ?_, ?_, ?_, ?_, ?_, ?_, ?_, ?_, ?_, ?_, ?_, ?_, ?_, ?_, ?_, ?_, ?_, ?_, ?_⟩
  · simpa (disch := decide) only [q_sc, tq_upk, tq_upj, tq_cpk] using hsc
  · simpa (disch := decide) only [q_ss, tq_upk, tq_upj, tq_cpk] using hss
  · simpa (disch := decide) only [q_ar, tq_upk, tq_upj, tq_cpk] using har
  · simpa (disch := decide) only [q_pl, tq_upk, tq_upj, tq_cpk] using hpl
  · simpa (disch := decide) only [q_lg, tq_upk, tq_upj, tq_cpk] using hlg
  · simpa (disch := decide) only [q_sh, tq_upk, tq_upj, tq_cpk] using hsh
  · simpa (disch := decide) only [q_pe, tq_upk, tq_upj, tq_cpk] using hpe
  · simpa (disch := decide) only [q_mo, tq_upk, tq_upj, tq_cpk] using hmo
  · simpa (disch := decide) only [q_pr, tq_upk, tq_upj, tq_cpk] using hpr
  · simpa (disch := decide) only [q_sr, tq_upk, tq_upj, tq_cpk] using hsr
  · intro m hm
    obtain ⟨a1, a2, a3, a4, a5, a6, a7, a8, a9, a10, a11, a12⟩ := hpa m hm
    unfold q_pb
    by_cases e : m = n
    · subst e
      refine ⟨a1, a2, a3, ?_, ?_, ?_, ?_, ?_, ?_, ?_, ?_, ?_⟩
      · rw [tq_upj (by decide), tq_upj (by decide)]; exact a4
      · rw [tq_upj (by decide), tq_upj (by decide), tq_upk (by decide), tq_upk (by decide)]; exact a5
      · rw [tq_upj (by decide), tq_upj (by decide), tq_upk (by decide), tq_upk (by decide)]; exact a6
      · rw [tq_upj (by decide), tq_upj (by decide), tq_upk (by decide), tq_upk (by decide)]; exact a7
      · rw [tq_upj (by decide), tq_upj (by decide), tq_upk (by decide), tq_upk (by decide)]; exact a8
      · rw [tq_upj (by decide), tq_upj (by decide), tq_upk (by decide), tq_upk (by decide)]; exact a9
      · simp (disch := decide) only [tq_upj, tq_upk]; exact a10
      · simp (disch := decide) only [tq_upj, tq_upk]; exact a11
      · intro _
        obtain ⟨c1, c2, c3⟩ := a12 hk
        refine ⟨?_, ?_, ?_⟩
        · rw [tq_upj (by decide), tq_upe, tq_upj (by decide), tq_upe]
        · rw [tq_upj (by decide), tq_upj (by decide), tq_upj (by decide), tq_upj (by decide)]; exact c2
        · rw [tq_upe, tq_upe]
    · have z : G 15 0 m ≠ G 15 0 n := fun z => e (hpa.inj b3 hm hn z)
      rw [tq_upi z, tq_upi z, tq_upk (by decide), tq_upk (by decide), tq_upk (by decide), tq_upk (by decide), tq_upk (by decide), tq_upk (by decide), tq_upk (by decide), tq_upk (by decide), tq_upk (by decide), tq_upk (by decide), tq_upk (by decide), tq_upk (by decide), tq_upi e, tq_upi e]
      exact hpa m hm
  · simpa (disch := decide) only [q_kn, tq_upk, tq_upj, tq_cpk] using hkn
  · intro m s hm hs h1
    by_cases e : m = n
    · subst e; rw [tq_upk (by decide), tq_upk (by decide)] at h1; rw [hk] at h1; exact absurd h1 (by decide)
    · rw [tq_upk (by decide), tq_upk (by decide), tq_upi e, tq_upi e]
      rw [tq_upk (by decide), tq_upk (by decide)] at h1
      exact hst m s hm hs h1
  · obtain ⟨c1, c2, c3⟩ := hpm
    refine ⟨fun m hm => ?_, ?_, fun m h1 h2 => ?_⟩
    · obtain ⟨a1, a2, a3, a4, a5, a6, a7⟩ := c1 m hm
      unfold q_pn
      simp (disch := decide) only [tq_upk]
      refine ⟨a1, a2, a3, a4, a5, a6, fun h5 => ?_⟩
      obtain ⟨f1, f2⟩ := a7 h5
      by_cases e : m = n
      · subst e
        refine ⟨?_, st, hs3, ?_⟩
        · rw [tq_upj (by decide), tq_upj (by decide)]; exact f1
        · rw [tq_upj (by decide), tq_upe]
      · rw [tq_upi e, tq_upi e]; exact ⟨f1, f2⟩
    · simpa (disch := decide) only [tq_upk, tq_upj, tq_cpk] using c2
    · rw [tq_upi (show m ≠ n by omega), tq_upi (show m ≠ n by omega)]
      simp (disch := decide) only [tq_upk]
      exact c3 m h1 h2
  · simpa (disch := decide) only [q_si, tq_upk, tq_upj, tq_cpk] using hsi
  · simpa (disch := decide) only [q_ab, tq_upk, tq_upj, tq_cpk] using hab
  · simpa (disch := decide) only [q_sm, tq_upk, tq_upj, tq_cpk] using hsm
  · simpa (disch := decide) only [q_vo, tq_upk, tq_upj, tq_cpk] using hvo
  · simpa (disch := decide) only [q_vm, tq_upk, tq_upj, tq_cpk] using hvm
  · simpa (disch := decide) only [q_bi, tq_upk, tq_upj, tq_cpk] using hbi
  · intro p h1 h2
    rcases hlb p h1 h2 with ⟨q1, q2⟩ | ⟨m, q1, q2, q3, q4, q5⟩
    · refine Or.inl ⟨?_, ?_⟩
      · simpa (disch := decide) only [tq_upk, tq_upj, tq_cpk] using q1
      · simpa (disch := decide) only [tq_upk, tq_upj, tq_cpk] using q2
    · refine Or.inr ⟨m, q1, ?_, ?_, ?_, ?_⟩
      · simpa (disch := decide) only [tq_upk, tq_upj, tq_cpk] using q2
      · simpa (disch := decide) only [tq_upk, tq_upj, tq_cpk] using q3
      · simpa (disch := decide) only [tq_upk, tq_upj, tq_cpk] using q4
      · intro x hx hxm
        simp (disch := decide) only [tq_upk]
        intro hx5 hx1
        by_cases e : x = n
        · subst e
          rw [tq_upj (by decide), tq_upe]
          exact nI_nlt (b := 2) hs2 (by omega)
        · rw [tq_upi e, tq_upi e]; exact q5 x hx hxm hx5 hx1
  · simpa (disch := decide) only [q_iv, tq_upk, tq_upj, tq_cpk] using hiv
  · simpa (disch := decide) only [q_od, tq_upk, tq_upj, tq_cpk] using hod
  · simpa (disch := decide) only [q_ol, tq_upk, tq_upj, tq_cpk] using hol
  · simpa (disch := decide) only [q_oi, tq_upk, tq_upj, tq_cpk] using hoi
  · simpa (disch := decide) only [q_fi, tq_upk, tq_upj, tq_cpk] using hfi
  · simpa (disch := decide) only [q_li, tq_upk, tq_upj, tq_cpk] using hli
  · simpa (disch := decide) only [q_ad, tq_upk, tq_upj, tq_cpk] using had
  · simpa (disch := decide) only [q_ro, tq_upk, tq_upj, tq_cpk] using hro
theorem RR_shares {c h w d pn P Sh V E A t r eb : Nat} {G : Nat → Nat → Nat → Nat} {C : Nat → Nat → Nat} {OL : Nat → List Nat} {N : tq_Nn} {S M : tq_St} (h0 : RR c h w d pn P Sh V E A t r eb G C OL N S M) {a b : Nat} {x y : Int32} (ha : a < 8) (hb : b < 8) (hab2 : a ≠ b) (hx0 : 0 ≤ x.toInt) (hy0 : 0 ≤ y.toInt) (hxy : x.toInt + y.toInt = (M 156 0 a).toInt + (M 156 0 b).toInt) : RR c h w d pn P Sh V E A t r eb G C OL N (tq_up (tq_up S 25 0 a x) 25 0 b y) (tq_up (tq_up M 156 0 a x) 156 0 b y) := by
  obtain ⟨hsc, hss, har, hpl, hlg, hsh, hpe, hmo, hpr, hsr, hpa, hkn, hst, hpm, hsi, hab, hsm, hvo, hvm, hbi, hlb, hiv, hod, hol, hoi, hfi, hli, had, hro⟩ := h0
  refine ⟨?_, ?_, ?_, ?_, ?_, ?_, ?_, ?_, ?_, ?_, ?_, ?_, ?_, ?_, ?_, ?_, ?_, ?_, ?_, ?_, ?_, ?_, ?_, ?_, ?_, ?_, ?_, ?_, ?_⟩
  · simpa (disch := decide) only [q_sc, tq_upk, tq_upj, tq_cpk] using hsc
  · simpa (disch := decide) only [q_ss, tq_upk, tq_upj, tq_cpk] using hss
  · obtain ⟨y1, y2, y3, y4, y5, y6, y7, y8, y9, y10, y11, y12, y13, y14, y15⟩ := har
    refine ⟨?_, ?_, ?_, ?_, ?_, ?_, ?_, ?_, ?_, ?_, ?_, ?_, ?_, ?_, ?_⟩
    · simpa (disch := decide) only [tq_upk, tq_upj, tq_cpk] using y1
    · simpa (disch := decide) only [tq_upk, tq_upj, tq_cpk] using y2
    · simpa (disch := decide) only [tq_upk, tq_upj, tq_cpk] using y3
    · exact tp_up2 (tp_up2 y4)
    · simpa (disch := decide) only [tq_upk, tq_upj, tq_cpk] using y5
    · simpa (disch := decide) only [tq_upk, tq_upj, tq_cpk] using y6
    · simpa (disch := decide) only [tq_upk, tq_upj, tq_cpk] using y7
    · simpa (disch := decide) only [tq_upk, tq_upj, tq_cpk] using y8
    · simpa (disch := decide) only [tq_upk, tq_upj, tq_cpk] using y9
    · simpa (disch := decide) only [tq_upk, tq_upj, tq_cpk] using y10
    · simpa (disch := decide) only [tq_upk, tq_upj, tq_cpk] using y11
    · simpa (disch := decide) only [tq_upk, tq_upj, tq_cpk] using y12
    · simpa (disch := decide) only [tq_upk, tq_upj, tq_cpk] using y13
    · simpa (disch := decide) only [tq_upk, tq_upj, tq_cpk] using y14
    · simpa (disch := decide) only [tq_upk, tq_upj, tq_cpk] using y15
  · simpa (disch := decide) only [q_pl, tq_upk, tq_upj, tq_cpk] using hpl
  · simpa (disch := decide) only [q_lg, tq_upk, tq_upj, tq_cpk] using hlg
  · simpa (disch := decide) only [q_sh, tq_upk, tq_upj, tq_cpk] using hsh
  · simpa (disch := decide) only [q_pe, tq_upk, tq_upj, tq_cpk] using hpe
  · simpa (disch := decide) only [q_mo, tq_upk, tq_upj, tq_cpk] using hmo
  · simpa (disch := decide) only [q_pr, tq_upk, tq_upj, tq_cpk] using hpr
  · obtain ⟨a1, a2⟩ := hsr
    refine ⟨fun h hh => ?_, ?_⟩
    · by_cases e : h = b
      · subst e; rw [tq_upe]; exact hy0
      · rw [tq_upj e]
        by_cases e2 : h = a
        · subst e2; rw [tq_upe]; exact hx0
        · rw [tq_upj e2]; exact a1 h hh
    · have k1 := tp_sm_upd (f := fun q => (M 156 0 q).toInt) (g := fun q => (tq_up M 156 0 a x 156 0 q).toInt) ha (fun k _ hk => by show (tq_up M 156 0 a x 156 0 k).toInt = _; rw [tq_upj hk])
      have k2 : (tq_up M 156 0 a x 156 0 a).toInt = x.toInt := by rw [tq_upe]
      have k3 := tp_sm_upd (f := fun q => (tq_up M 156 0 a x 156 0 q).toInt) (g := fun q => (tq_up (tq_up M 156 0 a x) 156 0 b y 156 0 q).toInt) hb (fun k _ hk => by show (tq_up (tq_up M 156 0 a x) 156 0 b y 156 0 k).toInt = _; rw [tq_upj hk])
      have k4 : (tq_up (tq_up M 156 0 a x) 156 0 b y 156 0 b).toInt = y.toInt := by rw [tq_upe]
      have k5 : (tq_up M 156 0 a x 156 0 b).toInt = (M 156 0 b).toInt := by rw [tq_upj (fun z => hab2 z.symm)]
      show tp_sm (fun q => (tq_up (tq_up M 156 0 a x) 156 0 b y 156 0 q).toInt) 8 = 800
      omega
  · simpa (disch := decide) only [q_pa, q_pb, tq_upk, tq_upj, tq_cpk] using hpa
  · simpa (disch := decide) only [q_kn, tq_upk, tq_upj, tq_cpk] using hkn
  · simpa (disch := decide) only [q_st, tq_upk, tq_upj, tq_cpk] using hst
  · simpa (disch := decide) only [q_pm, q_pn, tq_upk, tq_upj, tq_cpk] using hpm
  · simpa (disch := decide) only [q_si, tq_upk, tq_upj, tq_cpk] using hsi
  · simpa (disch := decide) only [q_ab, tq_upk, tq_upj, tq_cpk] using hab
  · simpa (disch := decide) only [q_sm, tq_upk, tq_upj, tq_cpk] using hsm
  · simpa (disch := decide) only [q_vo, tq_upk, tq_upj, tq_cpk] using hvo
  · simpa (disch := decide) only [q_vm, tq_upk, tq_upj, tq_cpk] using hvm
  · simpa (disch := decide) only [q_bi, tq_upk, tq_upj, tq_cpk] using hbi
  · simpa (disch := decide) only [q_lb, tq_upk, tq_upj, tq_cpk] using hlb
  · simpa (disch := decide) only [q_iv, tq_upk, tq_upj, tq_cpk] using hiv
  · simpa (disch := decide) only [q_od, tq_upk, tq_upj, tq_cpk] using hod
  · simpa (disch := decide) only [q_ol, tq_upk, tq_upj, tq_cpk] using hol
  · simpa (disch := decide) only [q_oi, tq_upk, tq_upj, tq_cpk] using hoi
  · simpa (disch := decide) only [q_fi, tq_upk, tq_upj, tq_cpk] using hfi
  · simpa (disch := decide) only [q_li, tq_upk, tq_upj, tq_cpk] using hli
  · simpa (disch := decide) only [q_ad, tq_upk, tq_upj, tq_cpk] using had
  · simpa (disch := decide) only [q_ro, tq_upk, tq_upj, tq_cpk] using hro
theorem RR_sheet {c h w d pn P Sh V E A t r eb : Nat} {G : Nat → Nat → Nat → Nat} {C : Nat → Nat → Nat} {OL : Nat → List Nat} {N : tq_Nn} {S M : tq_St} (h0 : RR c h w d pn P Sh V E A t r eb G C OL N S M) {q z : Nat} {v : Int32} {f : Nat → Int32} (hv : -1 ≤ v.toInt ∧ v.toInt ≤ 2) (hz : z ≤ 64) : RR c h w d pn P Sh V E A t r eb G C OL N (tq_cp (tq_up (tq_up S 6 q 0 v) 6 q 1 (nI z)) 49 q f) (tq_cp (tq_up (tq_up M 162 0 q v) 164 0 q (nI z)) 163 q f) := by
  obtain ⟨hsc, hss, har, hpl, hlg, hsh, hpe, hmo, hpr, hsr, hpa, hkn, hst, hpm, hsi, hab, hsm, hvo, hvm, hbi, hlb, hiv, hod, hol, hoi, hfi, hli, had, hro⟩ := h0
  refine ⟨?_, ?_, ?_, ?_, ?_, ?_, ?_, ?_, ?_, ?_, ?_, ?_, ?_, ?_, ?_, ?_, ?_, ?_, ?_, ?_, ?_, ?_, ?_, ?_, ?_, ?_, ?_, ?_, ?_⟩
  · simpa (disch := decide) only [q_sc, tq_upk, tq_upj, tq_cpk] using hsc
  · simpa (disch := decide) only [q_ss, tq_upk, tq_upj, tq_cpk] using hss
  · obtain ⟨y1, y2, y3, y4, y5, y6, y7, y8, y9, y10, y11, y12, y13, y14, y15⟩ := har
    refine ⟨?_, ?_, ?_, ?_, ?_, ?_, ?_, ?_, ?_, ?_, ?_, ?_, ?_, ?_, ?_⟩
    · simpa (disch := decide) only [tq_upk, tq_upj, tq_cpk] using y1
    · simpa (disch := decide) only [tq_upk, tq_upj, tq_cpk] using y2
    · simpa (disch := decide) only [tq_upk, tq_upj, tq_cpk] using y3
    · simpa (disch := decide) only [tq_upk, tq_upj, tq_cpk] using y4
    · simpa (disch := decide) only [tq_upk, tq_upj, tq_cpk] using y5
    · simpa (disch := decide) only [tq_upk, tq_upj, tq_cpk] using y6
    · simpa (disch := decide) only [tq_upk, tq_upj, tq_cpk] using y7
    · simpa (disch := decide) only [tq_upk, tq_upj, tq_cpk] using y8
    · simpa (disch := decide) only [tq_upk, tq_upj, tq_cpk] using y9
    · simpa (disch := decide) only [tq_upk, tq_upj, tq_cpk] using y10
    · simpa (disch := decide) only [tq_upk, tq_upj, tq_cpk] using y11
    · simpa (disch := decide) only [tq_upk, tq_upj, tq_cpk] using y12
    · simpa (disch := decide) only [tq_upk, tq_upj, tq_cpk] using y13
    · simpa (disch := decide) only [tq_upk, tq_upj, tq_cpk] using y14
    · refine tp_cp2 ?_
      simpa (disch := decide) only [tq_upk] using y15
  · simpa (disch := decide) only [q_pl, tq_upk, tq_upj, tq_cpk] using hpl
  · simpa (disch := decide) only [q_lg, tq_upk, tq_upj, tq_cpk] using hlg
  · intro x hx
    have := hsh x hx
    simp (disch := decide) only [tq_cpk]
    by_cases e : x = q
    · subst e
      rw [tq_upj (by decide), tq_upe, tq_upe, tq_upk (by decide), tq_upe, tq_upe]
      exact ⟨rfl, rfl, hv.1, hv.2, z, hz, rfl⟩
    · rw [tq_upi e, tq_upi e, tq_upk (by decide), tq_upj e, tq_upj e, tq_upk (by decide)]; exact this
  · simpa (disch := decide) only [q_pe, tq_upk, tq_upj, tq_cpk] using hpe
  · simpa (disch := decide) only [q_mo, tq_upk, tq_upj, tq_cpk] using hmo
  · simpa (disch := decide) only [q_pr, tq_upk, tq_upj, tq_cpk] using hpr
  · simpa (disch := decide) only [q_sr, tq_upk, tq_upj, tq_cpk] using hsr
  · simpa (disch := decide) only [q_pa, q_pb, tq_upk, tq_upj, tq_cpk] using hpa
  · simpa (disch := decide) only [q_kn, tq_upk, tq_upj, tq_cpk] using hkn
  · simpa (disch := decide) only [q_st, tq_upk, tq_upj, tq_cpk] using hst
  · simpa (disch := decide) only [q_pm, q_pn, tq_upk, tq_upj, tq_cpk] using hpm
  · simpa (disch := decide) only [q_si, tq_upk, tq_upj, tq_cpk] using hsi
  · simpa (disch := decide) only [q_ab, tq_upk, tq_upj, tq_cpk] using hab
  · simpa (disch := decide) only [q_sm, tq_upk, tq_upj, tq_cpk] using hsm
  · simpa (disch := decide) only [q_vo, tq_upk, tq_upj, tq_cpk] using hvo
  · simpa (disch := decide) only [q_vm, tq_upk, tq_upj, tq_cpk] using hvm
  · simpa (disch := decide) only [q_bi, tq_upk, tq_upj, tq_cpk] using hbi
  · simpa (disch := decide) only [q_lb, tq_upk, tq_upj, tq_cpk] using hlb
  · simpa (disch := decide) only [q_iv, tq_upk, tq_upj, tq_cpk] using hiv
  · simpa (disch := decide) only [q_od, tq_upk, tq_upj, tq_cpk] using hod
  · simpa (disch := decide) only [q_ol, tq_upk, tq_upj, tq_cpk] using hol
  · simpa (disch := decide) only [q_oi, tq_upk, tq_upj, tq_cpk] using hoi
  · simpa (disch := decide) only [q_fi, tq_upk, tq_upj, tq_cpk] using hfi
  · simpa (disch := decide) only [q_li, tq_upk, tq_upj, tq_cpk] using hli
  · simpa (disch := decide) only [q_ad, tq_upk, tq_upj, tq_cpk] using had
  · simpa (disch := decide) only [q_ro, tq_upk, tq_upj, tq_cpk] using hro
theorem RR_cell {c h w d pn P Sh V E A t r eb : Nat} {G : Nat → Nat → Nat → Nat} {C : Nat → Nat → Nat} {OL : Nat → List Nat} {N : tq_Nn} {S M : tq_St} (h0 : RR c h w d pn P Sh V E A t r eb G C OL N S M) {q i : Nat} {v : Int32} : RR c h w d pn P Sh V E A t r eb G C OL N (tq_up S 49 q i v) (tq_up M 163 q i v) := by
  obtain ⟨hsc, hss, har, hpl, hlg, hsh, hpe, hmo, hpr, hsr, hpa, hkn, hst, hpm, hsi, hab, hsm, hvo, hvm, hbi, hlb, hiv, hod, hol, hoi, hfi, hli, had, hro⟩ := h0
  refine ⟨?_, ?_, ?_, ?_, ?_, ?_, ?_, ?_, ?_, ?_, ?_, ?_, ?_, ?_, ?_, ?_, ?_, ?_, ?_, ?_, ?_, ?_, ?_, ?_, ?_, ?_, ?_, ?_, ?_⟩
  · simpa (disch := decide) only [q_sc, tq_upk, tq_upj, tq_cpk] using hsc
  · simpa (disch := decide) only [q_ss, tq_upk, tq_upj, tq_cpk] using hss
  · obtain ⟨y1, y2, y3, y4, y5, y6, y7, y8, y9, y10, y11, y12, y13, y14, y15⟩ := har
    refine ⟨?_, ?_, ?_, ?_, ?_, ?_, ?_, ?_, ?_, ?_, ?_, ?_, ?_, ?_, ?_⟩
    · simpa (disch := decide) only [tq_upk, tq_upj, tq_cpk] using y1
    · simpa (disch := decide) only [tq_upk, tq_upj, tq_cpk] using y2
    · simpa (disch := decide) only [tq_upk, tq_upj, tq_cpk] using y3
    · simpa (disch := decide) only [tq_upk, tq_upj, tq_cpk] using y4
    · simpa (disch := decide) only [tq_upk, tq_upj, tq_cpk] using y5
    · simpa (disch := decide) only [tq_upk, tq_upj, tq_cpk] using y6
    · simpa (disch := decide) only [tq_upk, tq_upj, tq_cpk] using y7
    · simpa (disch := decide) only [tq_upk, tq_upj, tq_cpk] using y8
    · simpa (disch := decide) only [tq_upk, tq_upj, tq_cpk] using y9
    · simpa (disch := decide) only [tq_upk, tq_upj, tq_cpk] using y10
    · simpa (disch := decide) only [tq_upk, tq_upj, tq_cpk] using y11
    · simpa (disch := decide) only [tq_upk, tq_upj, tq_cpk] using y12
    · simpa (disch := decide) only [tq_upk, tq_upj, tq_cpk] using y13
    · simpa (disch := decide) only [tq_upk, tq_upj, tq_cpk] using y14
    · first | exact tp_up2 y15 | (simp (disch := decide) only [tq_upk, tq_cpk]; exact tp_up2 y15)
  · simpa (disch := decide) only [q_pl, tq_upk, tq_upj, tq_cpk] using hpl
  · simpa (disch := decide) only [q_lg, tq_upk, tq_upj, tq_cpk] using hlg
  · simpa (disch := decide) only [q_sh, tq_upk, tq_upj, tq_cpk] using hsh
  · simpa (disch := decide) only [q_pe, tq_upk, tq_upj, tq_cpk] using hpe
  · simpa (disch := decide) only [q_mo, tq_upk, tq_upj, tq_cpk] using hmo
  · simpa (disch := decide) only [q_pr, tq_upk, tq_upj, tq_cpk] using hpr
  · simpa (disch := decide) only [q_sr, tq_upk, tq_upj, tq_cpk] using hsr
  · simpa (disch := decide) only [q_pa, q_pb, tq_upk, tq_upj, tq_cpk] using hpa
  · simpa (disch := decide) only [q_kn, tq_upk, tq_upj, tq_cpk] using hkn
  · simpa (disch := decide) only [q_st, tq_upk, tq_upj, tq_cpk] using hst
  · simpa (disch := decide) only [q_pm, q_pn, tq_upk, tq_upj, tq_cpk] using hpm
  · simpa (disch := decide) only [q_si, tq_upk, tq_upj, tq_cpk] using hsi
  · simpa (disch := decide) only [q_ab, tq_upk, tq_upj, tq_cpk] using hab
  · simpa (disch := decide) only [q_sm, tq_upk, tq_upj, tq_cpk] using hsm
  · simpa (disch := decide) only [q_vo, tq_upk, tq_upj, tq_cpk] using hvo
  · simpa (disch := decide) only [q_vm, tq_upk, tq_upj, tq_cpk] using hvm
  · simpa (disch := decide) only [q_bi, tq_upk, tq_upj, tq_cpk] using hbi
  · simpa (disch := decide) only [q_lb, tq_upk, tq_upj, tq_cpk] using hlb
  · simpa (disch := decide) only [q_iv, tq_upk, tq_upj, tq_cpk] using hiv
  · simpa (disch := decide) only [q_od, tq_upk, tq_upj, tq_cpk] using hod
  · simpa (disch := decide) only [q_ol, tq_upk, tq_upj, tq_cpk] using hol
  · simpa (disch := decide) only [q_oi, tq_upk, tq_upj, tq_cpk] using hoi
  · simpa (disch := decide) only [q_fi, tq_upk, tq_upj, tq_cpk] using hfi
  · simpa (disch := decide) only [q_li, tq_upk, tq_upj, tq_cpk] using hli
  · simpa (disch := decide) only [q_ad, tq_upk, tq_upj, tq_cpk] using had
  · simpa (disch := decide) only [q_ro, tq_upk, tq_upj, tq_cpk] using hro
theorem RR_carry {c h w d pn P Sh V E A t r eb : Nat} {G : Nat → Nat → Nat → Nat} {C : Nat → Nat → Nat} {OL : Nat → List Nat} {N : tq_Nn} {S M : tq_St} (h0 : RR c h w d pn P Sh V E A t r eb G C OL N S M) {q : Nat} {f : Nat → Int32} : RR c h w d pn P Sh V E A t r eb G C OL N (tq_cp S 49 q f) (tq_cp M 163 q f) := by
  obtain ⟨hsc, hss, har, hpl, hlg, hsh, hpe, hmo, hpr, hsr, hpa, hkn, hst, hpm, hsi, hab, hsm, hvo, hvm, hbi, hlb, hiv, hod, hol, hoi, hfi, hli, had, hro⟩ := h0
  refine ⟨?_, ?_, ?_, ?_, ?_, ?_, ?_, ?_, ?_, ?_, ?_, ?_, ?_, ?_, ?_, ?_, ?_, ?_, ?_, ?_, ?_, ?_, ?_, ?_, ?_, ?_, ?_, ?_, ?_⟩
  · simpa (disch := decide) only [q_sc, tq_upk, tq_upj, tq_cpk] using hsc
  · simpa (disch := decide) only [q_ss, tq_upk, tq_upj, tq_cpk] using hss
  · obtain ⟨y1, y2, y3, y4, y5, y6, y7, y8, y9, y10, y11, y12, y13, y14, y15⟩ := har
    refine ⟨?_, ?_, ?_, ?_, ?_, ?_, ?_, ?_, ?_, ?_, ?_, ?_, ?_, ?_, ?_⟩
    · simpa (disch := decide) only [tq_upk, tq_upj, tq_cpk] using y1
    · simpa (disch := decide) only [tq_upk, tq_upj, tq_cpk] using y2
    · simpa (disch := decide) only [tq_upk, tq_upj, tq_cpk] using y3
    · simpa (disch := decide) only [tq_upk, tq_upj, tq_cpk] using y4
    · simpa (disch := decide) only [tq_upk, tq_upj, tq_cpk] using y5
    · simpa (disch := decide) only [tq_upk, tq_upj, tq_cpk] using y6
    · simpa (disch := decide) only [tq_upk, tq_upj, tq_cpk] using y7
    · simpa (disch := decide) only [tq_upk, tq_upj, tq_cpk] using y8
    · simpa (disch := decide) only [tq_upk, tq_upj, tq_cpk] using y9
    · simpa (disch := decide) only [tq_upk, tq_upj, tq_cpk] using y10
    · simpa (disch := decide) only [tq_upk, tq_upj, tq_cpk] using y11
    · simpa (disch := decide) only [tq_upk, tq_upj, tq_cpk] using y12
    · simpa (disch := decide) only [tq_upk, tq_upj, tq_cpk] using y13
    · simpa (disch := decide) only [tq_upk, tq_upj, tq_cpk] using y14
    · exact tp_cp2 y15
  · simpa (disch := decide) only [q_pl, tq_upk, tq_upj, tq_cpk] using hpl
  · simpa (disch := decide) only [q_lg, tq_upk, tq_upj, tq_cpk] using hlg
  · simpa (disch := decide) only [q_sh, tq_upk, tq_upj, tq_cpk] using hsh
  · simpa (disch := decide) only [q_pe, tq_upk, tq_upj, tq_cpk] using hpe
  · simpa (disch := decide) only [q_mo, tq_upk, tq_upj, tq_cpk] using hmo
  · simpa (disch := decide) only [q_pr, tq_upk, tq_upj, tq_cpk] using hpr
  · simpa (disch := decide) only [q_sr, tq_upk, tq_upj, tq_cpk] using hsr
  · simpa (disch := decide) only [q_pa, q_pb, tq_upk, tq_upj, tq_cpk] using hpa
  · simpa (disch := decide) only [q_kn, tq_upk, tq_upj, tq_cpk] using hkn
  · simpa (disch := decide) only [q_st, tq_upk, tq_upj, tq_cpk] using hst
  · simpa (disch := decide) only [q_pm, q_pn, tq_upk, tq_upj, tq_cpk] using hpm
  · simpa (disch := decide) only [q_si, tq_upk, tq_upj, tq_cpk] using hsi
  · simpa (disch := decide) only [q_ab, tq_upk, tq_upj, tq_cpk] using hab
  · simpa (disch := decide) only [q_sm, tq_upk, tq_upj, tq_cpk] using hsm
  · simpa (disch := decide) only [q_vo, tq_upk, tq_upj, tq_cpk] using hvo
  · simpa (disch := decide) only [q_vm, tq_upk, tq_upj, tq_cpk] using hvm
  · simpa (disch := decide) only [q_bi, tq_upk, tq_upj, tq_cpk] using hbi
  · simpa (disch := decide) only [q_lb, tq_upk, tq_upj, tq_cpk] using hlb
  · simpa (disch := decide) only [q_iv, tq_upk, tq_upj, tq_cpk] using hiv
  · simpa (disch := decide) only [q_od, tq_upk, tq_upj, tq_cpk] using hod
  · simpa (disch := decide) only [q_ol, tq_upk, tq_upj, tq_cpk] using hol
  · simpa (disch := decide) only [q_oi, tq_upk, tq_upj, tq_cpk] using hoi
  · simpa (disch := decide) only [q_fi, tq_upk, tq_upj, tq_cpk] using hfi
  · simpa (disch := decide) only [q_li, tq_upk, tq_upj, tq_cpk] using hli
  · simpa (disch := decide) only [q_ad, tq_upk, tq_upj, tq_cpk] using had
  · simpa (disch := decide) only [q_ro, tq_upk, tq_upj, tq_cpk] using hro
theorem RR_tape {c h w d pn P Sh V E A t r eb : Nat} {G : Nat → Nat → Nat → Nat} {C : Nat → Nat → Nat} {OL : Nat → List Nat} {N : tq_Nn} {S M : tq_St} (h0 : RR c h w d pn P Sh V E A t r eb G C OL N S M) {v : Int32} (ht : t < 120) : RR c h w d pn P Sh V E A (t + 1) r eb G C OL N (tq_up (tq_up S 41 0 t v) 3 0 1 (nI (t + 1))) (tq_up (tq_up M 64 0 61 (nI (t + 1))) 160 0 t v) := by
  obtain ⟨hsc, hss, har, hpl, hlg, hsh, hpe, hmo, hpr, hsr, hpa, hkn, hst, hpm, hsi, hab, hsm, hvo, hvm, hbi, hlb, hiv, hod, hol, hoi, hfi, hli, had, hro⟩ := h0
  refine ⟨?_, ?_, ?_, ?_, ?_, ?_, ?_, ?_, ?_, ?_, ?_, ?_, ?_, ?_, ?_, ?_, ?_, ?_, ?_, ?_, ?_, ?_, ?_, ?_, ?_, ?_, ?_, ?_, ?_⟩
  · obtain ⟨a1, a2, a3, a4, a5, a6, a7, a8, a9, b1, b2, b3, b4, b5, b6, b7, b8, b9, e1, e2⟩ := hsc
    refine ⟨?_, ?_, ?_, ?_, ?_, ?_, ?_, ?_, ?_, b1, b2, b3, b4, b5, b6, b7, b8, by omega, e1, e2⟩
    · simpa (disch := decide) only [tq_upk, tq_upj, tq_cpk] using a1
    · simpa (disch := decide) only [tq_upk, tq_upj, tq_cpk] using a2
    · simpa (disch := decide) only [tq_upk, tq_upj, tq_cpk] using a3
    · simpa (disch := decide) only [tq_upk, tq_upj, tq_cpk] using a4
    · simpa (disch := decide) only [tq_upk, tq_upj, tq_cpk] using a5
    · simpa (disch := decide) only [tq_upk, tq_upj, tq_cpk] using a6
    · simpa (disch := decide) only [tq_upk, tq_upj, tq_cpk] using a7
    · rw [tq_upk (by decide), tq_upe]
    · simpa (disch := decide) only [tq_upk, tq_upj, tq_cpk] using a9
  · obtain ⟨a1, a2, a3, a4, a5, a6, a7⟩ := hss
    refine ⟨?_, ?_, ?_, ?_, ?_, ?_, ?_⟩
    · simpa (disch := decide) only [tq_upk, tq_upj, tq_cpk] using a1
    · simpa (disch := decide) only [tq_upk, tq_upj, tq_cpk] using a2
    · simpa (disch := decide) only [tq_upk, tq_upj, tq_cpk] using a3
    · simpa (disch := decide) only [tq_upk, tq_upj, tq_cpk] using a4
    · rw [tq_upe, tq_upk (by decide), tq_upe]
    · simpa (disch := decide) only [tq_upk, tq_upj, tq_cpk] using a6
    · simpa (disch := decide) only [tq_upk, tq_upj, tq_cpk] using a7
  · obtain ⟨y1, y2, y3, y4, y5, y6, y7, y8, y9, y10, y11, y12, y13, y14, y15⟩ := har
    refine ⟨?_, ?_, ?_, ?_, ?_, ?_, ?_, ?_, ?_, ?_, ?_, ?_, ?_, ?_, ?_⟩
    · simpa (disch := decide) only [tq_upk, tq_upj, tq_cpk] using y1
    · simpa (disch := decide) only [tq_upk, tq_upj, tq_cpk] using y2
    · simpa (disch := decide) only [tq_upk, tq_upj, tq_cpk] using y3
    · simpa (disch := decide) only [tq_upk, tq_upj, tq_cpk] using y4
    · simpa (disch := decide) only [tq_upk, tq_upj, tq_cpk] using y5
    · simpa (disch := decide) only [tq_upk, tq_upj, tq_cpk] using y6
    · simpa (disch := decide) only [tq_upk, tq_upj, tq_cpk] using y7
    · simpa (disch := decide) only [tq_upk, tq_upj, tq_cpk] using y8
    · rw [tq_upk (by decide)]
      exact tp_up2 (by rw [tq_upk (by decide)]; exact y9)
    · simpa (disch := decide) only [tq_upk, tq_upj, tq_cpk] using y10
    · simpa (disch := decide) only [tq_upk, tq_upj, tq_cpk] using y11
    · simpa (disch := decide) only [tq_upk, tq_upj, tq_cpk] using y12
    · simpa (disch := decide) only [tq_upk, tq_upj, tq_cpk] using y13
    · simpa (disch := decide) only [tq_upk, tq_upj, tq_cpk] using y14
    · simpa (disch := decide) only [tq_upk, tq_upj, tq_cpk] using y15
  · simpa (disch := decide) only [q_pl, tq_upk, tq_upj, tq_cpk] using hpl
  · simpa (disch := decide) only [q_lg, tq_upk, tq_upj, tq_cpk] using hlg
  · simpa (disch := decide) only [q_sh, tq_upk, tq_upj, tq_cpk] using hsh
  · simpa (disch := decide) only [q_pe, tq_upk, tq_upj, tq_cpk] using hpe
  · simpa (disch := decide) only [q_mo, tq_upk, tq_upj, tq_cpk] using hmo
  · simpa (disch := decide) only [q_pr, tq_upk, tq_upj, tq_cpk] using hpr
  · simpa (disch := decide) only [q_sr, tq_upk, tq_upj, tq_cpk] using hsr
  · simpa (disch := decide) only [q_pa, q_pb, tq_upk, tq_upj, tq_cpk] using hpa
  · simpa (disch := decide) only [q_kn, tq_upk, tq_upj, tq_cpk] using hkn
  · simpa (disch := decide) only [q_st, tq_upk, tq_upj, tq_cpk] using hst
  · simpa (disch := decide) only [q_pm, q_pn, tq_upk, tq_upj, tq_cpk] using hpm
  · simpa (disch := decide) only [q_si, tq_upk, tq_upj, tq_cpk] using hsi
  · simpa (disch := decide) only [q_ab, tq_upk, tq_upj, tq_cpk] using hab
  · simpa (disch := decide) only [q_sm, tq_upk, tq_upj, tq_cpk] using hsm
  · simpa (disch := decide) only [q_vo, tq_upk, tq_upj, tq_cpk] using hvo
  · simpa (disch := decide) only [q_vm, tq_upk, tq_upj, tq_cpk] using hvm
  · simpa (disch := decide) only [q_bi, tq_upk, tq_upj, tq_cpk] using hbi
  · simpa (disch := decide) only [q_lb, tq_upk, tq_upj, tq_cpk] using hlb
  · simpa (disch := decide) only [q_iv, tq_upk, tq_upj, tq_cpk] using hiv
  · simpa (disch := decide) only [q_od, tq_upk, tq_upj, tq_cpk] using hod
  · simpa (disch := decide) only [q_ol, tq_upk, tq_upj, tq_cpk] using hol
  · simpa (disch := decide) only [q_oi, tq_upk, tq_upj, tq_cpk] using hoi
  · simpa (disch := decide) only [q_fi, tq_upk, tq_upj, tq_cpk] using hfi
  · simpa (disch := decide) only [q_li, tq_upk, tq_upj, tq_cpk] using hli
  · simpa (disch := decide) only [q_ad, tq_upk, tq_upj, tq_cpk] using had
  · simpa (disch := decide) only [q_ro, tq_upk, tq_upj, tq_cpk] using hro
theorem RR_tape0 {c h w d pn P Sh V E A t r eb : Nat} {G : Nat → Nat → Nat → Nat} {C : Nat → Nat → Nat} {OL : Nat → List Nat} {N : tq_Nn} {S M : tq_St} (h0 : RR c h w d pn P Sh V E A t r eb G C OL N S M)  : RR c h w d pn P Sh V E A 0 r eb G C OL N (tq_up S 3 0 1 0) (tq_up M 64 0 61 0) := by
  obtain ⟨hsc, hss, har, hpl, hlg, hsh, hpe, hmo, hpr, hsr, hpa, hkn, hst, hpm, hsi, hab, hsm, hvo, hvm, hbi, hlb, hiv, hod, hol, hoi, hfi, hli, had, hro⟩ := h0
  refine ⟨?_, ?_, ?_, ?_, ?_, ?_, ?_, ?_, ?_, ?_, ?_, ?_, ?_, ?_, ?_, ?_, ?_, ?_, ?_, ?_, ?_, ?_, ?_, ?_, ?_, ?_, ?_, ?_, ?_⟩
  · obtain ⟨a1, a2, a3, a4, a5, a6, a7, a8, a9, b1, b2, b3, b4, b5, b6, b7, b8, b9, e1, e2⟩ := hsc
    refine ⟨?_, ?_, ?_, ?_, ?_, ?_, ?_, ?_, ?_, b1, b2, b3, b4, b5, b6, b7, b8, by omega, e1, e2⟩
    · simpa (disch := decide) only [tq_upk, tq_upj, tq_cpk] using a1
    · simpa (disch := decide) only [tq_upk, tq_upj, tq_cpk] using a2
    · simpa (disch := decide) only [tq_upk, tq_upj, tq_cpk] using a3
    · simpa (disch := decide) only [tq_upk, tq_upj, tq_cpk] using a4
    · simpa (disch := decide) only [tq_upk, tq_upj, tq_cpk] using a5
    · simpa (disch := decide) only [tq_upk, tq_upj, tq_cpk] using a6
    · simpa (disch := decide) only [tq_upk, tq_upj, tq_cpk] using a7
    · rw [tq_upe]; rfl
    · simpa (disch := decide) only [tq_upk, tq_upj, tq_cpk] using a9
  · obtain ⟨a1, a2, a3, a4, a5, a6, a7⟩ := hss
    refine ⟨?_, ?_, ?_, ?_, ?_, ?_, ?_⟩
    · simpa (disch := decide) only [tq_upk, tq_upj, tq_cpk] using a1
    · simpa (disch := decide) only [tq_upk, tq_upj, tq_cpk] using a2
    · simpa (disch := decide) only [tq_upk, tq_upj, tq_cpk] using a3
    · simpa (disch := decide) only [tq_upk, tq_upj, tq_cpk] using a4
    · rw [tq_upe, tq_upe]
    · simpa (disch := decide) only [tq_upk, tq_upj, tq_cpk] using a6
    · simpa (disch := decide) only [tq_upk, tq_upj, tq_cpk] using a7
  · simpa (disch := decide) only [q_ar, tq_upk, tq_upj, tq_cpk] using har
  · simpa (disch := decide) only [q_pl, tq_upk, tq_upj, tq_cpk] using hpl
  · simpa (disch := decide) only [q_lg, tq_upk, tq_upj, tq_cpk] using hlg
  · simpa (disch := decide) only [q_sh, tq_upk, tq_upj, tq_cpk] using hsh
  · simpa (disch := decide) only [q_pe, tq_upk, tq_upj, tq_cpk] using hpe
  · simpa (disch := decide) only [q_mo, tq_upk, tq_upj, tq_cpk] using hmo
  · simpa (disch := decide) only [q_pr, tq_upk, tq_upj, tq_cpk] using hpr
  · simpa (disch := decide) only [q_sr, tq_upk, tq_upj, tq_cpk] using hsr
  · simpa (disch := decide) only [q_pa, q_pb, tq_upk, tq_upj, tq_cpk] using hpa
  · simpa (disch := decide) only [q_kn, tq_upk, tq_upj, tq_cpk] using hkn
  · simpa (disch := decide) only [q_st, tq_upk, tq_upj, tq_cpk] using hst
  · simpa (disch := decide) only [q_pm, q_pn, tq_upk, tq_upj, tq_cpk] using hpm
  · simpa (disch := decide) only [q_si, tq_upk, tq_upj, tq_cpk] using hsi
  · simpa (disch := decide) only [q_ab, tq_upk, tq_upj, tq_cpk] using hab
  · simpa (disch := decide) only [q_sm, tq_upk, tq_upj, tq_cpk] using hsm
  · simpa (disch := decide) only [q_vo, tq_upk, tq_upj, tq_cpk] using hvo
  · simpa (disch := decide) only [q_vm, tq_upk, tq_upj, tq_cpk] using hvm
  · simpa (disch := decide) only [q_bi, tq_upk, tq_upj, tq_cpk] using hbi
  · simpa (disch := decide) only [q_lb, tq_upk, tq_upj, tq_cpk] using hlb
  · simpa (disch := decide) only [q_iv, tq_upk, tq_upj, tq_cpk] using hiv
  · simpa (disch := decide) only [q_od, tq_upk, tq_upj, tq_cpk] using hod
  · simpa (disch := decide) only [q_ol, tq_upk, tq_upj, tq_cpk] using hol
  · simpa (disch := decide) only [q_oi, tq_upk, tq_upj, tq_cpk] using hoi
  · simpa (disch := decide) only [q_fi, tq_upk, tq_upj, tq_cpk] using hfi
  · simpa (disch := decide) only [q_li, tq_upk, tq_upj, tq_cpk] using hli
  · simpa (disch := decide) only [q_ad, tq_upk, tq_upj, tq_cpk] using had
  · simpa (disch := decide) only [q_ro, tq_upk, tq_upj, tq_cpk] using hro
