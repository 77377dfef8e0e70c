/-! pure: act, taken -/
theorem RR_tr {c h w d pn P Sh V E A t r eb : Nat} {G : Nat → Nat → Nat → Nat} {C : Nat → Nat → Nat} {OL : Nat → List Nat} {N : tq_Nn} {S M : tq_St} (h0 : RR c h w d pn P Sh V E A t r eb G C OL N S M) {r1 : Nat} (hr : r1 ≤ 100) : RR c h w d pn P Sh V E A t r1 eb G C OL N (tq_up S 5 0 1 (nI r1)) (tq_up M 64 0 66 (nI r1)) := by
  obtain ⟨hsc, hss, har, hpl, hlg, hsh, hpe, hmo, hpr, hsr, hpa, hkn, hst, hpm, hsi, hab, hsm, hvo, hvm, hbi, hlb, hiv, hod, hol, hoi, hfi, hli, had, hro⟩ := h0
  refine ⟨?_, ?_, ?_, ?_, ?_, ?_, ?_, ?_, ?_, ?_, ?_, ?_, ?_, ?_, ?_, ?_, ?_, ?_, ?_, ?_, ?_, ?_, ?_, ?_, ?_, ?_, ?_, ?_, ?_⟩
  · obtain ⟨a1, a2, a3, a4, a5, a6, a7, a8, a9, b1, b2, b3, b4, b5, b6, b7, b8, b9, e1, e2⟩ := hsc
    refine ⟨?_, ?_, ?_, ?_, ?_, ?_, ?_, ?_, ?_, b1, b2, b3, b4, b5, b6, b7, b8, b9, by omega, e2⟩
    · rw [tq_upj (by decide)]; exact a1
    · rw [tq_upj (by decide)]; exact a2
    · rw [tq_upj (by decide)]; exact a3
    · rw [tq_upj (by decide)]; exact a4
    · rw [tq_upj (by decide)]; exact a5
    · rw [tq_upj (by decide)]; exact a6
    · rw [tq_upj (by decide)]; exact a7
    · rw [tq_upj (by decide)]; exact a8
    · rw [tq_upe]
  · obtain ⟨a1, a2, a3, a4, a5, a6, a7⟩ := hss
    refine ⟨?_, ?_, ?_, ?_, ?_, ?_, ?_⟩
    · simpa (disch := decide) only [tq_upk, tq_upj, tq_cpk] using a1
    · simpa (disch := decide) only [tq_upk, tq_upj, tq_cpk] using a2
    · simpa (disch := decide) only [tq_upk, tq_upj, tq_cpk] using a3
    · simpa (disch := decide) only [tq_upk, tq_upj, tq_cpk] using a4
    · simpa (disch := decide) only [tq_upk, tq_upj, tq_cpk] using a5
    · simpa (disch := decide) only [tq_upk, tq_upj, tq_cpk] using a6
    · rw [tq_upe, tq_upe]
  · simpa (disch := decide) only [q_ar, tq_upk, tq_upj, tq_cpk] using har
  · simpa (disch := decide) only [q_pl, tq_upk, tq_upj, tq_cpk] using hpl
  · simpa (disch := decide) only [q_lg, tq_upk, tq_upj, tq_cpk] using hlg
  · simpa (disch := decide) only [q_sh, tq_upk, tq_upj, tq_cpk] using hsh
  · simpa (disch := decide) only [q_pe, tq_upk, tq_upj, tq_cpk] using hpe
  · simpa (disch := decide) only [q_mo, tq_upk, tq_upj, tq_cpk] using hmo
  · simpa (disch := decide) only [q_pr, tq_upk, tq_upj, tq_cpk] using hpr
  · simpa (disch := decide) only [q_sr, tq_upk, tq_upj, tq_cpk] using hsr
  · simpa (disch := decide) only [q_pa, q_pb, tq_upk, tq_upj, tq_cpk] using hpa
  · simpa (disch := decide) only [q_kn, tq_upk, tq_upj, tq_cpk] using hkn
  · simpa (disch := decide) only [q_st, tq_upk, tq_upj, tq_cpk] using hst
  · simpa (disch := decide) only [q_pm, q_pn, tq_upk, tq_upj, tq_cpk] using hpm
  · simpa (disch := decide) only [q_si, tq_upk, tq_upj, tq_cpk] using hsi
  · simpa (disch := decide) only [q_ab, tq_upk, tq_upj, tq_cpk] using hab
  · simpa (disch := decide) only [q_sm, tq_upk, tq_upj, tq_cpk] using hsm
  · simpa (disch := decide) only [q_vo, tq_upk, tq_upj, tq_cpk] using hvo
  · simpa (disch := decide) only [q_vm, tq_upk, tq_upj, tq_cpk] using hvm
  · simpa (disch := decide) only [q_bi, tq_upk, tq_upj, tq_cpk] using hbi
  · simpa (disch := decide) only [q_lb, tq_upk, tq_upj, tq_cpk] using hlb
  · simpa (disch := decide) only [q_iv, tq_upk, tq_upj, tq_cpk] using hiv
  · simpa (disch := decide) only [q_od, tq_upk, tq_upj, tq_cpk] using hod
  · simpa (disch := decide) only [q_ol, tq_upk, tq_upj, tq_cpk] using hol
  · simpa (disch := decide) only [q_oi, tq_upk, tq_upj, tq_cpk] using hoi
  · simpa (disch := decide) only [q_fi, tq_upk, tq_upj, tq_cpk] using hfi
  · simpa (disch := decide) only [q_li, tq_upk, tq_upj, tq_cpk] using hli
  · simpa (disch := decide) only [q_ad, tq_upk, tq_upj, tq_cpk] using had
  · simpa (disch := decide) only [q_ro, tq_upk, tq_upj, tq_cpk] using hro
theorem RR_tb {c h w d pn P Sh V E A t r eb : Nat} {G : Nat → Nat → Nat → Nat} {C : Nat → Nat → Nat} {OL : Nat → List Nat} {N : tq_Nn} {S M : tq_St} (h0 : RR c h w d pn P Sh V E A t r eb G C OL N S M) {i : Nat} {v : Int32} : RR c h w d pn P Sh V E A t r eb G C OL N (tq_up S 48 0 i v) (tq_up M 165 0 i v) := by
  obtain ⟨hsc, hss, har, hpl, hlg, hsh, hpe, hmo, hpr, hsr, hpa, hkn, hst, hpm, hsi, hab, hsm, hvo, hvm, hbi, hlb, hiv, hod, hol, hoi, hfi, hli, had, hro⟩ := h0
  refine ⟨?_, ?_, ?_, ?_, ?_, ?_, ?_, ?_, ?_, ?_, ?_, ?_, ?_, ?_, ?_, ?_, ?_, ?_, ?_, ?_, ?_, ?_, ?_, ?_, ?_, ?_, ?_, ?_, ?_⟩
  · simpa (disch := decide) only [q_sc, tq_upk, tq_upj, tq_cpk] using hsc
  · simpa (disch := decide) only [q_ss, tq_upk, tq_upj, tq_cpk] using hss
  · obtain ⟨y1, y2, y3, y4, y5, y6, y7, y8, y9, y10, y11, y12, y13, y14, y15⟩ := har
    refine ⟨?_, ?_, ?_, ?_, ?_, ?_, ?_, ?_, ?_, ?_, ?_, ?_, ?_, ?_, ?_⟩
    · simpa (disch := decide) only [tq_upk, tq_upj, tq_cpk] using y1
    · simpa (disch := decide) only [tq_upk, tq_upj, tq_cpk] using y2
    · simpa (disch := decide) only [tq_upk, tq_upj, tq_cpk] using y3
    · simpa (disch := decide) only [tq_upk, tq_upj, tq_cpk] using y4
    · simpa (disch := decide) only [tq_upk, tq_upj, tq_cpk] using y5
    · simpa (disch := decide) only [tq_upk, tq_upj, tq_cpk] using y6
    · simpa (disch := decide) only [tq_upk, tq_upj, tq_cpk] using y7
    · simpa (disch := decide) only [tq_upk, tq_upj, tq_cpk] using y8
    · simpa (disch := decide) only [tq_upk, tq_upj, tq_cpk] using y9
    · simpa (disch := decide) only [tq_upk, tq_upj, tq_cpk] using y10
    · simpa (disch := decide) only [tq_upk, tq_upj, tq_cpk] using y11
    · simpa (disch := decide) only [tq_upk, tq_upj, tq_cpk] using y12
    · simpa (disch := decide) only [tq_upk, tq_upj, tq_cpk] using y13
    · exact tp_up2 y14
    · simpa (disch := decide) only [tq_upk, tq_upj, tq_cpk] using y15
  · simpa (disch := decide) only [q_pl, tq_upk, tq_upj, tq_cpk] using hpl
  · simpa (disch := decide) only [q_lg, tq_upk, tq_upj, tq_cpk] using hlg
  · simpa (disch := decide) only [q_sh, tq_upk, tq_upj, tq_cpk] using hsh
  · simpa (disch := decide) only [q_pe, tq_upk, tq_upj, tq_cpk] using hpe
  · simpa (disch := decide) only [q_mo, tq_upk, tq_upj, tq_cpk] using hmo
  · simpa (disch := decide) only [q_pr, tq_upk, tq_upj, tq_cpk] using hpr
  · simpa (disch := decide) only [q_sr, tq_upk, tq_upj, tq_cpk] using hsr
  · simpa (disch := decide) only [q_pa, q_pb, tq_upk, tq_upj, tq_cpk] using hpa
  · simpa (disch := decide) only [q_kn, tq_upk, tq_upj, tq_cpk] using hkn
  · simpa (disch := decide) only [q_st, tq_upk, tq_upj, tq_cpk] using hst
  · simpa (disch := decide) only [q_pm, q_pn, tq_upk, tq_upj, tq_cpk] using hpm
  · simpa (disch := decide) only [q_si, tq_upk, tq_upj, tq_cpk] using hsi
  · simpa (disch := decide) only [q_ab, tq_upk, tq_upj, tq_cpk] using hab
  · simpa (disch := decide) only [q_sm, tq_upk, tq_upj, tq_cpk] using hsm
  · simpa (disch := decide) only [q_vo, tq_upk, tq_upj, tq_cpk] using hvo
  · simpa (disch := decide) only [q_vm, tq_upk, tq_upj, tq_cpk] using hvm
  · simpa (disch := decide) only [q_bi, tq_upk, tq_upj, tq_cpk] using hbi
  · simpa (disch := decide) only [q_lb, tq_upk, tq_upj, tq_cpk] using hlb
  · simpa (disch := decide) only [q_iv, tq_upk, tq_upj, tq_cpk] using hiv
  · simpa (disch := decide) only [q_od, tq_upk, tq_upj, tq_cpk] using hod
  · simpa (disch := decide) only [q_ol, tq_upk, tq_upj, tq_cpk] using hol
  · simpa (disch := decide) only [q_oi, tq_upk, tq_upj, tq_cpk] using hoi
  · simpa (disch := decide) only [q_fi, tq_upk, tq_upj, tq_cpk] using hfi
  · simpa (disch := decide) only [q_li, tq_upk, tq_upj, tq_cpk] using hli
  · simpa (disch := decide) only [q_ad, tq_upk, tq_upj, tq_cpk] using had
  · simpa (disch := decide) only [q_ro, tq_upk, tq_upj, tq_cpk] using hro
theorem RR_beg {c h w d pn P Sh V E A t r eb : Nat} {G : Nat → Nat → Nat → Nat} {C : Nat → Nat → Nat} {OL : Nat → List Nat} {N : tq_Nn} {S M : tq_St} {b : Int32} (h0 : RR c h w d pn P Sh V E A t r eb G C OL N S M) (hr : r + 1 ≤ 100) : RR c h w d pn P Sh V E A t (r + 1) eb G C OL N (tbS S b) (tbM M b) := by
  have e1 : M 64 0 66 = nI r := h0.1.2.2.2.2.2.2.2.2.1
  have e2 : S 5 0 1 = M 64 0 66 := h0.2.1.2.2.2.2.2.2
  unfold tbS tbM
  rw [e2, e1, nI_1]
  by_cases q : 20 ≤ nI r
  · rw [if_pos q, if_pos q]
    exact RR_tr h0 hr
  · rw [if_neg q, if_neg q]
    exact RR_tr (RR_tb h0) hr
theorem RR_begs {c h w d pn P Sh V E A t eb : Nat} {G : Nat → Nat → Nat → Nat} {C : Nat → Nat → Nat} {OL : Nat → List Nat} {N : tq_Nn} : ∀ {l : List Int32} {r : Nat} {S M : tq_St}, RR c h w d pn P Sh V E A t r eb G C OL N S M → r + l.length ≤ 100 → RR c h w d pn P Sh V E A t (r + l.length) eb G C OL N (tbsS l S) (tbsM l M)
  | [], _, _, _, h, _ => h
  | b :: l, r, S, M, h, hr => by
    rw [List.length_cons] at hr
    have := RR_begs (l := l) (RR_beg (b := b) h (by omega)) (by omega)
    rw [show r + 1 + l.length = r + (b :: l).length by rw [List.length_cons]; omega] at this
    exact this
theorem tp_unS {N : tq_Nn} {post : tq_St → Int32 → Prop} {S : tq_St} {i : Int32} : ∀ (m : Nat), True := fun _ => trivial
theorem ut_1_0 {N : tq_Nn} {post : tq_St → Int32 → Prop} {S : tq_St} (h : post S 1) : wpX11_isUnder N post S (nI 1) (nI 0) := by
  refine ⟨2, ?_⟩
  unfold wbX11_isUnder_4
  repeat' (with_reducible first | refine tp_cT (by decide) ?_ | refine tp_cF (by decide) ?_ | refine tp_dT (by decide) ?_ | refine tp_dF (by decide) ?_ | refine And.intro (by first | decide | (unfold vp_in; decide)) ?_ | fail)
  rw [show tq_above.getD (nI 1).toNatClampNeg 0 = nI 0 from by decide]
  unfold wbX11_isUnder_4
  repeat' (with_reducible first | refine tp_cT (by decide) ?_ | refine tp_cF (by decide) ?_ | refine tp_dT (by decide) ?_ | refine tp_dF (by decide) ?_ | refine And.intro (by first | decide | (unfold vp_in; decide)) ?_ | fail)
  exact h
theorem tt_1_0 {post : tq_St → Int32 → Prop} {M : tq_St} {n : Nat} (hn : n < 150) (h : post M (M 110 0 n)) : ∃ nq, wbX12_taken_31 post nq M (nI n) (nI 0) (nI 1) := by
  have nc : (nI n).toNatClampNeg = n := nI_clamp (by omega)
  refine ⟨2, ?_⟩
  unfold wbX12_taken_31
  repeat' (with_reducible first | refine tp_cT (by decide) ?_ | refine tp_cF (by decide) ?_ | refine tp_dT (by decide) ?_ | refine tp_dF (by decide) ?_ | refine And.intro (by first | decide | (unfold vp_in; decide)) ?_ | fail)
  refine ab_1 ?_
  unfold wbX12_taken_31
  repeat' (with_reducible first | refine tp_cT (by decide) ?_ | refine tp_cF (by decide) ?_ | refine tp_dT (by decide) ?_ | refine tp_dF (by decide) ?_ | refine And.intro (by first | decide | (unfold vp_in; decide)) ?_ | fail)
  refine ⟨vp_in_nI hn (by decide), ?_⟩
  rw [nc]
  exact h
theorem ut_1_1 {N : tq_Nn} {post : tq_St → Int32 → Prop} {S : tq_St} (h : post S 1) : wpX11_isUnder N post S (nI 1) (nI 1) := by
  refine ⟨1, ?_⟩
  unfold wbX11_isUnder_4
  repeat' (with_reducible first | refine tp_cT (by decide) ?_ | refine tp_cF (by decide) ?_ | refine tp_dT (by decide) ?_ | refine tp_dF (by decide) ?_ | refine And.intro (by first | decide | (unfold vp_in; decide)) ?_ | fail)
  exact h
theorem tt_1_1 {post : tq_St → Int32 → Prop} {M : tq_St} {n : Nat} (hn : n < 150) (h : post M (M 110 0 n)) : ∃ nq, wbX12_taken_31 post nq M (nI n) (nI 1) (nI 1) := by
  have nc : (nI n).toNatClampNeg = n := nI_clamp (by omega)
  refine ⟨1, ?_⟩
  unfold wbX12_taken_31
  repeat' (with_reducible first | refine tp_cT (by decide) ?_ | refine tp_cF (by decide) ?_ | refine tp_dT (by decide) ?_ | refine tp_dF (by decide) ?_ | refine And.intro (by first | decide | (unfold vp_in; decide)) ?_ | fail)
  refine ⟨vp_in_nI hn (by decide), ?_⟩
  rw [nc]
  exact h
theorem ut_1_2 {N : tq_Nn} {post : tq_St → Int32 → Prop} {S : tq_St} (h : post S 0) : wpX11_isUnder N post S (nI 1) (nI 2) := by
  refine ⟨3, ?_⟩
  unfold wbX11_isUnder_4
  repeat' (with_reducible first | refine tp_cT (by decide) ?_ | refine tp_cF (by decide) ?_ | refine tp_dT (by decide) ?_ | refine tp_dF (by decide) ?_ | refine And.intro (by first | decide | (unfold vp_in; decide)) ?_ | fail)
  rw [show tq_above.getD (nI 1).toNatClampNeg 0 = nI 0 from by decide]
  unfold wbX11_isUnder_4
  repeat' (with_reducible first | refine tp_cT (by decide) ?_ | refine tp_cF (by decide) ?_ | refine tp_dT (by decide) ?_ | refine tp_dF (by decide) ?_ | refine And.intro (by first | decide | (unfold vp_in; decide)) ?_ | fail)
  rw [show tq_above.getD (nI 0).toNatClampNeg 0 = (-1) from by decide]
  unfold wbX11_isUnder_4
  repeat' (with_reducible first | refine tp_cT (by decide) ?_ | refine tp_cF (by decide) ?_ | refine tp_dT (by decide) ?_ | refine tp_dF (by decide) ?_ | refine And.intro (by first | decide | (unfold vp_in; decide)) ?_ | fail)
  exact h
theorem tt_1_2 {post : tq_St → Int32 → Prop} {M : tq_St} {n : Nat} (hn : n < 150) (h : post M ((-13))) : ∃ nq, wbX12_taken_31 post nq M (nI n) (nI 2) (nI 1) := by
  have nc : (nI n).toNatClampNeg = n := nI_clamp (by omega)
  refine ⟨3, ?_⟩
  unfold wbX12_taken_31
  repeat' (with_reducible first | refine tp_cT (by decide) ?_ | refine tp_cF (by decide) ?_ | refine tp_dT (by decide) ?_ | refine tp_dF (by decide) ?_ | refine And.intro (by first | decide | (unfold vp_in; decide)) ?_ | fail)
  refine ab_1 ?_
  unfold wbX12_taken_31
  repeat' (with_reducible first | refine tp_cT (by decide) ?_ | refine tp_cF (by decide) ?_ | refine tp_dT (by decide) ?_ | refine tp_dF (by decide) ?_ | refine And.intro (by first | decide | (unfold vp_in; decide)) ?_ | fail)
  refine ab_0 ?_
  unfold wbX12_taken_31
  repeat' (with_reducible first | refine tp_cT (by decide) ?_ | refine tp_cF (by decide) ?_ | refine tp_dT (by decide) ?_ | refine tp_dF (by decide) ?_ | refine And.intro (by first | decide | (unfold vp_in; decide)) ?_ | fail)
  exact h
theorem ut_1_3 {N : tq_Nn} {post : tq_St → Int32 → Prop} {S : tq_St} (h : post S 0) : wpX11_isUnder N post S (nI 1) (nI 3) := by
  refine ⟨3, ?_⟩
  unfold wbX11_isUnder_4
  repeat' (with_reducible first | refine tp_cT (by decide) ?_ | refine tp_cF (by decide) ?_ | refine tp_dT (by decide) ?_ | refine tp_dF (by decide) ?_ | refine And.intro (by first | decide | (unfold vp_in; decide)) ?_ | fail)
  rw [show tq_above.getD (nI 1).toNatClampNeg 0 = nI 0 from by decide]
  unfold wbX11_isUnder_4
  repeat' (with_reducible first | refine tp_cT (by decide) ?_ | refine tp_cF (by decide) ?_ | refine tp_dT (by decide) ?_ | refine tp_dF (by decide) ?_ | refine And.intro (by first | decide | (unfold vp_in; decide)) ?_ | fail)
  rw [show tq_above.getD (nI 0).toNatClampNeg 0 = (-1) from by decide]
  unfold wbX11_isUnder_4
  repeat' (with_reducible first | refine tp_cT (by decide) ?_ | refine tp_cF (by decide) ?_ | refine tp_dT (by decide) ?_ | refine tp_dF (by decide) ?_ | refine And.intro (by first | decide | (unfold vp_in; decide)) ?_ | fail)
  exact h
theorem tt_1_3 {post : tq_St → Int32 → Prop} {M : tq_St} {n : Nat} (hn : n < 150) (h : post M ((-13))) : ∃ nq, wbX12_taken_31 post nq M (nI n) (nI 3) (nI 1) := by
  have nc : (nI n).toNatClampNeg = n := nI_clamp (by omega)
  refine ⟨3, ?_⟩
  unfold wbX12_taken_31
  repeat' (with_reducible first | refine tp_cT (by decide) ?_ | refine tp_cF (by decide) ?_ | refine tp_dT (by decide) ?_ | refine tp_dF (by decide) ?_ | refine And.intro (by first | decide | (unfold vp_in; decide)) ?_ | fail)
  refine ab_1 ?_
  unfold wbX12_taken_31
  repeat' (with_reducible first | refine tp_cT (by decide) ?_ | refine tp_cF (by decide) ?_ | refine tp_dT (by decide) ?_ | refine tp_dF (by decide) ?_ | refine And.intro (by first | decide | (unfold vp_in; decide)) ?_ | fail)
  refine ab_0 ?_
  unfold wbX12_taken_31
  repeat' (with_reducible first | refine tp_cT (by decide) ?_ | refine tp_cF (by decide) ?_ | refine tp_dT (by decide) ?_ | refine tp_dF (by decide) ?_ | refine And.intro (by first | decide | (unfold vp_in; decide)) ?_ | fail)
  exact h
theorem ut_1_4 {N : tq_Nn} {post : tq_St → Int32 → Prop} {S : tq_St} (h : post S 0) : wpX11_isUnder N post S (nI 1) (nI 4) := by
  refine ⟨3, ?_⟩
  unfold wbX11_isUnder_4
  repeat' (with_reducible first | refine tp_cT (by decide) ?_ | refine tp_cF (by decide) ?_ | refine tp_dT (by decide) ?_ | refine tp_dF (by decide) ?_ | refine And.intro (by first | decide | (unfold vp_in; decide)) ?_ | fail)
  rw [show tq_above.getD (nI 1).toNatClampNeg 0 = nI 0 from by decide]
  unfold wbX11_isUnder_4
  repeat' (with_reducible first | refine tp_cT (by decide) ?_ | refine tp_cF (by decide) ?_ | refine tp_dT (by decide) ?_ | refine tp_dF (by decide) ?_ | refine And.intro (by first | decide | (unfold vp_in; decide)) ?_ | fail)
  rw [show tq_above.getD (nI 0).toNatClampNeg 0 = (-1) from by decide]
  unfold wbX11_isUnder_4
  repeat' (with_reducible first | refine tp_cT (by decide) ?_ | refine tp_cF (by decide) ?_ | refine tp_dT (by decide) ?_ | refine tp_dF (by decide) ?_ | refine And.intro (by first | decide | (unfold vp_in; decide)) ?_ | fail)
  exact h
theorem tt_1_4 {post : tq_St → Int32 → Prop} {M : tq_St} {n : Nat} (hn : n < 150) (h : post M ((-13))) : ∃ nq, wbX12_taken_31 post nq M (nI n) (nI 4) (nI 1) := by
  have nc : (nI n).toNatClampNeg = n := nI_clamp (by omega)
  refine ⟨3, ?_⟩
  unfold wbX12_taken_31
  repeat' (with_reducible first | refine tp_cT (by decide) ?_ | refine tp_cF (by decide) ?_ | refine tp_dT (by decide) ?_ | refine tp_dF (by decide) ?_ | refine And.intro (by first | decide | (unfold vp_in; decide)) ?_ | fail)
  refine ab_1 ?_
  unfold wbX12_taken_31
  repeat' (with_reducible first | refine tp_cT (by decide) ?_ | refine tp_cF (by decide) ?_ | refine tp_dT (by decide) ?_ | refine tp_dF (by decide) ?_ | refine And.intro (by first | decide | (unfold vp_in; decide)) ?_ | fail)
  refine ab_0 ?_
  unfold wbX12_taken_31
  repeat' (with_reducible first | refine tp_cT (by decide) ?_ | refine tp_cF (by decide) ?_ | refine tp_dT (by decide) ?_ | refine tp_dF (by decide) ?_ | refine And.intro (by first | decide | (unfold vp_in; decide)) ?_ | fail)
  exact h
theorem ut_1_5 {N : tq_Nn} {post : tq_St → Int32 → Prop} {S : tq_St} (h : post S 0) : wpX11_isUnder N post S (nI 1) (nI 5) := by
  refine ⟨3, ?_⟩
  unfold wbX11_isUnder_4
  repeat' (with_reducible first | refine tp_cT (by decide) ?_ | refine tp_cF (by decide) ?_ | refine tp_dT (by decide) ?_ | refine tp_dF (by decide) ?_ | refine And.intro (by first | decide | (unfold vp_in; decide)) ?_ | fail)
  rw [show tq_above.getD (nI 1).toNatClampNeg 0 = nI 0 from by decide]
  unfold wbX11_isUnder_4
  repeat' (with_reducible first | refine tp_cT (by decide) ?_ | refine tp_cF (by decide) ?_ | refine tp_dT (by decide) ?_ | refine tp_dF (by decide) ?_ | refine And.intro (by first | decide | (unfold vp_in; decide)) ?_ | fail)
  rw [show tq_above.getD (nI 0).toNatClampNeg 0 = (-1) from by decide]
  unfold wbX11_isUnder_4
  repeat' (with_reducible first | refine tp_cT (by decide) ?_ | refine tp_cF (by decide) ?_ | refine tp_dT (by decide) ?_ | refine tp_dF (by decide) ?_ | refine And.intro (by first | decide | (unfold vp_in; decide)) ?_ | fail)
  exact h
theorem tt_1_5 {post : tq_St → Int32 → Prop} {M : tq_St} {n : Nat} (hn : n < 150) (h : post M ((-13))) : ∃ nq, wbX12_taken_31 post nq M (nI n) (nI 5) (nI 1) := by
  have nc : (nI n).toNatClampNeg = n := nI_clamp (by omega)
  refine ⟨3, ?_⟩
  unfold wbX12_taken_31
  repeat' (with_reducible first | refine tp_cT (by decide) ?_ | refine tp_cF (by decide) ?_ | refine tp_dT (by decide) ?_ | refine tp_dF (by decide) ?_ | refine And.intro (by first | decide | (unfold vp_in; decide)) ?_ | fail)
  refine ab_1 ?_
  unfold wbX12_taken_31
  repeat' (with_reducible first | refine tp_cT (by decide) ?_ | refine tp_cF (by decide) ?_ | refine tp_dT (by decide) ?_ | refine tp_dF (by decide) ?_ | refine And.intro (by first | decide | (unfold vp_in; decide)) ?_ | fail)
  refine ab_0 ?_
  unfold wbX12_taken_31
  repeat' (with_reducible first | refine tp_cT (by decide) ?_ | refine tp_cF (by decide) ?_ | refine tp_dT (by decide) ?_ | refine tp_dF (by decide) ?_ | refine And.intro (by first | decide | (unfold vp_in; decide)) ?_ | fail)
  exact h
theorem ut_1_6 {N : tq_Nn} {post : tq_St → Int32 → Prop} {S : tq_St} (h : post S 0) : wpX11_isUnder N post S (nI 1) (nI 6) := by
  refine ⟨3, ?_⟩
  unfold wbX11_isUnder_4
  repeat' (with_reducible first | refine tp_cT (by decide) ?_ | refine tp_cF (by decide) ?_ | refine tp_dT (by decide) ?_ | refine tp_dF (by decide) ?_ | refine And.intro (by first | decide | (unfold vp_in; decide)) ?_ | fail)
  rw [show tq_above.getD (nI 1).toNatClampNeg 0 = nI 0 from by decide]
  unfold wbX11_isUnder_4
  repeat' (with_reducible first | refine tp_cT (by decide) ?_ | refine tp_cF (by decide) ?_ | refine tp_dT (by decide) ?_ | refine tp_dF (by decide) ?_ | refine And.intro (by first | decide | (unfold vp_in; decide)) ?_ | fail)
  rw [show tq_above.getD (nI 0).toNatClampNeg 0 = (-1) from by decide]
  unfold wbX11_isUnder_4
  repeat' (with_reducible first | refine tp_cT (by decide) ?_ | refine tp_cF (by decide) ?_ | refine tp_dT (by decide) ?_ | refine tp_dF (by decide) ?_ | refine And.intro (by first | decide | (unfold vp_in; decide)) ?_ | fail)
  exact h
theorem tt_1_6 {post : tq_St → Int32 → Prop} {M : tq_St} {n : Nat} (hn : n < 150) (h : post M ((-13))) : ∃ nq, wbX12_taken_31 post nq M (nI n) (nI 6) (nI 1) := by
  have nc : (nI n).toNatClampNeg = n := nI_clamp (by omega)
  refine ⟨3, ?_⟩
  unfold wbX12_taken_31
  repeat' (with_reducible first | refine tp_cT (by decide) ?_ | refine tp_cF (by decide) ?_ | refine tp_dT (by decide) ?_ | refine tp_dF (by decide) ?_ | refine And.intro (by first | decide | (unfold vp_in; decide)) ?_ | fail)
  refine ab_1 ?_
  unfold wbX12_taken_31
  repeat' (with_reducible first | refine tp_cT (by decide) ?_ | refine tp_cF (by decide) ?_ | refine tp_dT (by decide) ?_ | refine tp_dF (by decide) ?_ | refine And.intro (by first | decide | (unfold vp_in; decide)) ?_ | fail)
  refine ab_0 ?_
  unfold wbX12_taken_31
  repeat' (with_reducible first | refine tp_cT (by decide) ?_ | refine tp_cF (by decide) ?_ | refine tp_dT (by decide) ?_ | refine tp_dF (by decide) ?_ | refine And.intro (by first | decide | (unfold vp_in; decide)) ?_ | fail)
  exact h
theorem ut_2_0 {N : tq_Nn} {post : tq_St → Int32 → Prop} {S : tq_St} (h : post S 1) : wpX11_isUnder N post S (nI 2) (nI 0) := by
  refine ⟨3, ?_⟩
  unfold wbX11_isUnder_4
  repeat' (with_reducible first | refine tp_cT (by decide) ?_ | refine tp_cF (by decide) ?_ | refine tp_dT (by decide) ?_ | refine tp_dF (by decide) ?_ | refine And.intro (by first | decide | (unfold vp_in; decide)) ?_ | fail)
  rw [show tq_above.getD (nI 2).toNatClampNeg 0 = nI 1 from by decide]
  unfold wbX11_isUnder_4
  repeat' (with_reducible first | refine tp_cT (by decide) ?_ | refine tp_cF (by decide) ?_ | refine tp_dT (by decide) ?_ | refine tp_dF (by decide) ?_ | refine And.intro (by first | decide | (unfold vp_in; decide)) ?_ | fail)
  rw [show tq_above.getD (nI 1).toNatClampNeg 0 = nI 0 from by decide]
  unfold wbX11_isUnder_4
  repeat' (with_reducible first | refine tp_cT (by decide) ?_ | refine tp_cF (by decide) ?_ | refine tp_dT (by decide) ?_ | refine tp_dF (by decide) ?_ | refine And.intro (by first | decide | (unfold vp_in; decide)) ?_ | fail)
  exact h
theorem tt_2_0 {post : tq_St → Int32 → Prop} {M : tq_St} {n : Nat} (hn : n < 150) (h : post M (M 110 0 n)) : ∃ nq, wbX12_taken_31 post nq M (nI n) (nI 0) (nI 2) := by
  have nc : (nI n).toNatClampNeg = n := nI_clamp (by omega)
  refine ⟨3, ?_⟩
  unfold wbX12_taken_31
  repeat' (with_reducible first | refine tp_cT (by decide) ?_ | refine tp_cF (by decide) ?_ | refine tp_dT (by decide) ?_ | refine tp_dF (by decide) ?_ | refine And.intro (by first | decide | (unfold vp_in; decide)) ?_ | fail)
  refine ab_2 ?_
  unfold wbX12_taken_31
  repeat' (with_reducible first | refine tp_cT (by decide) ?_ | refine tp_cF (by decide) ?_ | refine tp_dT (by decide) ?_ | refine tp_dF (by decide) ?_ | refine And.intro (by first | decide | (unfold vp_in; decide)) ?_ | fail)
  refine ab_1 ?_
  unfold wbX12_taken_31
  repeat' (with_reducible first | refine tp_cT (by decide) ?_ | refine tp_cF (by decide) ?_ | refine tp_dT (by decide) ?_ | refine tp_dF (by decide) ?_ | refine And.intro (by first | decide | (unfold vp_in; decide)) ?_ | fail)
  refine ⟨vp_in_nI hn (by decide), ?_⟩
  rw [nc]
  exact h
theorem ut_2_1 {N : tq_Nn} {post : tq_St → Int32 → Prop} {S : tq_St} (h : post S 1) : wpX11_isUnder N post S (nI 2) (nI 1) := by
  refine ⟨2, ?_⟩
  unfold wbX11_isUnder_4
  repeat' (with_reducible first | refine tp_cT (by decide) ?_ | refine tp_cF (by decide) ?_ | refine tp_dT (by decide) ?_ | refine tp_dF (by decide) ?_ | refine And.intro (by first | decide | (unfold vp_in; decide)) ?_ | fail)
  rw [show tq_above.getD (nI 2).toNatClampNeg 0 = nI 1 from by decide]
  unfold wbX11_isUnder_4
  repeat' (with_reducible first | refine tp_cT (by decide) ?_ | refine tp_cF (by decide) ?_ | refine tp_dT (by decide) ?_ | refine tp_dF (by decide) ?_ | refine And.intro (by first | decide | (unfold vp_in; decide)) ?_ | fail)
  exact h
theorem tt_2_1 {post : tq_St → Int32 → Prop} {M : tq_St} {n : Nat} (hn : n < 150) (h : post M (M 110 0 n)) : ∃ nq, wbX12_taken_31 post nq M (nI n) (nI 1) (nI 2) := by
  have nc : (nI n).toNatClampNeg = n := nI_clamp (by omega)
  refine ⟨2, ?_⟩
  unfold wbX12_taken_31
  repeat' (with_reducible first | refine tp_cT (by decide) ?_ | refine tp_cF (by decide) ?_ | refine tp_dT (by decide) ?_ | refine tp_dF (by decide) ?_ | refine And.intro (by first | decide | (unfold vp_in; decide)) ?_ | fail)
  refine ab_2 ?_
  unfold wbX12_taken_31
  repeat' (with_reducible first | refine tp_cT (by decide) ?_ | refine tp_cF (by decide) ?_ | refine tp_dT (by decide) ?_ | refine tp_dF (by decide) ?_ | refine And.intro (by first | decide | (unfold vp_in; decide)) ?_ | fail)
  refine ⟨vp_in_nI hn (by decide), ?_⟩
  rw [nc]
  exact h
theorem ut_2_2 {N : tq_Nn} {post : tq_St → Int32 → Prop} {S : tq_St} (h : post S 1) : wpX11_isUnder N post S (nI 2) (nI 2) := by
  refine ⟨1, ?_⟩
  unfold wbX11_isUnder_4
  repeat' (with_reducible first | refine tp_cT (by decide) ?_ | refine tp_cF (by decide) ?_ | refine tp_dT (by decide) ?_ | refine tp_dF (by decide) ?_ | refine And.intro (by first | decide | (unfold vp_in; decide)) ?_ | fail)
  exact h
theorem tt_2_2 {post : tq_St → Int32 → Prop} {M : tq_St} {n : Nat} (hn : n < 150) (h : post M (M 110 0 n)) : ∃ nq, wbX12_taken_31 post nq M (nI n) (nI 2) (nI 2) := by
  have nc : (nI n).toNatClampNeg = n := nI_clamp (by omega)
  refine ⟨1, ?_⟩
  unfold wbX12_taken_31
  repeat' (with_reducible first | refine tp_cT (by decide) ?_ | refine tp_cF (by decide) ?_ | refine tp_dT (by decide) ?_ | refine tp_dF (by decide) ?_ | refine And.intro (by first | decide | (unfold vp_in; decide)) ?_ | fail)
  refine ⟨vp_in_nI hn (by decide), ?_⟩
  rw [nc]
  exact h
theorem ut_2_3 {N : tq_Nn} {post : tq_St → Int32 → Prop} {S : tq_St} (h : post S 0) : wpX11_isUnder N post S (nI 2) (nI 3) := by
  refine ⟨4, ?_⟩
  unfold wbX11_isUnder_4
  repeat' (with_reducible first | refine tp_cT (by decide) ?_ | refine tp_cF (by decide) ?_ | refine tp_dT (by decide) ?_ | refine tp_dF (by decide) ?_ | refine And.intro (by first | decide | (unfold vp_in; decide)) ?_ | fail)
  rw [show tq_above.getD (nI 2).toNatClampNeg 0 = nI 1 from by decide]
  unfold wbX11_isUnder_4
  repeat' (with_reducible first | refine tp_cT (by decide) ?_ | refine tp_cF (by decide) ?_ | refine tp_dT (by decide) ?_ | refine tp_dF (by decide) ?_ | refine And.intro (by first | decide | (unfold vp_in; decide)) ?_ | fail)
  rw [show tq_above.getD (nI 1).toNatClampNeg 0 = nI 0 from by decide]
  unfold wbX11_isUnder_4
  repeat' (with_reducible first | refine tp_cT (by decide) ?_ | refine tp_cF (by decide) ?_ | refine tp_dT (by decide) ?_ | refine tp_dF (by decide) ?_ | refine And.intro (by first | decide | (unfold vp_in; decide)) ?_ | fail)
  rw [show tq_above.getD (nI 0).toNatClampNeg 0 = (-1) from by decide]
  unfold wbX11_isUnder_4
  repeat' (with_reducible first | refine tp_cT (by decide) ?_ | refine tp_cF (by decide) ?_ | refine tp_dT (by decide) ?_ | refine tp_dF (by decide) ?_ | refine And.intro (by first | decide | (unfold vp_in; decide)) ?_ | fail)
  exact h
theorem tt_2_3 {post : tq_St → Int32 → Prop} {M : tq_St} {n : Nat} (hn : n < 150) (h : post M ((-13))) : ∃ nq, wbX12_taken_31 post nq M (nI n) (nI 3) (nI 2) := by
  have nc : (nI n).toNatClampNeg = n := nI_clamp (by omega)
  refine ⟨4, ?_⟩
  unfold wbX12_taken_31
  repeat' (with_reducible first | refine tp_cT (by decide) ?_ | refine tp_cF (by decide) ?_ | refine tp_dT (by decide) ?_ | refine tp_dF (by decide) ?_ | refine And.intro (by first | decide | (unfold vp_in; decide)) ?_ | fail)
  refine ab_2 ?_
  unfold wbX12_taken_31
  repeat' (with_reducible first | refine tp_cT (by decide) ?_ | refine tp_cF (by decide) ?_ | refine tp_dT (by decide) ?_ | refine tp_dF (by decide) ?_ | refine And.intro (by first | decide | (unfold vp_in; decide)) ?_ | fail)
  refine ab_1 ?_
  unfold wbX12_taken_31
  repeat' (with_reducible first | refine tp_cT (by decide) ?_ | refine tp_cF (by decide) ?_ | refine tp_dT (by decide) ?_ | refine tp_dF (by decide) ?_ | refine And.intro (by first | decide | (unfold vp_in; decide)) ?_ | fail)
  refine ab_0 ?_
  unfold wbX12_taken_31
  repeat' (with_reducible first | refine tp_cT (by decide) ?_ | refine tp_cF (by decide) ?_ | refine tp_dT (by decide) ?_ | refine tp_dF (by decide) ?_ | refine And.intro (by first | decide | (unfold vp_in; decide)) ?_ | fail)
  exact h
theorem ut_2_4 {N : tq_Nn} {post : tq_St → Int32 → Prop} {S : tq_St} (h : post S 0) : wpX11_isUnder N post S (nI 2) (nI 4) := by
  refine ⟨4, ?_⟩
  unfold wbX11_isUnder_4
  repeat' (with_reducible first | refine tp_cT (by decide) ?_ | refine tp_cF (by decide) ?_ | refine tp_dT (by decide) ?_ | refine tp_dF (by decide) ?_ | refine And.intro (by first | decide | (unfold vp_in; decide)) ?_ | fail)
  rw [show tq_above.getD (nI 2).toNatClampNeg 0 = nI 1 from by decide]
  unfold wbX11_isUnder_4
  repeat' (with_reducible first | refine tp_cT (by decide) ?_ | refine tp_cF (by decide) ?_ | refine tp_dT (by decide) ?_ | refine tp_dF (by decide) ?_ | refine And.intro (by first | decide | (unfold vp_in; decide)) ?_ | fail)
  rw [show tq_above.getD (nI 1).toNatClampNeg 0 = nI 0 from by decide]
  unfold wbX11_isUnder_4
  repeat' (with_reducible first | refine tp_cT (by decide) ?_ | refine tp_cF (by decide) ?_ | refine tp_dT (by decide) ?_ | refine tp_dF (by decide) ?_ | refine And.intro (by first | decide | (unfold vp_in; decide)) ?_ | fail)
  rw [show tq_above.getD (nI 0).toNatClampNeg 0 = (-1) from by decide]
  unfold wbX11_isUnder_4
  repeat' (with_reducible first | refine tp_cT (by decide) ?_ | refine tp_cF (by decide) ?_ | refine tp_dT (by decide) ?_ | refine tp_dF (by decide) ?_ | refine And.intro (by first | decide | (unfold vp_in; decide)) ?_ | fail)
  exact h
theorem tt_2_4 {post : tq_St → Int32 → Prop} {M : tq_St} {n : Nat} (hn : n < 150) (h : post M ((-13))) : ∃ nq, wbX12_taken_31 post nq M (nI n) (nI 4) (nI 2) := by
  have nc : (nI n).toNatClampNeg = n := nI_clamp (by omega)
  refine ⟨4, ?_⟩
  unfold wbX12_taken_31
  repeat' (with_reducible first | refine tp_cT (by decide) ?_ | refine tp_cF (by decide) ?_ | refine tp_dT (by decide) ?_ | refine tp_dF (by decide) ?_ | refine And.intro (by first | decide | (unfold vp_in; decide)) ?_ | fail)
  refine ab_2 ?_
  unfold wbX12_taken_31
  repeat' (with_reducible first | refine tp_cT (by decide) ?_ | refine tp_cF (by decide) ?_ | refine tp_dT (by decide) ?_ | refine tp_dF (by decide) ?_ | refine And.intro (by first | decide | (unfold vp_in; decide)) ?_ | fail)
  refine ab_1 ?_
  unfold wbX12_taken_31
  repeat' (with_reducible first | refine tp_cT (by decide) ?_ | refine tp_cF (by decide) ?_ | refine tp_dT (by decide) ?_ | refine tp_dF (by decide) ?_ | refine And.intro (by first | decide | (unfold vp_in; decide)) ?_ | fail)
  refine ab_0 ?_
  unfold wbX12_taken_31
  repeat' (with_reducible first | refine tp_cT (by decide) ?_ | refine tp_cF (by decide) ?_ | refine tp_dT (by decide) ?_ | refine tp_dF (by decide) ?_ | refine And.intro (by first | decide | (unfold vp_in; decide)) ?_ | fail)
  exact h
theorem ut_2_5 {N : tq_Nn} {post : tq_St → Int32 → Prop} {S : tq_St} (h : post S 0) : wpX11_isUnder N post S (nI 2) (nI 5) := by
  refine ⟨4, ?_⟩
  unfold wbX11_isUnder_4
  repeat' (with_reducible first | refine tp_cT (by decide) ?_ | refine tp_cF (by decide) ?_ | refine tp_dT (by decide) ?_ | refine tp_dF (by decide) ?_ | refine And.intro (by first | decide | (unfold vp_in; decide)) ?_ | fail)
  rw [show tq_above.getD (nI 2).toNatClampNeg 0 = nI 1 from by decide]
  unfold wbX11_isUnder_4
  repeat' (with_reducible first | refine tp_cT (by decide) ?_ | refine tp_cF (by decide) ?_ | refine tp_dT (by decide) ?_ | refine tp_dF (by decide) ?_ | refine And.intro (by first | decide | (unfold vp_in; decide)) ?_ | fail)
  rw [show tq_above.getD (nI 1).toNatClampNeg 0 = nI 0 from by decide]
  unfold wbX11_isUnder_4
  repeat' (with_reducible first | refine tp_cT (by decide) ?_ | refine tp_cF (by decide) ?_ | refine tp_dT (by decide) ?_ | refine tp_dF (by decide) ?_ | refine And.intro (by first | decide | (unfold vp_in; decide)) ?_ | fail)
  rw [show tq_above.getD (nI 0).toNatClampNeg 0 = (-1) from by decide]
  unfold wbX11_isUnder_4
  repeat' (with_reducible first | refine tp_cT (by decide) ?_ | refine tp_cF (by decide) ?_ | refine tp_dT (by decide) ?_ | refine tp_dF (by decide) ?_ | refine And.intro (by first | decide | (unfold vp_in; decide)) ?_ | fail)
  exact h
theorem tt_2_5 {post : tq_St → Int32 → Prop} {M : tq_St} {n : Nat} (hn : n < 150) (h : post M ((-13))) : ∃ nq, wbX12_taken_31 post nq M (nI n) (nI 5) (nI 2) := by
  have nc : (nI n).toNatClampNeg = n := nI_clamp (by omega)
  refine ⟨4, ?_⟩
  unfold wbX12_taken_31
  repeat' (with_reducible first | refine tp_cT (by decide) ?_ | refine tp_cF (by decide) ?_ | refine tp_dT (by decide) ?_ | refine tp_dF (by decide) ?_ | refine And.intro (by first | decide | (unfold vp_in; decide)) ?_ | fail)
  refine ab_2 ?_
  unfold wbX12_taken_31
  repeat' (with_reducible first | refine tp_cT (by decide) ?_ | refine tp_cF (by decide) ?_ | refine tp_dT (by decide) ?_ | refine tp_dF (by decide) ?_ | refine And.intro (by first | decide | (unfold vp_in; decide)) ?_ | fail)
  refine ab_1 ?_
  unfold wbX12_taken_31
  repeat' (with_reducible first | refine tp_cT (by decide) ?_ | refine tp_cF (by decide) ?_ | refine tp_dT (by decide) ?_ | refine tp_dF (by decide) ?_ | refine And.intro (by first | decide | (unfold vp_in; decide)) ?_ | fail)
  refine ab_0 ?_
  unfold wbX12_taken_31
  repeat' (with_reducible first | refine tp_cT (by decide) ?_ | refine tp_cF (by decide) ?_ | refine tp_dT (by decide) ?_ | refine tp_dF (by decide) ?_ | refine And.intro (by first | decide | (unfold vp_in; decide)) ?_ | fail)
  exact h
theorem ut_2_6 {N : tq_Nn} {post : tq_St → Int32 → Prop} {S : tq_St} (h : post S 0) : wpX11_isUnder N post S (nI 2) (nI 6) := by
  refine ⟨4, ?_⟩
  unfold wbX11_isUnder_4
  repeat' (with_reducible first | refine tp_cT (by decide) ?_ | refine tp_cF (by decide) ?_ | refine tp_dT (by decide) ?_ | refine tp_dF (by decide) ?_ | refine And.intro (by first | decide | (unfold vp_in; decide)) ?_ | fail)
  rw [show tq_above.getD (nI 2).toNatClampNeg 0 = nI 1 from by decide]
  unfold wbX11_isUnder_4
  repeat' (with_reducible first | refine tp_cT (by decide) ?_ | refine tp_cF (by decide) ?_ | refine tp_dT (by decide) ?_ | refine tp_dF (by decide) ?_ | refine And.intro (by first | decide | (unfold vp_in; decide)) ?_ | fail)
  rw [show tq_above.getD (nI 1).toNatClampNeg 0 = nI 0 from by decide]
  unfold wbX11_isUnder_4
  repeat' (with_reducible first | refine tp_cT (by decide) ?_ | refine tp_cF (by decide) ?_ | refine tp_dT (by decide) ?_ | refine tp_dF (by decide) ?_ | refine And.intro (by first | decide | (unfold vp_in; decide)) ?_ | fail)
  rw [show tq_above.getD (nI 0).toNatClampNeg 0 = (-1) from by decide]
  unfold wbX11_isUnder_4
  repeat' (with_reducible first | refine tp_cT (by decide) ?_ | refine tp_cF (by decide) ?_ | refine tp_dT (by decide) ?_ | refine tp_dF (by decide) ?_ | refine And.intro (by first | decide | (unfold vp_in; decide)) ?_ | fail)
  exact h
theorem tt_2_6 {post : tq_St → Int32 → Prop} {M : tq_St} {n : Nat} (hn : n < 150) (h : post M ((-13))) : ∃ nq, wbX12_taken_31 post nq M (nI n) (nI 6) (nI 2) := by
  have nc : (nI n).toNatClampNeg = n := nI_clamp (by omega)
  refine ⟨4, ?_⟩
  unfold wbX12_taken_31
  repeat' (with_reducible first | refine tp_cT (by decide) ?_ | refine tp_cF (by decide) ?_ | refine tp_dT (by decide) ?_ | refine tp_dF (by decide) ?_ | refine And.intro (by first | decide | (unfold vp_in; decide)) ?_ | fail)
  refine ab_2 ?_
  unfold wbX12_taken_31
  repeat' (with_reducible first | refine tp_cT (by decide) ?_ | refine tp_cF (by decide) ?_ | refine tp_dT (by decide) ?_ | refine tp_dF (by decide) ?_ | refine And.intro (by first | decide | (unfold vp_in; decide)) ?_ | fail)
  refine ab_1 ?_
  unfold wbX12_taken_31
  repeat' (with_reducible first | refine tp_cT (by decide) ?_ | refine tp_cF (by decide) ?_ | refine tp_dT (by decide) ?_ | refine tp_dF (by decide) ?_ | refine And.intro (by first | decide | (unfold vp_in; decide)) ?_ | fail)
  refine ab_0 ?_
  unfold wbX12_taken_31
  repeat' (with_reducible first | refine tp_cT (by decide) ?_ | refine tp_cF (by decide) ?_ | refine tp_dT (by decide) ?_ | refine tp_dF (by decide) ?_ | refine And.intro (by first | decide | (unfold vp_in; decide)) ?_ | fail)
  exact h
theorem ut_3_0 {N : tq_Nn} {post : tq_St → Int32 → Prop} {S : tq_St} (h : post S 1) : wpX11_isUnder N post S (nI 3) (nI 0) := by
  refine ⟨3, ?_⟩
  unfold wbX11_isUnder_4
  repeat' (with_reducible first | refine tp_cT (by decide) ?_ | refine tp_cF (by decide) ?_ | refine tp_dT (by decide) ?_ | refine tp_dF (by decide) ?_ | refine And.intro (by first | decide | (unfold vp_in; decide)) ?_ | fail)
  rw [show tq_above.getD (nI 3).toNatClampNeg 0 = nI 1 from by decide]
  unfold wbX11_isUnder_4
  repeat' (with_reducible first | refine tp_cT (by decide) ?_ | refine tp_cF (by decide) ?_ | refine tp_dT (by decide) ?_ | refine tp_dF (by decide) ?_ | refine And.intro (by first | decide | (unfold vp_in; decide)) ?_ | fail)
  rw [show tq_above.getD (nI 1).toNatClampNeg 0 = nI 0 from by decide]
  unfold wbX11_isUnder_4
  repeat' (with_reducible first | refine tp_cT (by decide) ?_ | refine tp_cF (by decide) ?_ | refine tp_dT (by decide) ?_ | refine tp_dF (by decide) ?_ | refine And.intro (by first | decide | (unfold vp_in; decide)) ?_ | fail)
  exact h
theorem tt_3_0 {post : tq_St → Int32 → Prop} {M : tq_St} {n : Nat} (hn : n < 150) (h : post M (M 110 0 n)) : ∃ nq, wbX12_taken_31 post nq M (nI n) (nI 0) (nI 3) := by
  have nc : (nI n).toNatClampNeg = n := nI_clamp (by omega)
  refine ⟨3, ?_⟩
  unfold wbX12_taken_31
  repeat' (with_reducible first | refine tp_cT (by decide) ?_ | refine tp_cF (by decide) ?_ | refine tp_dT (by decide) ?_ | refine tp_dF (by decide) ?_ | refine And.intro (by first | decide | (unfold vp_in; decide)) ?_ | fail)
  refine ab_3 ?_
  unfold wbX12_taken_31
  repeat' (with_reducible first | refine tp_cT (by decide) ?_ | refine tp_cF (by decide) ?_ | refine tp_dT (by decide) ?_ | refine tp_dF (by decide) ?_ | refine And.intro (by first | decide | (unfold vp_in; decide)) ?_ | fail)
  refine ab_1 ?_
  unfold wbX12_taken_31
  repeat' (with_reducible first | refine tp_cT (by decide) ?_ | refine tp_cF (by decide) ?_ | refine tp_dT (by decide) ?_ | refine tp_dF (by decide) ?_ | refine And.intro (by first | decide | (unfold vp_in; decide)) ?_ | fail)
  refine ⟨vp_in_nI hn (by decide), ?_⟩
  rw [nc]
  exact h
theorem ut_3_1 {N : tq_Nn} {post : tq_St → Int32 → Prop} {S : tq_St} (h : post S 1) : wpX11_isUnder N post S (nI 3) (nI 1) := by
  refine ⟨2, ?_⟩
  unfold wbX11_isUnder_4
  repeat' (with_reducible first | refine tp_cT (by decide) ?_ | refine tp_cF (by decide) ?_ | refine tp_dT (by decide) ?_ | refine tp_dF (by decide) ?_ | refine And.intro (by first | decide | (unfold vp_in; decide)) ?_ | fail)
  rw [show tq_above.getD (nI 3).toNatClampNeg 0 = nI 1 from by decide]
  unfold wbX11_isUnder_4
  repeat' (with_reducible first | refine tp_cT (by decide) ?_ | refine tp_cF (by decide) ?_ | refine tp_dT (by decide) ?_ | refine tp_dF (by decide) ?_ | refine And.intro (by first | decide | (unfold vp_in; decide)) ?_ | fail)
  exact h
theorem tt_3_1 {post : tq_St → Int32 → Prop} {M : tq_St} {n : Nat} (hn : n < 150) (h : post M (M 110 0 n)) : ∃ nq, wbX12_taken_31 post nq M (nI n) (nI 1) (nI 3) := by
  have nc : (nI n).toNatClampNeg = n := nI_clamp (by omega)
  refine ⟨2, ?_⟩
  unfold wbX12_taken_31
  repeat' (with_reducible first | refine tp_cT (by decide) ?_ | refine tp_cF (by decide) ?_ | refine tp_dT (by decide) ?_ | refine tp_dF (by decide) ?_ | refine And.intro (by first | decide | (unfold vp_in; decide)) ?_ | fail)
  refine ab_3 ?_
  unfold wbX12_taken_31
  repeat' (with_reducible first | refine tp_cT (by decide) ?_ | refine tp_cF (by decide) ?_ | refine tp_dT (by decide) ?_ | refine tp_dF (by decide) ?_ | refine And.intro (by first | decide | (unfold vp_in; decide)) ?_ | fail)
  refine ⟨vp_in_nI hn (by decide), ?_⟩
  rw [nc]
  exact h
theorem ut_3_2 {N : tq_Nn} {post : tq_St → Int32 → Prop} {S : tq_St} (h : post S 0) : wpX11_isUnder N post S (nI 3) (nI 2) := by
  refine ⟨4, ?_⟩
  unfold wbX11_isUnder_4
  repeat' (with_reducible first | refine tp_cT (by decide) ?_ | refine tp_cF (by decide) ?_ | refine tp_dT (by decide) ?_ | refine tp_dF (by decide) ?_ | refine And.intro (by first | decide | (unfold vp_in; decide)) ?_ | fail)
  rw [show tq_above.getD (nI 3).toNatClampNeg 0 = nI 1 from by decide]
  unfold wbX11_isUnder_4
  repeat' (with_reducible first | refine tp_cT (by decide) ?_ | refine tp_cF (by decide) ?_ | refine tp_dT (by decide) ?_ | refine tp_dF (by decide) ?_ | refine And.intro (by first | decide | (unfold vp_in; decide)) ?_ | fail)
  rw [show tq_above.getD (nI 1).toNatClampNeg 0 = nI 0 from by decide]
  unfold wbX11_isUnder_4
  repeat' (with_reducible first | refine tp_cT (by decide) ?_ | refine tp_cF (by decide) ?_ | refine tp_dT (by decide) ?_ | refine tp_dF (by decide) ?_ | refine And.intro (by first | decide | (unfold vp_in; decide)) ?_ | fail)
  rw [show tq_above.getD (nI 0).toNatClampNeg 0 = (-1) from by decide]
  unfold wbX11_isUnder_4
  repeat' (with_reducible first | refine tp_cT (by decide) ?_ | refine tp_cF (by decide) ?_ | refine tp_dT (by decide) ?_ | refine tp_dF (by decide) ?_ | refine And.intro (by first | decide | (unfold vp_in; decide)) ?_ | fail)
  exact h
theorem tt_3_2 {post : tq_St → Int32 → Prop} {M : tq_St} {n : Nat} (hn : n < 150) (h : post M ((-13))) : ∃ nq, wbX12_taken_31 post nq M (nI n) (nI 2) (nI 3) := by
  have nc : (nI n).toNatClampNeg = n := nI_clamp (by omega)
  refine ⟨4, ?_⟩
  unfold wbX12_taken_31
  repeat' (with_reducible first | refine tp_cT (by decide) ?_ | refine tp_cF (by decide) ?_ | refine tp_dT (by decide) ?_ | refine tp_dF (by decide) ?_ | refine And.intro (by first | decide | (unfold vp_in; decide)) ?_ | fail)
  refine ab_3 ?_
  unfold wbX12_taken_31
  repeat' (with_reducible first | refine tp_cT (by decide) ?_ | refine tp_cF (by decide) ?_ | refine tp_dT (by decide) ?_ | refine tp_dF (by decide) ?_ | refine And.intro (by first | decide | (unfold vp_in; decide)) ?_ | fail)
  refine ab_1 ?_
  unfold wbX12_taken_31
  repeat' (with_reducible first | refine tp_cT (by decide) ?_ | refine tp_cF (by decide) ?_ | refine tp_dT (by decide) ?_ | refine tp_dF (by decide) ?_ | refine And.intro (by first | decide | (unfold vp_in; decide)) ?_ | fail)
  refine ab_0 ?_
  unfold wbX12_taken_31
  repeat' (with_reducible first | refine tp_cT (by decide) ?_ | refine tp_cF (by decide) ?_ | refine tp_dT (by decide) ?_ | refine tp_dF (by decide) ?_ | refine And.intro (by first | decide | (unfold vp_in; decide)) ?_ | fail)
  exact h
theorem ut_3_3 {N : tq_Nn} {post : tq_St → Int32 → Prop} {S : tq_St} (h : post S 1) : wpX11_isUnder N post S (nI 3) (nI 3) := by
  refine ⟨1, ?_⟩
  unfold wbX11_isUnder_4
  repeat' (with_reducible first | refine tp_cT (by decide) ?_ | refine tp_cF (by decide) ?_ | refine tp_dT (by decide) ?_ | refine tp_dF (by decide) ?_ | refine And.intro (by first | decide | (unfold vp_in; decide)) ?_ | fail)
  exact h
theorem tt_3_3 {post : tq_St → Int32 → Prop} {M : tq_St} {n : Nat} (hn : n < 150) (h : post M (M 110 0 n)) : ∃ nq, wbX12_taken_31 post nq M (nI n) (nI 3) (nI 3) := by
  have nc : (nI n).toNatClampNeg = n := nI_clamp (by omega)
  refine ⟨1, ?_⟩
  unfold wbX12_taken_31
  repeat' (with_reducible first | refine tp_cT (by decide) ?_ | refine tp_cF (by decide) ?_ | refine tp_dT (by decide) ?_ | refine tp_dF (by decide) ?_ | refine And.intro (by first | decide | (unfold vp_in; decide)) ?_ | fail)
  refine ⟨vp_in_nI hn (by decide), ?_⟩
  rw [nc]
  exact h
theorem ut_3_4 {N : tq_Nn} {post : tq_St → Int32 → Prop} {S : tq_St} (h : post S 0) : wpX11_isUnder N post S (nI 3) (nI 4) := by
  refine ⟨4, ?_⟩
  unfold wbX11_isUnder_4
  repeat' (with_reducible first | refine tp_cT (by decide) ?_ | refine tp_cF (by decide) ?_ | refine tp_dT (by decide) ?_ | refine tp_dF (by decide) ?_ | refine And.intro (by first | decide | (unfold vp_in; decide)) ?_ | fail)
  rw [show tq_above.getD (nI 3).toNatClampNeg 0 = nI 1 from by decide]
  unfold wbX11_isUnder_4
  repeat' (with_reducible first | refine tp_cT (by decide) ?_ | refine tp_cF (by decide) ?_ | refine tp_dT (by decide) ?_ | refine tp_dF (by decide) ?_ | refine And.intro (by first | decide | (unfold vp_in; decide)) ?_ | fail)
  rw [show tq_above.getD (nI 1).toNatClampNeg 0 = nI 0 from by decide]
  unfold wbX11_isUnder_4
  repeat' (with_reducible first | refine tp_cT (by decide) ?_ | refine tp_cF (by decide) ?_ | refine tp_dT (by decide) ?_ | refine tp_dF (by decide) ?_ | refine And.intro (by first | decide | (unfold vp_in; decide)) ?_ | fail)
  rw [show tq_above.getD (nI 0).toNatClampNeg 0 = (-1) from by decide]
  unfold wbX11_isUnder_4
  repeat' (with_reducible first | refine tp_cT (by decide) ?_ | refine tp_cF (by decide) ?_ | refine tp_dT (by decide) ?_ | refine tp_dF (by decide) ?_ | refine And.intro (by first | decide | (unfold vp_in; decide)) ?_ | fail)
  exact h
theorem tt_3_4 {post : tq_St → Int32 → Prop} {M : tq_St} {n : Nat} (hn : n < 150) (h : post M ((-13))) : ∃ nq, wbX12_taken_31 post nq M (nI n) (nI 4) (nI 3) := by
  have nc : (nI n).toNatClampNeg = n := nI_clamp (by omega)
  refine ⟨4, ?_⟩
  unfold wbX12_taken_31
  repeat' (with_reducible first | refine tp_cT (by decide) ?_ | refine tp_cF (by decide) ?_ | refine tp_dT (by decide) ?_ | refine tp_dF (by decide) ?_ | refine And.intro (by first | decide | (unfold vp_in; decide)) ?_ | fail)
  refine ab_3 ?_
  unfold wbX12_taken_31
  repeat' (with_reducible first | refine tp_cT (by decide) ?_ | refine tp_cF (by decide) ?_ | refine tp_dT (by decide) ?_ | refine tp_dF (by decide) ?_ | refine And.intro (by first | decide | (unfold vp_in; decide)) ?_ | fail)
  refine ab_1 ?_
  unfold wbX12_taken_31
  repeat' (with_reducible first | refine tp_cT (by decide) ?_ | refine tp_cF (by decide) ?_ | refine tp_dT (by decide) ?_ | refine tp_dF (by decide) ?_ | refine And.intro (by first | decide | (unfold vp_in; decide)) ?_ | fail)
  refine ab_0 ?_
  unfold wbX12_taken_31
  repeat' (with_reducible first | refine tp_cT (by decide) ?_ | refine tp_cF (by decide) ?_ | refine tp_dT (by decide) ?_ | refine tp_dF (by decide) ?_ | refine And.intro (by first | decide | (unfold vp_in; decide)) ?_ | fail)
  exact h
theorem ut_3_5 {N : tq_Nn} {post : tq_St → Int32 → Prop} {S : tq_St} (h : post S 0) : wpX11_isUnder N post S (nI 3) (nI 5) := by
  refine ⟨4, ?_⟩
  unfold wbX11_isUnder_4
  repeat' (with_reducible first | refine tp_cT (by decide) ?_ | refine tp_cF (by decide) ?_ | refine tp_dT (by decide) ?_ | refine tp_dF (by decide) ?_ | refine And.intro (by first | decide | (unfold vp_in; decide)) ?_ | fail)
  rw [show tq_above.getD (nI 3).toNatClampNeg 0 = nI 1 from by decide]
  unfold wbX11_isUnder_4
  repeat' (with_reducible first | refine tp_cT (by decide) ?_ | refine tp_cF (by decide) ?_ | refine tp_dT (by decide) ?_ | refine tp_dF (by decide) ?_ | refine And.intro (by first | decide | (unfold vp_in; decide)) ?_ | fail)
  rw [show tq_above.getD (nI 1).toNatClampNeg 0 = nI 0 from by decide]
  unfold wbX11_isUnder_4
  repeat' (with_reducible first | refine tp_cT (by decide) ?_ | refine tp_cF (by decide) ?_ | refine tp_dT (by decide) ?_ | refine tp_dF (by decide) ?_ | refine And.intro (by first | decide | (unfold vp_in; decide)) ?_ | fail)
  rw [show tq_above.getD (nI 0).toNatClampNeg 0 = (-1) from by decide]
  unfold wbX11_isUnder_4
  repeat' (with_reducible first | refine tp_cT (by decide) ?_ | refine tp_cF (by decide) ?_ | refine tp_dT (by decide) ?_ | refine tp_dF (by decide) ?_ | refine And.intro (by first | decide | (unfold vp_in; decide)) ?_ | fail)
  exact h
theorem tt_3_5 {post : tq_St → Int32 → Prop} {M : tq_St} {n : Nat} (hn : n < 150) (h : post M ((-13))) : ∃ nq, wbX12_taken_31 post nq M (nI n) (nI 5) (nI 3) := by
  have nc : (nI n).toNatClampNeg = n := nI_clamp (by omega)
  refine ⟨4, ?_⟩
  unfold wbX12_taken_31
  repeat' (with_reducible first | refine tp_cT (by decide) ?_ | refine tp_cF (by decide) ?_ | refine tp_dT (by decide) ?_ | refine tp_dF (by decide) ?_ | refine And.intro (by first | decide | (unfold vp_in; decide)) ?_ | fail)
  refine ab_3 ?_
  unfold wbX12_taken_31
  repeat' (with_reducible first | refine tp_cT (by decide) ?_ | refine tp_cF (by decide) ?_ | refine tp_dT (by decide) ?_ | refine tp_dF (by decide) ?_ | refine And.intro (by first | decide | (unfold vp_in; decide)) ?_ | fail)
  refine ab_1 ?_
  unfold wbX12_taken_31
  repeat' (with_reducible first | refine tp_cT (by decide) ?_ | refine tp_cF (by decide) ?_ | refine tp_dT (by decide) ?_ | refine tp_dF (by decide) ?_ | refine And.intro (by first | decide | (unfold vp_in; decide)) ?_ | fail)
  refine ab_0 ?_
  unfold wbX12_taken_31
  repeat' (with_reducible first | refine tp_cT (by decide) ?_ | refine tp_cF (by decide) ?_ | refine tp_dT (by decide) ?_ | refine tp_dF (by decide) ?_ | refine And.intro (by first | decide | (unfold vp_in; decide)) ?_ | fail)
  exact h
theorem ut_3_6 {N : tq_Nn} {post : tq_St → Int32 → Prop} {S : tq_St} (h : post S 0) : wpX11_isUnder N post S (nI 3) (nI 6) := by
  refine ⟨4, ?_⟩
  unfold wbX11_isUnder_4
  repeat' (with_reducible first | refine tp_cT (by decide) ?_ | refine tp_cF (by decide) ?_ | refine tp_dT (by decide) ?_ | refine tp_dF (by decide) ?_ | refine And.intro (by first | decide | (unfold vp_in; decide)) ?_ | fail)
  rw [show tq_above.getD (nI 3).toNatClampNeg 0 = nI 1 from by decide]
  unfold wbX11_isUnder_4
  repeat' (with_reducible first | refine tp_cT (by decide) ?_ | refine tp_cF (by decide) ?_ | refine tp_dT (by decide) ?_ | refine tp_dF (by decide) ?_ | refine And.intro (by first | decide | (unfold vp_in; decide)) ?_ | fail)
  rw [show tq_above.getD (nI 1).toNatClampNeg 0 = nI 0 from by decide]
  unfold wbX11_isUnder_4
  repeat' (with_reducible first | refine tp_cT (by decide) ?_ | refine tp_cF (by decide) ?_ | refine tp_dT (by decide) ?_ | refine tp_dF (by decide) ?_ | refine And.intro (by first | decide | (unfold vp_in; decide)) ?_ | fail)
  rw [show tq_above.getD (nI 0).toNatClampNeg 0 = (-1) from by decide]
  unfold wbX11_isUnder_4
  repeat' (with_reducible first | refine tp_cT (by decide) ?_ | refine tp_cF (by decide) ?_ | refine tp_dT (by decide) ?_ | refine tp_dF (by decide) ?_ | refine And.intro (by first | decide | (unfold vp_in; decide)) ?_ | fail)
  exact h
theorem tt_3_6 {post : tq_St → Int32 → Prop} {M : tq_St} {n : Nat} (hn : n < 150) (h : post M ((-13))) : ∃ nq, wbX12_taken_31 post nq M (nI n) (nI 6) (nI 3) := by
  have nc : (nI n).toNatClampNeg = n := nI_clamp (by omega)
  refine ⟨4, ?_⟩
  unfold wbX12_taken_31
  repeat' (with_reducible first | refine tp_cT (by decide) ?_ | refine tp_cF (by decide) ?_ | refine tp_dT (by decide) ?_ | refine tp_dF (by decide) ?_ | refine And.intro (by first | decide | (unfold vp_in; decide)) ?_ | fail)
  refine ab_3 ?_
  unfold wbX12_taken_31
  repeat' (with_reducible first | refine tp_cT (by decide) ?_ | refine tp_cF (by decide) ?_ | refine tp_dT (by decide) ?_ | refine tp_dF (by decide) ?_ | refine And.intro (by first | decide | (unfold vp_in; decide)) ?_ | fail)
  refine ab_1 ?_
  unfold wbX12_taken_31
  repeat' (with_reducible first | refine tp_cT (by decide) ?_ | refine tp_cF (by decide) ?_ | refine tp_dT (by decide) ?_ | refine tp_dF (by decide) ?_ | refine And.intro (by first | decide | (unfold vp_in; decide)) ?_ | fail)
  refine ab_0 ?_
  unfold wbX12_taken_31
  repeat' (with_reducible first | refine tp_cT (by decide) ?_ | refine tp_cF (by decide) ?_ | refine tp_dT (by decide) ?_ | refine tp_dF (by decide) ?_ | refine And.intro (by first | decide | (unfold vp_in; decide)) ?_ | fail)
  exact h
theorem ut_4_0 {N : tq_Nn} {post : tq_St → Int32 → Prop} {S : tq_St} (h : post S 1) : wpX11_isUnder N post S (nI 4) (nI 0) := by
  refine ⟨3, ?_⟩
  unfold wbX11_isUnder_4
  repeat' (with_reducible first | refine tp_cT (by decide) ?_ | refine tp_cF (by decide) ?_ | refine tp_dT (by decide) ?_ | refine tp_dF (by decide) ?_ | refine And.intro (by first | decide | (unfold vp_in; decide)) ?_ | fail)
  rw [show tq_above.getD (nI 4).toNatClampNeg 0 = nI 1 from by decide]
  unfold wbX11_isUnder_4
  repeat' (with_reducible first | refine tp_cT (by decide) ?_ | refine tp_cF (by decide) ?_ | refine tp_dT (by decide) ?_ | refine tp_dF (by decide) ?_ | refine And.intro (by first | decide | (unfold vp_in; decide)) ?_ | fail)
  rw [show tq_above.getD (nI 1).toNatClampNeg 0 = nI 0 from by decide]
  unfold wbX11_isUnder_4
  repeat' (with_reducible first | refine tp_cT (by decide) ?_ | refine tp_cF (by decide) ?_ | refine tp_dT (by decide) ?_ | refine tp_dF (by decide) ?_ | refine And.intro (by first | decide | (unfold vp_in; decide)) ?_ | fail)
  exact h
theorem tt_4_0 {post : tq_St → Int32 → Prop} {M : tq_St} {n : Nat} (hn : n < 150) (h : post M (M 110 0 n)) : ∃ nq, wbX12_taken_31 post nq M (nI n) (nI 0) (nI 4) := by
  have nc : (nI n).toNatClampNeg = n := nI_clamp (by omega)
  refine ⟨3, ?_⟩
  unfold wbX12_taken_31
  repeat' (with_reducible first | refine tp_cT (by decide) ?_ | refine tp_cF (by decide) ?_ | refine tp_dT (by decide) ?_ | refine tp_dF (by decide) ?_ | refine And.intro (by first | decide | (unfold vp_in; decide)) ?_ | fail)
  refine ab_4 ?_
  unfold wbX12_taken_31
  repeat' (with_reducible first | refine tp_cT (by decide) ?_ | refine tp_cF (by decide) ?_ | refine tp_dT (by decide) ?_ | refine tp_dF (by decide) ?_ | refine And.intro (by first | decide | (unfold vp_in; decide)) ?_ | fail)
  refine ab_1 ?_
  unfold wbX12_taken_31
  repeat' (with_reducible first | refine tp_cT (by decide) ?_ | refine tp_cF (by decide) ?_ | refine tp_dT (by decide) ?_ | refine tp_dF (by decide) ?_ | refine And.intro (by first | decide | (unfold vp_in; decide)) ?_ | fail)
  refine ⟨vp_in_nI hn (by decide), ?_⟩
  rw [nc]
  exact h
theorem ut_4_1 {N : tq_Nn} {post : tq_St → Int32 → Prop} {S : tq_St} (h : post S 1) : wpX11_isUnder N post S (nI 4) (nI 1) := by
  refine ⟨2, ?_⟩
  unfold wbX11_isUnder_4
  repeat' (with_reducible first | refine tp_cT (by decide) ?_ | refine tp_cF (by decide) ?_ | refine tp_dT (by decide) ?_ | refine tp_dF (by decide) ?_ | refine And.intro (by first | decide | (unfold vp_in; decide)) ?_ | fail)
  rw [show tq_above.getD (nI 4).toNatClampNeg 0 = nI 1 from by decide]
  unfold wbX11_isUnder_4
  repeat' (with_reducible first | refine tp_cT (by decide) ?_ | refine tp_cF (by decide) ?_ | refine tp_dT (by decide) ?_ | refine tp_dF (by decide) ?_ | refine And.intro (by first | decide | (unfold vp_in; decide)) ?_ | fail)
  exact h
theorem tt_4_1 {post : tq_St → Int32 → Prop} {M : tq_St} {n : Nat} (hn : n < 150) (h : post M (M 110 0 n)) : ∃ nq, wbX12_taken_31 post nq M (nI n) (nI 1) (nI 4) := by
  have nc : (nI n).toNatClampNeg = n := nI_clamp (by omega)
  refine ⟨2, ?_⟩
  unfold wbX12_taken_31
  repeat' (with_reducible first | refine tp_cT (by decide) ?_ | refine tp_cF (by decide) ?_ | refine tp_dT (by decide) ?_ | refine tp_dF (by decide) ?_ | refine And.intro (by first | decide | (unfold vp_in; decide)) ?_ | fail)
  refine ab_4 ?_
  unfold wbX12_taken_31
  repeat' (with_reducible first | refine tp_cT (by decide) ?_ | refine tp_cF (by decide) ?_ | refine tp_dT (by decide) ?_ | refine tp_dF (by decide) ?_ | refine And.intro (by first | decide | (unfold vp_in; decide)) ?_ | fail)
  refine ⟨vp_in_nI hn (by decide), ?_⟩
  rw [nc]
  exact h
theorem ut_4_2 {N : tq_Nn} {post : tq_St → Int32 → Prop} {S : tq_St} (h : post S 0) : wpX11_isUnder N post S (nI 4) (nI 2) := by
  refine ⟨4, ?_⟩
  unfold wbX11_isUnder_4
  repeat' (with_reducible first | refine tp_cT (by decide) ?_ | refine tp_cF (by decide) ?_ | refine tp_dT (by decide) ?_ | refine tp_dF (by decide) ?_ | refine And.intro (by first | decide | (unfold vp_in; decide)) ?_ | fail)
  rw [show tq_above.getD (nI 4).toNatClampNeg 0 = nI 1 from by decide]
  unfold wbX11_isUnder_4
  repeat' (with_reducible first | refine tp_cT (by decide) ?_ | refine tp_cF (by decide) ?_ | refine tp_dT (by decide) ?_ | refine tp_dF (by decide) ?_ | refine And.intro (by first | decide | (unfold vp_in; decide)) ?_ | fail)
  rw [show tq_above.getD (nI 1).toNatClampNeg 0 = nI 0 from by decide]
  unfold wbX11_isUnder_4
  repeat' (with_reducible first | refine tp_cT (by decide) ?_ | refine tp_cF (by decide) ?_ | refine tp_dT (by decide) ?_ | refine tp_dF (by decide) ?_ | refine And.intro (by first | decide | (unfold vp_in; decide)) ?_ | fail)
  rw [show tq_above.getD (nI 0).toNatClampNeg 0 = (-1) from by decide]
  unfold wbX11_isUnder_4
  repeat' (with_reducible first | refine tp_cT (by decide) ?_ | refine tp_cF (by decide) ?_ | refine tp_dT (by decide) ?_ | refine tp_dF (by decide) ?_ | refine And.intro (by first | decide | (unfold vp_in; decide)) ?_ | fail)
  exact h
theorem tt_4_2 {post : tq_St → Int32 → Prop} {M : tq_St} {n : Nat} (hn : n < 150) (h : post M ((-13))) : ∃ nq, wbX12_taken_31 post nq M (nI n) (nI 2) (nI 4) := by
  have nc : (nI n).toNatClampNeg = n := nI_clamp (by omega)
  refine ⟨4, ?_⟩
  unfold wbX12_taken_31
  repeat' (with_reducible first | refine tp_cT (by decide) ?_ | refine tp_cF (by decide) ?_ | refine tp_dT (by decide) ?_ | refine tp_dF (by decide) ?_ | refine And.intro (by first | decide | (unfold vp_in; decide)) ?_ | fail)
  refine ab_4 ?_
  unfold wbX12_taken_31
  repeat' (with_reducible first | refine tp_cT (by decide) ?_ | refine tp_cF (by decide) ?_ | refine tp_dT (by decide) ?_ | refine tp_dF (by decide) ?_ | refine And.intro (by first | decide | (unfold vp_in; decide)) ?_ | fail)
  refine ab_1 ?_
  unfold wbX12_taken_31
  repeat' (with_reducible first | refine tp_cT (by decide) ?_ | refine tp_cF (by decide) ?_ | refine tp_dT (by decide) ?_ | refine tp_dF (by decide) ?_ | refine And.intro (by first | decide | (unfold vp_in; decide)) ?_ | fail)
  refine ab_0 ?_
  unfold wbX12_taken_31
  repeat' (with_reducible first | refine tp_cT (by decide) ?_ | refine tp_cF (by decide) ?_ | refine tp_dT (by decide) ?_ | refine tp_dF (by decide) ?_ | refine And.intro (by first | decide | (unfold vp_in; decide)) ?_ | fail)
  exact h
theorem ut_4_3 {N : tq_Nn} {post : tq_St → Int32 → Prop} {S : tq_St} (h : post S 0) : wpX11_isUnder N post S (nI 4) (nI 3) := by
  refine ⟨4, ?_⟩
  unfold wbX11_isUnder_4
  repeat' (with_reducible first | refine tp_cT (by decide) ?_ | refine tp_cF (by decide) ?_ | refine tp_dT (by decide) ?_ | refine tp_dF (by decide) ?_ | refine And.intro (by first | decide | (unfold vp_in; decide)) ?_ | fail)
  rw [show tq_above.getD (nI 4).toNatClampNeg 0 = nI 1 from by decide]
  unfold wbX11_isUnder_4
  repeat' (with_reducible first | refine tp_cT (by decide) ?_ | refine tp_cF (by decide) ?_ | refine tp_dT (by decide) ?_ | refine tp_dF (by decide) ?_ | refine And.intro (by first | decide | (unfold vp_in; decide)) ?_ | fail)
  rw [show tq_above.getD (nI 1).toNatClampNeg 0 = nI 0 from by decide]
  unfold wbX11_isUnder_4
  repeat' (with_reducible first | refine tp_cT (by decide) ?_ | refine tp_cF (by decide) ?_ | refine tp_dT (by decide) ?_ | refine tp_dF (by decide) ?_ | refine And.intro (by first | decide | (unfold vp_in; decide)) ?_ | fail)
  rw [show tq_above.getD (nI 0).toNatClampNeg 0 = (-1) from by decide]
  unfold wbX11_isUnder_4
  repeat' (with_reducible first | refine tp_cT (by decide) ?_ | refine tp_cF (by decide) ?_ | refine tp_dT (by decide) ?_ | refine tp_dF (by decide) ?_ | refine And.intro (by first | decide | (unfold vp_in; decide)) ?_ | fail)
  exact h
theorem tt_4_3 {post : tq_St → Int32 → Prop} {M : tq_St} {n : Nat} (hn : n < 150) (h : post M ((-13))) : ∃ nq, wbX12_taken_31 post nq M (nI n) (nI 3) (nI 4) := by
  have nc : (nI n).toNatClampNeg = n := nI_clamp (by omega)
  refine ⟨4, ?_⟩
  unfold wbX12_taken_31
  repeat' (with_reducible first | refine tp_cT (by decide) ?_ | refine tp_cF (by decide) ?_ | refine tp_dT (by decide) ?_ | refine tp_dF (by decide) ?_ | refine And.intro (by first | decide | (unfold vp_in; decide)) ?_ | fail)
  refine ab_4 ?_
  unfold wbX12_taken_31
  repeat' (with_reducible first | refine tp_cT (by decide) ?_ | refine tp_cF (by decide) ?_ | refine tp_dT (by decide) ?_ | refine tp_dF (by decide) ?_ | refine And.intro (by first | decide | (unfold vp_in; decide)) ?_ | fail)
  refine ab_1 ?_
  unfold wbX12_taken_31
  repeat' (with_reducible first | refine tp_cT (by decide) ?_ | refine tp_cF (by decide) ?_ | refine tp_dT (by decide) ?_ | refine tp_dF (by decide) ?_ | refine And.intro (by first | decide | (unfold vp_in; decide)) ?_ | fail)
  refine ab_0 ?_
  unfold wbX12_taken_31
  repeat' (with_reducible first | refine tp_cT (by decide) ?_ | refine tp_cF (by decide) ?_ | refine tp_dT (by decide) ?_ | refine tp_dF (by decide) ?_ | refine And.intro (by first | decide | (unfold vp_in; decide)) ?_ | fail)
  exact h
theorem ut_4_4 {N : tq_Nn} {post : tq_St → Int32 → Prop} {S : tq_St} (h : post S 1) : wpX11_isUnder N post S (nI 4) (nI 4) := by
  refine ⟨1, ?_⟩
  unfold wbX11_isUnder_4
  repeat' (with_reducible first | refine tp_cT (by decide) ?_ | refine tp_cF (by decide) ?_ | refine tp_dT (by decide) ?_ | refine tp_dF (by decide) ?_ | refine And.intro (by first | decide | (unfold vp_in; decide)) ?_ | fail)
  exact h
theorem tt_4_4 {post : tq_St → Int32 → Prop} {M : tq_St} {n : Nat} (hn : n < 150) (h : post M (M 110 0 n)) : ∃ nq, wbX12_taken_31 post nq M (nI n) (nI 4) (nI 4) := by
  have nc : (nI n).toNatClampNeg = n := nI_clamp (by omega)
  refine ⟨1, ?_⟩
  unfold wbX12_taken_31
  repeat' (with_reducible first | refine tp_cT (by decide) ?_ | refine tp_cF (by decide) ?_ | refine tp_dT (by decide) ?_ | refine tp_dF (by decide) ?_ | refine And.intro (by first | decide | (unfold vp_in; decide)) ?_ | fail)
  refine ⟨vp_in_nI hn (by decide), ?_⟩
  rw [nc]
  exact h
theorem ut_4_5 {N : tq_Nn} {post : tq_St → Int32 → Prop} {S : tq_St} (h : post S 0) : wpX11_isUnder N post S (nI 4) (nI 5) := by
  refine ⟨4, ?_⟩
  unfold wbX11_isUnder_4
  repeat' (with_reducible first | refine tp_cT (by decide) ?_ | refine tp_cF (by decide) ?_ | refine tp_dT (by decide) ?_ | refine tp_dF (by decide) ?_ | refine And.intro (by first | decide | (unfold vp_in; decide)) ?_ | fail)
  rw [show tq_above.getD (nI 4).toNatClampNeg 0 = nI 1 from by decide]
  unfold wbX11_isUnder_4
  repeat' (with_reducible first | refine tp_cT (by decide) ?_ | refine tp_cF (by decide) ?_ | refine tp_dT (by decide) ?_ | refine tp_dF (by decide) ?_ | refine And.intro (by first | decide | (unfold vp_in; decide)) ?_ | fail)
  rw [show tq_above.getD (nI 1).toNatClampNeg 0 = nI 0 from by decide]
  unfold wbX11_isUnder_4
  repeat' (with_reducible first | refine tp_cT (by decide) ?_ | refine tp_cF (by decide) ?_ | refine tp_dT (by decide) ?_ | refine tp_dF (by decide) ?_ | refine And.intro (by first | decide | (unfold vp_in; decide)) ?_ | fail)
  rw [show tq_above.getD (nI 0).toNatClampNeg 0 = (-1) from by decide]
  unfold wbX11_isUnder_4
  repeat' (with_reducible first | refine tp_cT (by decide) ?_ | refine tp_cF (by decide) ?_ | refine tp_dT (by decide) ?_ | refine tp_dF (by decide) ?_ | refine And.intro (by first | decide | (unfold vp_in; decide)) ?_ | fail)
  exact h
theorem tt_4_5 {post : tq_St → Int32 → Prop} {M : tq_St} {n : Nat} (hn : n < 150) (h : post M ((-13))) : ∃ nq, wbX12_taken_31 post nq M (nI n) (nI 5) (nI 4) := by
  have nc : (nI n).toNatClampNeg = n := nI_clamp (by omega)
  refine ⟨4, ?_⟩
  unfold wbX12_taken_31
  repeat' (with_reducible first | refine tp_cT (by decide) ?_ | refine tp_cF (by decide) ?_ | refine tp_dT (by decide) ?_ | refine tp_dF (by decide) ?_ | refine And.intro (by first | decide | (unfold vp_in; decide)) ?_ | fail)
  refine ab_4 ?_
  unfold wbX12_taken_31
  repeat' (with_reducible first | refine tp_cT (by decide) ?_ | refine tp_cF (by decide) ?_ | refine tp_dT (by decide) ?_ | refine tp_dF (by decide) ?_ | refine And.intro (by first | decide | (unfold vp_in; decide)) ?_ | fail)
  refine ab_1 ?_
  unfold wbX12_taken_31
  repeat' (with_reducible first | refine tp_cT (by decide) ?_ | refine tp_cF (by decide) ?_ | refine tp_dT (by decide) ?_ | refine tp_dF (by decide) ?_ | refine And.intro (by first | decide | (unfold vp_in; decide)) ?_ | fail)
  refine ab_0 ?_
  unfold wbX12_taken_31
  repeat' (with_reducible first | refine tp_cT (by decide) ?_ | refine tp_cF (by decide) ?_ | refine tp_dT (by decide) ?_ | refine tp_dF (by decide) ?_ | refine And.intro (by first | decide | (unfold vp_in; decide)) ?_ | fail)
  exact h
theorem ut_4_6 {N : tq_Nn} {post : tq_St → Int32 → Prop} {S : tq_St} (h : post S 0) : wpX11_isUnder N post S (nI 4) (nI 6) := by
  refine ⟨4, ?_⟩
  unfold wbX11_isUnder_4
  repeat' (with_reducible first | refine tp_cT (by decide) ?_ | refine tp_cF (by decide) ?_ | refine tp_dT (by decide) ?_ | refine tp_dF (by decide) ?_ | refine And.intro (by first | decide | (unfold vp_in; decide)) ?_ | fail)
  rw [show tq_above.getD (nI 4).toNatClampNeg 0 = nI 1 from by decide]
  unfold wbX11_isUnder_4
  repeat' (with_reducible first | refine tp_cT (by decide) ?_ | refine tp_cF (by decide) ?_ | refine tp_dT (by decide) ?_ | refine tp_dF (by decide) ?_ | refine And.intro (by first | decide | (unfold vp_in; decide)) ?_ | fail)
  rw [show tq_above.getD (nI 1).toNatClampNeg 0 = nI 0 from by decide]
  unfold wbX11_isUnder_4
  repeat' (with_reducible first | refine tp_cT (by decide) ?_ | refine tp_cF (by decide) ?_ | refine tp_dT (by decide) ?_ | refine tp_dF (by decide) ?_ | refine And.intro (by first | decide | (unfold vp_in; decide)) ?_ | fail)
  rw [show tq_above.getD (nI 0).toNatClampNeg 0 = (-1) from by decide]
  unfold wbX11_isUnder_4
  repeat' (with_reducible first | refine tp_cT (by decide) ?_ | refine tp_cF (by decide) ?_ | refine tp_dT (by decide) ?_ | refine tp_dF (by decide) ?_ | refine And.intro (by first | decide | (unfold vp_in; decide)) ?_ | fail)
  exact h
theorem tt_4_6 {post : tq_St → Int32 → Prop} {M : tq_St} {n : Nat} (hn : n < 150) (h : post M ((-13))) : ∃ nq, wbX12_taken_31 post nq M (nI n) (nI 6) (nI 4) := by
  have nc : (nI n).toNatClampNeg = n := nI_clamp (by omega)
  refine ⟨4, ?_⟩
  unfold wbX12_taken_31
  repeat' (with_reducible first | refine tp_cT (by decide) ?_ | refine tp_cF (by decide) ?_ | refine tp_dT (by decide) ?_ | refine tp_dF (by decide) ?_ | refine And.intro (by first | decide | (unfold vp_in; decide)) ?_ | fail)
  refine ab_4 ?_
  unfold wbX12_taken_31
  repeat' (with_reducible first | refine tp_cT (by decide) ?_ | refine tp_cF (by decide) ?_ | refine tp_dT (by decide) ?_ | refine tp_dF (by decide) ?_ | refine And.intro (by first | decide | (unfold vp_in; decide)) ?_ | fail)
  refine ab_1 ?_
  unfold wbX12_taken_31
  repeat' (with_reducible first | refine tp_cT (by decide) ?_ | refine tp_cF (by decide) ?_ | refine tp_dT (by decide) ?_ | refine tp_dF (by decide) ?_ | refine And.intro (by first | decide | (unfold vp_in; decide)) ?_ | fail)
  refine ab_0 ?_
  unfold wbX12_taken_31
  repeat' (with_reducible first | refine tp_cT (by decide) ?_ | refine tp_cF (by decide) ?_ | refine tp_dT (by decide) ?_ | refine tp_dF (by decide) ?_ | refine And.intro (by first | decide | (unfold vp_in; decide)) ?_ | fail)
  exact h
theorem ut_5_0 {N : tq_Nn} {post : tq_St → Int32 → Prop} {S : tq_St} (h : post S 1) : wpX11_isUnder N post S (nI 5) (nI 0) := by
  refine ⟨4, ?_⟩
  unfold wbX11_isUnder_4
  repeat' (with_reducible first | refine tp_cT (by decide) ?_ | refine tp_cF (by decide) ?_ | refine tp_dT (by decide) ?_ | refine tp_dF (by decide) ?_ | refine And.intro (by first | decide | (unfold vp_in; decide)) ?_ | fail)
  rw [show tq_above.getD (nI 5).toNatClampNeg 0 = nI 4 from by decide]
  unfold wbX11_isUnder_4
  repeat' (with_reducible first | refine tp_cT (by decide) ?_ | refine tp_cF (by decide) ?_ | refine tp_dT (by decide) ?_ | refine tp_dF (by decide) ?_ | refine And.intro (by first | decide | (unfold vp_in; decide)) ?_ | fail)
  rw [show tq_above.getD (nI 4).toNatClampNeg 0 = nI 1 from by decide]
  unfold wbX11_isUnder_4
  repeat' (with_reducible first | refine tp_cT (by decide) ?_ | refine tp_cF (by decide) ?_ | refine tp_dT (by decide) ?_ | refine tp_dF (by decide) ?_ | refine And.intro (by first | decide | (unfold vp_in; decide)) ?_ | fail)
  rw [show tq_above.getD (nI 1).toNatClampNeg 0 = nI 0 from by decide]
  unfold wbX11_isUnder_4
  repeat' (with_reducible first | refine tp_cT (by decide) ?_ | refine tp_cF (by decide) ?_ | refine tp_dT (by decide) ?_ | refine tp_dF (by decide) ?_ | refine And.intro (by first | decide | (unfold vp_in; decide)) ?_ | fail)
  exact h
theorem tt_5_0 {post : tq_St → Int32 → Prop} {M : tq_St} {n : Nat} (hn : n < 150) (h : post M (M 110 0 n)) : ∃ nq, wbX12_taken_31 post nq M (nI n) (nI 0) (nI 5) := by
  have nc : (nI n).toNatClampNeg = n := nI_clamp (by omega)
  refine ⟨4, ?_⟩
  unfold wbX12_taken_31
  repeat' (with_reducible first | refine tp_cT (by decide) ?_ | refine tp_cF (by decide) ?_ | refine tp_dT (by decide) ?_ | refine tp_dF (by decide) ?_ | refine And.intro (by first | decide | (unfold vp_in; decide)) ?_ | fail)
  refine ab_5 ?_
  unfold wbX12_taken_31
  repeat' (with_reducible first | refine tp_cT (by decide) ?_ | refine tp_cF (by decide) ?_ | refine tp_dT (by decide) ?_ | refine tp_dF (by decide) ?_ | refine And.intro (by first | decide | (unfold vp_in; decide)) ?_ | fail)
  refine ab_4 ?_
  unfold wbX12_taken_31
  repeat' (with_reducible first | refine tp_cT (by decide) ?_ | refine tp_cF (by decide) ?_ | refine tp_dT (by decide) ?_ | refine tp_dF (by decide) ?_ | refine And.intro (by first | decide | (unfold vp_in; decide)) ?_ | fail)
  refine ab_1 ?_
  unfold wbX12_taken_31
  repeat' (with_reducible first | refine tp_cT (by decide) ?_ | refine tp_cF (by decide) ?_ | refine tp_dT (by decide) ?_ | refine tp_dF (by decide) ?_ | refine And.intro (by first | decide | (unfold vp_in; decide)) ?_ | fail)
  refine ⟨vp_in_nI hn (by decide), ?_⟩
  rw [nc]
  exact h
theorem ut_5_1 {N : tq_Nn} {post : tq_St → Int32 → Prop} {S : tq_St} (h : post S 1) : wpX11_isUnder N post S (nI 5) (nI 1) := by
  refine ⟨3, ?_⟩
  unfold wbX11_isUnder_4
  repeat' (with_reducible first | refine tp_cT (by decide) ?_ | refine tp_cF (by decide) ?_ | refine tp_dT (by decide) ?_ | refine tp_dF (by decide) ?_ | refine And.intro (by first | decide | (unfold vp_in; decide)) ?_ | fail)
  rw [show tq_above.getD (nI 5).toNatClampNeg 0 = nI 4 from by decide]
  unfold wbX11_isUnder_4
  repeat' (with_reducible first | refine tp_cT (by decide) ?_ | refine tp_cF (by decide) ?_ | refine tp_dT (by decide) ?_ | refine tp_dF (by decide) ?_ | refine And.intro (by first | decide | (unfold vp_in; decide)) ?_ | fail)
  rw [show tq_above.getD (nI 4).toNatClampNeg 0 = nI 1 from by decide]
  unfold wbX11_isUnder_4
  repeat' (with_reducible first | refine tp_cT (by decide) ?_ | refine tp_cF (by decide) ?_ | refine tp_dT (by decide) ?_ | refine tp_dF (by decide) ?_ | refine And.intro (by first | decide | (unfold vp_in; decide)) ?_ | fail)
  exact h
theorem tt_5_1 {post : tq_St → Int32 → Prop} {M : tq_St} {n : Nat} (hn : n < 150) (h : post M (M 110 0 n)) : ∃ nq, wbX12_taken_31 post nq M (nI n) (nI 1) (nI 5) := by
  have nc : (nI n).toNatClampNeg = n := nI_clamp (by omega)
  refine ⟨3, ?_⟩
  unfold wbX12_taken_31
  repeat' (with_reducible first | refine tp_cT (by decide) ?_ | refine tp_cF (by decide) ?_ | refine tp_dT (by decide) ?_ | refine tp_dF (by decide) ?_ | refine And.intro (by first | decide | (unfold vp_in; decide)) ?_ | fail)
  refine ab_5 ?_
  unfold wbX12_taken_31
  repeat' (with_reducible first | refine tp_cT (by decide) ?_ | refine tp_cF (by decide) ?_ | refine tp_dT (by decide) ?_ | refine tp_dF (by decide) ?_ | refine And.intro (by first | decide | (unfold vp_in; decide)) ?_ | fail)
  refine ab_4 ?_
  unfold wbX12_taken_31
  repeat' (with_reducible first | refine tp_cT (by decide) ?_ | refine tp_cF (by decide) ?_ | refine tp_dT (by decide) ?_ | refine tp_dF (by decide) ?_ | refine And.intro (by first | decide | (unfold vp_in; decide)) ?_ | fail)
  refine ⟨vp_in_nI hn (by decide), ?_⟩
  rw [nc]
  exact h
theorem ut_5_2 {N : tq_Nn} {post : tq_St → Int32 → Prop} {S : tq_St} (h : post S 0) : wpX11_isUnder N post S (nI 5) (nI 2) := by
  refine ⟨5, ?_⟩
  unfold wbX11_isUnder_4
  repeat' (with_reducible first | refine tp_cT (by decide) ?_ | refine tp_cF (by decide) ?_ | refine tp_dT (by decide) ?_ | refine tp_dF (by decide) ?_ | refine And.intro (by first | decide | (unfold vp_in; decide)) ?_ | fail)
  rw [show tq_above.getD (nI 5).toNatClampNeg 0 = nI 4 from by decide]
  unfold wbX11_isUnder_4
  repeat' (with_reducible first | refine tp_cT (by decide) ?_ | refine tp_cF (by decide) ?_ | refine tp_dT (by decide) ?_ | refine tp_dF (by decide) ?_ | refine And.intro (by first | decide | (unfold vp_in; decide)) ?_ | fail)
  rw [show tq_above.getD (nI 4).toNatClampNeg 0 = nI 1 from by decide]
  unfold wbX11_isUnder_4
  repeat' (with_reducible first | refine tp_cT (by decide) ?_ | refine tp_cF (by decide) ?_ | refine tp_dT (by decide) ?_ | refine tp_dF (by decide) ?_ | refine And.intro (by first | decide | (unfold vp_in; decide)) ?_ | fail)
  rw [show tq_above.getD (nI 1).toNatClampNeg 0 = nI 0 from by decide]
  unfold wbX11_isUnder_4
  repeat' (with_reducible first | refine tp_cT (by decide) ?_ | refine tp_cF (by decide) ?_ | refine tp_dT (by decide) ?_ | refine tp_dF (by decide) ?_ | refine And.intro (by first | decide | (unfold vp_in; decide)) ?_ | fail)
  rw [show tq_above.getD (nI 0).toNatClampNeg 0 = (-1) from by decide]
  unfold wbX11_isUnder_4
  repeat' (with_reducible first | refine tp_cT (by decide) ?_ | refine tp_cF (by decide) ?_ | refine tp_dT (by decide) ?_ | refine tp_dF (by decide) ?_ | refine And.intro (by first | decide | (unfold vp_in; decide)) ?_ | fail)
  exact h
theorem tt_5_2 {post : tq_St → Int32 → Prop} {M : tq_St} {n : Nat} (hn : n < 150) (h : post M ((-13))) : ∃ nq, wbX12_taken_31 post nq M (nI n) (nI 2) (nI 5) := by
  have nc : (nI n).toNatClampNeg = n := nI_clamp (by omega)
  refine ⟨5, ?_⟩
  unfold wbX12_taken_31
  repeat' (with_reducible first | refine tp_cT (by decide) ?_ | refine tp_cF (by decide) ?_ | refine tp_dT (by decide) ?_ | refine tp_dF (by decide) ?_ | refine And.intro (by first | decide | (unfold vp_in; decide)) ?_ | fail)
  refine ab_5 ?_
  unfold wbX12_taken_31
  repeat' (with_reducible first | refine tp_cT (by decide) ?_ | refine tp_cF (by decide) ?_ | refine tp_dT (by decide) ?_ | refine tp_dF (by decide) ?_ | refine And.intro (by first | decide | (unfold vp_in; decide)) ?_ | fail)
  refine ab_4 ?_
  unfold wbX12_taken_31
  repeat' (with_reducible first | refine tp_cT (by decide) ?_ | refine tp_cF (by decide) ?_ | refine tp_dT (by decide) ?_ | refine tp_dF (by decide) ?_ | refine And.intro (by first | decide | (unfold vp_in; decide)) ?_ | fail)
  refine ab_1 ?_
  unfold wbX12_taken_31
  repeat' (with_reducible first | refine tp_cT (by decide) ?_ | refine tp_cF (by decide) ?_ | refine tp_dT (by decide) ?_ | refine tp_dF (by decide) ?_ | refine And.intro (by first | decide | (unfold vp_in; decide)) ?_ | fail)
  refine ab_0 ?_
  unfold wbX12_taken_31
  repeat' (with_reducible first | refine tp_cT (by decide) ?_ | refine tp_cF (by decide) ?_ | refine tp_dT (by decide) ?_ | refine tp_dF (by decide) ?_ | refine And.intro (by first | decide | (unfold vp_in; decide)) ?_ | fail)
  exact h
theorem ut_5_3 {N : tq_Nn} {post : tq_St → Int32 → Prop} {S : tq_St} (h : post S 0) : wpX11_isUnder N post S (nI 5) (nI 3) := by
  refine ⟨5, ?_⟩
  unfold wbX11_isUnder_4
  repeat' (with_reducible first | refine tp_cT (by decide) ?_ | refine tp_cF (by decide) ?_ | refine tp_dT (by decide) ?_ | refine tp_dF (by decide) ?_ | refine And.intro (by first | decide | (unfold vp_in; decide)) ?_ | fail)
  rw [show tq_above.getD (nI 5).toNatClampNeg 0 = nI 4 from by decide]
  unfold wbX11_isUnder_4
  repeat' (with_reducible first | refine tp_cT (by decide) ?_ | refine tp_cF (by decide) ?_ | refine tp_dT (by decide) ?_ | refine tp_dF (by decide) ?_ | refine And.intro (by first | decide | (unfold vp_in; decide)) ?_ | fail)
  rw [show tq_above.getD (nI 4).toNatClampNeg 0 = nI 1 from by decide]
  unfold wbX11_isUnder_4
  repeat' (with_reducible first | refine tp_cT (by decide) ?_ | refine tp_cF (by decide) ?_ | refine tp_dT (by decide) ?_ | refine tp_dF (by decide) ?_ | refine And.intro (by first | decide | (unfold vp_in; decide)) ?_ | fail)
  rw [show tq_above.getD (nI 1).toNatClampNeg 0 = nI 0 from by decide]
  unfold wbX11_isUnder_4
  repeat' (with_reducible first | refine tp_cT (by decide) ?_ | refine tp_cF (by decide) ?_ | refine tp_dT (by decide) ?_ | refine tp_dF (by decide) ?_ | refine And.intro (by first | decide | (unfold vp_in; decide)) ?_ | fail)
  rw [show tq_above.getD (nI 0).toNatClampNeg 0 = (-1) from by decide]
  unfold wbX11_isUnder_4
  repeat' (with_reducible first | refine tp_cT (by decide) ?_ | refine tp_cF (by decide) ?_ | refine tp_dT (by decide) ?_ | refine tp_dF (by decide) ?_ | refine And.intro (by first | decide | (unfold vp_in; decide)) ?_ | fail)
  exact h
theorem tt_5_3 {post : tq_St → Int32 → Prop} {M : tq_St} {n : Nat} (hn : n < 150) (h : post M ((-13))) : ∃ nq, wbX12_taken_31 post nq M (nI n) (nI 3) (nI 5) := by
  have nc : (nI n).toNatClampNeg = n := nI_clamp (by omega)
  refine ⟨5, ?_⟩
  unfold wbX12_taken_31
  repeat' (with_reducible first | refine tp_cT (by decide) ?_ | refine tp_cF (by decide) ?_ | refine tp_dT (by decide) ?_ | refine tp_dF (by decide) ?_ | refine And.intro (by first | decide | (unfold vp_in; decide)) ?_ | fail)
  refine ab_5 ?_
  unfold wbX12_taken_31
  repeat' (with_reducible first | refine tp_cT (by decide) ?_ | refine tp_cF (by decide) ?_ | refine tp_dT (by decide) ?_ | refine tp_dF (by decide) ?_ | refine And.intro (by first | decide | (unfold vp_in; decide)) ?_ | fail)
  refine ab_4 ?_
  unfold wbX12_taken_31
  repeat' (with_reducible first | refine tp_cT (by decide) ?_ | refine tp_cF (by decide) ?_ | refine tp_dT (by decide) ?_ | refine tp_dF (by decide) ?_ | refine And.intro (by first | decide | (unfold vp_in; decide)) ?_ | fail)
  refine ab_1 ?_
  unfold wbX12_taken_31
  repeat' (with_reducible first | refine tp_cT (by decide) ?_ | refine tp_cF (by decide) ?_ | refine tp_dT (by decide) ?_ | refine tp_dF (by decide) ?_ | refine And.intro (by first | decide | (unfold vp_in; decide)) ?_ | fail)
  refine ab_0 ?_
  unfold wbX12_taken_31
  repeat' (with_reducible first | refine tp_cT (by decide) ?_ | refine tp_cF (by decide) ?_ | refine tp_dT (by decide) ?_ | refine tp_dF (by decide) ?_ | refine And.intro (by first | decide | (unfold vp_in; decide)) ?_ | fail)
  exact h
theorem ut_5_4 {N : tq_Nn} {post : tq_St → Int32 → Prop} {S : tq_St} (h : post S 1) : wpX11_isUnder N post S (nI 5) (nI 4) := by
  refine ⟨2, ?_⟩
  unfold wbX11_isUnder_4
  repeat' (with_reducible first | refine tp_cT (by decide) ?_ | refine tp_cF (by decide) ?_ | refine tp_dT (by decide) ?_ | refine tp_dF (by decide) ?_ | refine And.intro (by first | decide | (unfold vp_in; decide)) ?_ | fail)
  rw [show tq_above.getD (nI 5).toNatClampNeg 0 = nI 4 from by decide]
  unfold wbX11_isUnder_4
  repeat' (with_reducible first | refine tp_cT (by decide) ?_ | refine tp_cF (by decide) ?_ | refine tp_dT (by decide) ?_ | refine tp_dF (by decide) ?_ | refine And.intro (by first | decide | (unfold vp_in; decide)) ?_ | fail)
  exact h
theorem tt_5_4 {post : tq_St → Int32 → Prop} {M : tq_St} {n : Nat} (hn : n < 150) (h : post M (M 110 0 n)) : ∃ nq, wbX12_taken_31 post nq M (nI n) (nI 4) (nI 5) := by
  have nc : (nI n).toNatClampNeg = n := nI_clamp (by omega)
  refine ⟨2, ?_⟩
  unfold wbX12_taken_31
  repeat' (with_reducible first | refine tp_cT (by decide) ?_ | refine tp_cF (by decide) ?_ | refine tp_dT (by decide) ?_ | refine tp_dF (by decide) ?_ | refine And.intro (by first | decide | (unfold vp_in; decide)) ?_ | fail)
  refine ab_5 ?_
  unfold wbX12_taken_31
  repeat' (with_reducible first | refine tp_cT (by decide) ?_ | refine tp_cF (by decide) ?_ | refine tp_dT (by decide) ?_ | refine tp_dF (by decide) ?_ | refine And.intro (by first | decide | (unfold vp_in; decide)) ?_ | fail)
  refine ⟨vp_in_nI hn (by decide), ?_⟩
  rw [nc]
  exact h
theorem ut_5_5 {N : tq_Nn} {post : tq_St → Int32 → Prop} {S : tq_St} (h : post S 1) : wpX11_isUnder N post S (nI 5) (nI 5) := by
  refine ⟨1, ?_⟩
  unfold wbX11_isUnder_4
  repeat' (with_reducible first | refine tp_cT (by decide) ?_ | refine tp_cF (by decide) ?_ | refine tp_dT (by decide) ?_ | refine tp_dF (by decide) ?_ | refine And.intro (by first | decide | (unfold vp_in; decide)) ?_ | fail)
  exact h
theorem tt_5_5 {post : tq_St → Int32 → Prop} {M : tq_St} {n : Nat} (hn : n < 150) (h : post M (M 110 0 n)) : ∃ nq, wbX12_taken_31 post nq M (nI n) (nI 5) (nI 5) := by
  have nc : (nI n).toNatClampNeg = n := nI_clamp (by omega)
  refine ⟨1, ?_⟩
  unfold wbX12_taken_31
  repeat' (with_reducible first | refine tp_cT (by decide) ?_ | refine tp_cF (by decide) ?_ | refine tp_dT (by decide) ?_ | refine tp_dF (by decide) ?_ | refine And.intro (by first | decide | (unfold vp_in; decide)) ?_ | fail)
  refine ⟨vp_in_nI hn (by decide), ?_⟩
  rw [nc]
  exact h
theorem ut_5_6 {N : tq_Nn} {post : tq_St → Int32 → Prop} {S : tq_St} (h : post S 0) : wpX11_isUnder N post S (nI 5) (nI 6) := by
  refine ⟨5, ?_⟩
  unfold wbX11_isUnder_4
  repeat' (with_reducible first | refine tp_cT (by decide) ?_ | refine tp_cF (by decide) ?_ | refine tp_dT (by decide) ?_ | refine tp_dF (by decide) ?_ | refine And.intro (by first | decide | (unfold vp_in; decide)) ?_ | fail)
  rw [show tq_above.getD (nI 5).toNatClampNeg 0 = nI 4 from by decide]
  unfold wbX11_isUnder_4
  repeat' (with_reducible first | refine tp_cT (by decide) ?_ | refine tp_cF (by decide) ?_ | refine tp_dT (by decide) ?_ | refine tp_dF (by decide) ?_ | refine And.intro (by first | decide | (unfold vp_in; decide)) ?_ | fail)
  rw [show tq_above.getD (nI 4).toNatClampNeg 0 = nI 1 from by decide]
  unfold wbX11_isUnder_4
  repeat' (with_reducible first | refine tp_cT (by decide) ?_ | refine tp_cF (by decide) ?_ | refine tp_dT (by decide) ?_ | refine tp_dF (by decide) ?_ | refine And.intro (by first | decide | (unfold vp_in; decide)) ?_ | fail)
  rw [show tq_above.getD (nI 1).toNatClampNeg 0 = nI 0 from by decide]
  unfold wbX11_isUnder_4
  repeat' (with_reducible first | refine tp_cT (by decide) ?_ | refine tp_cF (by decide) ?_ | refine tp_dT (by decide) ?_ | refine tp_dF (by decide) ?_ | refine And.intro (by first | decide | (unfold vp_in; decide)) ?_ | fail)
  rw [show tq_above.getD (nI 0).toNatClampNeg 0 = (-1) from by decide]
  unfold wbX11_isUnder_4
  repeat' (with_reducible first | refine tp_cT (by decide) ?_ | refine tp_cF (by decide) ?_ | refine tp_dT (by decide) ?_ | refine tp_dF (by decide) ?_ | refine And.intro (by first | decide | (unfold vp_in; decide)) ?_ | fail)
  exact h
theorem tt_5_6 {post : tq_St → Int32 → Prop} {M : tq_St} {n : Nat} (hn : n < 150) (h : post M ((-13))) : ∃ nq, wbX12_taken_31 post nq M (nI n) (nI 6) (nI 5) := by
  have nc : (nI n).toNatClampNeg = n := nI_clamp (by omega)
  refine ⟨5, ?_⟩
  unfold wbX12_taken_31
  repeat' (with_reducible first | refine tp_cT (by decide) ?_ | refine tp_cF (by decide) ?_ | refine tp_dT (by decide) ?_ | refine tp_dF (by decide) ?_ | refine And.intro (by first | decide | (unfold vp_in; decide)) ?_ | fail)
  refine ab_5 ?_
  unfold wbX12_taken_31
  repeat' (with_reducible first | refine tp_cT (by decide) ?_ | refine tp_cF (by decide) ?_ | refine tp_dT (by decide) ?_ | refine tp_dF (by decide) ?_ | refine And.intro (by first | decide | (unfold vp_in; decide)) ?_ | fail)
  refine ab_4 ?_
  unfold wbX12_taken_31
  repeat' (with_reducible first | refine tp_cT (by decide) ?_ | refine tp_cF (by decide) ?_ | refine tp_dT (by decide) ?_ | refine tp_dF (by decide) ?_ | refine And.intro (by first | decide | (unfold vp_in; decide)) ?_ | fail)
  refine ab_1 ?_
  unfold wbX12_taken_31
  repeat' (with_reducible first | refine tp_cT (by decide) ?_ | refine tp_cF (by decide) ?_ | refine tp_dT (by decide) ?_ | refine tp_dF (by decide) ?_ | refine And.intro (by first | decide | (unfold vp_in; decide)) ?_ | fail)
  refine ab_0 ?_
  unfold wbX12_taken_31
  repeat' (with_reducible first | refine tp_cT (by decide) ?_ | refine tp_cF (by decide) ?_ | refine tp_dT (by decide) ?_ | refine tp_dF (by decide) ?_ | refine And.intro (by first | decide | (unfold vp_in; decide)) ?_ | fail)
  exact h
theorem ut_6_0 {N : tq_Nn} {post : tq_St → Int32 → Prop} {S : tq_St} (h : post S 1) : wpX11_isUnder N post S (nI 6) (nI 0) := by
  refine ⟨4, ?_⟩
  unfold wbX11_isUnder_4
  repeat' (with_reducible first | refine tp_cT (by decide) ?_ | refine tp_cF (by decide) ?_ | refine tp_dT (by decide) ?_ | refine tp_dF (by decide) ?_ | refine And.intro (by first | decide | (unfold vp_in; decide)) ?_ | fail)
  rw [show tq_above.getD (nI 6).toNatClampNeg 0 = nI 3 from by decide]
  unfold wbX11_isUnder_4
  repeat' (with_reducible first | refine tp_cT (by decide) ?_ | refine tp_cF (by decide) ?_ | refine tp_dT (by decide) ?_ | refine tp_dF (by decide) ?_ | refine And.intro (by first | decide | (unfold vp_in; decide)) ?_ | fail)
  rw [show tq_above.getD (nI 3).toNatClampNeg 0 = nI 1 from by decide]
  unfold wbX11_isUnder_4
  repeat' (with_reducible first | refine tp_cT (by decide) ?_ | refine tp_cF (by decide) ?_ | refine tp_dT (by decide) ?_ | refine tp_dF (by decide) ?_ | refine And.intro (by first | decide | (unfold vp_in; decide)) ?_ | fail)
  rw [show tq_above.getD (nI 1).toNatClampNeg 0 = nI 0 from by decide]
  unfold wbX11_isUnder_4
  repeat' (with_reducible first | refine tp_cT (by decide) ?_ | refine tp_cF (by decide) ?_ | refine tp_dT (by decide) ?_ | refine tp_dF (by decide) ?_ | refine And.intro (by first | decide | (unfold vp_in; decide)) ?_ | fail)
  exact h
theorem tt_6_0 {post : tq_St → Int32 → Prop} {M : tq_St} {n : Nat} (hn : n < 150) (h : post M (M 110 0 n)) : ∃ nq, wbX12_taken_31 post nq M (nI n) (nI 0) (nI 6) := by
  have nc : (nI n).toNatClampNeg = n := nI_clamp (by omega)
  refine ⟨4, ?_⟩
  unfold wbX12_taken_31
  repeat' (with_reducible first | refine tp_cT (by decide) ?_ | refine tp_cF (by decide) ?_ | refine tp_dT (by decide) ?_ | refine tp_dF (by decide) ?_ | refine And.intro (by first | decide | (unfold vp_in; decide)) ?_ | fail)
  refine ab_6 ?_
  unfold wbX12_taken_31
  repeat' (with_reducible first | refine tp_cT (by decide) ?_ | refine tp_cF (by decide) ?_ | refine tp_dT (by decide) ?_ | refine tp_dF (by decide) ?_ | refine And.intro (by first | decide | (unfold vp_in; decide)) ?_ | fail)
  refine ab_3 ?_
  unfold wbX12_taken_31
  repeat' (with_reducible first | refine tp_cT (by decide) ?_ | refine tp_cF (by decide) ?_ | refine tp_dT (by decide) ?_ | refine tp_dF (by decide) ?_ | refine And.intro (by first | decide | (unfold vp_in; decide)) ?_ | fail)
  refine ab_1 ?_
  unfold wbX12_taken_31
  repeat' (with_reducible first | refine tp_cT (by decide) ?_ | refine tp_cF (by decide) ?_ | refine tp_dT (by decide) ?_ | refine tp_dF (by decide) ?_ | refine And.intro (by first | decide | (unfold vp_in; decide)) ?_ | fail)
  refine ⟨vp_in_nI hn (by decide), ?_⟩
  rw [nc]
  exact h
theorem ut_6_1 {N : tq_Nn} {post : tq_St → Int32 → Prop} {S : tq_St} (h : post S 1) : wpX11_isUnder N post S (nI 6) (nI 1) := by
  refine ⟨3, ?_⟩
  unfold wbX11_isUnder_4
  repeat' (with_reducible first | refine tp_cT (by decide) ?_ | refine tp_cF (by decide) ?_ | refine tp_dT (by decide) ?_ | refine tp_dF (by decide) ?_ | refine And.intro (by first | decide | (unfold vp_in; decide)) ?_ | fail)
  rw [show tq_above.getD (nI 6).toNatClampNeg 0 = nI 3 from by decide]
  unfold wbX11_isUnder_4
  repeat' (with_reducible first | refine tp_cT (by decide) ?_ | refine tp_cF (by decide) ?_ | refine tp_dT (by decide) ?_ | refine tp_dF (by decide) ?_ | refine And.intro (by first | decide | (unfold vp_in; decide)) ?_ | fail)
  rw [show tq_above.getD (nI 3).toNatClampNeg 0 = nI 1 from by decide]
  unfold wbX11_isUnder_4
  repeat' (with_reducible first | refine tp_cT (by decide) ?_ | refine tp_cF (by decide) ?_ | refine tp_dT (by decide) ?_ | refine tp_dF (by decide) ?_ | refine And.intro (by first | decide | (unfold vp_in; decide)) ?_ | fail)
  exact h
theorem tt_6_1 {post : tq_St → Int32 → Prop} {M : tq_St} {n : Nat} (hn : n < 150) (h : post M (M 110 0 n)) : ∃ nq, wbX12_taken_31 post nq M (nI n) (nI 1) (nI 6) := by
  have nc : (nI n).toNatClampNeg = n := nI_clamp (by omega)
  refine ⟨3, ?_⟩
  unfold wbX12_taken_31
  repeat' (with_reducible first | refine tp_cT (by decide) ?_ | refine tp_cF (by decide) ?_ | refine tp_dT (by decide) ?_ | refine tp_dF (by decide) ?_ | refine And.intro (by first | decide | (unfold vp_in; decide)) ?_ | fail)
  refine ab_6 ?_
  unfold wbX12_taken_31
  repeat' (with_reducible first | refine tp_cT (by decide) ?_ | refine tp_cF (by decide) ?_ | refine tp_dT (by decide) ?_ | refine tp_dF (by decide) ?_ | refine And.intro (by first | decide | (unfold vp_in; decide)) ?_ | fail)
  refine ab_3 ?_
  unfold wbX12_taken_31
  repeat' (with_reducible first | refine tp_cT (by decide) ?_ | refine tp_cF (by decide) ?_ | refine tp_dT (by decide) ?_ | refine tp_dF (by decide) ?_ | refine And.intro (by first | decide | (unfold vp_in; decide)) ?_ | fail)
  refine ⟨vp_in_nI hn (by decide), ?_⟩
  rw [nc]
  exact h
theorem ut_6_2 {N : tq_Nn} {post : tq_St → Int32 → Prop} {S : tq_St} (h : post S 0) : wpX11_isUnder N post S (nI 6) (nI 2) := by
  refine ⟨5, ?_⟩
  unfold wbX11_isUnder_4
  repeat' (with_reducible first | refine tp_cT (by decide) ?_ | refine tp_cF (by decide) ?_ | refine tp_dT (by decide) ?_ | refine tp_dF (by decide) ?_ | refine And.intro (by first | decide | (unfold vp_in; decide)) ?_ | fail)
  rw [show tq_above.getD (nI 6).toNatClampNeg 0 = nI 3 from by decide]
  unfold wbX11_isUnder_4
  repeat' (with_reducible first | refine tp_cT (by decide) ?_ | refine tp_cF (by decide) ?_ | refine tp_dT (by decide) ?_ | refine tp_dF (by decide) ?_ | refine And.intro (by first | decide | (unfold vp_in; decide)) ?_ | fail)
  rw [show tq_above.getD (nI 3).toNatClampNeg 0 = nI 1 from by decide]
  unfold wbX11_isUnder_4
  repeat' (with_reducible first | refine tp_cT (by decide) ?_ | refine tp_cF (by decide) ?_ | refine tp_dT (by decide) ?_ | refine tp_dF (by decide) ?_ | refine And.intro (by first | decide | (unfold vp_in; decide)) ?_ | fail)
  rw [show tq_above.getD (nI 1).toNatClampNeg 0 = nI 0 from by decide]
  unfold wbX11_isUnder_4
  repeat' (with_reducible first | refine tp_cT (by decide) ?_ | refine tp_cF (by decide) ?_ | refine tp_dT (by decide) ?_ | refine tp_dF (by decide) ?_ | refine And.intro (by first | decide | (unfold vp_in; decide)) ?_ | fail)
  rw [show tq_above.getD (nI 0).toNatClampNeg 0 = (-1) from by decide]
  unfold wbX11_isUnder_4
  repeat' (with_reducible first | refine tp_cT (by decide) ?_ | refine tp_cF (by decide) ?_ | refine tp_dT (by decide) ?_ | refine tp_dF (by decide) ?_ | refine And.intro (by first | decide | (unfold vp_in; decide)) ?_ | fail)
  exact h
theorem tt_6_2 {post : tq_St → Int32 → Prop} {M : tq_St} {n : Nat} (hn : n < 150) (h : post M ((-13))) : ∃ nq, wbX12_taken_31 post nq M (nI n) (nI 2) (nI 6) := by
  have nc : (nI n).toNatClampNeg = n := nI_clamp (by omega)
  refine ⟨5, ?_⟩
  unfold wbX12_taken_31
  repeat' (with_reducible first | refine tp_cT (by decide) ?_ | refine tp_cF (by decide) ?_ | refine tp_dT (by decide) ?_ | refine tp_dF (by decide) ?_ | refine And.intro (by first | decide | (unfold vp_in; decide)) ?_ | fail)
  refine ab_6 ?_
  unfold wbX12_taken_31
  repeat' (with_reducible first | refine tp_cT (by decide) ?_ | refine tp_cF (by decide) ?_ | refine tp_dT (by decide) ?_ | refine tp_dF (by decide) ?_ | refine And.intro (by first | decide | (unfold vp_in; decide)) ?_ | fail)
  refine ab_3 ?_
  unfold wbX12_taken_31
  repeat' (with_reducible first | refine tp_cT (by decide) ?_ | refine tp_cF (by decide) ?_ | refine tp_dT (by decide) ?_ | refine tp_dF (by decide) ?_ | refine And.intro (by first | decide | (unfold vp_in; decide)) ?_ | fail)
  refine ab_1 ?_
  unfold wbX12_taken_31
  repeat' (with_reducible first | refine tp_cT (by decide) ?_ | refine tp_cF (by decide) ?_ | refine tp_dT (by decide) ?_ | refine tp_dF (by decide) ?_ | refine And.intro (by first | decide | (unfold vp_in; decide)) ?_ | fail)
  refine ab_0 ?_
  unfold wbX12_taken_31
  repeat' (with_reducible first | refine tp_cT (by decide) ?_ | refine tp_cF (by decide) ?_ | refine tp_dT (by decide) ?_ | refine tp_dF (by decide) ?_ | refine And.intro (by first | decide | (unfold vp_in; decide)) ?_ | fail)
  exact h
theorem ut_6_3 {N : tq_Nn} {post : tq_St → Int32 → Prop} {S : tq_St} (h : post S 1) : wpX11_isUnder N post S (nI 6) (nI 3) := by
  refine ⟨2, ?_⟩
  unfold wbX11_isUnder_4
  repeat' (with_reducible first | refine tp_cT (by decide) ?_ | refine tp_cF (by decide) ?_ | refine tp_dT (by decide) ?_ | refine tp_dF (by decide) ?_ | refine And.intro (by first | decide | (unfold vp_in; decide)) ?_ | fail)
  rw [show tq_above.getD (nI 6).toNatClampNeg 0 = nI 3 from by decide]
  unfold wbX11_isUnder_4
  repeat' (with_reducible first | refine tp_cT (by decide) ?_ | refine tp_cF (by decide) ?_ | refine tp_dT (by decide) ?_ | refine tp_dF (by decide) ?_ | refine And.intro (by first | decide | (unfold vp_in; decide)) ?_ | fail)
  exact h
theorem tt_6_3 {post : tq_St → Int32 → Prop} {M : tq_St} {n : Nat} (hn : n < 150) (h : post M (M 110 0 n)) : ∃ nq, wbX12_taken_31 post nq M (nI n) (nI 3) (nI 6) := by
  have nc : (nI n).toNatClampNeg = n := nI_clamp (by omega)
  refine ⟨2, ?_⟩
  unfold wbX12_taken_31
  repeat' (with_reducible first | refine tp_cT (by decide) ?_ | refine tp_cF (by decide) ?_ | refine tp_dT (by decide) ?_ | refine tp_dF (by decide) ?_ | refine And.intro (by first | decide | (unfold vp_in; decide)) ?_ | fail)
  refine ab_6 ?_
  unfold wbX12_taken_31
  repeat' (with_reducible first | refine tp_cT (by decide) ?_ | refine tp_cF (by decide) ?_ | refine tp_dT (by decide) ?_ | refine tp_dF (by decide) ?_ | refine And.intro (by first | decide | (unfold vp_in; decide)) ?_ | fail)
  refine ⟨vp_in_nI hn (by decide), ?_⟩
  rw [nc]
  exact h
theorem ut_6_4 {N : tq_Nn} {post : tq_St → Int32 → Prop} {S : tq_St} (h : post S 0) : wpX11_isUnder N post S (nI 6) (nI 4) := by
  refine ⟨5, ?_⟩
  unfold wbX11_isUnder_4
  repeat' (with_reducible first | refine tp_cT (by decide) ?_ | refine tp_cF (by decide) ?_ | refine tp_dT (by decide) ?_ | refine tp_dF (by decide) ?_ | refine And.intro (by first | decide | (unfold vp_in; decide)) ?_ | fail)
  rw [show tq_above.getD (nI 6).toNatClampNeg 0 = nI 3 from by decide]
  unfold wbX11_isUnder_4
  repeat' (with_reducible first | refine tp_cT (by decide) ?_ | refine tp_cF (by decide) ?_ | refine tp_dT (by decide) ?_ | refine tp_dF (by decide) ?_ | refine And.intro (by first | decide | (unfold vp_in; decide)) ?_ | fail)
  rw [show tq_above.getD (nI 3).toNatClampNeg 0 = nI 1 from by decide]
  unfold wbX11_isUnder_4
  repeat' (with_reducible first | refine tp_cT (by decide) ?_ | refine tp_cF (by decide) ?_ | refine tp_dT (by decide) ?_ | refine tp_dF (by decide) ?_ | refine And.intro (by first | decide | (unfold vp_in; decide)) ?_ | fail)
  rw [show tq_above.getD (nI 1).toNatClampNeg 0 = nI 0 from by decide]
  unfold wbX11_isUnder_4
  repeat' (with_reducible first | refine tp_cT (by decide) ?_ | refine tp_cF (by decide) ?_ | refine tp_dT (by decide) ?_ | refine tp_dF (by decide) ?_ | refine And.intro (by first | decide | (unfold vp_in; decide)) ?_ | fail)
  rw [show tq_above.getD (nI 0).toNatClampNeg 0 = (-1) from by decide]
  unfold wbX11_isUnder_4
  repeat' (with_reducible first | refine tp_cT (by decide) ?_ | refine tp_cF (by decide) ?_ | refine tp_dT (by decide) ?_ | refine tp_dF (by decide) ?_ | refine And.intro (by first | decide | (unfold vp_in; decide)) ?_ | fail)
  exact h
theorem tt_6_4 {post : tq_St → Int32 → Prop} {M : tq_St} {n : Nat} (hn : n < 150) (h : post M ((-13))) : ∃ nq, wbX12_taken_31 post nq M (nI n) (nI 4) (nI 6) := by
  have nc : (nI n).toNatClampNeg = n := nI_clamp (by omega)
  refine ⟨5, ?_⟩
  unfold wbX12_taken_31
  repeat' (with_reducible first | refine tp_cT (by decide) ?_ | refine tp_cF (by decide) ?_ | refine tp_dT (by decide) ?_ | refine tp_dF (by decide) ?_ | refine And.intro (by first | decide | (unfold vp_in; decide)) ?_ | fail)
  refine ab_6 ?_
  unfold wbX12_taken_31
  repeat' (with_reducible first | refine tp_cT (by decide) ?_ | refine tp_cF (by decide) ?_ | refine tp_dT (by decide) ?_ | refine tp_dF (by decide) ?_ | refine And.intro (by first | decide | (unfold vp_in; decide)) ?_ | fail)
  refine ab_3 ?_
  unfold wbX12_taken_31
  repeat' (with_reducible first | refine tp_cT (by decide) ?_ | refine tp_cF (by decide) ?_ | refine tp_dT (by decide) ?_ | refine tp_dF (by decide) ?_ | refine And.intro (by first | decide | (unfold vp_in; decide)) ?_ | fail)
  refine ab_1 ?_
  unfold wbX12_taken_31
  repeat' (with_reducible first | refine tp_cT (by decide) ?_ | refine tp_cF (by decide) ?_ | refine tp_dT (by decide) ?_ | refine tp_dF (by decide) ?_ | refine And.intro (by first | decide | (unfold vp_in; decide)) ?_ | fail)
  refine ab_0 ?_
  unfold wbX12_taken_31
  repeat' (with_reducible first | refine tp_cT (by decide) ?_ | refine tp_cF (by decide) ?_ | refine tp_dT (by decide) ?_ | refine tp_dF (by decide) ?_ | refine And.intro (by first | decide | (unfold vp_in; decide)) ?_ | fail)
  exact h
theorem ut_6_5 {N : tq_Nn} {post : tq_St → Int32 → Prop} {S : tq_St} (h : post S 0) : wpX11_isUnder N post S (nI 6) (nI 5) := by
  refine ⟨5, ?_⟩
  unfold wbX11_isUnder_4
  repeat' (with_reducible first | refine tp_cT (by decide) ?_ | refine tp_cF (by decide) ?_ | refine tp_dT (by decide) ?_ | refine tp_dF (by decide) ?_ | refine And.intro (by first | decide | (unfold vp_in; decide)) ?_ | fail)
  rw [show tq_above.getD (nI 6).toNatClampNeg 0 = nI 3 from by decide]
  unfold wbX11_isUnder_4
  repeat' (with_reducible first | refine tp_cT (by decide) ?_ | refine tp_cF (by decide) ?_ | refine tp_dT (by decide) ?_ | refine tp_dF (by decide) ?_ | refine And.intro (by first | decide | (unfold vp_in; decide)) ?_ | fail)
  rw [show tq_above.getD (nI 3).toNatClampNeg 0 = nI 1 from by decide]
  unfold wbX11_isUnder_4
  repeat' (with_reducible first | refine tp_cT (by decide) ?_ | refine tp_cF (by decide) ?_ | refine tp_dT (by decide) ?_ | refine tp_dF (by decide) ?_ | refine And.intro (by first | decide | (unfold vp_in; decide)) ?_ | fail)
  rw [show tq_above.getD (nI 1).toNatClampNeg 0 = nI 0 from by decide]
  unfold wbX11_isUnder_4
  repeat' (with_reducible first | refine tp_cT (by decide) ?_ | refine tp_cF (by decide) ?_ | refine tp_dT (by decide) ?_ | refine tp_dF (by decide) ?_ | refine And.intro (by first | decide | (unfold vp_in; decide)) ?_ | fail)
  rw [show tq_above.getD (nI 0).toNatClampNeg 0 = (-1) from by decide]
  unfold wbX11_isUnder_4
  repeat' (with_reducible first | refine tp_cT (by decide) ?_ | refine tp_cF (by decide) ?_ | refine tp_dT (by decide) ?_ | refine tp_dF (by decide) ?_ | refine And.intro (by first | decide | (unfold vp_in; decide)) ?_ | fail)
  exact h
theorem tt_6_5 {post : tq_St → Int32 → Prop} {M : tq_St} {n : Nat} (hn : n < 150) (h : post M ((-13))) : ∃ nq, wbX12_taken_31 post nq M (nI n) (nI 5) (nI 6) := by
  have nc : (nI n).toNatClampNeg = n := nI_clamp (by omega)
  refine ⟨5, ?_⟩
  unfold wbX12_taken_31
  repeat' (with_reducible first | refine tp_cT (by decide) ?_ | refine tp_cF (by decide) ?_ | refine tp_dT (by decide) ?_ | refine tp_dF (by decide) ?_ | refine And.intro (by first | decide | (unfold vp_in; decide)) ?_ | fail)
  refine ab_6 ?_
  unfold wbX12_taken_31
  repeat' (with_reducible first | refine tp_cT (by decide) ?_ | refine tp_cF (by decide) ?_ | refine tp_dT (by decide) ?_ | refine tp_dF (by decide) ?_ | refine And.intro (by first | decide | (unfold vp_in; decide)) ?_ | fail)
  refine ab_3 ?_
  unfold wbX12_taken_31
  repeat' (with_reducible first | refine tp_cT (by decide) ?_ | refine tp_cF (by decide) ?_ | refine tp_dT (by decide) ?_ | refine tp_dF (by decide) ?_ | refine And.intro (by first | decide | (unfold vp_in; decide)) ?_ | fail)
  refine ab_1 ?_
  unfold wbX12_taken_31
  repeat' (with_reducible first | refine tp_cT (by decide) ?_ | refine tp_cF (by decide) ?_ | refine tp_dT (by decide) ?_ | refine tp_dF (by decide) ?_ | refine And.intro (by first | decide | (unfold vp_in; decide)) ?_ | fail)
  refine ab_0 ?_
  unfold wbX12_taken_31
  repeat' (with_reducible first | refine tp_cT (by decide) ?_ | refine tp_cF (by decide) ?_ | refine tp_dT (by decide) ?_ | refine tp_dF (by decide) ?_ | refine And.intro (by first | decide | (unfold vp_in; decide)) ?_ | fail)
  exact h
theorem ut_6_6 {N : tq_Nn} {post : tq_St → Int32 → Prop} {S : tq_St} (h : post S 1) : wpX11_isUnder N post S (nI 6) (nI 6) := by
  refine ⟨1, ?_⟩
  unfold wbX11_isUnder_4
  repeat' (with_reducible first | refine tp_cT (by decide) ?_ | refine tp_cF (by decide) ?_ | refine tp_dT (by decide) ?_ | refine tp_dF (by decide) ?_ | refine And.intro (by first | decide | (unfold vp_in; decide)) ?_ | fail)
  exact h
theorem tt_6_6 {post : tq_St → Int32 → Prop} {M : tq_St} {n : Nat} (hn : n < 150) (h : post M (M 110 0 n)) : ∃ nq, wbX12_taken_31 post nq M (nI n) (nI 6) (nI 6) := by
  have nc : (nI n).toNatClampNeg = n := nI_clamp (by omega)
  refine ⟨1, ?_⟩
  unfold wbX12_taken_31
  repeat' (with_reducible first | refine tp_cT (by decide) ?_ | refine tp_cF (by decide) ?_ | refine tp_dT (by decide) ?_ | refine tp_dF (by decide) ?_ | refine And.intro (by first | decide | (unfold vp_in; decide)) ?_ | fail)
  refine ⟨vp_in_nI hn (by decide), ?_⟩
  rw [nc]
  exact h
theorem tp_under {k i : Nat} (hk : 1 ≤ k) (hk2 : k ≤ 6) (hi : i ≤ 6) : ∃ b : Prop, (∀ (N : tq_Nn) (post : tq_St → Int32 → Prop) (S : tq_St), post S (tp_b b) → wpX11_isUnder N post S (nI k) (nI i)) ∧ (∀ (post : tq_St → Int32 → Prop) (M : tq_St) (n : Nat), n < 150 → (b → post M (M 110 0 n)) → (¬ b → post M (-13)) → ∃ nq, wbX12_taken_31 post nq M (nI n) (nI i) (nI k)) := by
  have h : k = 1 ∨ k = 2 ∨ k = 3 ∨ k = 4 ∨ k = 5 ∨ k = 6 := by omega
  have h2 : i = 0 ∨ i = 1 ∨ i = 2 ∨ i = 3 ∨ i = 4 ∨ i = 5 ∨ i = 6 := by omega
  rcases h with rfl | rfl | rfl | rfl | rfl | rfl
  · rcases h2 with rfl | rfl | rfl | rfl | rfl | rfl | rfl
    · exact ⟨True, fun N post S z => ut_1_0 (by rw [tp_bt trivial] at z; exact z), fun post M n hn z _ => tt_1_0 hn (z trivial)⟩
    · exact ⟨True, fun N post S z => ut_1_1 (by rw [tp_bt trivial] at z; exact z), fun post M n hn z _ => tt_1_1 hn (z trivial)⟩
    · exact ⟨False, fun N post S z => ut_1_2 (by rw [tp_bf (fun y => y)] at z; exact z), fun post M n hn _ z => tt_1_2 hn (z (fun y => y))⟩
    · exact ⟨False, fun N post S z => ut_1_3 (by rw [tp_bf (fun y => y)] at z; exact z), fun post M n hn _ z => tt_1_3 hn (z (fun y => y))⟩
    · exact ⟨False, fun N post S z => ut_1_4 (by rw [tp_bf (fun y => y)] at z; exact z), fun post M n hn _ z => tt_1_4 hn (z (fun y => y))⟩
    · exact ⟨False, fun N post S z => ut_1_5 (by rw [tp_bf (fun y => y)] at z; exact z), fun post M n hn _ z => tt_1_5 hn (z (fun y => y))⟩
    · exact ⟨False, fun N post S z => ut_1_6 (by rw [tp_bf (fun y => y)] at z; exact z), fun post M n hn _ z => tt_1_6 hn (z (fun y => y))⟩
  · rcases h2 with rfl | rfl | rfl | rfl | rfl | rfl | rfl
    · exact ⟨True, fun N post S z => ut_2_0 (by rw [tp_bt trivial] at z; exact z), fun post M n hn z _ => tt_2_0 hn (z trivial)⟩
    · exact ⟨True, fun N post S z => ut_2_1 (by rw [tp_bt trivial] at z; exact z), fun post M n hn z _ => tt_2_1 hn (z trivial)⟩
    · exact ⟨True, fun N post S z => ut_2_2 (by rw [tp_bt trivial] at z; exact z), fun post M n hn z _ => tt_2_2 hn (z trivial)⟩
    · exact ⟨False, fun N post S z => ut_2_3 (by rw [tp_bf (fun y => y)] at z; exact z), fun post M n hn _ z => tt_2_3 hn (z (fun y => y))⟩
    · exact ⟨False, fun N post S z => ut_2_4 (by rw [tp_bf (fun y => y)] at z; exact z), fun post M n hn _ z => tt_2_4 hn (z (fun y => y))⟩
    · exact ⟨False, fun N post S z => ut_2_5 (by rw [tp_bf (fun y => y)] at z; exact z), fun post M n hn _ z => tt_2_5 hn (z (fun y => y))⟩
    · exact ⟨False, fun N post S z => ut_2_6 (by rw [tp_bf (fun y => y)] at z; exact z), fun post M n hn _ z => tt_2_6 hn (z (fun y => y))⟩
  · rcases h2 with rfl | rfl | rfl | rfl | rfl | rfl | rfl
    · exact ⟨True, fun N post S z => ut_3_0 (by rw [tp_bt trivial] at z; exact z), fun post M n hn z _ => tt_3_0 hn (z trivial)⟩
    · exact ⟨True, fun N post S z => ut_3_1 (by rw [tp_bt trivial] at z; exact z), fun post M n hn z _ => tt_3_1 hn (z trivial)⟩
    · exact ⟨False, fun N post S z => ut_3_2 (by rw [tp_bf (fun y => y)] at z; exact z), fun post M n hn _ z => tt_3_2 hn (z (fun y => y))⟩
    · exact ⟨True, fun N post S z => ut_3_3 (by rw [tp_bt trivial] at z; exact z), fun post M n hn z _ => tt_3_3 hn (z trivial)⟩
    · exact ⟨False, fun N post S z => ut_3_4 (by rw [tp_bf (fun y => y)] at z; exact z), fun post M n hn _ z => tt_3_4 hn (z (fun y => y))⟩
    · exact ⟨False, fun N post S z => ut_3_5 (by rw [tp_bf (fun y => y)] at z; exact z), fun post M n hn _ z => tt_3_5 hn (z (fun y => y))⟩
    · exact ⟨False, fun N post S z => ut_3_6 (by rw [tp_bf (fun y => y)] at z; exact z), fun post M n hn _ z => tt_3_6 hn (z (fun y => y))⟩
  · rcases h2 with rfl | rfl | rfl | rfl | rfl | rfl | rfl
    · exact ⟨True, fun N post S z => ut_4_0 (by rw [tp_bt trivial] at z; exact z), fun post M n hn z _ => tt_4_0 hn (z trivial)⟩
    · exact ⟨True, fun N post S z => ut_4_1 (by rw [tp_bt trivial] at z; exact z), fun post M n hn z _ => tt_4_1 hn (z trivial)⟩
    · exact ⟨False, fun N post S z => ut_4_2 (by rw [tp_bf (fun y => y)] at z; exact z), fun post M n hn _ z => tt_4_2 hn (z (fun y => y))⟩
    · exact ⟨False, fun N post S z => ut_4_3 (by rw [tp_bf (fun y => y)] at z; exact z), fun post M n hn _ z => tt_4_3 hn (z (fun y => y))⟩
    · exact ⟨True, fun N post S z => ut_4_4 (by rw [tp_bt trivial] at z; exact z), fun post M n hn z _ => tt_4_4 hn (z trivial)⟩
    · exact ⟨False, fun N post S z => ut_4_5 (by rw [tp_bf (fun y => y)] at z; exact z), fun post M n hn _ z => tt_4_5 hn (z (fun y => y))⟩
    · exact ⟨False, fun N post S z => ut_4_6 (by rw [tp_bf (fun y => y)] at z; exact z), fun post M n hn _ z => tt_4_6 hn (z (fun y => y))⟩
  · rcases h2 with rfl | rfl | rfl | rfl | rfl | rfl | rfl
    · exact ⟨True, fun N post S z => ut_5_0 (by rw [tp_bt trivial] at z; exact z), fun post M n hn z _ => tt_5_0 hn (z trivial)⟩
    · exact ⟨True, fun N post S z => ut_5_1 (by rw [tp_bt trivial] at z; exact z), fun post M n hn z _ => tt_5_1 hn (z trivial)⟩
    · exact ⟨False, fun N post S z => ut_5_2 (by rw [tp_bf (fun y => y)] at z; exact z), fun post M n hn _ z => tt_5_2 hn (z (fun y => y))⟩
    · exact ⟨False, fun N post S z => ut_5_3 (by rw [tp_bf (fun y => y)] at z; exact z), fun post M n hn _ z => tt_5_3 hn (z (fun y => y))⟩
    · exact ⟨True, fun N post S z => ut_5_4 (by rw [tp_bt trivial] at z; exact z), fun post M n hn z _ => tt_5_4 hn (z trivial)⟩
    · exact ⟨True, fun N post S z => ut_5_5 (by rw [tp_bt trivial] at z; exact z), fun post M n hn z _ => tt_5_5 hn (z trivial)⟩
    · exact ⟨False, fun N post S z => ut_5_6 (by rw [tp_bf (fun y => y)] at z; exact z), fun post M n hn _ z => tt_5_6 hn (z (fun y => y))⟩
  · rcases h2 with rfl | rfl | rfl | rfl | rfl | rfl | rfl
    · exact ⟨True, fun N post S z => ut_6_0 (by rw [tp_bt trivial] at z; exact z), fun post M n hn z _ => tt_6_0 hn (z trivial)⟩
    · exact ⟨True, fun N post S z => ut_6_1 (by rw [tp_bt trivial] at z; exact z), fun post M n hn z _ => tt_6_1 hn (z trivial)⟩
    · exact ⟨False, fun N post S z => ut_6_2 (by rw [tp_bf (fun y => y)] at z; exact z), fun post M n hn _ z => tt_6_2 hn (z (fun y => y))⟩
    · exact ⟨True, fun N post S z => ut_6_3 (by rw [tp_bt trivial] at z; exact z), fun post M n hn z _ => tt_6_3 hn (z trivial)⟩
    · exact ⟨False, fun N post S z => ut_6_4 (by rw [tp_bf (fun y => y)] at z; exact z), fun post M n hn _ z => tt_6_4 hn (z (fun y => y))⟩
    · exact ⟨False, fun N post S z => ut_6_5 (by rw [tp_bf (fun y => y)] at z; exact z), fun post M n hn _ z => tt_6_5 hn (z (fun y => y))⟩
    · exact ⟨True, fun N post S z => ut_6_6 (by rw [tp_bt trivial] at z; exact z), fun post M n hn z _ => tt_6_6 hn (z trivial)⟩
theorem sim_taken {c : Nat} {N : tq_Nn} {S M : tq_St} {p0 p1 : Int32} (hR : tp_R c N S M) (hc : c < 512) : wpX11_taken N (fun S1 r => wpX12_taken (fun M1 r1 => r = r1 ∧ tp_R (c + 1) N S1 M1) M p0 p1) S p0 p1 := by
  have hT := hR.tick hc
  obtain ⟨d, pn, P, Sh, V, E, A, t, r, G, C, OL, h0⟩ := id hR
  obtain ⟨hsc, hss, har, hpl, hlg, hsh, hpe, hmo, hpr, hsr, hpa, hkn, hst, hpm, hsi, hab, hsm, hvo, hvm, hbi, hlb, hiv, hod, hol, hoi, hfi, hli, had, hro⟩ := id h0
  obtain ⟨s1, s2, s3, s4, s5, s6, s7, s8, s9, b1, b2, b3, b4, b5, b6, b7, b8, b9, e1, e2⟩ := id hsc
  obtain ⟨x1, x2, x3, x4, x5, x6, x7⟩ := id hss
  obtain ⟨y1, y2, y3, y4, y5, y6, y7, y8, y9, y10, y11, y12, y13, y14, y15⟩ := id har
  obtain ⟨w1, w2, w3, w4, w5, w6⟩ := id hpl
  obtain ⟨l1, l2, l3, l4, l5, l6, l7, l8⟩ := id hli
  simp (disch := decide) only [wpX11_taken, wbX11_taken_53, wpX12_taken, tp_isFactory, tp_isPlace, tp_isSort, tp_isSheet, tp_isHolder, tp_isPerson, tp_isPaper, tp_isShip, tp_isVoyage, tp_within, tp_in, tp_mPlace, tp_mFactory, tp_mSort, tp_mBuyer, tp_b0, tp_b1, Classical.not_not, tp_nb0, tp_nb1, tp_nb, true_and, Int32.reduceToInt, tp_len l1, tp_ti (show P < 2 ^ 31 by omega), tp_mPaper s3 (show P < 2 ^ 31 by omega)]
  by_cases h2 : tp_i 0 6 p1
  · obtain ⟨i, i3, rfl⟩ := tp_i_lt (m := 7) h2 (by decide)
    by_cases h1 : tp_i 0 ((P : Int) - 1) p0
    · obtain ⟨n, n3, rfl⟩ := tp_i_lt (m := P) h1 (by omega)
      have nc : (nI n).toNatClampNeg = n := nI_clamp (by omega)
      have nv : vp_in (nI n) 150 := vp_in_nI (by omega) (by decide)
      obtain ⟨g1, g2, g3⟩ := tp_get l1 n3
      have pb := hpa n n3
      unfold q_pb at pb
      obtain ⟨pa1, pa2, pa3, pa4, pa5, pa6, pa7, pa8, pa9, pa10, pa11, pa12⟩ := pb
      obtain ⟨⟨K, k1, k2, k3⟩, _⟩ := hpm.1 n n3
      simp only [g2, nc]
      obtain ⟨b, u1, u2⟩ := tp_under (i := i) k1 k2 (by omega)
      repeat' (with_reducible first | refine tp_cT (by first | assumption | decide) ?_ | refine tp_cF (by first | assumption | decide) ?_ | refine tp_dT (by first | assumption | decide) ?_ | refine tp_dF (by first | assumption | decide) ?_ | refine And.intro (by first | assumption | decide) ?_ | refine tp_ae ?_)
      rw [pa5, k3]
      refine u1 N _ S ?_
      by_cases hb : b
      · rw [tp_bt hb]
        repeat' (with_reducible first | refine tp_cT (by first | assumption | decide) ?_ | refine tp_cF (by first | assumption | decide) ?_ | refine tp_dT (by first | assumption | decide) ?_ | refine tp_dF (by first | assumption | decide) ?_ | refine And.intro (by first | assumption | decide) ?_ | refine tp_ae ?_)
        refine u2 _ M n (by omega) (fun _ => ⟨k3.symm, hT⟩) (fun z => absurd hb z)
      · rw [tp_bf hb]
        repeat' (with_reducible first | refine tp_cT (by first | assumption | decide) ?_ | refine tp_cF (by first | assumption | decide) ?_ | refine tp_dT (by first | assumption | decide) ?_ | refine tp_dF (by first | assumption | decide) ?_ | refine And.intro (by first | assumption | decide) ?_ | refine tp_ae ?_)
        refine u2 _ M n (by omega) (fun z => absurd z hb) (fun _ => ⟨rfl, hT⟩)
    · repeat' (with_reducible first | refine tp_cT (by first | assumption | decide) ?_ | refine tp_cF (by first | assumption | decide) ?_ | refine tp_dT (by first | assumption | decide) ?_ | refine tp_dF (by first | assumption | decide) ?_ | refine And.intro (by first | assumption | decide) ?_ | refine tp_ae ?_)
      first | exact ⟨rfl, hT⟩ | exact hT
  · repeat' (with_reducible first | refine tp_cT (by first | assumption | decide) ?_ | refine tp_cF (by first | assumption | decide) ?_ | refine tp_dT (by first | assumption | decide) ?_ | refine tp_dF (by first | assumption | decide) ?_ | refine And.intro (by first | assumption | decide) ?_ | refine tp_ae ?_)
    first | exact ⟨rfl, hT⟩ | exact hT
theorem sim_act {c : Nat} {N : tq_Nn} {S M : tq_St} {p0 p1 p2 : Int32} (hR : tp_R c N S M) (hc : c < 512) : wpX11_act N (fun S1 r => wpX12_act (fun M1 r1 => r = r1 ∧ tp_R (c + 1) N S1 M1) M p0 p1 p2) S p0 p1 p2 := by
  obtain ⟨d, pn, P, Sh, V, E, A, t, r, G, C, OL, h0⟩ := hR
  have h9 : RR c 8 5 d pn P Sh V E A t 0 (5000 * d + c) G C OL N (tq_up S 5 0 1 0) (tq_up M 64 0 66 0) := RR_tr (r1 := 0) h0 (by omega)
  have hT9 : tp_R (c + 1) N (tq_up S 5 0 1 0) (tq_up M 64 0 66 0) := h9.R hc rfl rfl rfl
  simp only [wpX11_act, wpX0_begin, wpX12_act, forall_eq]
  generalize tq_up S 5 0 1 0 = S9 at h9 hT9 ⊢
  generalize tq_up M 64 0 66 0 = M9 at h9 hT9 ⊢
  clear h0
  obtain ⟨hsc, hss, har, hpl, hlg, hsh, hpe, hmo, hpr, hsr, hpa, hkn, hst, hpm, hsi, hab, hsm, hvo, hvm, hbi, hlb, hiv, hod, hol, hoi, hfi, hli, had, hro⟩ := id h9
  obtain ⟨s1, s2, s3, s4, s5, s6, s7, s8, s9, b1, b2, b3, b4, b5, b6, b7, b8, b9, e1, e2⟩ := id hsc
  obtain ⟨x1, x2, x3, x4, x5, x6, x7⟩ := id hss
  obtain ⟨y1, y2, y3, y4, y5, y6, y7, y8, y9, y10, y11, y12, y13, y14, y15⟩ := id har
  obtain ⟨w1, w2, w3, w4, w5, w6⟩ := id hpl
  obtain ⟨l1, l2, l3, l4, l5, l6, l7, l8⟩ := id hli
  simp (disch := decide) only [wpX11_act, wpX0_begin, wbX11_act_24, wpX12_act, wbX12_act_38, wbX12_act_39, tp_isFactory, tp_isPlace, tp_isSort, tp_isSheet, tp_isHolder, tp_isPerson, tp_isPaper, tp_isShip, tp_isVoyage, tp_within, tp_in, tp_mPlace, tp_mFactory, tp_mSort, tp_mBuyer, tp_b0, tp_b1, Classical.not_not, tp_nb0, tp_nb1, tp_nb, true_and, Int32.reduceToInt, tp_len l1, tp_ti (show P < 2 ^ 31 by omega), tp_mPaper s3 (show P < 2 ^ 31 by omega)]
  by_cases h1 : tp_i 0 ((P : Int) - 1) p0
  · obtain ⟨n, n3, rfl⟩ := tp_i_lt (m := P) h1 (by omega)
    have nc : (nI n).toNatClampNeg = n := nI_clamp (by omega)
    have nv : vp_in (nI n) 150 := vp_in_nI (by omega) (by decide)
    obtain ⟨g1, g2, g3⟩ := tp_get l1 n3
    have pb := hpa n n3
    unfold q_pb at pb
    obtain ⟨pa1, pa2, pa3, pa4, pa5, pa6, pa7, pa8, pa9, pa10, pa11, pa12⟩ := pb
    obtain ⟨⟨K, k1, k2, k3⟩, _⟩ := hpm.1 n n3
    by_cases h2 : tp_i 0 2 p1
    · obtain ⟨a, a3, rfl⟩ := tp_i_lt (m := 3) h2 (by decide)
      have ha : Act 8 10 n K (M9 112 0 n) K a := by
        have : a = 0 ∨ a = 1 ∨ a = 2 := by omega
        rcases this with rfl | rfl | rfl
        · exact (Act0 (by omega) k2).up (by decide) (by decide)
        · exact (Act1 (by omega) k2 k2).up (by decide) (by decide)
        · exact Act2 (by omega) k2 k2
      obtain ⟨bs, f, q1, q2, q3⟩ := ha
      simp only [g2, nc]
      repeat' (with_reducible first | refine tp_cT (by first | assumption | decide) ?_ | refine tp_cF (by first | assumption | decide) ?_ | refine tp_dT (by first | assumption | decide) ?_ | refine tp_dF (by first | assumption | decide) ?_ | refine And.intro (by first | assumption | decide) ?_ | refine tp_ae ?_)
      rw [pa5, k3]
      refine q2 N S9 (G 15 0 n) 0 0 8 p2 _ g3 pa4 (pa5.trans k3) pa8 (x7.trans s9) (by decide) (by decide) ?_
      repeat' (with_reducible first | refine tp_cT (by first | assumption | decide) ?_ | refine tp_cF (by first | assumption | decide) ?_ | refine tp_dT (by first | assumption | decide) ?_ | refine tp_dF (by first | assumption | decide) ?_ | refine And.intro (by first | assumption | decide) ?_ | refine tp_ae ?_)
      refine q3 M9 0 8 p2 _ k3 rfl s9 (by decide) ⟨rfl, ?_⟩
      exact (RR_begs h9 (by omega)).R hc rfl rfl rfl
    · repeat' (with_reducible first | refine tp_cT (by first | assumption | decide) ?_ | refine tp_cF (by first | assumption | decide) ?_ | refine tp_dT (by first | assumption | decide) ?_ | refine tp_dF (by first | assumption | decide) ?_ | refine And.intro (by first | assumption | decide) ?_ | refine tp_ae ?_)
      first | exact ⟨rfl, hT9⟩ | exact hT9
  · repeat' (with_reducible first | refine tp_cT (by first | assumption | decide) ?_ | refine tp_cF (by first | assumption | decide) ?_ | refine tp_dT (by first | assumption | decide) ?_ | refine tp_dF (by first | assumption | decide) ?_ | refine And.intro (by first | assumption | decide) ?_ | refine tp_ae ?_)
    first | exact ⟨rfl, hT9⟩ | exact hT9
