/-! pure: calls, the sixth: sheets, the tape, counts, ships taken up -/
theorem tp_sheet67 {M : tq_St} {post : tq_St → Int32 → Prop} {q : Nat} (hq : q < 3) (h : post (tq_cp M 163 q (fun j => if j < 64 then 0 else M 163 q j)) 1) : ∃ nq, wbX12_sheet_67 post nq M (nI q) 0 := by
  refine ⟨65, tp_loop0 (W := fun m T i => wbX12_sheet_67 post m T (nI q) (nI i)) (n := 64) (f := fun j (T : tq_St) => tq_up T 163 q j 0) (s0 := M) (fun m => ?_) (fun m i hi hw => ?_)⟩
  · unfold wbX12_sheet_67
    refine tp_dT (nI_le (a := 64) (b := 64) (by decide) (by decide)) ?_
    rw [tp_row M 163 q (fun _ => 0) 64]; exact h
  · unfold wbX12_sheet_67
    refine tp_dF (nI_ge (a := i) (b := 64) hi (by decide)) ⟨vp_in_nI hq (by decide), vp_in_nI hi (by decide), tp_ae ?_⟩
    rw [nI_clamp (by omega), nI_clamp (by omega), nI_1]; exact hw
theorem sim_sheet {c : Nat} {N : tq_Nn} {S M : tq_St} {p0 p1 p2 : Int32} (hR : tp_R c N S M) (hc : c < 512) : wpX11_sheet N (fun S1 r => wpX12_sheet (fun M1 r1 => r = r1 ∧ tp_R (c + 1) N S1 M1) M p0 p1 p2) S p0 p1 p2 := by
  have hT := hR.tick hc
  obtain ⟨d, pn, P, Sh, V, E, A, t, r, G, C, OL, h0⟩ := id hR
  obtain ⟨hsc, hss, har, hpl, hlg, hsh, hpe, hmo, hpr, hsr, hpa, hkn, hst, hpm, hsi, hab, hsm, hvo, hvm, hbi, hlb, hiv, hod, hol, hoi, hfi, hli, had, hro⟩ := id h0
  obtain ⟨s1, s2, s3, s4, s5, s6, s7, s8, s9, b1, b2, b3, b4, b5, b6, b7, b8, b9, e1, e2⟩ := id hsc
  obtain ⟨x1, x2, x3, x4, x5, x6, x7⟩ := id hss
  obtain ⟨y1, y2, y3, y4, y5, y6, y7, y8, y9, y10, y11, y12, y13, y14, y15⟩ := id har
  obtain ⟨w1, w2, w3, w4, w5, w6⟩ := id hpl
  obtain ⟨l1, l2, l3, l4, l5, l6, l7, l8⟩ := id hli
  by_cases h1 : tp_i 0 2 p0
  · obtain ⟨q, q3, rfl⟩ := tp_i_lt (m := 3) h1 (by decide)
    have qc : (nI q).toNatClampNeg = q := nI_clamp (by omega)
    have qv : vp_in (nI q) 3 := vp_in_nI q3 (by decide)
    have ef : ∀ T : tq_St, T 163 q = M 163 q → (fun j => if j < 64 then 0 else T 163 q j) = tq_fl (S 49 q) 64 0 := by
      intro T hT
      rw [hT, y15]; rfl
    simp (disch := decide) only [wpX11_sheet, wbX11_sheet_16, wpX7_become, wpX12_sheet, wbX12_sheet_28, wbX12_sheet_31, wbX12_sheet_42, wbX12_sheet_63, tp_isFactory, tp_isPlace, tp_isSort, tp_isSheet, tp_isHolder, tp_isPerson, tp_isPaper, tp_isShip, tp_isVoyage, tp_within, tp_in, tp_mPlace, tp_mFactory, tp_mSort, tp_mBuyer, tp_b0, tp_b1, Classical.not_not, tp_nb0, tp_nb1, tp_nb, true_and, Int32.reduceToInt, qc, forall_eq, tq_upk, tq_upj, tq_upe]
    by_cases h2 : tp_i (-1) 2 p1
    · have h2a := h2.1
      have h2b := h2.2
      by_cases h3 : p1 < 0
      · have h4 : ¬ 0 ≤ p1 := by rw [tp_lt] at h3; rw [tp_le]; simp at h3 ⊢; omega
        have h5 : p1 = -1 := by rw [tp_lt] at h3; rw [tp_eq]; simp at h3 ⊢; omega
        subst h5
        repeat' (with_reducible first | refine tp_cT (by first | assumption | decide) ?_ | refine tp_cF (by first | assumption | decide) ?_ | refine tp_dT (by first | assumption | decide) ?_ | refine tp_dF (by first | assumption | decide) ?_ | refine And.intro (by first | assumption | decide) ?_ | refine tp_ae ?_)
        refine tp_sheet67 q3 ?_
        rw [ef _ (by simp (disch := decide) only [tq_upk])]
        first | exact ⟨rfl, (RR_sheet (z := 0) h0 (by decide) (by decide)).R hc rfl rfl rfl⟩ | exact (RR_sheet (z := 0) h0 (by decide) (by decide)).R hc rfl rfl rfl
      · have h4 : 0 ≤ p1 := by rw [tp_lt] at h3; rw [tp_le]; simp at h3 ⊢; omega
        by_cases h5 : p2 ≤ 64
        · by_cases h6 : 0 ≤ p2
          · have h7 : ∃ z : Nat, z ≤ 64 ∧ p2 = nI z := by
              obtain ⟨z, z1, z2, z3⟩ := tp_nat (x := p2) (by rw [tp_le] at h6; simpa using h6)
              refine ⟨z, ?_, z2⟩
              rw [tp_le, z3] at h5
              simp at h5
              omega
            obtain ⟨z, hz, rfl⟩ := h7
            repeat' (with_reducible first | refine tp_cT (by first | assumption | decide) ?_ | refine tp_cF (by first | assumption | decide) ?_ | refine tp_dT (by first | assumption | decide) ?_ | refine tp_dF (by first | assumption | decide) ?_ | refine And.intro (by first | assumption | decide) ?_ | refine tp_ae ?_)
            refine tp_sheet67 q3 ?_
            rw [ef _ (by simp (disch := decide) only [tq_upk])]
            first | exact ⟨rfl, (RR_sheet h0 h2 hz).R hc rfl rfl rfl⟩ | exact (RR_sheet h0 h2 hz).R hc rfl rfl rfl
          · repeat' (with_reducible first | refine tp_cT (by first | assumption | decide) ?_ | refine tp_cF (by first | assumption | decide) ?_ | refine tp_dT (by first | assumption | decide) ?_ | refine tp_dF (by first | assumption | decide) ?_ | refine And.intro (by first | assumption | decide) ?_ | refine tp_ae ?_)
            first | exact ⟨rfl, hT⟩ | exact hT
        · repeat' (with_reducible first | refine tp_cT (by first | assumption | decide) ?_ | refine tp_cF (by first | assumption | decide) ?_ | refine tp_dT (by first | assumption | decide) ?_ | refine tp_dF (by first | assumption | decide) ?_ | refine And.intro (by first | assumption | decide) ?_ | refine tp_ae ?_)
          first | exact ⟨rfl, hT⟩ | exact hT
    · repeat' (with_reducible first | refine tp_cT (by first | assumption | decide) ?_ | refine tp_cF (by first | assumption | decide) ?_ | refine tp_dT (by first | assumption | decide) ?_ | refine tp_dF (by first | assumption | decide) ?_ | refine And.intro (by first | assumption | decide) ?_ | refine tp_ae ?_)
      first | exact ⟨rfl, hT⟩ | exact hT
  · simp (disch := decide) only [wpX11_sheet, wbX11_sheet_16, wpX7_become, wpX12_sheet, wbX12_sheet_28, wbX12_sheet_31, wbX12_sheet_42, wbX12_sheet_63, tp_isFactory, tp_isPlace, tp_isSort, tp_isSheet, tp_isHolder, tp_isPerson, tp_isPaper, tp_isShip, tp_isVoyage, tp_within, tp_in, tp_mPlace, tp_mFactory, tp_mSort, tp_mBuyer, tp_b0, tp_b1, Classical.not_not, tp_nb0, tp_nb1, tp_nb, true_and, Int32.reduceToInt]
    repeat' (with_reducible first | refine tp_cT (by first | assumption | decide) ?_ | refine tp_cF (by first | assumption | decide) ?_ | refine tp_dT (by first | assumption | decide) ?_ | refine tp_dF (by first | assumption | decide) ?_ | refine And.intro (by first | assumption | decide) ?_ | refine tp_ae ?_)
    first | exact ⟨rfl, hT⟩ | exact hT
theorem sim_cell {c : Nat} {N : tq_Nn} {S M : tq_St} {p0 p1 p2 : Int32} (hR : tp_R c N S M) (hc : c < 512) : wpX11_cell N (fun S1 r => wpX12_cell (fun M1 r1 => r = r1 ∧ tp_R (c + 1) N S1 M1) M p0 p1 p2) S p0 p1 p2 := by
  have hT := hR.tick hc
  obtain ⟨d, pn, P, Sh, V, E, A, t, r, G, C, OL, h0⟩ := id hR
  obtain ⟨hsc, hss, har, hpl, hlg, hsh, hpe, hmo, hpr, hsr, hpa, hkn, hst, hpm, hsi, hab, hsm, hvo, hvm, hbi, hlb, hiv, hod, hol, hoi, hfi, hli, had, hro⟩ := id h0
  obtain ⟨s1, s2, s3, s4, s5, s6, s7, s8, s9, b1, b2, b3, b4, b5, b6, b7, b8, b9, e1, e2⟩ := id hsc
  obtain ⟨x1, x2, x3, x4, x5, x6, x7⟩ := id hss
  obtain ⟨y1, y2, y3, y4, y5, y6, y7, y8, y9, y10, y11, y12, y13, y14, y15⟩ := id har
  obtain ⟨w1, w2, w3, w4, w5, w6⟩ := id hpl
  obtain ⟨l1, l2, l3, l4, l5, l6, l7, l8⟩ := id hli
  by_cases h1 : tp_i 0 2 p0
  · obtain ⟨q, q3, rfl⟩ := tp_i_lt (m := 3) h1 (by decide)
    have qc : (nI q).toNatClampNeg = q := nI_clamp (by omega)
    have qv : vp_in (nI q) 3 := vp_in_nI q3 (by decide)
    obtain ⟨k1, k2, k3, k4, z, hz, ez⟩ := hsh q q3
    have k5 : (nI z - 1).toInt = (z : Int) - 1 := tp_mless rfl (by omega)
    simp (disch := decide) only [wpX11_cell, wpX7_isMissing, wbX7_isMissing_12, wpX7_has, wbX7_has_22, wbX7_has_23, wpX7_put, wbX7_put_44, wpX12_cell, wpX12_cut, wbX12_cut_20, tp_isFactory, tp_isPlace, tp_isSort, tp_isSheet, tp_isHolder, tp_isPerson, tp_isPaper, tp_isShip, tp_isVoyage, tp_within, tp_in, tp_mPlace, tp_mFactory, tp_mSort, tp_mBuyer, tp_b0, tp_b1, Classical.not_not, tp_nb0, tp_nb1, tp_nb, true_and, Int32.reduceToInt, qc, k1, k2, ez, k5, forall_eq, y15]
    by_cases h2 : 0 ≤ M 162 0 q
    · by_cases h3 : tp_i 0 ((z : Int) - 1) p1
      · obtain ⟨i, i3, rfl⟩ := tp_i_lt (m := z) h3 (by omega)
        have u1 : ¬ nI i < 0 := nI_pos (by omega)
        have u2 : ¬ (1 : Int32) < 0 := by decide
        have u3 : ¬ nI z - 1 < nI i := by rw [tp_lt, k5, tp_ti (by omega)]; omega
        have u4 : vp_in (nI i) 64 := vp_in_nI (by omega) (by decide)
        by_cases h4 : M 162 0 q = 0
        · repeat' (with_reducible first | refine tp_cT (by first | assumption | decide) ?_ | refine tp_cF (by first | assumption | decide) ?_ | refine tp_dT (by first | assumption | decide) ?_ | refine tp_dF (by first | assumption | decide) ?_ | refine And.intro (by first | assumption | decide) ?_ | refine tp_ae ?_)
          first | exact ⟨rfl, (RR_cell h0).R hc rfl rfl rfl⟩ | exact (RR_cell h0).R hc rfl rfl rfl
        · by_cases h5 : M 162 0 q = 1
          · repeat' (with_reducible first | refine tp_cT (by first | assumption | decide) ?_ | refine tp_cF (by first | assumption | decide) ?_ | refine tp_dT (by first | assumption | decide) ?_ | refine tp_dF (by first | assumption | decide) ?_ | refine And.intro (by first | assumption | decide) ?_ | refine tp_ae ?_)
            first | exact ⟨rfl, (RR_cell h0).R hc rfl rfl rfl⟩ | exact (RR_cell h0).R hc rfl rfl rfl
          · repeat' (with_reducible first | refine tp_cT (by first | assumption | decide) ?_ | refine tp_cF (by first | assumption | decide) ?_ | refine tp_dT (by first | assumption | decide) ?_ | refine tp_dF (by first | assumption | decide) ?_ | refine And.intro (by first | assumption | decide) ?_ | refine tp_ae ?_)
            first | exact ⟨rfl, (RR_cell h0).R hc rfl rfl rfl⟩ | exact (RR_cell h0).R hc rfl rfl rfl
      · by_cases u1 : p1 < 0
        · repeat' (with_reducible first | refine tp_cT (by first | assumption | decide) ?_ | refine tp_cF (by first | assumption | decide) ?_ | refine tp_dT (by first | assumption | decide) ?_ | refine tp_dF (by first | assumption | decide) ?_ | refine And.intro (by first | assumption | decide) ?_ | refine tp_ae ?_)
          first | exact ⟨rfl, hT⟩ | exact hT
        · have u2 : ¬ (1 : Int32) < 0 := by decide
          have u3 : nI z - 1 < p1 := by
            rw [tp_lt, k5]
            rw [tp_lt] at u1
            simp at u1
            unfold tp_i at h3
            omega
          repeat' (with_reducible first | refine tp_cT (by first | assumption | decide) ?_ | refine tp_cF (by first | assumption | decide) ?_ | refine tp_dT (by first | assumption | decide) ?_ | refine tp_dF (by first | assumption | decide) ?_ | refine And.intro (by first | assumption | decide) ?_ | refine tp_ae ?_)
          first | exact ⟨rfl, hT⟩ | exact hT
    · repeat' (with_reducible first | refine tp_cT (by first | assumption | decide) ?_ | refine tp_cF (by first | assumption | decide) ?_ | refine tp_dT (by first | assumption | decide) ?_ | refine tp_dF (by first | assumption | decide) ?_ | refine And.intro (by first | assumption | decide) ?_ | refine tp_ae ?_)
      first | exact ⟨rfl, hT⟩ | exact hT
  · simp (disch := decide) only [wpX11_cell, wpX7_isMissing, wbX7_isMissing_12, wpX7_has, wbX7_has_22, wbX7_has_23, wpX7_put, wbX7_put_44, wpX12_cell, wpX12_cut, wbX12_cut_20, tp_isFactory, tp_isPlace, tp_isSort, tp_isSheet, tp_isHolder, tp_isPerson, tp_isPaper, tp_isShip, tp_isVoyage, tp_within, tp_in, tp_mPlace, tp_mFactory, tp_mSort, tp_mBuyer, tp_b0, tp_b1, Classical.not_not, tp_nb0, tp_nb1, tp_nb, true_and, Int32.reduceToInt]
    repeat' (with_reducible first | refine tp_cT (by first | assumption | decide) ?_ | refine tp_cF (by first | assumption | decide) ?_ | refine tp_dT (by first | assumption | decide) ?_ | refine tp_dF (by first | assumption | decide) ?_ | refine And.intro (by first | assumption | decide) ?_ | refine tp_ae ?_)
    first | exact ⟨rfl, hT⟩ | exact hT
theorem sim_carry {c : Nat} {N : tq_Nn} {S M : tq_St} {p0 p1 p2 p3 p4 : Int32} (hR : tp_R c N S M) (hc : c < 512) : wpX11_carry N (fun S1 r => wpX12_carry (fun M1 r1 => r = r1 ∧ tp_R (c + 1) N S1 M1) M p0 p1 p2 p3 p4) S p0 p1 p2 p3 p4 := by
  have hT := hR.tick hc
  obtain ⟨d, pn, P, Sh, V, E, A, t, r, G, C, OL, h0⟩ := id hR
  obtain ⟨hsc, hss, har, hpl, hlg, hsh, hpe, hmo, hpr, hsr, hpa, hkn, hst, hpm, hsi, hab, hsm, hvo, hvm, hbi, hlb, hiv, hod, hol, hoi, hfi, hli, had, hro⟩ := id h0
  obtain ⟨s1, s2, s3, s4, s5, s6, s7, s8, s9, b1, b2, b3, b4, b5, b6, b7, b8, b9, e1, e2⟩ := id hsc
  obtain ⟨x1, x2, x3, x4, x5, x6, x7⟩ := id hss
  obtain ⟨y1, y2, y3, y4, y5, y6, y7, y8, y9, y10, y11, y12, y13, y14, y15⟩ := id har
  obtain ⟨w1, w2, w3, w4, w5, w6⟩ := id hpl
  obtain ⟨l1, l2, l3, l4, l5, l6, l7, l8⟩ := id hli
  by_cases h1 : tp_i 0 2 p0
  · obtain ⟨q, q3, rfl⟩ := tp_i_lt (m := 3) h1 (by decide)
    have qc : (nI q).toNatClampNeg = q := nI_clamp (by omega)
    have qv : vp_in (nI q) 3 := vp_in_nI q3 (by decide)
    have q33 : (q < 3) := q3
    obtain ⟨k1, k2, k3, k4, z, hz, ez⟩ := hsh q q3
    by_cases h2 : tp_i 0 2 p2
    · obtain ⟨u, u3, rfl⟩ := tp_i_lt (m := 3) h2 (by decide)
      have uc : (nI u).toNatClampNeg = u := nI_clamp (by omega)
      have uv : vp_in (nI u) 3 := vp_in_nI u3 (by decide)
      obtain ⟨g1, g2, g3, g4, y, hy, ey⟩ := hsh u u3
      simp (disch := decide) only [wpX11_carry, wbX11_carry_14, wpX7_isMissing, wbX7_isMissing_12, wbX11_carry_49, wbX11_carry_96, wpX7_has, wbX7_has_22, wbX7_has_23, wpX12_carry, wbX12_carry_18, wbX12_carry_39, wbX12_carry_109, tp_isFactory, tp_isPlace, tp_isSort, tp_isSheet, tp_isHolder, tp_isPerson, tp_isPaper, tp_isShip, tp_isVoyage, tp_within, tp_in, tp_mPlace, tp_mFactory, tp_mSort, tp_mBuyer, tp_b0, tp_b1, Classical.not_not, tp_nb0, tp_nb1, tp_nb, true_and, Int32.reduceToInt, qc, uc, k1, k2, ez, g1, g2, ey, y15, forall_eq, lg_cmp_le, lg_cmp_lt, lg_cmp_ge, lg_cmp_gt]
      by_cases h3 : M 162 0 q < 0
      · have h4 : ¬ 0 ≤ M 162 0 q := by rw [tp_lt] at h3; rw [tp_le]; simp at h3 ⊢; omega
        repeat' (with_reducible first | refine tp_cT (by first | assumption | decide) ?_ | refine tp_cF (by first | assumption | decide) ?_ | refine tp_dT (by first | assumption | decide) ?_ | refine tp_dF (by first | assumption | decide) ?_ | refine And.intro (by first | assumption | decide) ?_ | refine tp_ae ?_)
        first | exact ⟨rfl, hT⟩ | exact hT
      · have h4 : 0 ≤ M 162 0 q := by rw [tp_lt] at h3; rw [tp_le]; simp at h3 ⊢; omega
        by_cases h5 : 0 ≤ M 162 0 u
        · by_cases h6 : M 162 0 q = M 162 0 u
          · by_cases h7 : p4 < 0
            · repeat' (with_reducible first | refine tp_cT (by first | assumption | decide) ?_ | refine tp_cF (by first | assumption | decide) ?_ | refine tp_dT (by first | assumption | decide) ?_ | refine tp_dF (by first | assumption | decide) ?_ | refine And.intro (by first | assumption | decide) ?_ | refine tp_ae ?_)
              first | exact ⟨rfl, hT⟩ | exact hT
            · by_cases h8 : p1 < 0
              · repeat' (with_reducible first | refine tp_cT (by first | assumption | decide) ?_ | refine tp_cF (by first | assumption | decide) ?_ | refine tp_dT (by first | assumption | decide) ?_ | refine tp_dF (by first | assumption | decide) ?_ | refine And.intro (by first | assumption | decide) ?_ | refine tp_ae ?_)
                first | exact ⟨rfl, hT⟩ | exact hT
              · have n4 : ∃ n : Nat, n < 2 ^ 31 ∧ p4 = nI n := nI_of h7
                have n1 : ∃ n : Nat, n < 2 ^ 31 ∧ p1 = nI n := nI_of h8
                obtain ⟨n, hn, rfl⟩ := n4
                obtain ⟨i, hi, rfl⟩ := n1
                have c1 : ((nI z).toInt64 < (nI i).toInt64 + (nI n).toInt64) ↔ (z : Int) < i + n := by
                  rw [tp_llt, tp_ladd (by rw [tp_l64, tp_l64, tp_ti hi, tp_ti hn]; omega) (by rw [tp_l64, tp_l64, tp_ti hi, tp_ti hn]; omega), tp_l64, tp_l64, tp_l64, tp_ti hi, tp_ti hn, tp_ti (by omega)]
                have c2 : (nI z - nI n < nI i) ↔ (z : Int) < i + n := by
                  rw [tp_lt, tp_sub (by rw [tp_ti hn, tp_ti (by omega)]; omega) (by rw [tp_ti hn, tp_ti (by omega)]; omega), tp_ti hi, tp_ti hn, tp_ti (by omega)]; omega
                have hic : (nI i).toNatClampNeg = i := nI_clamp hi
                have hnc : (nI n).toNatClampNeg = n := nI_clamp hn
                simp only [c1, c2, hic, hnc]
                by_cases d1 : (z : Int) < i + n
                · by_cases h9 : p3 < 0
                  · repeat' (with_reducible first | refine tp_cT (by first | assumption | decide) ?_ | refine tp_cF (by first | assumption | decide) ?_ | refine tp_dT (by first | assumption | decide) ?_ | refine tp_dF (by first | assumption | decide) ?_ | refine And.intro (by first | assumption | decide) ?_ | refine tp_ae ?_)
                    first | exact ⟨rfl, hT⟩ | exact hT
                  · repeat' (with_reducible first | refine tp_cT (by first | assumption | decide) ?_ | refine tp_cF (by first | assumption | decide) ?_ | refine tp_dT (by first | assumption | decide) ?_ | refine tp_dF (by first | assumption | decide) ?_ | refine And.intro (by first | assumption | decide) ?_ | refine tp_ae ?_)
                    first | exact ⟨rfl, hT⟩ | exact hT
                · by_cases h9 : p3 < 0
                  · repeat' (with_reducible first | refine tp_cT (by first | assumption | decide) ?_ | refine tp_cF (by first | assumption | decide) ?_ | refine tp_dT (by first | assumption | decide) ?_ | refine tp_dF (by first | assumption | decide) ?_ | refine And.intro (by first | assumption | decide) ?_ | refine tp_ae ?_)
                    first | exact ⟨rfl, hT⟩ | exact hT
                  · have n3 : ∃ n : Nat, n < 2 ^ 31 ∧ p3 = nI n := nI_of h9
                    obtain ⟨j, hj, rfl⟩ := n3
                    have hjc : (nI j).toNatClampNeg = j := nI_clamp hj
                    have c3 : ((nI j).toInt64 + (nI n).toInt64 ≤ (nI y).toInt64) ↔ ¬ (y : Int) < j + n := by
                      rw [tp_lle, tp_ladd (by rw [tp_l64, tp_l64, tp_ti hj, tp_ti hn]; omega) (by rw [tp_l64, tp_l64, tp_ti hj, tp_ti hn]; omega), tp_l64, tp_l64, tp_l64, tp_ti hj, tp_ti hn, tp_ti (by omega)]; omega
                    have c4 : (nI y - nI n < nI j) ↔ (y : Int) < j + n := by
                      rw [tp_lt, tp_sub (by rw [tp_ti hn, tp_ti (by omega)]; omega) (by rw [tp_ti hn, tp_ti (by omega)]; omega), tp_ti hj, tp_ti hn, tp_ti (by omega)]; omega
                    simp only [c3, c4, hjc]
                    by_cases d2 : (y : Int) < j + n
                    · have d3 : ¬ ¬ (y : Int) < j + n := fun z => z d2
                      repeat' (with_reducible first | refine tp_cT (by first | assumption | decide) ?_ | refine tp_cF (by first | assumption | decide) ?_ | refine tp_dT (by first | assumption | decide) ?_ | refine tp_dF (by first | assumption | decide) ?_ | refine And.intro (by first | assumption | decide) ?_ | refine tp_ae ?_)
                      first | exact ⟨rfl, hT⟩ | exact hT
                    · have e5 : i + n ≤ 64 := by omega
                      have e6 : j + n ≤ 64 := by omega
                      repeat' (with_reducible first | refine tp_cT (by first | assumption | decide) ?_ | refine tp_cF (by first | assumption | decide) ?_ | refine tp_dT (by first | assumption | decide) ?_ | refine tp_dF (by first | assumption | decide) ?_ | refine And.intro (by first | assumption | decide) ?_ | refine tp_ae ?_)
                      first | exact ⟨rfl, (RR_carry h0).R hc rfl rfl rfl⟩ | exact (RR_carry h0).R hc rfl rfl rfl
          · repeat' (with_reducible first | refine tp_cT (by first | assumption | decide) ?_ | refine tp_cF (by first | assumption | decide) ?_ | refine tp_dT (by first | assumption | decide) ?_ | refine tp_dF (by first | assumption | decide) ?_ | refine And.intro (by first | assumption | decide) ?_ | refine tp_ae ?_)
            first | exact ⟨rfl, hT⟩ | exact hT
        · repeat' (with_reducible first | refine tp_cT (by first | assumption | decide) ?_ | refine tp_cF (by first | assumption | decide) ?_ | refine tp_dT (by first | assumption | decide) ?_ | refine tp_dF (by first | assumption | decide) ?_ | refine And.intro (by first | assumption | decide) ?_ | refine tp_ae ?_)
          first | exact ⟨rfl, hT⟩ | exact hT
    · simp (disch := decide) only [wpX11_carry, wbX11_carry_14, wpX7_isMissing, wbX7_isMissing_12, wbX11_carry_49, wbX11_carry_96, wpX7_has, wbX7_has_22, wbX7_has_23, wpX12_carry, wbX12_carry_18, wbX12_carry_39, wbX12_carry_109, tp_isFactory, tp_isPlace, tp_isSort, tp_isSheet, tp_isHolder, tp_isPerson, tp_isPaper, tp_isShip, tp_isVoyage, tp_within, tp_in, tp_mPlace, tp_mFactory, tp_mSort, tp_mBuyer, tp_b0, tp_b1, Classical.not_not, tp_nb0, tp_nb1, tp_nb, true_and, Int32.reduceToInt]
      repeat' (with_reducible first | refine tp_cT (by first | assumption | decide) ?_ | refine tp_cF (by first | assumption | decide) ?_ | refine tp_dT (by first | assumption | decide) ?_ | refine tp_dF (by first | assumption | decide) ?_ | refine And.intro (by first | assumption | decide) ?_ | refine tp_ae ?_)
      first | exact ⟨rfl, hT⟩ | exact hT
  · simp (disch := decide) only [wpX11_carry, wbX11_carry_14, wpX7_isMissing, wbX7_isMissing_12, wbX11_carry_49, wbX11_carry_96, wpX7_has, wbX7_has_22, wbX7_has_23, wpX12_carry, wbX12_carry_18, wbX12_carry_39, wbX12_carry_109, tp_isFactory, tp_isPlace, tp_isSort, tp_isSheet, tp_isHolder, tp_isPerson, tp_isPaper, tp_isShip, tp_isVoyage, tp_within, tp_in, tp_mPlace, tp_mFactory, tp_mSort, tp_mBuyer, tp_b0, tp_b1, Classical.not_not, tp_nb0, tp_nb1, tp_nb, true_and, Int32.reduceToInt]
    repeat' (with_reducible first | refine tp_cT (by first | assumption | decide) ?_ | refine tp_cF (by first | assumption | decide) ?_ | refine tp_dT (by first | assumption | decide) ?_ | refine tp_dF (by first | assumption | decide) ?_ | refine And.intro (by first | assumption | decide) ?_ | refine tp_ae ?_)
    first | exact ⟨rfl, hT⟩ | exact hT
theorem sim_count {c : Nat} {N : tq_Nn} {S M : tq_St} {p0 : Int32} (hR : tp_R c N S M) (hc : c < 512) : wpX11_count N (fun S1 r => wpX12_count (fun M1 r1 => r = r1 ∧ tp_R (c + 1) N S1 M1) M p0) S p0 := by
  have hT := hR.tick hc
  obtain ⟨d, pn, P, Sh, V, E, A, t, r, G, C, OL, h0⟩ := id hR
  obtain ⟨hsc, hss, har, hpl, hlg, hsh, hpe, hmo, hpr, hsr, hpa, hkn, hst, hpm, hsi, hab, hsm, hvo, hvm, hbi, hlb, hiv, hod, hol, hoi, hfi, hli, had, hro⟩ := id h0
  obtain ⟨s1, s2, s3, s4, s5, s6, s7, s8, s9, b1, b2, b3, b4, b5, b6, b7, b8, b9, e1, e2⟩ := id hsc
  obtain ⟨x1, x2, x3, x4, x5, x6, x7⟩ := id hss
  obtain ⟨y1, y2, y3, y4, y5, y6, y7, y8, y9, y10, y11, y12, y13, y14, y15⟩ := id har
  obtain ⟨w1, w2, w3, w4, w5, w6⟩ := id hpl
  obtain ⟨l1, l2, l3, l4, l5, l6, l7, l8⟩ := id hli
  simp (disch := decide) only [wpX11_count, wpX12_count, tp_isFactory, tp_isPlace, tp_isSort, tp_isSheet, tp_isHolder, tp_isPerson, tp_isPaper, tp_isShip, tp_isVoyage, tp_within, tp_in, tp_mPlace, tp_mFactory, tp_mSort, tp_mBuyer, tp_b0, tp_b1, Classical.not_not, tp_nb0, tp_nb1, tp_nb, true_and, Int32.reduceToInt]
  by_cases i0 : p0 = 0
  · repeat' (with_reducible first | refine tp_cT (by assumption) ?_ | refine tp_cF (by assumption) ?_ | refine tp_dT (by assumption) ?_ | refine tp_dF (by assumption) ?_ | refine And.intro (by assumption) ?_ | refine tp_ae ?_)
    first | exact ⟨x2, hT⟩ | exact hT
  · skip
    by_cases i1 : p0 = 1
    · repeat' (with_reducible first | refine tp_cT (by assumption) ?_ | refine tp_cF (by assumption) ?_ | refine tp_dT (by assumption) ?_ | refine tp_dF (by assumption) ?_ | refine And.intro (by assumption) ?_ | refine tp_ae ?_)
      first | exact ⟨(tp_len l1).trans s3.symm, hT⟩ | exact hT
    · skip
      by_cases i2 : p0 = 2
      · repeat' (with_reducible first | refine tp_cT (by assumption) ?_ | refine tp_cF (by assumption) ?_ | refine tp_dT (by assumption) ?_ | refine tp_dF (by assumption) ?_ | refine And.intro (by assumption) ?_ | refine tp_ae ?_)
        first | exact ⟨(tp_len l2).trans s4.symm, hT⟩ | exact hT
      · skip
        by_cases i3 : p0 = 3
        · repeat' (with_reducible first | refine tp_cT (by assumption) ?_ | refine tp_cF (by assumption) ?_ | refine tp_dT (by assumption) ?_ | refine tp_dF (by assumption) ?_ | refine And.intro (by assumption) ?_ | refine tp_ae ?_)
          first | exact ⟨(tp_len l3).trans s5.symm, hT⟩ | exact hT
        · skip
          by_cases i4 : p0 = 4
          · repeat' (with_reducible first | refine tp_cT (by assumption) ?_ | refine tp_cF (by assumption) ?_ | refine tp_dT (by assumption) ?_ | refine tp_dF (by assumption) ?_ | refine And.intro (by assumption) ?_ | refine tp_ae ?_)
            first | exact ⟨x1, hT⟩ | exact hT
          · skip
            by_cases i5 : p0 = 5
            · repeat' (with_reducible first | refine tp_cT (by assumption) ?_ | refine tp_cF (by assumption) ?_ | refine tp_dT (by assumption) ?_ | refine tp_dF (by assumption) ?_ | refine And.intro (by assumption) ?_ | refine tp_ae ?_)
              first | exact ⟨x3, hT⟩ | exact hT
            · skip
              by_cases i6 : p0 = 6
              · repeat' (with_reducible first | refine tp_cT (by assumption) ?_ | refine tp_cF (by assumption) ?_ | refine tp_dT (by assumption) ?_ | refine tp_dF (by assumption) ?_ | refine And.intro (by assumption) ?_ | refine tp_ae ?_)
                first | exact ⟨x5, hT⟩ | exact hT
              · skip
                by_cases i7 : p0 = 7
                · repeat' (with_reducible first | refine tp_cT (by assumption) ?_ | refine tp_cF (by assumption) ?_ | refine tp_dT (by assumption) ?_ | refine tp_dF (by assumption) ?_ | refine And.intro (by assumption) ?_ | refine tp_ae ?_)
                  refine tp_shipsAt l2 b4 ?_
                  repeat' (with_reducible first | refine tp_cT (by assumption) ?_ | refine tp_cF (by assumption) ?_ | refine tp_dT (by assumption) ?_ | refine tp_dF (by assumption) ?_ | refine And.intro (by assumption) ?_ | refine tp_ae ?_)
                  refine tp_count99 s4 b4 ⟨tp_cnt_cong (fun k hk => ?_), hT⟩
                  rw [(hsi k hk).2.2.2.2.2.2.1]
                · skip
                  by_cases i8 : p0 = 8
                  · repeat' (with_reducible first | refine tp_cT (by assumption) ?_ | refine tp_cF (by assumption) ?_ | refine tp_dT (by assumption) ?_ | refine tp_dF (by assumption) ?_ | refine And.intro (by assumption) ?_ | refine tp_ae ?_)
                    first | exact ⟨x6, hT⟩ | exact hT
                  · skip
                    by_cases i9 : p0 = 9
                    · repeat' (with_reducible first | refine tp_cT (by assumption) ?_ | refine tp_cF (by assumption) ?_ | refine tp_dT (by assumption) ?_ | refine tp_dF (by assumption) ?_ | refine And.intro (by assumption) ?_ | refine tp_ae ?_)
                      first | exact ⟨x4, hT⟩ | exact hT
                    · skip
                      by_cases i10 : p0 = 10
                      · repeat' (with_reducible first | refine tp_cT (by assumption) ?_ | refine tp_cF (by assumption) ?_ | refine tp_dT (by assumption) ?_ | refine tp_dF (by assumption) ?_ | refine And.intro (by assumption) ?_ | refine tp_ae ?_)
                        first | exact ⟨x7, hT⟩ | exact hT
                      · skip
                        repeat' (with_reducible first | refine tp_cT (by assumption) ?_ | refine tp_cF (by assumption) ?_ | refine tp_dT (by assumption) ?_ | refine tp_dF (by assumption) ?_ | refine And.intro (by assumption) ?_ | refine tp_ae ?_)
                        first | exact ⟨rfl, hT⟩ | exact hT
theorem tp_m1 (k : Nat) : nI k + (-1) = nI k - 1 := (Int32.sub_eq_add_neg _ _).symm
theorem tp_append {N : tq_Nn} {S : tq_St} {post : tq_St → Prop} {t : Nat} {x : Int32} (h1 : S 3 0 1 = nI t) (ht : t < 120) (h : post (tq_up (tq_up S 41 0 t (x &&& 255)) 3 0 1 (nI (t + 1)))) : wpX6_append N post S x := by
  unfold wpX6_append
  refine tp_dF (by rw [h1]; exact nI_ge (b := 120) ht (by decide)) ⟨by rw [h1]; exact vp_in_nI ht (by decide), tp_ae (tp_ae ?_)⟩
  unfold wbX6_append_33
  rw [tq_upk (by decide), h1, nI_clamp (by omega), nI_1]
  exact h
theorem feed_aux {h w d pn P Sh V E A r eb c : Nat} {G : Nat → Nat → Nat → Nat} {C : Nat → Nat → Nat} {OL : Nat → List Nat} {N : tq_Nn} {x : Int32} : ∀ (k t : Nat) (S M : tq_St), RR c h w d pn P Sh V E A t r eb G C OL N S M → t + k ≤ 120 → wbX11_feed_30 N (fun S1 r1 => ∃ nq, wbX12_feed_30 (fun M1 r2 => r1 = r2 ∧ RR c h w d pn P Sh V E A (t + k) r eb G C OL N S1 M1) nq M x (nI k - 1)) (k + 1) S x (nI k - 1)
  | 0, t, S, M, h0, ht => by
    unfold wbX11_feed_30
    refine tp_dT (by decide) ⟨1, ?_⟩
    unfold wbX12_feed_30
    exact tp_dT (by decide) ⟨h0.2.1.2.2.2.2.1, h0⟩
  | k + 1, t, S, M, h0, ht => by
    have s1 : S 3 0 1 = nI t := h0.2.1.2.2.2.2.1.trans h0.1.2.2.2.2.2.2.2.1
    have s2 : M 64 0 61 = nI t := h0.1.2.2.2.2.2.2.2.1
    have hlt : t < 120 := by omega
    rw [nI_pred]
    unfold wbX11_feed_30
    refine tp_dF (nI_pos (by omega)) (tp_append s1 hlt ?_)
    rw [tp_m1]
    have ih := feed_aux (x := x) k (t + 1) _ _ (RR_tape (v := (x >>> ((8 * nI k) &&& 31)) &&& 255) h0 hlt) (by omega)
    refine mn_bX11_feed_30 _ _ _ _ _ _ (fun S1 r1 hh => ?_) ih
    obtain ⟨nq, hh⟩ := hh
    refine ⟨nq + 1, ?_⟩
    unfold wbX12_feed_30
    refine tp_dF (nI_pos (by omega)) (tp_ae ⟨by rw [s2]; exact vp_in_nI hlt (by decide), tp_ae ?_⟩)
    rw [tp_m1, s2, nI_clamp (by omega), nI_1]
    rw [show t + (k + 1) = t + 1 + k by omega]
    exact hh
theorem sim_feed {c : Nat} {N : tq_Nn} {S M : tq_St} {p0 p1 : Int32} (hR : tp_R c N S M) (hc : c < 512) : wpX11_feed N (fun S1 r => wpX12_feed (fun M1 r1 => r = r1 ∧ tp_R (c + 1) N S1 M1) M p0 p1) S p0 p1 := by
  have hT := hR.tick hc
  obtain ⟨d, pn, P, Sh, V, E, A, t, r, G, C, OL, h0⟩ := id hR
  obtain ⟨hsc, hss, har, hpl, hlg, hsh, hpe, hmo, hpr, hsr, hpa, hkn, hst, hpm, hsi, hab, hsm, hvo, hvm, hbi, hlb, hiv, hod, hol, hoi, hfi, hli, had, hro⟩ := id h0
  obtain ⟨s1, s2, s3, s4, s5, s6, s7, s8, s9, b1, b2, b3, b4, b5, b6, b7, b8, b9, e1, e2⟩ := id hsc
  obtain ⟨x1, x2, x3, x4, x5, x6, x7⟩ := id hss
  obtain ⟨y1, y2, y3, y4, y5, y6, y7, y8, y9, y10, y11, y12, y13, y14, y15⟩ := id har
  obtain ⟨w1, w2, w3, w4, w5, w6⟩ := id hpl
  obtain ⟨l1, l2, l3, l4, l5, l6, l7, l8⟩ := id hli
  have e1 : (120 - S 3 0 1).toInt = 120 - (t : Int) := by rw [x5, s8, tp_sub (by simp; rw [tp_ti (by omega)]; omega) (by simp; rw [tp_ti (by omega)]; omega), tp_ti (by omega)]; rfl
  by_cases h1 : tp_i 0 4 p1
  · obtain ⟨k, k3, rfl⟩ := tp_i_lt (m := 5) h1 (by decide)
    have kt := tp_ti (show k < 2 ^ 31 by omega)
    have k5 : (M 64 0 61 + nI k ≤ 120) ↔ t + k ≤ 120 := by rw [s8, nI_add]; exact nI_leI (b := 120) (by omega) (by decide)
    have k6 : (120 - S 3 0 1 < nI k) ↔ ¬ t + k ≤ 120 := by rw [tp_lt, e1, kt]; omega
    simp (disch := decide) only [wpX11_feed, wpX6_hasRoomFor, wbX6_hasRoomFor_16, wpX12_feed, tp_isFactory, tp_isPlace, tp_isSort, tp_isSheet, tp_isHolder, tp_isPerson, tp_isPaper, tp_isShip, tp_isVoyage, tp_within, tp_in, tp_mPlace, tp_mFactory, tp_mSort, tp_mBuyer, tp_b0, tp_b1, Classical.not_not, tp_nb0, tp_nb1, tp_nb, true_and, Int32.reduceToInt, k5, k6]
    by_cases h2 : t + k ≤ 120
    · have h3 : ¬ ¬ t + k ≤ 120 := fun z => z h2
      repeat' (with_reducible first | refine tp_cT (by first | assumption | decide) ?_ | refine tp_cF (by first | assumption | decide) ?_ | refine tp_dT (by first | assumption | decide) ?_ | refine tp_dF (by first | assumption | decide) ?_ | refine And.intro (by first | assumption | decide) ?_ | refine tp_ae ?_)
      refine ⟨k + 1, mn_bX11_feed_30 _ _ _ _ _ _ (fun S1 r1 hh => ?_) (feed_aux (x := p0) k t S M h0 h2)⟩
      obtain ⟨nq, hh⟩ := hh
      repeat' (with_reducible first | refine tp_cT (by first | assumption | decide) ?_ | refine tp_cF (by first | assumption | decide) ?_ | refine tp_dT (by first | assumption | decide) ?_ | refine tp_dF (by first | assumption | decide) ?_ | refine And.intro (by first | assumption | decide) ?_ | refine tp_ae ?_)
      refine ⟨nq, ?_⟩
      obtain ⟨M1, r2, ⟨hq, hr⟩, kk⟩ := dt_bX12_feed_30 _ _ _ _ _ hh
      exact kk _ ⟨hq, hr.R hc rfl rfl rfl⟩
    · repeat' (with_reducible first | refine tp_cT (by first | assumption | decide) ?_ | refine tp_cF (by first | assumption | decide) ?_ | refine tp_dT (by first | assumption | decide) ?_ | refine tp_dF (by first | assumption | decide) ?_ | refine And.intro (by first | assumption | decide) ?_ | refine tp_ae ?_)
      first | exact ⟨rfl, hT⟩ | exact hT
  · simp (disch := decide) only [wpX11_feed, wpX6_hasRoomFor, wbX6_hasRoomFor_16, wpX12_feed, tp_isFactory, tp_isPlace, tp_isSort, tp_isSheet, tp_isHolder, tp_isPerson, tp_isPaper, tp_isShip, tp_isVoyage, tp_within, tp_in, tp_mPlace, tp_mFactory, tp_mSort, tp_mBuyer, tp_b0, tp_b1, Classical.not_not, tp_nb0, tp_nb1, tp_nb, true_and, Int32.reduceToInt]
    repeat' (with_reducible first | refine tp_cT (by first | assumption | decide) ?_ | refine tp_cF (by first | assumption | decide) ?_ | refine tp_dT (by first | assumption | decide) ?_ | refine tp_dF (by first | assumption | decide) ?_ | refine And.intro (by first | assumption | decide) ?_ | refine tp_ae ?_)
    first | exact ⟨rfl, hT⟩ | exact hT
