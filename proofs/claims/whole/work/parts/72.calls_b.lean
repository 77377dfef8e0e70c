/-! pure: calls that speak of papers, ships, voyages -/
theorem sim_known {c : Nat} {N : tq_Nn} {S M : tq_St} {p0 p1 : Int32} (hR : tp_R c N S M) (hc : c < 512) : wpX11_known N (fun S1 r => wpX12_known (fun M1 r1 => r = r1 ∧ tp_R (c + 1) N S1 M1) M p0 p1) S p0 p1 := by
  have hT := hR.tick hc
  obtain ⟨d, pn, P, Sh, V, E, A, t, r, G, C, OL, h0⟩ := id hR
  obtain ⟨hsc, hss, har, hpl, hlg, hsh, hpe, hmo, hpr, hsr, hpa, hkn, hst, hpm, hsi, hab, hsm, hvo, hvm, hbi, hlb, hiv, hod, hol, hoi, hfi, hli, had, hro⟩ := id h0
  obtain ⟨s1, s2, s3, s4, s5, s6, s7, s8, s9, b1, b2, b3, b4, b5, b6, b7, b8, b9, e1, e2⟩ := id hsc
  obtain ⟨x1, x2, x3, x4, x5, x6, x7⟩ := id hss
  obtain ⟨y1, y2, y3, y4, y5, y6, y7, y8, y9, y10, y11, y12, y13, y14, y15⟩ := id har
  obtain ⟨w1, w2, w3, w4, w5, w6⟩ := id hpl
  obtain ⟨l1, l2, l3, l4, l5, l6, l7, l8⟩ := id hli
  by_cases h1 : tp_i 0 ((P : Int) - 1) p0
  · obtain ⟨n, n3, rfl⟩ := tp_i_lt (m := P) h1 (by omega)
    have nc : (nI n).toNatClampNeg = n := nI_clamp (by omega)
    have nv : vp_in (nI n) 150 := vp_in_nI (by omega) (by decide)
    obtain ⟨g1, g2, g3⟩ := tp_get l1 n3
    have pb := hpa n n3
    unfold q_pb at pb
    obtain ⟨pa1, pa2, pa3, pa4, pa5, pa6, pa7, pa8, pa9, pa10, pa11, pa12⟩ := pb
    simp (disch := decide) only [wpX11_known, wbX11_known_34, wbX11_known_36, wpX12_known, wbX12_known_26, wbX12_known_28, tp_isFactory, tp_isPlace, tp_isSort, tp_isSheet, tp_isHolder, tp_isPerson, tp_isPaper, tp_isShip, tp_isVoyage, tp_within, tp_in, tp_mPlace, tp_mFactory, tp_mSort, tp_mBuyer, tp_b0, tp_b1, Classical.not_not, tp_nb0, tp_nb1, tp_nb, true_and, Int32.reduceToInt, tp_len l1, tp_ti (show P < 2 ^ 31 by omega), tp_mPaper s3 (show P < 2 ^ 31 by omega), g2, nc]
    by_cases h2 : tp_i 0 4 p1
    · obtain ⟨ub, ub3, rfl⟩ := tp_i_lt (m := 5) h2 (by decide)
      have ubc : (nI ub).toNatClampNeg = ub := nI_clamp (by omega)
      have ubv : vp_in (nI ub) 5 := vp_in_nI ub3 (by decide)
      repeat' (with_reducible first | refine tp_cT (by assumption) ?_ | refine tp_cF (by assumption) ?_ | refine tp_dT (by assumption) ?_ | refine tp_dF (by assumption) ?_ | refine And.intro (by assumption) ?_ | refine tp_ae ?_)
      rw [ubc]
      exact ⟨hkn n ub n3 ub3, hT⟩
    · repeat' (with_reducible first | refine tp_cT (by assumption) ?_ | refine tp_cF (by assumption) ?_ | refine tp_dT (by assumption) ?_ | refine tp_dF (by assumption) ?_ | refine And.intro (by assumption) ?_ | refine tp_ae ?_)
      first | exact ⟨rfl, hT⟩ | exact hT
  · simp (disch := decide) only [wpX11_known, wbX11_known_34, wbX11_known_36, wpX12_known, wbX12_known_26, wbX12_known_28, tp_isFactory, tp_isPlace, tp_isSort, tp_isSheet, tp_isHolder, tp_isPerson, tp_isPaper, tp_isShip, tp_isVoyage, tp_within, tp_in, tp_mPlace, tp_mFactory, tp_mSort, tp_mBuyer, tp_b0, tp_b1, Classical.not_not, tp_nb0, tp_nb1, tp_nb, true_and, Int32.reduceToInt, tp_len l1, tp_ti (show P < 2 ^ 31 by omega), tp_mPaper s3 (show P < 2 ^ 31 by omega)]
    repeat' (with_reducible first | refine tp_cT (by assumption) ?_ | refine tp_cF (by assumption) ?_ | refine tp_dT (by assumption) ?_ | refine tp_dF (by assumption) ?_ | refine And.intro (by assumption) ?_ | refine tp_ae ?_)
    first | exact ⟨rfl, hT⟩ | exact hT
theorem sim_paper {c : Nat} {N : tq_Nn} {S M : tq_St} {p0 p1 : Int32} (hR : tp_R c N S M) (hc : c < 512) : wpX11_paper N (fun S1 r => wpX12_paper (fun M1 r1 => r = r1 ∧ tp_R (c + 1) N S1 M1) M p0 p1) S p0 p1 := by
  have hT := hR.tick hc
  obtain ⟨d, pn, P, Sh, V, E, A, t, r, G, C, OL, h0⟩ := id hR
  obtain ⟨hsc, hss, har, hpl, hlg, hsh, hpe, hmo, hpr, hsr, hpa, hkn, hst, hpm, hsi, hab, hsm, hvo, hvm, hbi, hlb, hiv, hod, hol, hoi, hfi, hli, had, hro⟩ := id h0
  obtain ⟨s1, s2, s3, s4, s5, s6, s7, s8, s9, b1, b2, b3, b4, b5, b6, b7, b8, b9, e1, e2⟩ := id hsc
  obtain ⟨x1, x2, x3, x4, x5, x6, x7⟩ := id hss
  obtain ⟨y1, y2, y3, y4, y5, y6, y7, y8, y9, y10, y11, y12, y13, y14, y15⟩ := id har
  obtain ⟨w1, w2, w3, w4, w5, w6⟩ := id hpl
  obtain ⟨l1, l2, l3, l4, l5, l6, l7, l8⟩ := id hli
  by_cases h1 : tp_i 0 ((P : Int) - 1) p0
  · obtain ⟨n, n3, rfl⟩ := tp_i_lt (m := P) h1 (by omega)
    have nc : (nI n).toNatClampNeg = n := nI_clamp (by omega)
    have nv : vp_in (nI n) 150 := vp_in_nI (by omega) (by decide)
    obtain ⟨g1, g2, g3⟩ := tp_get l1 n3
    have pb := hpa n n3
    unfold q_pb at pb
    obtain ⟨pa1, pa2, pa3, pa4, pa5, pa6, pa7, pa8, pa9, pa10, pa11, pa12⟩ := pb
    simp (disch := decide) only [wpX11_paper, wpX12_paper, wbX12_paper_126, wbX12_paper_138, tp_isFactory, tp_isPlace, tp_isSort, tp_isSheet, tp_isHolder, tp_isPerson, tp_isPaper, tp_isShip, tp_isVoyage, tp_within, tp_in, tp_mPlace, tp_mFactory, tp_mSort, tp_mBuyer, tp_b0, tp_b1, Classical.not_not, tp_nb0, tp_nb1, tp_nb, true_and, Int32.reduceToInt, tp_len l1, tp_ti (show P < 2 ^ 31 by omega), tp_mPaper s3 (show P < 2 ^ 31 by omega), g2, nc]
    by_cases i0 : p1 = 0
    · repeat' (with_reducible first | refine tp_cT (by assumption) ?_ | refine tp_cF (by assumption) ?_ | refine tp_dT (by assumption) ?_ | refine tp_dF (by assumption) ?_ | refine And.intro (by assumption) ?_ | refine tp_ae ?_)
      first | exact hT | exact ⟨pa5, hT⟩
    · skip
      by_cases i1 : p1 = 1
      · repeat' (with_reducible first | refine tp_cT (by assumption) ?_ | refine tp_cF (by assumption) ?_ | refine tp_dT (by assumption) ?_ | refine tp_dF (by assumption) ?_ | refine And.intro (by assumption) ?_ | refine tp_ae ?_)
        first | exact hT | exact ⟨pa6, hT⟩
      · skip
        by_cases i2 : p1 = 2
        · repeat' (with_reducible first | refine tp_cT (by assumption) ?_ | refine tp_cF (by assumption) ?_ | refine tp_dT (by assumption) ?_ | refine tp_dF (by assumption) ?_ | refine And.intro (by assumption) ?_ | refine tp_ae ?_)
          first | exact hT | exact ⟨pa8, hT⟩
        · skip
          by_cases i3 : p1 = 3
          · repeat' (with_reducible first | refine tp_cT (by assumption) ?_ | refine tp_cF (by assumption) ?_ | refine tp_dT (by assumption) ?_ | refine tp_dF (by assumption) ?_ | refine And.intro (by assumption) ?_ | refine tp_ae ?_)
            first | exact hT | exact ⟨pa7, hT⟩
          · skip
            by_cases i4 : p1 = 4
            · repeat' (with_reducible first | refine tp_cT (by assumption) ?_ | refine tp_cF (by assumption) ?_ | refine tp_dT (by assumption) ?_ | refine tp_dF (by assumption) ?_ | refine And.intro (by assumption) ?_ | refine tp_ae ?_)
              first | exact hT | exact ⟨pa9, hT⟩
            · skip
              by_cases i5 : p1 = 5
              · by_cases q2 : M 110 0 n = 2
                · rw [if_pos q2] at pa10
                  repeat' (with_reducible first | refine tp_cT (by assumption) ?_ | refine tp_cF (by assumption) ?_ | refine tp_dT (by assumption) ?_ | refine tp_dF (by assumption) ?_ | refine And.intro (by assumption) ?_ | refine tp_ae ?_)
                  first | exact hT | exact ⟨pa10, hT⟩
                · rw [if_neg q2] at pa10
                  by_cases q4 : M 110 0 n = 4
                  · rw [if_pos (Or.inl q4)] at pa10
                    repeat' (with_reducible first | refine tp_cT (by assumption) ?_ | refine tp_cF (by assumption) ?_ | refine tp_dT (by assumption) ?_ | refine tp_dF (by assumption) ?_ | refine And.intro (by assumption) ?_ | refine tp_ae ?_)
                    first | exact hT | exact ⟨pa10, hT⟩
                  · by_cases q5 : M 110 0 n = 5
                    · rw [if_pos (Or.inr q5)] at pa10
                      repeat' (with_reducible first | refine tp_cT (by assumption) ?_ | refine tp_cF (by assumption) ?_ | refine tp_dT (by assumption) ?_ | refine tp_dF (by assumption) ?_ | refine And.intro (by assumption) ?_ | refine tp_ae ?_)
                      first | exact hT | exact ⟨pa10, hT⟩
                    · rw [if_neg (fun z => z.elim q4 q5)] at pa10
                      repeat' (with_reducible first | refine tp_cT (by assumption) ?_ | refine tp_cF (by assumption) ?_ | refine tp_dT (by assumption) ?_ | refine tp_dF (by assumption) ?_ | refine And.intro (by assumption) ?_ | refine tp_ae ?_)
                      first | exact hT | exact ⟨pa10, hT⟩
              · skip
                repeat' (with_reducible first | refine tp_cT (by assumption) ?_ | refine tp_cF (by assumption) ?_ | refine tp_dT (by assumption) ?_ | refine tp_dF (by assumption) ?_ | refine And.intro (by assumption) ?_ | refine tp_ae ?_)
                first | exact ⟨rfl, hT⟩ | exact hT
  · simp (disch := decide) only [wpX11_paper, wpX12_paper, wbX12_paper_126, wbX12_paper_138, tp_isFactory, tp_isPlace, tp_isSort, tp_isSheet, tp_isHolder, tp_isPerson, tp_isPaper, tp_isShip, tp_isVoyage, tp_within, tp_in, tp_mPlace, tp_mFactory, tp_mSort, tp_mBuyer, tp_b0, tp_b1, Classical.not_not, tp_nb0, tp_nb1, tp_nb, true_and, Int32.reduceToInt, tp_len l1, tp_ti (show P < 2 ^ 31 by omega), tp_mPaper s3 (show P < 2 ^ 31 by omega)]
    repeat' (with_reducible first | refine tp_cT (by assumption) ?_ | refine tp_cF (by assumption) ?_ | refine tp_dT (by assumption) ?_ | refine tp_dF (by assumption) ?_ | refine And.intro (by assumption) ?_ | refine tp_ae ?_)
    first | exact ⟨rfl, hT⟩ | exact hT
theorem sim_lose {c : Nat} {N : tq_Nn} {S M : tq_St} {p0 : Int32} (hR : tp_R c N S M) (hc : c < 512) : wpX11_lose N (fun S1 r => wpX12_lose (fun M1 r1 => r = r1 ∧ tp_R (c + 1) N S1 M1) M p0) S p0 := by
  have hT := hR.tick hc
  obtain ⟨d, pn, P, Sh, V, E, A, t, r, G, C, OL, h0⟩ := id hR
  obtain ⟨hsc, hss, har, hpl, hlg, hsh, hpe, hmo, hpr, hsr, hpa, hkn, hst, hpm, hsi, hab, hsm, hvo, hvm, hbi, hlb, hiv, hod, hol, hoi, hfi, hli, had, hro⟩ := id h0
  obtain ⟨s1, s2, s3, s4, s5, s6, s7, s8, s9, b1, b2, b3, b4, b5, b6, b7, b8, b9, e1, e2⟩ := id hsc
  obtain ⟨x1, x2, x3, x4, x5, x6, x7⟩ := id hss
  obtain ⟨y1, y2, y3, y4, y5, y6, y7, y8, y9, y10, y11, y12, y13, y14, y15⟩ := id har
  obtain ⟨w1, w2, w3, w4, w5, w6⟩ := id hpl
  obtain ⟨l1, l2, l3, l4, l5, l6, l7, l8⟩ := id hli
  by_cases h1 : tp_i 0 ((V : Int) - 1) p0
  · obtain ⟨v, vv3, rfl⟩ := tp_i_lt (m := V) h1 (by omega)
    have vc : (nI v).toNatClampNeg = v := nI_clamp (by omega)
    have vv : vp_in (nI v) 99 := vp_in_nI (by omega) (by decide)
    obtain ⟨j1, j2, j3⟩ := tp_get l3 vv3
    obtain ⟨va1, va2, va3, va4, va5, va6, va7, va8, va9, va10, va11, va12, va13, va14, va15⟩ := hvo v vv3
    simp (disch := decide) only [wpX11_lose, wbX11_lose_36, wpX12_lose, wbX12_lose_28, tp_isFactory, tp_isPlace, tp_isSort, tp_isSheet, tp_isHolder, tp_isPerson, tp_isPaper, tp_isShip, tp_isVoyage, tp_within, tp_in, tp_mPlace, tp_mFactory, tp_mSort, tp_mBuyer, tp_b0, tp_b1, Classical.not_not, tp_nb0, tp_nb1, tp_nb, true_and, Int32.reduceToInt, tp_len l3, tp_ti (show V < 2 ^ 31 by omega), tp_mVoyage s5 (show V < 2 ^ 31 by omega), j2, vc, va10, va9, forall_eq]
    by_cases q1 : M 138 0 v = 0
    · by_cases q2 : M 137 0 v = 0
      · repeat' (with_reducible first | refine tp_cT (by assumption) ?_ | refine tp_cF (by assumption) ?_ | refine tp_dT (by assumption) ?_ | refine tp_dF (by assumption) ?_ | refine And.intro (by assumption) ?_ | refine tp_ae ?_)
        first | exact ⟨rfl, (RR_lose h0 vv3).R hc rfl rfl rfl⟩ | exact (RR_lose h0 vv3).R hc rfl rfl rfl
      · repeat' (with_reducible first | refine tp_cT (by assumption) ?_ | refine tp_cF (by assumption) ?_ | refine tp_dT (by assumption) ?_ | refine tp_dF (by assumption) ?_ | refine And.intro (by assumption) ?_ | refine tp_ae ?_)
        first | exact ⟨rfl, hT⟩ | exact hT
    · repeat' (with_reducible first | refine tp_cT (by assumption) ?_ | refine tp_cF (by assumption) ?_ | refine tp_dT (by assumption) ?_ | refine tp_dF (by assumption) ?_ | refine And.intro (by assumption) ?_ | refine tp_ae ?_)
      first | exact ⟨rfl, hT⟩ | exact hT
  · simp (disch := decide) only [wpX11_lose, wbX11_lose_36, wpX12_lose, wbX12_lose_28, tp_isFactory, tp_isPlace, tp_isSort, tp_isSheet, tp_isHolder, tp_isPerson, tp_isPaper, tp_isShip, tp_isVoyage, tp_within, tp_in, tp_mPlace, tp_mFactory, tp_mSort, tp_mBuyer, tp_b0, tp_b1, Classical.not_not, tp_nb0, tp_nb1, tp_nb, true_and, Int32.reduceToInt, tp_len l3, tp_ti (show V < 2 ^ 31 by omega), tp_mVoyage s5 (show V < 2 ^ 31 by omega)]
    repeat' (with_reducible first | refine tp_cT (by assumption) ?_ | refine tp_cF (by assumption) ?_ | refine tp_dT (by assumption) ?_ | refine tp_dF (by assumption) ?_ | refine And.intro (by assumption) ?_ | refine tp_ae ?_)
    first | exact ⟨rfl, hT⟩ | exact hT
theorem sim_recount {c : Nat} {N : tq_Nn} {S M : tq_St} {p0 p1 p2 : Int32} (hR : tp_R c N S M) (hc : c < 512) : wpX11_recount N (fun S1 r => wpX12_recount (fun M1 r1 => r = r1 ∧ tp_R (c + 1) N S1 M1) M p0 p1 p2) S p0 p1 p2 := by
  have hT := hR.tick hc
  obtain ⟨d, pn, P, Sh, V, E, A, t, r, G, C, OL, h0⟩ := id hR
  obtain ⟨hsc, hss, har, hpl, hlg, hsh, hpe, hmo, hpr, hsr, hpa, hkn, hst, hpm, hsi, hab, hsm, hvo, hvm, hbi, hlb, hiv, hod, hol, hoi, hfi, hli, had, hro⟩ := id h0
  obtain ⟨s1, s2, s3, s4, s5, s6, s7, s8, s9, b1, b2, b3, b4, b5, b6, b7, b8, b9, e1, e2⟩ := id hsc
  obtain ⟨x1, x2, x3, x4, x5, x6, x7⟩ := id hss
  obtain ⟨y1, y2, y3, y4, y5, y6, y7, y8, y9, y10, y11, y12, y13, y14, y15⟩ := id har
  obtain ⟨w1, w2, w3, w4, w5, w6⟩ := id hpl
  obtain ⟨l1, l2, l3, l4, l5, l6, l7, l8⟩ := id hli
  by_cases h1 : tp_i 0 ((V : Int) - 1) p0
  · obtain ⟨v, vv3, rfl⟩ := tp_i_lt (m := V) h1 (by omega)
    have vc : (nI v).toNatClampNeg = v := nI_clamp (by omega)
    have vv : vp_in (nI v) 99 := vp_in_nI (by omega) (by decide)
    obtain ⟨j1, j2, j3⟩ := tp_get l3 vv3
    obtain ⟨va1, va2, va3, va4, va5, va6, va7, va8, va9, va10, va11, va12, va13, va14, va15⟩ := hvo v vv3
    simp (disch := decide) only [wpX11_recount, wbX11_recount_15, wbX11_recount_47, wpX12_recount, wbX12_recount_15, wbX12_recount_36, tp_isFactory, tp_isPlace, tp_isSort, tp_isSheet, tp_isHolder, tp_isPerson, tp_isPaper, tp_isShip, tp_isVoyage, tp_within, tp_in, tp_mPlace, tp_mFactory, tp_mSort, tp_mBuyer, tp_b0, tp_b1, Classical.not_not, tp_nb0, tp_nb1, tp_nb, true_and, Int32.reduceToInt, tp_len l3, tp_ti (show V < 2 ^ 31 by omega), tp_mVoyage s5 (show V < 2 ^ 31 by omega), j2, vc, va10, va5, forall_eq]
    by_cases h2 : tp_i 0 3 p1
    · obtain ⟨ub, ub3, rfl⟩ := tp_i_lt (m := 4) h2 (by decide)
      have ubc : (nI ub).toNatClampNeg = ub := nI_clamp (by omega)
      have ubv : vp_in (nI ub) 4 := vp_in_nI ub3 (by decide)
      by_cases q1 : M 133 0 v = 0
      · repeat' (with_reducible first | refine tp_cT (by assumption) ?_ | refine tp_cF (by assumption) ?_ | refine tp_dT (by assumption) ?_ | refine tp_dF (by assumption) ?_ | refine And.intro (by assumption) ?_ | refine tp_ae ?_)
        first | exact ⟨rfl, hT⟩ | exact hT
      · by_cases q2 : M 138 0 v = 1
        · by_cases q3 : tp_i 0 99 p2
          · repeat' (with_reducible first | refine tp_cT (by assumption) ?_ | refine tp_cF (by assumption) ?_ | refine tp_dT (by assumption) ?_ | refine tp_dF (by assumption) ?_ | refine And.intro (by assumption) ?_ | refine tp_ae ?_)
            rw [ubc]
            exact ⟨va14 q2 ub ub3, (RR_recount h0 vv3 q2).R hc rfl rfl rfl⟩
          · repeat' (with_reducible first | refine tp_cT (by assumption) ?_ | refine tp_cF (by assumption) ?_ | refine tp_dT (by assumption) ?_ | refine tp_dF (by assumption) ?_ | refine And.intro (by assumption) ?_ | refine tp_ae ?_)
            first | exact ⟨rfl, hT⟩ | exact hT
        · repeat' (with_reducible first | refine tp_cT (by assumption) ?_ | refine tp_cF (by assumption) ?_ | refine tp_dT (by assumption) ?_ | refine tp_dF (by assumption) ?_ | refine And.intro (by assumption) ?_ | refine tp_ae ?_)
          first | exact ⟨rfl, hT⟩ | exact hT
    · repeat' (with_reducible first | refine tp_cT (by assumption) ?_ | refine tp_cF (by assumption) ?_ | refine tp_dT (by assumption) ?_ | refine tp_dF (by assumption) ?_ | refine And.intro (by assumption) ?_ | refine tp_ae ?_)
      first | exact ⟨rfl, hT⟩ | exact hT
  · simp (disch := decide) only [wpX11_recount, wbX11_recount_15, wbX11_recount_47, wpX12_recount, wbX12_recount_15, wbX12_recount_36, tp_isFactory, tp_isPlace, tp_isSort, tp_isSheet, tp_isHolder, tp_isPerson, tp_isPaper, tp_isShip, tp_isVoyage, tp_within, tp_in, tp_mPlace, tp_mFactory, tp_mSort, tp_mBuyer, tp_b0, tp_b1, Classical.not_not, tp_nb0, tp_nb1, tp_nb, true_and, Int32.reduceToInt, tp_len l3, tp_ti (show V < 2 ^ 31 by omega), tp_mVoyage s5 (show V < 2 ^ 31 by omega)]
    repeat' (with_reducible first | refine tp_cT (by assumption) ?_ | refine tp_cF (by assumption) ?_ | refine tp_dT (by assumption) ?_ | refine tp_dF (by assumption) ?_ | refine And.intro (by assumption) ?_ | refine tp_ae ?_)
    first | exact ⟨rfl, hT⟩ | exact hT
theorem tp_min {x : Int32} {k n : Nat} (h : x = nI k) (hk : k < 2 ^ 31) (hn : n < 2 ^ 31) : (if nI n < x then nI n else x) = nI (min n k) := by
  subst h
  by_cases q : n < k
  · rw [if_pos (nI_lt q hk), Nat.min_eq_left (by omega)]
  · rw [if_neg (nI_nlt (by omega) hn), Nat.min_eq_right (by omega)]
