/-! pure: calls, the fifth -/
theorem sim_copy {c : Nat} {N : tq_Nn} {S M : tq_St} {p0 p1 : Int32} (hR : tp_R c N S M) (hc : c < 512) : wpX11_copy N (fun S1 r => wpX12_copy (fun M1 r1 => r = r1 ∧ tp_R (c + 1) N S1 M1) M p0 p1) S p0 p1 := by
  have hT := hR.tick hc
  obtain ⟨d, pn, P, Sh, V, E, A, t, r, G, C, OL, h0⟩ := id hR
  obtain ⟨hsc, hss, har, hpl, hlg, hsh, hpe, hmo, hpr, hsr, hpa, hkn, hst, hpm, hsi, hab, hsm, hvo, hvm, hbi, hlb, hiv, hod, hol, hoi, hfi, hli, had, hro⟩ := id h0
  obtain ⟨s1, s2, s3, s4, s5, s6, s7, s8, s9, b1, b2, b3, b4, b5, b6, b7, b8, b9, e1, e2⟩ := id hsc
  obtain ⟨x1, x2, x3, x4, x5, x6, x7⟩ := id hss
  obtain ⟨y1, y2, y3, y4, y5, y6, y7, y8, y9, y10, y11, y12, y13, y14, y15⟩ := id har
  obtain ⟨w1, w2, w3, w4, w5, w6⟩ := id hpl
  obtain ⟨l1, l2, l3, l4, l5, l6, l7, l8⟩ := id hli
  by_cases h1 : tp_i 0 ((P : Int) - 1) p0
  · obtain ⟨n, n3, rfl⟩ := tp_i_lt (m := P) h1 (by omega)
    have nc : (nI n).toNatClampNeg = n := nI_clamp (by omega)
    have nv : vp_in (nI n) 150 := vp_in_nI (by omega) (by decide)
    obtain ⟨g1, g2, g3⟩ := tp_get l1 n3
    have pb := hpa n n3
    unfold q_pb at pb
    obtain ⟨pa1, pa2, pa3, pa4, pa5, pa6, pa7, pa8, pa9, pa10, pa11, pa12⟩ := pb
    by_cases h2 : tp_i 0 ((Sh : Int) - 1) p1
    · obtain ⟨s, ss3, rfl⟩ := tp_i_lt (m := Sh) h2 (by omega)
      have sc : (nI s).toNatClampNeg = s := nI_clamp (by omega)
      have sv : vp_in (nI s) 8 := vp_in_nI (by omega) (by decide)
      obtain ⟨f1, f2, f3⟩ := tp_get l2 ss3
      obtain ⟨sa1, sa2, sa3, sa4, sa5, sa6, sa7, sa8, sa9, sa10⟩ := hsi s ss3
      obtain ⟨sb1, sb2, sb3⟩ := sa10 (by omega)
      obtain ⟨y, hy, ey⟩ := (hpm.1 n n3).2.2.2.2.1
      rcases tp_shipAt hsm ss3 with ⟨q1, q2, q3⟩ | ⟨p, q1, q2, q3, q4, q5, q6, q7⟩
      · simp (disch := decide) only [wpX11_copy, wbX11_copy_16, wbX11_copy_67, wpX3_comesAboard, wpX12_copy, wbX12_copy_16, wbX12_copy_43, tp_isFactory, tp_isPlace, tp_isSort, tp_isSheet, tp_isHolder, tp_isPerson, tp_isPaper, tp_isShip, tp_isVoyage, tp_within, tp_in, tp_mPlace, tp_mFactory, tp_mSort, tp_mBuyer, tp_b0, tp_b1, Classical.not_not, tp_nb0, tp_nb1, tp_nb, true_and, Int32.reduceToInt, tp_len l1, tp_ti (show P < 2 ^ 31 by omega), tp_mPaper s3 (show P < 2 ^ 31 by omega), tp_len l2, tp_ti (show Sh < 2 ^ 31 by omega), tp_mShip s4 (show Sh < 2 ^ 31 by omega), g2, nc, f2, sc, sa7]
        repeat' (with_reducible first | refine tp_cT (by assumption) ?_ | refine tp_cF (by assumption) ?_ | refine tp_dT (by assumption) ?_ | refine tp_dF (by assumption) ?_ | refine And.intro (by assumption) ?_ | refine tp_ae ?_)
        first | exact ⟨rfl, hT⟩ | exact hT
      · have ek : S 50 (G 15 0 n) p = M 115 n p := hkn n p n3 q1
        have ea : S 56 (G 19 0 s) n = M 120 n s := hab s n ss3 (by omega)
        simp (disch := decide) only [wpX11_copy, wbX11_copy_16, wbX11_copy_67, wpX3_comesAboard, wpX12_copy, wbX12_copy_16, wbX12_copy_43, tp_isFactory, tp_isPlace, tp_isSort, tp_isSheet, tp_isHolder, tp_isPerson, tp_isPaper, tp_isShip, tp_isVoyage, tp_within, tp_in, tp_mPlace, tp_mFactory, tp_mSort, tp_mBuyer, tp_b0, tp_b1, Classical.not_not, tp_nb0, tp_nb1, tp_nb, true_and, Int32.reduceToInt, tp_len l1, tp_ti (show P < 2 ^ 31 by omega), tp_mPaper s3 (show P < 2 ^ 31 by omega), tp_len l2, tp_ti (show Sh < 2 ^ 31 by omega), tp_mShip s4 (show Sh < 2 ^ 31 by omega), g2, nc, f2, sc, sa7, q7, ek, pa9, ey, pa4, ea, nI_1, forall_eq, tq_upe, tq_upk, tq_upj]
        by_cases k1 : 0 ≤ M 115 n p
        · by_cases k2 : y < 3
          · have k3 : nI y < 3 := nI_lt (b := 3) k2 (by decide)
            have k4 : ¬ nI y = 3 := fun z => by rw [z] at k3; exact absurd k3 (by decide)
            repeat' (with_reducible first | refine tp_cT (by assumption) ?_ | refine tp_cF (by assumption) ?_ | refine tp_dT (by assumption) ?_ | refine tp_dF (by assumption) ?_ | refine And.intro (by assumption) ?_ | refine tp_ae ?_)
            first | exact ⟨rfl, (RR_copy h0 n3 ss3 (by omega)).R hc rfl rfl rfl⟩ | exact (RR_copy h0 n3 ss3 (by omega)).R hc rfl rfl rfl
          · have k3 : y = 3 := by omega
            subst k3
            have k4 : ¬ nI 3 < 3 := by decide
            have k5 : nI 3 = 3 := rfl
            repeat' (with_reducible first | refine tp_cT (by assumption) ?_ | refine tp_cF (by assumption) ?_ | refine tp_dT (by assumption) ?_ | refine tp_dF (by assumption) ?_ | refine And.intro (by assumption) ?_ | refine tp_ae ?_)
            first | exact ⟨rfl, hT⟩ | exact hT
        · repeat' (with_reducible first | refine tp_cT (by assumption) ?_ | refine tp_cF (by assumption) ?_ | refine tp_dT (by assumption) ?_ | refine tp_dF (by assumption) ?_ | refine And.intro (by assumption) ?_ | refine tp_ae ?_)
          first | exact ⟨rfl, hT⟩ | exact hT
    · simp (disch := decide) only [wpX11_copy, wbX11_copy_16, wbX11_copy_67, wpX3_comesAboard, wpX12_copy, wbX12_copy_16, wbX12_copy_43, tp_isFactory, tp_isPlace, tp_isSort, tp_isSheet, tp_isHolder, tp_isPerson, tp_isPaper, tp_isShip, tp_isVoyage, tp_within, tp_in, tp_mPlace, tp_mFactory, tp_mSort, tp_mBuyer, tp_b0, tp_b1, Classical.not_not, tp_nb0, tp_nb1, tp_nb, true_and, Int32.reduceToInt, tp_len l1, tp_ti (show P < 2 ^ 31 by omega), tp_mPaper s3 (show P < 2 ^ 31 by omega), tp_len l2, tp_ti (show Sh < 2 ^ 31 by omega), tp_mShip s4 (show Sh < 2 ^ 31 by omega)]
      repeat' (with_reducible first | refine tp_cT (by assumption) ?_ | refine tp_cF (by assumption) ?_ | refine tp_dT (by assumption) ?_ | refine tp_dF (by assumption) ?_ | refine And.intro (by assumption) ?_ | refine tp_ae ?_)
      first | exact ⟨rfl, hT⟩ | exact hT
  · simp (disch := decide) only [wpX11_copy, wbX11_copy_16, wbX11_copy_67, wpX3_comesAboard, wpX12_copy, wbX12_copy_16, wbX12_copy_43, tp_isFactory, tp_isPlace, tp_isSort, tp_isSheet, tp_isHolder, tp_isPerson, tp_isPaper, tp_isShip, tp_isVoyage, tp_within, tp_in, tp_mPlace, tp_mFactory, tp_mSort, tp_mBuyer, tp_b0, tp_b1, Classical.not_not, tp_nb0, tp_nb1, tp_nb, true_and, Int32.reduceToInt, tp_len l1, tp_ti (show P < 2 ^ 31 by omega), tp_mPaper s3 (show P < 2 ^ 31 by omega), tp_len l2, tp_ti (show Sh < 2 ^ 31 by omega), tp_mShip s4 (show Sh < 2 ^ 31 by omega)]
    repeat' (with_reducible first | refine tp_cT (by assumption) ?_ | refine tp_cF (by assumption) ?_ | refine tp_dT (by assumption) ?_ | refine tp_dF (by assumption) ?_ | refine And.intro (by assumption) ?_ | refine tp_ae ?_)
    first | exact ⟨rfl, hT⟩ | exact hT
theorem tp_60 (d : Nat) : nI d + 60 = nI (d + 60) := nI_add d 60
theorem tp_int {a d x : Nat} (ha : a ≤ 9999) (hx : x ≤ d) (hd : d ≤ 2999) : (nI a * ((nI d - nI x) / 30)) / 100 = nI (a * ((d - x) / 30) / 100) ∧ ((((nI a).toInt64 * (((nI d - nI x) / 30).toInt64)) / 100).toInt32) = nI (a * ((d - x) / 30) / 100) ∧ a * ((d - x) / 30) / 100 ≤ 9999 := by
  have m1 : (nI d - nI x) / 30 = nI ((d - x) / 30) := by rw [pk_sub hx]; exact pk_div (d := 30) (by omega) (by decide) (by decide)
  have m2 : (d - x) / 30 ≤ 99 := by omega
  have m3 : a * ((d - x) / 30) ≤ 9999 * 99 := Nat.mul_le_mul ha m2
  rw [m1]
  refine ⟨?_, ?_, by omega⟩
  · rw [pk_mul]; exact pk_div (d := 100) (by omega) (by decide) (by decide)
  · rw [nI_l (by omega), nI_l (by omega), lN_mul, show (100 : Int64) = lN 100 from rfl, pk_lDiv (by omega) (by decide) (by decide), lN_i]
theorem sim_accept {c : Nat} {N : tq_Nn} {S M : tq_St} {p0 : Int32} (hR : tp_R c N S M) (hc : c < 512) : wpX11_accept N (fun S1 r => wpX12_accept (fun M1 r1 => r = r1 ∧ tp_R (c + 1) N S1 M1) M p0) S p0 := by
  have hT := hR.tick hc
  obtain ⟨d, pn, P, Sh, V, E, A, t, r, G, C, OL, h0⟩ := id hR
  obtain ⟨hsc, hss, har, hpl, hlg, hsh, hpe, hmo, hpr, hsr, hpa, hkn, hst, hpm, hsi, hab, hsm, hvo, hvm, hbi, hlb, hiv, hod, hol, hoi, hfi, hli, had, hro⟩ := id h0
  obtain ⟨s1, s2, s3, s4, s5, s6, s7, s8, s9, b1, b2, b3, b4, b5, b6, b7, b8, b9, e1, e2⟩ := id hsc
  obtain ⟨x1, x2, x3, x4, x5, x6, x7⟩ := id hss
  obtain ⟨y1, y2, y3, y4, y5, y6, y7, y8, y9, y10, y11, y12, y13, y14, y15⟩ := id har
  obtain ⟨w1, w2, w3, w4, w5, w6⟩ := id hpl
  obtain ⟨l1, l2, l3, l4, l5, l6, l7, l8⟩ := id hli
  by_cases h1 : tp_i 0 ((P : Int) - 1) p0
  · obtain ⟨n, n3, rfl⟩ := tp_i_lt (m := P) h1 (by omega)
    have nc : (nI n).toNatClampNeg = n := nI_clamp (by omega)
    have nv : vp_in (nI n) 150 := vp_in_nI (by omega) (by decide)
    obtain ⟨g1, g2, g3⟩ := tp_get l1 n3
    have pb := hpa n n3
    unfold q_pb at pb
    obtain ⟨pa1, pa2, pa3, pa4, pa5, pa6, pa7, pa8, pa9, pa10, pa11, pa12⟩ := pb
    by_cases k5 : M 110 0 n = 5
    · have k6 : ¬ S 7 (G 15 0 n) 13 = 0 := pa11.mp k5
      obtain ⟨c1, c2, c3⟩ := pa12 k5
      obtain ⟨⟨a, ha, ea⟩, b, hb, eb⟩ := (hpm.1 n n3).2.2.2.2.2.2 k5
      have ek : S 50 (G 15 0 n) 0 = M 115 n 0 := hkn n 0 n3 (by decide)
      simp (disch := decide) only [wpX11_accept, wpX11_billAt, wbX11_billAt_31, wbX11_accept_28, wpX12_accept, wpX12_isBill, wbX12_isBill_22, wbX12_isBill_23, wbX12_accept_32, tp_isFactory, tp_isPlace, tp_isSort, tp_isSheet, tp_isHolder, tp_isPerson, tp_isPaper, tp_isShip, tp_isVoyage, tp_within, tp_in, tp_mPlace, tp_mFactory, tp_mSort, tp_mBuyer, tp_b0, tp_b1, Classical.not_not, tp_nb0, tp_nb1, tp_nb, true_and, Int32.reduceToInt, tp_len l1, tp_ti (show P < 2 ^ 31 by omega), tp_mPaper s3 (show P < 2 ^ 31 by omega), g2, nc, ek, forall_eq, tq_upe, tq_upk, tq_upj, c1, x1, s1, tp_60, nI_1]
      by_cases q1 : M 115 n 0 < 0
      · repeat' (with_reducible first | refine tp_cT (by first | assumption | decide) ?_ | refine tp_cF (by first | assumption | decide) ?_ | refine tp_dT (by first | assumption | decide) ?_ | refine tp_dF (by first | assumption | decide) ?_ | refine And.intro (by first | assumption | decide) ?_ | refine tp_ae ?_)
        first | exact ⟨rfl, hT⟩ | exact hT
      · by_cases q2 : M 116 n 1 = 0
        · repeat' (with_reducible first | refine tp_cT (by first | assumption | decide) ?_ | refine tp_cF (by first | assumption | decide) ?_ | refine tp_dT (by first | assumption | decide) ?_ | refine tp_dF (by first | assumption | decide) ?_ | refine And.intro (by first | assumption | decide) ?_ | refine tp_ae ?_)
          first | exact ⟨rfl, (RR_accept h0 n3 k5 b1 q2).R hc rfl rfl rfl⟩ | exact (RR_accept h0 n3 k5 b1 q2).R hc rfl rfl rfl
        · repeat' (with_reducible first | refine tp_cT (by first | assumption | decide) ?_ | refine tp_cF (by first | assumption | decide) ?_ | refine tp_dT (by first | assumption | decide) ?_ | refine tp_dF (by first | assumption | decide) ?_ | refine And.intro (by first | assumption | decide) ?_ | refine tp_ae ?_)
          first | exact ⟨rfl, hT⟩ | exact hT
    · have k6 : S 7 (G 15 0 n) 13 = 0 := Classical.byContradiction (fun z => k5 (pa11.mpr z))
      simp (disch := decide) only [wpX11_accept, wpX11_billAt, wbX11_billAt_31, wbX11_accept_28, wpX12_accept, wpX12_isBill, wbX12_isBill_22, wbX12_isBill_23, wbX12_accept_32, tp_isFactory, tp_isPlace, tp_isSort, tp_isSheet, tp_isHolder, tp_isPerson, tp_isPaper, tp_isShip, tp_isVoyage, tp_within, tp_in, tp_mPlace, tp_mFactory, tp_mSort, tp_mBuyer, tp_b0, tp_b1, Classical.not_not, tp_nb0, tp_nb1, tp_nb, true_and, Int32.reduceToInt, tp_len l1, tp_ti (show P < 2 ^ 31 by omega), tp_mPaper s3 (show P < 2 ^ 31 by omega), g2, nc]
      repeat' (with_reducible first | refine tp_cT (by first | assumption | decide) ?_ | refine tp_cF (by first | assumption | decide) ?_ | refine tp_dT (by first | assumption | decide) ?_ | refine tp_dF (by first | assumption | decide) ?_ | refine And.intro (by first | assumption | decide) ?_ | refine tp_ae ?_)
      first | exact ⟨rfl, hT⟩ | exact hT
  · simp (disch := decide) only [wpX11_accept, wpX11_billAt, wbX11_billAt_31, wbX11_accept_28, wpX12_accept, wpX12_isBill, wbX12_isBill_22, wbX12_isBill_23, wbX12_accept_32, tp_isFactory, tp_isPlace, tp_isSort, tp_isSheet, tp_isHolder, tp_isPerson, tp_isPaper, tp_isShip, tp_isVoyage, tp_within, tp_in, tp_mPlace, tp_mFactory, tp_mSort, tp_mBuyer, tp_b0, tp_b1, Classical.not_not, tp_nb0, tp_nb1, tp_nb, true_and, Int32.reduceToInt, tp_len l1, tp_ti (show P < 2 ^ 31 by omega), tp_mPaper s3 (show P < 2 ^ 31 by omega)]
    repeat' (with_reducible first | refine tp_cT (by first | assumption | decide) ?_ | refine tp_cF (by first | assumption | decide) ?_ | refine tp_dT (by first | assumption | decide) ?_ | refine tp_dF (by first | assumption | decide) ?_ | refine And.intro (by first | assumption | decide) ?_ | refine tp_ae ?_)
    first | exact ⟨rfl, hT⟩ | exact hT
theorem sim_bill {c : Nat} {N : tq_Nn} {S M : tq_St} {p0 p1 : Int32} (hR : tp_R c N S M) (hc : c < 512) : wpX11_bill N (fun S1 r => wpX12_bill (fun M1 r1 => r = r1 ∧ tp_R (c + 1) N S1 M1) M p0 p1) S p0 p1 := by
  have hT := hR.tick hc
  obtain ⟨d, pn, P, Sh, V, E, A, t, r, G, C, OL, h0⟩ := id hR
  obtain ⟨hsc, hss, har, hpl, hlg, hsh, hpe, hmo, hpr, hsr, hpa, hkn, hst, hpm, hsi, hab, hsm, hvo, hvm, hbi, hlb, hiv, hod, hol, hoi, hfi, hli, had, hro⟩ := id h0
  obtain ⟨s1, s2, s3, s4, s5, s6, s7, s8, s9, b1, b2, b3, b4, b5, b6, b7, b8, b9, e1, e2⟩ := id hsc
  obtain ⟨x1, x2, x3, x4, x5, x6, x7⟩ := id hss
  obtain ⟨y1, y2, y3, y4, y5, y6, y7, y8, y9, y10, y11, y12, y13, y14, y15⟩ := id har
  obtain ⟨w1, w2, w3, w4, w5, w6⟩ := id hpl
  obtain ⟨l1, l2, l3, l4, l5, l6, l7, l8⟩ := id hli
  by_cases h1 : tp_i 0 ((P : Int) - 1) p0
  · obtain ⟨n, n3, rfl⟩ := tp_i_lt (m := P) h1 (by omega)
    have nc : (nI n).toNatClampNeg = n := nI_clamp (by omega)
    have nv : vp_in (nI n) 150 := vp_in_nI (by omega) (by decide)
    obtain ⟨g1, g2, g3⟩ := tp_get l1 n3
    have pb := hpa n n3
    unfold q_pb at pb
    obtain ⟨pa1, pa2, pa3, pa4, pa5, pa6, pa7, pa8, pa9, pa10, pa11, pa12⟩ := pb
    by_cases k5 : M 110 0 n = 5
    · have k6 : ¬ S 7 (G 15 0 n) 13 = 0 := pa11.mp k5
      obtain ⟨c1, c2, c3⟩ := pa12 k5
      obtain ⟨⟨a, ha, ea⟩, b, hb, eb⟩ := (hpm.1 n n3).2.2.2.2.2.2 k5
      have ek : S 50 (G 15 0 n) 0 = M 115 n 0 := hkn n 0 n3 (by decide)
      simp (disch := decide) only [wpX11_bill, wpX11_billAt, wbX11_billAt_31, wpX12_bill, wpX12_isBill, wbX12_isBill_22, wbX12_isBill_23, tp_isFactory, tp_isPlace, tp_isSort, tp_isSheet, tp_isHolder, tp_isPerson, tp_isPaper, tp_isShip, tp_isVoyage, tp_within, tp_in, tp_mPlace, tp_mFactory, tp_mSort, tp_mBuyer, tp_b0, tp_b1, Classical.not_not, tp_nb0, tp_nb1, tp_nb, true_and, Int32.reduceToInt, tp_len l1, tp_ti (show P < 2 ^ 31 by omega), tp_mPaper s3 (show P < 2 ^ 31 by omega), g2, nc, ek, forall_eq, tq_upe, tq_upk, tq_upj]
      by_cases i0 : p1 = 0
      · repeat' (with_reducible first | refine tp_cT (by first | assumption | decide) ?_ | refine tp_cF (by first | assumption | decide) ?_ | refine tp_dT (by first | assumption | decide) ?_ | refine tp_dF (by first | assumption | decide) ?_ | refine And.intro (by first | assumption | decide) ?_ | refine tp_ae ?_)
        first | exact ⟨c1, hT⟩ | exact hT
      · by_cases i1 : p1 = 1
        · repeat' (with_reducible first | refine tp_cT (by first | assumption | decide) ?_ | refine tp_cF (by first | assumption | decide) ?_ | refine tp_dT (by first | assumption | decide) ?_ | refine tp_dF (by first | assumption | decide) ?_ | refine And.intro (by first | assumption | decide) ?_ | refine tp_ae ?_)
          first | exact ⟨c2, hT⟩ | exact hT
        · by_cases i2 : p1 = 2
          · repeat' (with_reducible first | refine tp_cT (by first | assumption | decide) ?_ | refine tp_cF (by first | assumption | decide) ?_ | refine tp_dT (by first | assumption | decide) ?_ | refine tp_dF (by first | assumption | decide) ?_ | refine And.intro (by first | assumption | decide) ?_ | refine tp_ae ?_)
            first | exact ⟨c3, hT⟩ | exact hT
          · repeat' (with_reducible first | refine tp_cT (by first | assumption | decide) ?_ | refine tp_cF (by first | assumption | decide) ?_ | refine tp_dT (by first | assumption | decide) ?_ | refine tp_dF (by first | assumption | decide) ?_ | refine And.intro (by first | assumption | decide) ?_ | refine tp_ae ?_)
            first | exact ⟨rfl, hT⟩ | exact hT
    · have k6 : S 7 (G 15 0 n) 13 = 0 := Classical.byContradiction (fun z => k5 (pa11.mpr z))
      simp (disch := decide) only [wpX11_bill, wpX11_billAt, wbX11_billAt_31, wpX12_bill, wpX12_isBill, wbX12_isBill_22, wbX12_isBill_23, tp_isFactory, tp_isPlace, tp_isSort, tp_isSheet, tp_isHolder, tp_isPerson, tp_isPaper, tp_isShip, tp_isVoyage, tp_within, tp_in, tp_mPlace, tp_mFactory, tp_mSort, tp_mBuyer, tp_b0, tp_b1, Classical.not_not, tp_nb0, tp_nb1, tp_nb, true_and, Int32.reduceToInt, tp_len l1, tp_ti (show P < 2 ^ 31 by omega), tp_mPaper s3 (show P < 2 ^ 31 by omega), g2, nc]
      repeat' (with_reducible first | refine tp_cT (by first | assumption | decide) ?_ | refine tp_cF (by first | assumption | decide) ?_ | refine tp_dT (by first | assumption | decide) ?_ | refine tp_dF (by first | assumption | decide) ?_ | refine And.intro (by first | assumption | decide) ?_ | refine tp_ae ?_)
      first | exact ⟨rfl, hT⟩ | exact hT
  · simp (disch := decide) only [wpX11_bill, wpX11_billAt, wbX11_billAt_31, wpX12_bill, wpX12_isBill, wbX12_isBill_22, wbX12_isBill_23, tp_isFactory, tp_isPlace, tp_isSort, tp_isSheet, tp_isHolder, tp_isPerson, tp_isPaper, tp_isShip, tp_isVoyage, tp_within, tp_in, tp_mPlace, tp_mFactory, tp_mSort, tp_mBuyer, tp_b0, tp_b1, Classical.not_not, tp_nb0, tp_nb1, tp_nb, true_and, Int32.reduceToInt, tp_len l1, tp_ti (show P < 2 ^ 31 by omega), tp_mPaper s3 (show P < 2 ^ 31 by omega)]
    repeat' (with_reducible first | refine tp_cT (by first | assumption | decide) ?_ | refine tp_cF (by first | assumption | decide) ?_ | refine tp_dT (by first | assumption | decide) ?_ | refine tp_dF (by first | assumption | decide) ?_ | refine And.intro (by first | assumption | decide) ?_ | refine tp_ae ?_)
    first | exact ⟨rfl, hT⟩ | exact hT
theorem sim_refuse {c : Nat} {N : tq_Nn} {S M : tq_St} {p0 : Int32} (hR : tp_R c N S M) (hc : c < 512) : wpX11_refuse N (fun S1 r => wpX12_refuse (fun M1 r1 => r = r1 ∧ tp_R (c + 1) N S1 M1) M p0) S p0 := by
  have hT := hR.tick hc
  obtain ⟨d, pn, P, Sh, V, E, A, t, r, G, C, OL, h0⟩ := id hR
  obtain ⟨hsc, hss, har, hpl, hlg, hsh, hpe, hmo, hpr, hsr, hpa, hkn, hst, hpm, hsi, hab, hsm, hvo, hvm, hbi, hlb, hiv, hod, hol, hoi, hfi, hli, had, hro⟩ := id h0
  obtain ⟨s1, s2, s3, s4, s5, s6, s7, s8, s9, b1, b2, b3, b4, b5, b6, b7, b8, b9, e1, e2⟩ := id hsc
  obtain ⟨x1, x2, x3, x4, x5, x6, x7⟩ := id hss
  obtain ⟨y1, y2, y3, y4, y5, y6, y7, y8, y9, y10, y11, y12, y13, y14, y15⟩ := id har
  obtain ⟨w1, w2, w3, w4, w5, w6⟩ := id hpl
  obtain ⟨l1, l2, l3, l4, l5, l6, l7, l8⟩ := id hli
  by_cases h1 : tp_i 0 ((P : Int) - 1) p0
  · obtain ⟨n, n3, rfl⟩ := tp_i_lt (m := P) h1 (by omega)
    have nc : (nI n).toNatClampNeg = n := nI_clamp (by omega)
    have nv : vp_in (nI n) 150 := vp_in_nI (by omega) (by decide)
    obtain ⟨g1, g2, g3⟩ := tp_get l1 n3
    have pb := hpa n n3
    unfold q_pb at pb
    obtain ⟨pa1, pa2, pa3, pa4, pa5, pa6, pa7, pa8, pa9, pa10, pa11, pa12⟩ := pb
    by_cases k5 : M 110 0 n = 5
    · have k6 : ¬ S 7 (G 15 0 n) 13 = 0 := pa11.mp k5
      obtain ⟨c1, c2, c3⟩ := pa12 k5
      obtain ⟨⟨a, ha, ea⟩, b, hb, eb⟩ := (hpm.1 n n3).2.2.2.2.2.2 k5
      have ek : S 50 (G 15 0 n) 0 = M 115 n 0 := hkn n 0 n3 (by decide)
      obtain ⟨x, hx, ex⟩ := (hpm.1 n n3).2.2.2.1
      obtain ⟨i1, i2, i3⟩ := tp_int ha hx b1
      have pa10x : S 7 (G 15 0 n) 8 = M 116 n 0 := by rw [pa10, if_neg (by rw [k5]; decide), if_pos (Or.inr k5)]
      simp (disch := decide) only [wpX11_refuse, wpX11_billAt, wbX11_billAt_31, wbX11_refuse_28, wpX1_isOpen, wbX1_isOpen_15, wbX1_isOpen_20, wpX1_settle, wpX12_refuse, wpX12_isBill, wbX12_isBill_22, wbX12_isBill_23, wbX12_refuse_33, wpX12_interest, tp_isFactory, tp_isPlace, tp_isSort, tp_isSheet, tp_isHolder, tp_isPerson, tp_isPaper, tp_isShip, tp_isVoyage, tp_within, tp_in, tp_mPlace, tp_mFactory, tp_mSort, tp_mBuyer, tp_b0, tp_b1, Classical.not_not, tp_nb0, tp_nb1, tp_nb, true_and, Int32.reduceToInt, tp_len l1, tp_ti (show P < 2 ^ 31 by omega), tp_mPaper s3 (show P < 2 ^ 31 by omega), g2, nc, ek, forall_eq, tq_upe, tq_upk, tq_upj, c1, x1, s1, pa10x, ea, pa8, ex, i1, i2]
      have bb : b = 0 ∨ b = 1 ∨ b = 2 ∨ b = 3 := by omega
      by_cases q1 : M 115 n 0 < 0
      · repeat' (with_reducible first | refine tp_cT (by first | assumption | decide) ?_ | refine tp_cF (by first | assumption | decide) ?_ | refine tp_dT (by first | assumption | decide) ?_ | refine tp_dF (by first | assumption | decide) ?_ | refine And.intro (by first | assumption | decide) ?_ | refine tp_ae ?_)
        first | exact ⟨rfl, hT⟩ | exact hT
      · rcases bb with rfl | rfl | rfl | rfl
        · have z0 : M 116 n 1 = 0 := eb
          have z1 : M 116 n 1 ≤ 1 := by rw [z0]; decide
          repeat' (with_reducible first | refine tp_cT (by first | assumption | decide) ?_ | refine tp_cF (by first | assumption | decide) ?_ | refine tp_dT (by first | assumption | decide) ?_ | refine tp_dF (by first | assumption | decide) ?_ | refine And.intro (by first | assumption | decide) ?_ | refine tp_ae ?_)
          first | exact ⟨rfl, (RR_settle (st := 3) h0 n3 k5 (by decide) (by decide)).R hc rfl rfl rfl⟩ | exact (RR_settle (st := 3) h0 n3 k5 (by decide) (by decide)).R hc rfl rfl rfl
        · have z0 : M 116 n 1 = 1 := eb
          have z3 : ¬ M 116 n 1 = 0 := by rw [z0]; decide
          have z1 : M 116 n 1 ≤ 1 := by rw [z0]; decide
          repeat' (with_reducible first | refine tp_cT (by first | assumption | decide) ?_ | refine tp_cF (by first | assumption | decide) ?_ | refine tp_dT (by first | assumption | decide) ?_ | refine tp_dF (by first | assumption | decide) ?_ | refine And.intro (by first | assumption | decide) ?_ | refine tp_ae ?_)
          first | exact ⟨rfl, (RR_settle (st := 3) h0 n3 k5 (by decide) (by decide)).R hc rfl rfl rfl⟩ | exact (RR_settle (st := 3) h0 n3 k5 (by decide) (by decide)).R hc rfl rfl rfl
        · have z0 : M 116 n 1 = 2 := eb
          have z3 : ¬ M 116 n 1 = 0 := by rw [z0]; decide
          have z4 : ¬ M 116 n 1 = 1 := by rw [z0]; decide
          have z1 : ¬ M 116 n 1 ≤ 1 := by rw [z0]; decide
          repeat' (with_reducible first | refine tp_cT (by first | assumption | decide) ?_ | refine tp_cF (by first | assumption | decide) ?_ | refine tp_dT (by first | assumption | decide) ?_ | refine tp_dF (by first | assumption | decide) ?_ | refine And.intro (by first | assumption | decide) ?_ | refine tp_ae ?_)
          first | exact ⟨rfl, hT⟩ | exact hT
        · have z0 : M 116 n 1 = 3 := eb
          have z3 : ¬ M 116 n 1 = 0 := by rw [z0]; decide
          have z4 : ¬ M 116 n 1 = 1 := by rw [z0]; decide
          have z1 : ¬ M 116 n 1 ≤ 1 := by rw [z0]; decide
          repeat' (with_reducible first | refine tp_cT (by first | assumption | decide) ?_ | refine tp_cF (by first | assumption | decide) ?_ | refine tp_dT (by first | assumption | decide) ?_ | refine tp_dF (by first | assumption | decide) ?_ | refine And.intro (by first | assumption | decide) ?_ | refine tp_ae ?_)
          first | exact ⟨rfl, hT⟩ | exact hT
    · have k6 : S 7 (G 15 0 n) 13 = 0 := Classical.byContradiction (fun z => k5 (pa11.mpr z))
      simp (disch := decide) only [wpX11_refuse, wpX11_billAt, wbX11_billAt_31, wbX11_refuse_28, wpX1_isOpen, wbX1_isOpen_15, wbX1_isOpen_20, wpX1_settle, wpX12_refuse, wpX12_isBill, wbX12_isBill_22, wbX12_isBill_23, wbX12_refuse_33, wpX12_interest, tp_isFactory, tp_isPlace, tp_isSort, tp_isSheet, tp_isHolder, tp_isPerson, tp_isPaper, tp_isShip, tp_isVoyage, tp_within, tp_in, tp_mPlace, tp_mFactory, tp_mSort, tp_mBuyer, tp_b0, tp_b1, Classical.not_not, tp_nb0, tp_nb1, tp_nb, true_and, Int32.reduceToInt, tp_len l1, tp_ti (show P < 2 ^ 31 by omega), tp_mPaper s3 (show P < 2 ^ 31 by omega), g2, nc]
      repeat' (with_reducible first | refine tp_cT (by first | assumption | decide) ?_ | refine tp_cF (by first | assumption | decide) ?_ | refine tp_dT (by first | assumption | decide) ?_ | refine tp_dF (by first | assumption | decide) ?_ | refine And.intro (by first | assumption | decide) ?_ | refine tp_ae ?_)
      first | exact ⟨rfl, hT⟩ | exact hT
  · simp (disch := decide) only [wpX11_refuse, wpX11_billAt, wbX11_billAt_31, wbX11_refuse_28, wpX1_isOpen, wbX1_isOpen_15, wbX1_isOpen_20, wpX1_settle, wpX12_refuse, wpX12_isBill, wbX12_isBill_22, wbX12_isBill_23, wbX12_refuse_33, wpX12_interest, tp_isFactory, tp_isPlace, tp_isSort, tp_isSheet, tp_isHolder, tp_isPerson, tp_isPaper, tp_isShip, tp_isVoyage, tp_within, tp_in, tp_mPlace, tp_mFactory, tp_mSort, tp_mBuyer, tp_b0, tp_b1, Classical.not_not, tp_nb0, tp_nb1, tp_nb, true_and, Int32.reduceToInt, tp_len l1, tp_ti (show P < 2 ^ 31 by omega), tp_mPaper s3 (show P < 2 ^ 31 by omega)]
    repeat' (with_reducible first | refine tp_cT (by first | assumption | decide) ?_ | refine tp_cF (by first | assumption | decide) ?_ | refine tp_dT (by first | assumption | decide) ?_ | refine tp_dF (by first | assumption | decide) ?_ | refine And.intro (by first | assumption | decide) ?_ | refine tp_ae ?_)
    first | exact ⟨rfl, hT⟩ | exact hT
theorem sim_trace {c : Nat} {N : tq_Nn} {S M : tq_St} {p0 : Int32} (hR : tp_R c N S M) (hc : c < 512) : wpX11_trace N (fun S1 r => wpX12_trace (fun M1 r1 => r = r1 ∧ tp_R (c + 1) N S1 M1) M p0) S p0 := by
  have hT := hR.tick hc
  obtain ⟨d, pn, P, Sh, V, E, A, t, r, G, C, OL, h0⟩ := id hR
  obtain ⟨hsc, hss, har, hpl, hlg, hsh, hpe, hmo, hpr, hsr, hpa, hkn, hst, hpm, hsi, hab, hsm, hvo, hvm, hbi, hlb, hiv, hod, hol, hoi, hfi, hli, had, hro⟩ := id h0
  obtain ⟨s1, s2, s3, s4, s5, s6, s7, s8, s9, b1, b2, b3, b4, b5, b6, b7, b8, b9, e1, e2⟩ := id hsc
  obtain ⟨x1, x2, x3, x4, x5, x6, x7⟩ := id hss
  obtain ⟨y1, y2, y3, y4, y5, y6, y7, y8, y9, y10, y11, y12, y13, y14, y15⟩ := id har
  obtain ⟨w1, w2, w3, w4, w5, w6⟩ := id hpl
  obtain ⟨l1, l2, l3, l4, l5, l6, l7, l8⟩ := id hli
  have mm : (if (20 : Int32) < M 64 0 66 then 20 else M 64 0 66) = nI (min 20 r) := tp_min s9 (by omega) (by decide)
  have mt : (nI (min 20 r) - 1).toInt = ((min 20 r : Nat) : Int) - 1 := tp_mless rfl (by omega)
  simp (disch := decide) only [wpX11_trace, wbX11_trace_32, wbX11_trace_33, wpX12_trace, wbX12_trace_29, tp_isFactory, tp_isPlace, tp_isSort, tp_isSheet, tp_isHolder, tp_isPerson, tp_isPaper, tp_isShip, tp_isVoyage, tp_within, tp_in, tp_mPlace, tp_mFactory, tp_mSort, tp_mBuyer, tp_b0, tp_b1, Classical.not_not, tp_nb0, tp_nb1, tp_nb, true_and, Int32.reduceToInt, x7, y14, mm, mt]
  by_cases h1 : tp_i 0 (((min 20 r : Nat) : Int) - 1) p0
  · obtain ⟨i, i3, rfl⟩ := tp_i_lt (m := min 20 r) h1 (by omega)
    have k1 : ¬ nI i < 0 := nI_pos (by omega)
    have k2 : ¬ nI (min 20 r) ≤ nI i := nI_ge i3 (by omega)
    have k3 : vp_in (nI i) 20 := vp_in_nI (by omega) (by decide)
    repeat' (with_reducible first | refine tp_cT (by assumption) ?_ | refine tp_cF (by assumption) ?_ | refine tp_dT (by assumption) ?_ | refine tp_dF (by assumption) ?_ | refine And.intro (by assumption) ?_ | refine tp_ae ?_)
    first | exact ⟨rfl, hT⟩ | exact hT
  · by_cases k1 : p0 < 0
    · repeat' (with_reducible first | refine tp_cT (by assumption) ?_ | refine tp_cF (by assumption) ?_ | refine tp_dT (by assumption) ?_ | refine tp_dF (by assumption) ?_ | refine And.intro (by assumption) ?_ | refine tp_ae ?_)
      first | exact ⟨rfl, hT⟩ | exact hT
    · have k2 : nI (min 20 r) ≤ p0 := by
        rw [tp_le, tp_ti (by omega)]
        rw [tp_lt] at k1
        simp at k1
        unfold tp_i at h1
        omega
      repeat' (with_reducible first | refine tp_cT (by assumption) ?_ | refine tp_cF (by assumption) ?_ | refine tp_dT (by assumption) ?_ | refine tp_dF (by assumption) ?_ | refine And.intro (by assumption) ?_ | refine tp_ae ?_)
      first | exact ⟨rfl, hT⟩ | exact hT
theorem sim_entry {c : Nat} {N : tq_Nn} {S M : tq_St} {p0 p1 : Int32} (hR : tp_R c N S M) (hc : c < 512) : wpX11_entry N (fun S1 r => wpX12_entry (fun M1 r1 => r = r1 ∧ tp_R (c + 1) N S1 M1) M p0 p1) S p0 p1 := by
  have hT := hR.tick hc
  obtain ⟨d, pn, P, Sh, V, E, A, t, r, G, C, OL, h0⟩ := id hR
  obtain ⟨hsc, hss, har, hpl, hlg, hsh, hpe, hmo, hpr, hsr, hpa, hkn, hst, hpm, hsi, hab, hsm, hvo, hvm, hbi, hlb, hiv, hod, hol, hoi, hfi, hli, had, hro⟩ := id h0
  obtain ⟨s1, s2, s3, s4, s5, s6, s7, s8, s9, b1, b2, b3, b4, b5, b6, b7, b8, b9, e1, e2⟩ := id hsc
  obtain ⟨x1, x2, x3, x4, x5, x6, x7⟩ := id hss
  obtain ⟨y1, y2, y3, y4, y5, y6, y7, y8, y9, y10, y11, y12, y13, y14, y15⟩ := id har
  obtain ⟨w1, w2, w3, w4, w5, w6⟩ := id hpl
  obtain ⟨l1, l2, l3, l4, l5, l6, l7, l8⟩ := id hli
  have mm : (if (500 : Int32) < M 64 0 43 then 500 else M 64 0 43) = nI (min 500 E) := tp_min s6 (by omega) (by decide)
  have mt : (nI (min 500 E) - 1).toInt = ((min 500 E : Nat) : Int) - 1 := tp_mless rfl (by omega)
  simp (disch := decide) only [wpX11_entry, wbX11_entry_16, wbX11_entry_17, wbX11_entry_46, wbX11_entry_48, wpX11_entriesKept, wpX12_entry, wbX12_entry_41, wbX12_entry_43, tp_isFactory, tp_isPlace, tp_isSort, tp_isSheet, tp_isHolder, tp_isPerson, tp_isPaper, tp_isShip, tp_isVoyage, tp_within, tp_in, tp_mPlace, tp_mFactory, tp_mSort, tp_mBuyer, tp_b0, tp_b1, Classical.not_not, tp_nb0, tp_nb1, tp_nb, true_and, Int32.reduceToInt, x3, mm, mt]
  by_cases h1 : tp_i 0 (((min 500 E : Nat) : Int) - 1) p0
  · obtain ⟨i, i3, rfl⟩ := tp_i_lt (m := min 500 E) h1 (by omega)
    have k1 : ¬ nI i < 0 := nI_pos (by omega)
    have k2 : ¬ nI (min 500 E) ≤ nI i := nI_ge i3 (by omega)
    have k3 : vp_in (nI i) 500 := vp_in_nI (by omega) (by decide)
    by_cases h2 : tp_i 0 7 p1
    · obtain ⟨j, j3, rfl⟩ := tp_i_lt (m := 8) h2 (by decide)
      have k4 : vp_in (nI j) 8 := vp_in_nI j3 (by decide)
      have k5 : nI i * 8 + nI j = nI (i * 8 + j) := by rw [show nI i * 8 = nI (i * 8) from pk_mul i 8, nI_add]
      have k6 : vp_in (nI i * 8 + nI j) 4000 := by rw [k5]; exact vp_in_nI (by omega) (by decide)
      repeat' (with_reducible first | refine tp_cT (by first | assumption | decide) ?_ | refine tp_cF (by first | assumption | decide) ?_ | refine tp_dT (by first | assumption | decide) ?_ | refine tp_dF (by first | assumption | decide) ?_ | refine And.intro (by first | assumption | decide) ?_ | refine tp_ae ?_)
      rw [k5, nI_clamp (by omega), nI_clamp (by omega), nI_clamp (by omega)]
      exact ⟨hlg.1 i j (by omega) j3, hT⟩
    · repeat' (with_reducible first | refine tp_cT (by first | assumption | decide) ?_ | refine tp_cF (by first | assumption | decide) ?_ | refine tp_dT (by first | assumption | decide) ?_ | refine tp_dF (by first | assumption | decide) ?_ | refine And.intro (by first | assumption | decide) ?_ | refine tp_ae ?_)
      first | exact ⟨rfl, hT⟩ | exact hT
  · by_cases k1 : p0 < 0
    · repeat' (with_reducible first | refine tp_cT (by first | assumption | decide) ?_ | refine tp_cF (by first | assumption | decide) ?_ | refine tp_dT (by first | assumption | decide) ?_ | refine tp_dF (by first | assumption | decide) ?_ | refine And.intro (by first | assumption | decide) ?_ | refine tp_ae ?_)
      first | exact ⟨rfl, hT⟩ | exact hT
    · have k2 : nI (min 500 E) ≤ p0 := by
        rw [tp_le, tp_ti (by omega)]
        rw [tp_lt] at k1
        simp at k1
        unfold tp_i at h1
        omega
      repeat' (with_reducible first | refine tp_cT (by first | assumption | decide) ?_ | refine tp_cF (by first | assumption | decide) ?_ | refine tp_dT (by first | assumption | decide) ?_ | refine tp_dF (by first | assumption | decide) ?_ | refine And.intro (by first | assumption | decide) ?_ | refine tp_ae ?_)
      first | exact ⟨rfl, hT⟩ | exact hT
theorem sim_shares {c : Nat} {N : tq_Nn} {S M : tq_St} {p0 p1 p2 : Int32} (hR : tp_R c N S M) (hc : c < 512) : wpX11_shares N (fun S1 r => wpX12_shares (fun M1 r1 => r = r1 ∧ tp_R (c + 1) N S1 M1) M p0 p1 p2) S p0 p1 p2 := by
  have hT := hR.tick hc
  obtain ⟨d, pn, P, Sh, V, E, A, t, r, G, C, OL, h0⟩ := id hR
  obtain ⟨hsc, hss, har, hpl, hlg, hsh, hpe, hmo, hpr, hsr, hpa, hkn, hst, hpm, hsi, hab, hsm, hvo, hvm, hbi, hlb, hiv, hod, hol, hoi, hfi, hli, had, hro⟩ := id h0
  obtain ⟨s1, s2, s3, s4, s5, s6, s7, s8, s9, b1, b2, b3, b4, b5, b6, b7, b8, b9, e1, e2⟩ := id hsc
  obtain ⟨x1, x2, x3, x4, x5, x6, x7⟩ := id hss
  obtain ⟨y1, y2, y3, y4, y5, y6, y7, y8, y9, y10, y11, y12, y13, y14, y15⟩ := id har
  obtain ⟨w1, w2, w3, w4, w5, w6⟩ := id hpl
  obtain ⟨l1, l2, l3, l4, l5, l6, l7, l8⟩ := id hli
  by_cases h1 : tp_i 0 7 p0
  · obtain ⟨a, a3, rfl⟩ := tp_i_lt (m := 8) h1 (by decide)
    have ac : (nI a).toNatClampNeg = a := nI_clamp (by omega)
    have av : vp_in (nI a) 8 := vp_in_nI a3 (by decide)
    by_cases h2 : tp_i 0 7 p1
    · obtain ⟨b, b33, rfl⟩ := tp_i_lt (m := 8) h2 (by decide)
      have bc : (nI b).toNatClampNeg = b := nI_clamp (by omega)
      have bv : vp_in (nI b) 8 := vp_in_nI b33 (by decide)
      have qa := hsr.1 a a3
      have qb := hsr.1 b b33
      simp (disch := decide) only [wpX11_shares, wbX11_shares_14, wbX11_shares_35, wpX12_shares, wbX12_shares_20, wbX12_shares_41, tp_isFactory, tp_isPlace, tp_isSort, tp_isSheet, tp_isHolder, tp_isPerson, tp_isPaper, tp_isShip, tp_isVoyage, tp_within, tp_in, tp_mPlace, tp_mFactory, tp_mSort, tp_mBuyer, tp_b0, tp_b1, Classical.not_not, tp_nb0, tp_nb1, tp_nb, true_and, Int32.reduceToInt, ac, bc, y4, forall_eq, tq_upe, tq_upk]
      by_cases h3 : tp_i 1 (M 156 0 a).toInt p2
      · by_cases h4 : nI a = nI b
        · repeat' (with_reducible first | refine tp_cT (by assumption) ?_ | refine tp_cF (by assumption) ?_ | refine tp_dT (by assumption) ?_ | refine tp_dF (by assumption) ?_ | refine And.intro (by assumption) ?_ | refine tp_ae ?_)
          first | exact ⟨rfl, hT⟩ | exact hT
        · have h5 : a ≠ b := fun z => h4 (by rw [z])
          have h6 : tq_up M 156 0 a (M 156 0 a - p2) 156 0 b = M 156 0 b := tq_upj (fun z => h5 z.symm)
          have h7 : tq_up S 25 0 a (M 156 0 a - p2) 25 0 b = M 156 0 b := by rw [tq_upj (fun z => h5 z.symm), y4]
          have t1 := h3.1
          have t2 := h3.2
          have t3 := tp_hi (M 156 0 a)
          have sm1 : (M 156 0 a).toInt ≤ 800 := by rw [← hsr.2]; exact tp_sm_ge (f := fun h => (M 156 0 h).toInt) a3 (fun k hk => hsr.1 k hk)
          have sm2 : (M 156 0 b).toInt ≤ 800 := by rw [← hsr.2]; exact tp_sm_ge (f := fun h => (M 156 0 h).toInt) b33 (fun k hk => hsr.1 k hk)
          have z1 : (M 156 0 a - p2).toInt = (M 156 0 a).toInt - p2.toInt := tp_sub (by omega) (by omega)
          have z2 : (M 156 0 b + p2).toInt = (M 156 0 b).toInt + p2.toInt := tp_add (by omega) (by omega)
          repeat' (with_reducible first | refine tp_cT (by assumption) ?_ | refine tp_cF (by assumption) ?_ | refine tp_dT (by assumption) ?_ | refine tp_dF (by assumption) ?_ | refine And.intro (by assumption) ?_ | refine tp_ae ?_)
          rw [h6, h7]
          first | exact ⟨rfl, (RR_shares h0 a3 b33 h5 (by omega) (by omega) (by omega)).R hc rfl rfl rfl⟩ | exact (RR_shares h0 a3 b33 h5 (by omega) (by omega) (by omega)).R hc rfl rfl rfl
      · by_cases h4 : nI a = nI b
        · repeat' (with_reducible first | refine tp_cT (by assumption) ?_ | refine tp_cF (by assumption) ?_ | refine tp_dT (by assumption) ?_ | refine tp_dF (by assumption) ?_ | refine And.intro (by assumption) ?_ | refine tp_ae ?_)
          first | exact ⟨rfl, hT⟩ | exact hT
        · repeat' (with_reducible first | refine tp_cT (by assumption) ?_ | refine tp_cF (by assumption) ?_ | refine tp_dT (by assumption) ?_ | refine tp_dF (by assumption) ?_ | refine And.intro (by assumption) ?_ | refine tp_ae ?_)
          first | exact ⟨rfl, hT⟩ | exact hT
    · simp (disch := decide) only [wpX11_shares, wbX11_shares_14, wbX11_shares_35, wpX12_shares, wbX12_shares_20, wbX12_shares_41, tp_isFactory, tp_isPlace, tp_isSort, tp_isSheet, tp_isHolder, tp_isPerson, tp_isPaper, tp_isShip, tp_isVoyage, tp_within, tp_in, tp_mPlace, tp_mFactory, tp_mSort, tp_mBuyer, tp_b0, tp_b1, Classical.not_not, tp_nb0, tp_nb1, tp_nb, true_and, Int32.reduceToInt]
      repeat' (with_reducible first | refine tp_cT (by assumption) ?_ | refine tp_cF (by assumption) ?_ | refine tp_dT (by assumption) ?_ | refine tp_dF (by assumption) ?_ | refine And.intro (by assumption) ?_ | refine tp_ae ?_)
      first | exact ⟨rfl, hT⟩ | exact hT
  · simp (disch := decide) only [wpX11_shares, wbX11_shares_14, wbX11_shares_35, wpX12_shares, wbX12_shares_20, wbX12_shares_41, tp_isFactory, tp_isPlace, tp_isSort, tp_isSheet, tp_isHolder, tp_isPerson, tp_isPaper, tp_isShip, tp_isVoyage, tp_within, tp_in, tp_mPlace, tp_mFactory, tp_mSort, tp_mBuyer, tp_b0, tp_b1, Classical.not_not, tp_nb0, tp_nb1, tp_nb, true_and, Int32.reduceToInt]
    repeat' (with_reducible first | refine tp_cT (by assumption) ?_ | refine tp_cF (by assumption) ?_ | refine tp_dT (by assumption) ?_ | refine tp_dF (by assumption) ?_ | refine And.intro (by assumption) ?_ | refine tp_ae ?_)
    first | exact ⟨rfl, hT⟩ | exact hT
