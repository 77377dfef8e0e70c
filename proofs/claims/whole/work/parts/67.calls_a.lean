/-! pure: calls, the first -/
theorem tp_cT {c A B : Prop} (h : c) (k : B) : (¬ c → A) ∧ (c → B) := ⟨fun n => absurd h n, fun _ => k⟩
theorem tp_cF {c A B : Prop} (h : ¬ c) (k : A) : (¬ c → A) ∧ (c → B) := ⟨fun _ => k, fun n => absurd n h⟩
theorem tp_dT {c A B : Prop} (h : c) (k : A) : (c → A) ∧ (¬ c → B) := ⟨fun _ => k, fun n => absurd h n⟩
theorem tp_dF {c A B : Prop} (h : ¬ c) (k : B) : (c → A) ∧ (¬ c → B) := ⟨fun n => absurd n h, fun _ => k⟩
theorem tp_ae {α : Type} {e : α} {X : α → Prop} (h : X e) : ∀ a, a = e → X a := fun _ q => by subst q; exact h
theorem tp_i3 {p : Int32} (h : tp_i 0 2 p) : p = 0 ∨ p = 1 ∨ p = 2 := by
  obtain ⟨k, q4, rfl⟩ := tp_i_lt (m := 3) h (by decide)
  have : k = 0 ∨ k = 1 ∨ k = 2 := by omega
  rcases this with rfl | rfl | rfl
  · exact Or.inl rfl
  · exact Or.inr (Or.inl rfl)
  · exact Or.inr (Or.inr rfl)
theorem sim_base {c : Nat} {N : tq_Nn} {S M : tq_St} {p0 p1 p2 : Int32} (hR : tp_R c N S M) (hc : c < 512) : wpX11_base N (fun S1 r => wpX12_base (fun M1 r1 => r = r1 ∧ tp_R (c + 1) N S1 M1) M p0 p1 p2) S p0 p1 p2 := by
  have hT := hR.tick hc
  obtain ⟨d, pn, P, Sh, V, E, A, t, r, G, C, OL, h0⟩ := id hR
  obtain ⟨hsc, hss, har, hpl, hlg, hsh, hpe, hmo, hpr, hsr, hpa, hkn, hst, hpm, hsi, hab, hsm, hvo, hvm, hbi, hlb, hiv, hod, hol, hoi, hfi, hli, had, hro⟩ := id h0
  obtain ⟨s1, s2, s3, s4, s5, s6, s7, s8, s9, b1, b2, b3, b4, b5, b6, b7, b8, b9, e1, e2⟩ := id hsc
  obtain ⟨x1, x2, x3, x4, x5, x6, x7⟩ := id hss
  obtain ⟨y1, y2, y3, y4, y5, y6, y7, y8, y9, y10, y11, y12, y13, y14, y15⟩ := id har
  obtain ⟨w1, w2, w3, w4, w5, w6⟩ := id hpl
  obtain ⟨l1, l2, l3, l4, l5, l6, l7, l8⟩ := id hli
  simp (disch := decide) only [wpX11_base, wbX11_base_14, wpX12_base, wbX12_base_14, tp_isFactory, tp_isPlace, tp_isSort, tp_isSheet, tp_isHolder, tp_isPerson, tp_isPaper, tp_isShip, tp_isVoyage, tp_within, tp_in, tp_mPlace, tp_mFactory, tp_mSort, tp_mBuyer, tp_b0, tp_b1, Classical.not_not, tp_nb0, tp_nb1, tp_nb, true_and, Int32.reduceToInt]
  by_cases h1 : tp_i 1 4 p0
  · obtain ⟨ua, ua1, ua2, ua3, rfl⟩ := tp_i_fac h1
    have uac : (nI ua).toNatClampNeg = ua := nI_clamp (by omega)
    have uav : vp_in (nI ua) 5 := vp_in_nI ua3 (by decide)
    by_cases h2 : tp_i 0 3 p1
    · obtain ⟨ub, ub3, rfl⟩ := tp_i_lt (m := 4) h2 (by decide)
      have ubc : (nI ub).toNatClampNeg = ub := nI_clamp (by omega)
      have ubv : vp_in (nI ub) 4 := vp_in_nI ub3 (by decide)
      by_cases h3 : tp_i 1 999 p2
      · repeat' (with_reducible first | refine tp_cT (by assumption) ?_ | refine tp_cF (by assumption) ?_ | refine tp_dT (by assumption) ?_ | refine tp_dF (by assumption) ?_ | refine And.intro (by assumption) ?_ | refine tp_ae ?_)
        rw [uac, ubc]
        exact ⟨by rw [w6 ua ua1 ua3], (RR_base h0 h3).R hc rfl rfl rfl⟩
      · repeat' (with_reducible first | refine tp_cT (by assumption) ?_ | refine tp_cF (by assumption) ?_ | refine tp_dT (by assumption) ?_ | refine tp_dF (by assumption) ?_ | refine And.intro (by assumption) ?_ | refine tp_ae ?_)
        first | exact ⟨rfl, hT⟩ | exact hT
    · repeat' (with_reducible first | refine tp_cT (by assumption) ?_ | refine tp_cF (by assumption) ?_ | refine tp_dT (by assumption) ?_ | refine tp_dF (by assumption) ?_ | refine And.intro (by assumption) ?_ | refine tp_ae ?_)
      first | exact ⟨rfl, hT⟩ | exact hT
  · repeat' (with_reducible first | refine tp_cT (by assumption) ?_ | refine tp_cF (by assumption) ?_ | refine tp_dT (by assumption) ?_ | refine tp_dF (by assumption) ?_ | refine And.intro (by assumption) ?_ | refine tp_ae ?_)
    first | exact ⟨rfl, hT⟩ | exact hT
theorem sim_price {c : Nat} {N : tq_Nn} {S M : tq_St} {p0 p1 : Int32} (hR : tp_R c N S M) (hc : c < 512) : wpX11_price N (fun S1 r => wpX12_price (fun M1 r1 => r = r1 ∧ tp_R (c + 1) N S1 M1) M p0 p1) S p0 p1 := by
  have hT := hR.tick hc
  obtain ⟨d, pn, P, Sh, V, E, A, t, r, G, C, OL, h0⟩ := id hR
  obtain ⟨hsc, hss, har, hpl, hlg, hsh, hpe, hmo, hpr, hsr, hpa, hkn, hst, hpm, hsi, hab, hsm, hvo, hvm, hbi, hlb, hiv, hod, hol, hoi, hfi, hli, had, hro⟩ := id h0
  obtain ⟨s1, s2, s3, s4, s5, s6, s7, s8, s9, b1, b2, b3, b4, b5, b6, b7, b8, b9, e1, e2⟩ := id hsc
  obtain ⟨x1, x2, x3, x4, x5, x6, x7⟩ := id hss
  obtain ⟨y1, y2, y3, y4, y5, y6, y7, y8, y9, y10, y11, y12, y13, y14, y15⟩ := id har
  obtain ⟨w1, w2, w3, w4, w5, w6⟩ := id hpl
  obtain ⟨l1, l2, l3, l4, l5, l6, l7, l8⟩ := id hli
  simp (disch := decide) only [wpX11_price, wbX11_price_27, wbX11_price_28, wpX5_priceOf, wpX12_price, wbX12_price_23, wbX12_price_24, wpX12_priceOf, tp_isFactory, tp_isPlace, tp_isSort, tp_isSheet, tp_isHolder, tp_isPerson, tp_isPaper, tp_isShip, tp_isVoyage, tp_within, tp_in, tp_mPlace, tp_mFactory, tp_mSort, tp_mBuyer, tp_b0, tp_b1, Classical.not_not, tp_nb0, tp_nb1, tp_nb, true_and, Int32.reduceToInt, y8]
  by_cases h1 : tp_i 1 4 p0
  · obtain ⟨ua, ua1, ua2, ua3, rfl⟩ := tp_i_fac h1
    have uac : (nI ua).toNatClampNeg = ua := nI_clamp (by omega)
    have uav : vp_in (nI ua) 5 := vp_in_nI ua3 (by decide)
    by_cases h2 : tp_i 0 3 p1
    · obtain ⟨ub, ub3, rfl⟩ := tp_i_lt (m := 4) h2 (by decide)
      have ubc : (nI ub).toNatClampNeg = ub := nI_clamp (by omega)
      have ubv : vp_in (nI ub) 4 := vp_in_nI ub3 (by decide)
      have k5 : (nI ua).toNatClampNeg < 5 := by rw [uac]; exact ua3
      repeat' (with_reducible first | refine tp_cT (by assumption) ?_ | refine tp_cF (by assumption) ?_ | refine tp_dT (by assumption) ?_ | refine tp_dF (by assumption) ?_ | refine And.intro (by assumption) ?_ | refine tp_ae ?_)
      rw [uac, ubc]
      exact ⟨by rw [w6 ua ua1 ua3], hT⟩
    · repeat' (with_reducible first | refine tp_cT (by assumption) ?_ | refine tp_cF (by assumption) ?_ | refine tp_dT (by assumption) ?_ | refine tp_dF (by assumption) ?_ | refine And.intro (by assumption) ?_ | refine tp_ae ?_)
      first | exact ⟨rfl, hT⟩ | exact hT
  · repeat' (with_reducible first | refine tp_cT (by assumption) ?_ | refine tp_cF (by assumption) ?_ | refine tp_dT (by assumption) ?_ | refine tp_dF (by assumption) ?_ | refine And.intro (by assumption) ?_ | refine tp_ae ?_)
    first | exact ⟨rfl, hT⟩ | exact hT
theorem sim_stock {c : Nat} {N : tq_Nn} {S M : tq_St} {p0 p1 : Int32} (hR : tp_R c N S M) (hc : c < 512) : wpX11_stock N (fun S1 r => wpX12_stock (fun M1 r1 => r = r1 ∧ tp_R (c + 1) N S1 M1) M p0 p1) S p0 p1 := by
  have hT := hR.tick hc
  obtain ⟨d, pn, P, Sh, V, E, A, t, r, G, C, OL, h0⟩ := id hR
  obtain ⟨hsc, hss, har, hpl, hlg, hsh, hpe, hmo, hpr, hsr, hpa, hkn, hst, hpm, hsi, hab, hsm, hvo, hvm, hbi, hlb, hiv, hod, hol, hoi, hfi, hli, had, hro⟩ := id h0
  obtain ⟨s1, s2, s3, s4, s5, s6, s7, s8, s9, b1, b2, b3, b4, b5, b6, b7, b8, b9, e1, e2⟩ := id hsc
  obtain ⟨x1, x2, x3, x4, x5, x6, x7⟩ := id hss
  obtain ⟨y1, y2, y3, y4, y5, y6, y7, y8, y9, y10, y11, y12, y13, y14, y15⟩ := id har
  obtain ⟨w1, w2, w3, w4, w5, w6⟩ := id hpl
  obtain ⟨l1, l2, l3, l4, l5, l6, l7, l8⟩ := id hli
  simp (disch := decide) only [wpX11_stock, wbX11_stock_28, wbX11_stock_29, wpX12_stock, wbX12_stock_25, wbX12_stock_26, tp_isFactory, tp_isPlace, tp_isSort, tp_isSheet, tp_isHolder, tp_isPerson, tp_isPaper, tp_isShip, tp_isVoyage, tp_within, tp_in, tp_mPlace, tp_mFactory, tp_mSort, tp_mBuyer, tp_b0, tp_b1, Classical.not_not, tp_nb0, tp_nb1, tp_nb, true_and, Int32.reduceToInt, y7]
  by_cases h1 : tp_i 0 4 p0
  · obtain ⟨ua, ua3, rfl⟩ := tp_i_lt (m := 5) h1 (by decide)
    have uac : (nI ua).toNatClampNeg = ua := nI_clamp (by omega)
    have uav : vp_in (nI ua) 5 := vp_in_nI ua3 (by decide)
    by_cases h2 : tp_i 0 3 p1
    · obtain ⟨ub, ub3, rfl⟩ := tp_i_lt (m := 4) h2 (by decide)
      have ubc : (nI ub).toNatClampNeg = ub := nI_clamp (by omega)
      have ubv : vp_in (nI ub) 4 := vp_in_nI ub3 (by decide)
      repeat' (with_reducible first | refine tp_cT (by assumption) ?_ | refine tp_cF (by assumption) ?_ | refine tp_dT (by assumption) ?_ | refine tp_dF (by assumption) ?_ | refine And.intro (by assumption) ?_ | refine tp_ae ?_)
      first | exact ⟨rfl, hT⟩ | exact hT
    · repeat' (with_reducible first | refine tp_cT (by assumption) ?_ | refine tp_cF (by assumption) ?_ | refine tp_dT (by assumption) ?_ | refine tp_dF (by assumption) ?_ | refine And.intro (by assumption) ?_ | refine tp_ae ?_)
      first | exact ⟨rfl, hT⟩ | exact hT
  · repeat' (with_reducible first | refine tp_cT (by assumption) ?_ | refine tp_cF (by assumption) ?_ | refine tp_dT (by assumption) ?_ | refine tp_dF (by assumption) ?_ | refine And.intro (by assumption) ?_ | refine tp_ae ?_)
    first | exact ⟨rfl, hT⟩ | exact hT
theorem sim_factory {c : Nat} {N : tq_Nn} {S M : tq_St} {p0 p1 p2 : Int32} (hR : tp_R c N S M) (hc : c < 512) : wpX11_factory N (fun S1 r => wpX12_factory (fun M1 r1 => r = r1 ∧ tp_R (c + 1) N S1 M1) M p0 p1 p2) S p0 p1 p2 := by
  have hT := hR.tick hc
  obtain ⟨d, pn, P, Sh, V, E, A, t, r, G, C, OL, h0⟩ := id hR
  obtain ⟨hsc, hss, har, hpl, hlg, hsh, hpe, hmo, hpr, hsr, hpa, hkn, hst, hpm, hsi, hab, hsm, hvo, hvm, hbi, hlb, hiv, hod, hol, hoi, hfi, hli, had, hro⟩ := id h0
  obtain ⟨s1, s2, s3, s4, s5, s6, s7, s8, s9, b1, b2, b3, b4, b5, b6, b7, b8, b9, e1, e2⟩ := id hsc
  obtain ⟨x1, x2, x3, x4, x5, x6, x7⟩ := id hss
  obtain ⟨y1, y2, y3, y4, y5, y6, y7, y8, y9, y10, y11, y12, y13, y14, y15⟩ := id har
  obtain ⟨w1, w2, w3, w4, w5, w6⟩ := id hpl
  obtain ⟨l1, l2, l3, l4, l5, l6, l7, l8⟩ := id hli
  simp (disch := decide) only [wpX11_factory, wbX11_factory_16, wbX11_factory_108, wpX12_factory, wbX12_factory_16, wbX12_factory_51, wbX12_factory_48, tp_isFactory, tp_isPlace, tp_isSort, tp_isSheet, tp_isHolder, tp_isPerson, tp_isPaper, tp_isShip, tp_isVoyage, tp_within, tp_in, tp_mPlace, tp_mFactory, tp_mSort, tp_mBuyer, tp_b0, tp_b1, Classical.not_not, tp_nb0, tp_nb1, tp_nb, true_and, Int32.reduceToInt]
  by_cases h1 : tp_i 1 4 p0
  · obtain ⟨ua, ua1, ua2, ua3, rfl⟩ := tp_i_fac h1
    have uac : (nI ua).toNatClampNeg = ua := nI_clamp (by omega)
    have uav : vp_in (nI ua) 5 := vp_in_nI ua3 (by decide)
    by_cases h2 : tp_i 0 2 p1
    · rcases tp_i3 h2 with rfl | rfl | rfl
      · have g1 : ¬ (0 : Int32) = 2 := by decide
        have g2 : (0 : Int32) = 0 := rfl
        have g3 : ¬ (2 : Int32) ≤ 0 := by decide
        have g4 : vp_in (0 : Int32) 3 := vp_in_nI (n := 0) (by decide) (by decide)
        by_cases h3 : tp_i 20 240 p2
        · repeat' (with_reducible first | refine tp_cT (by assumption) ?_ | refine tp_cF (by assumption) ?_ | refine tp_dT (by assumption) ?_ | refine tp_dF (by assumption) ?_ | refine And.intro (by assumption) ?_ | refine tp_ae ?_)
          rw [uac]
          exact ⟨w3 ua ua1 ua3, (RR_way0 h0).R hc rfl rfl rfl⟩
        · repeat' (with_reducible first | refine tp_cT (by assumption) ?_ | refine tp_cF (by assumption) ?_ | refine tp_dT (by assumption) ?_ | refine tp_dF (by assumption) ?_ | refine And.intro (by assumption) ?_ | refine tp_ae ?_)
          first | exact ⟨rfl, hT⟩ | exact hT
      · have g1 : ¬ (1 : Int32) = 2 := by decide
        have g2 : ¬ (1 : Int32) = 0 := by decide
        have g3 : ¬ (2 : Int32) ≤ 1 := by decide
        have g4 : vp_in (1 : Int32) 3 := vp_in_nI (n := 1) (by decide) (by decide)
        by_cases h3 : tp_i 20 240 p2
        · repeat' (with_reducible first | refine tp_cT (by assumption) ?_ | refine tp_cF (by assumption) ?_ | refine tp_dT (by assumption) ?_ | refine tp_dF (by assumption) ?_ | refine And.intro (by assumption) ?_ | refine tp_ae ?_)
          rw [uac]
          exact ⟨w4 ua ua1 ua3, (RR_way1 h0).R hc rfl rfl rfl⟩
        · repeat' (with_reducible first | refine tp_cT (by assumption) ?_ | refine tp_cF (by assumption) ?_ | refine tp_dT (by assumption) ?_ | refine tp_dF (by assumption) ?_ | refine And.intro (by assumption) ?_ | refine tp_ae ?_)
          first | exact ⟨rfl, hT⟩ | exact hT
      · have g1 : (2 : Int32) = 2 := rfl
        have g3 : (2 : Int32) ≤ 2 := by decide
        have g4 : vp_in (2 : Int32) 3 := vp_in_nI (n := 2) (by decide) (by decide)
        by_cases h3 : tp_i 0 50 p2
        · repeat' (with_reducible first | refine tp_cT (by assumption) ?_ | refine tp_cF (by assumption) ?_ | refine tp_dT (by assumption) ?_ | refine tp_dF (by assumption) ?_ | refine And.intro (by assumption) ?_ | refine tp_ae ?_)
          rw [uac]
          exact ⟨w5 ua ua1 ua3, (RR_way2 h0 h3).R hc rfl rfl rfl⟩
        · repeat' (with_reducible first | refine tp_cT (by assumption) ?_ | refine tp_cF (by assumption) ?_ | refine tp_dT (by assumption) ?_ | refine tp_dF (by assumption) ?_ | refine And.intro (by assumption) ?_ | refine tp_ae ?_)
          first | exact ⟨rfl, hT⟩ | exact hT
    · repeat' (with_reducible first | refine tp_cT (by assumption) ?_ | refine tp_cF (by assumption) ?_ | refine tp_dT (by assumption) ?_ | refine tp_dF (by assumption) ?_ | refine And.intro (by assumption) ?_ | refine tp_ae ?_)
      first | exact ⟨rfl, hT⟩ | exact hT
  · repeat' (with_reducible first | refine tp_cT (by assumption) ?_ | refine tp_cF (by assumption) ?_ | refine tp_dT (by assumption) ?_ | refine tp_dF (by assumption) ?_ | refine And.intro (by assumption) ?_ | refine tp_ae ?_)
    first | exact ⟨rfl, hT⟩ | exact hT
theorem tp_pl1 {S M : tq_St} (h : q_pl S M) {p : Nat} (hp : p < 5) : S 2 p 1 = M 101 0 p := h.2.1 p hp
theorem sim_bullion {c : Nat} {N : tq_Nn} {S M : tq_St} {p0 p1 : Int32} (hR : tp_R c N S M) (hc : c < 512) : wpX11_bullion N (fun S1 r => wpX12_bullion (fun M1 r1 => r = r1 ∧ tp_R (c + 1) N S1 M1) M p0 p1) S p0 p1 := by
  have hT := hR.tick hc
  obtain ⟨d, pn, P, Sh, V, E, A, t, r, G, C, OL, h0⟩ := id hR
  obtain ⟨hsc, hss, har, hpl, hlg, hsh, hpe, hmo, hpr, hsr, hpa, hkn, hst, hpm, hsi, hab, hsm, hvo, hvm, hbi, hlb, hiv, hod, hol, hoi, hfi, hli, had, hro⟩ := id h0
  obtain ⟨s1, s2, s3, s4, s5, s6, s7, s8, s9, b1, b2, b3, b4, b5, b6, b7, b8, b9, e1, e2⟩ := id hsc
  obtain ⟨x1, x2, x3, x4, x5, x6, x7⟩ := id hss
  obtain ⟨y1, y2, y3, y4, y5, y6, y7, y8, y9, y10, y11, y12, y13, y14, y15⟩ := id har
  obtain ⟨w1, w2, w3, w4, w5, w6⟩ := id hpl
  obtain ⟨l1, l2, l3, l4, l5, l6, l7, l8⟩ := id hli
  have mo := tp_mo hmo e2 b3
  by_cases h1 : tp_i 0 4 p0
  · obtain ⟨p, pp3, rfl⟩ := tp_i_lt (m := 5) h1 (by decide)
    have pc : (nI p).toNatClampNeg = p := nI_clamp (by omega)
    have pv : vp_in (nI p) 5 := vp_in_nI pp3 (by decide)
    have ec : S 2 p 1 = M 101 0 p := w2 p pp3
    simp (disch := decide) only [wpX11_bullion, wbX11_bullion_40, wpX12_bullion, wbX12_bullion_37, tp_isFactory, tp_isPlace, tp_isSort, tp_isSheet, tp_isHolder, tp_isPerson, tp_isPaper, tp_isShip, tp_isVoyage, tp_within, tp_in, tp_mPlace, tp_mFactory, tp_mSort, tp_mBuyer, tp_b0, tp_b1, Classical.not_not, tp_nb0, tp_nb1, tp_nb, true_and, Int32.reduceToInt, pc, ec]
    by_cases h2 : tp_i (-1000000) 1000000 p1
    · by_cases h3 : tp_i 0 100000000 (M 101 0 p + p1)
      · repeat' (with_reducible first | refine tp_cT (by assumption) ?_ | refine tp_cF (by assumption) ?_ | refine tp_dT (by assumption) ?_ | refine tp_dF (by assumption) ?_ | refine And.intro (by assumption) ?_ | refine tp_ae ?_)
        refine ⟨by rw [tq_upe, tq_upe], ?_⟩
        have m1 := mo.1 p pp3
        have hb := h2.1
        have hb2 := h2.2
        have ea : (M 101 0 p + p1).toInt = (M 101 0 p).toInt + p1.toInt := tp_add (by omega) (by omega)
        exact ⟨d, pn, P, Sh, V, E, A, t, r, G, C, OL, (RR_coin (c' := c + 1) h0 pp3 h3.1 (by rw [ea]; omega) (by omega) (by omega)).wk (by omega) (by omega) (by omega) (by omega)⟩
      · repeat' (with_reducible first | refine tp_cT (by assumption) ?_ | refine tp_cF (by assumption) ?_ | refine tp_dT (by assumption) ?_ | refine tp_dF (by assumption) ?_ | refine And.intro (by assumption) ?_ | refine tp_ae ?_)
        first | exact ⟨rfl, hT⟩ | exact hT
    · repeat' (with_reducible first | refine tp_cT (by assumption) ?_ | refine tp_cF (by assumption) ?_ | refine tp_dT (by assumption) ?_ | refine tp_dF (by assumption) ?_ | refine And.intro (by assumption) ?_ | refine tp_ae ?_)
      first | exact ⟨rfl, hT⟩ | exact hT
  · simp (disch := decide) only [wpX11_bullion, wbX11_bullion_40, wpX12_bullion, wbX12_bullion_37, tp_isFactory, tp_isPlace, tp_isSort, tp_isSheet, tp_isHolder, tp_isPerson, tp_isPaper, tp_isShip, tp_isVoyage, tp_within, tp_in, tp_mPlace, tp_mFactory, tp_mSort, tp_mBuyer, tp_b0, tp_b1, Classical.not_not, tp_nb0, tp_nb1, tp_nb, true_and, Int32.reduceToInt]
    repeat' (with_reducible first | refine tp_cT (by assumption) ?_ | refine tp_cF (by assumption) ?_ | refine tp_dT (by assumption) ?_ | refine tp_dF (by assumption) ?_ | refine And.intro (by assumption) ?_ | refine tp_ae ?_)
    first | exact ⟨rfl, hT⟩ | exact hT
theorem sim_person {c : Nat} {N : tq_Nn} {S M : tq_St} {p0 p1 : Int32} (hR : tp_R c N S M) (hc : c < 512) : wpX11_person N (fun S1 r => wpX12_person (fun M1 r1 => r = r1 ∧ tp_R (c + 1) N S1 M1) M p0 p1) S p0 p1 := by
  have hT := hR.tick hc
  obtain ⟨d, pn, P, Sh, V, E, A, t, r, G, C, OL, h0⟩ := id hR
  obtain ⟨hsc, hss, har, hpl, hlg, hsh, hpe, hmo, hpr, hsr, hpa, hkn, hst, hpm, hsi, hab, hsm, hvo, hvm, hbi, hlb, hiv, hod, hol, hoi, hfi, hli, had, hro⟩ := id h0
  obtain ⟨s1, s2, s3, s4, s5, s6, s7, s8, s9, b1, b2, b3, b4, b5, b6, b7, b8, b9, e1, e2⟩ := id hsc
  obtain ⟨x1, x2, x3, x4, x5, x6, x7⟩ := id hss
  obtain ⟨y1, y2, y3, y4, y5, y6, y7, y8, y9, y10, y11, y12, y13, y14, y15⟩ := id har
  obtain ⟨w1, w2, w3, w4, w5, w6⟩ := id hpl
  obtain ⟨l1, l2, l3, l4, l5, l6, l7, l8⟩ := id hli
  simp (disch := decide) only [wpX11_person, wpX12_person, tp_isFactory, tp_isPlace, tp_isSort, tp_isSheet, tp_isHolder, tp_isPerson, tp_isPaper, tp_isShip, tp_isVoyage, tp_within, tp_in, tp_mPlace, tp_mFactory, tp_mSort, tp_mBuyer, tp_b0, tp_b1, Classical.not_not, tp_nb0, tp_nb1, tp_nb, true_and, Int32.reduceToInt, x2, s2, tq_upj, tq_upe, tq_upk, forall_eq, nI_1]
  by_cases h1 : tp_i 0 4 p0
  · obtain ⟨ua, ua3, rfl⟩ := tp_i_lt (m := 5) h1 (by decide)
    have uac : (nI ua).toNatClampNeg = ua := nI_clamp (by omega)
    have uav : vp_in (nI ua) 5 := vp_in_nI ua3 (by decide)
    by_cases h2 : tp_i 0 9 p1
    · obtain ⟨ub, ub3, rfl⟩ := tp_i_lt (m := 10) h2 (by decide)
      have ubc : (nI ub).toNatClampNeg = ub := nI_clamp (by omega)
      have ubv : vp_in (nI ub) 10 := vp_in_nI ub3 (by decide)
      have k3 : (nI pn).toNatClampNeg = pn := nI_clamp (by omega)
      by_cases h3 : pn < 20
      · have k1 : nI pn < 20 := nI_lt (b := 20) h3 (by decide)
        have k2 : ¬ nI pn = 20 := fun z => by rw [z] at k1; exact absurd k1 (by decide)
        have k4 : vp_in (nI pn) 20 := vp_in_nI h3 (by decide)
        repeat' (with_reducible first | refine tp_cT (by assumption) ?_ | refine tp_cF (by assumption) ?_ | refine tp_dT (by assumption) ?_ | refine tp_dF (by assumption) ?_ | refine And.intro (by assumption) ?_ | refine tp_ae ?_)
        rw [k3]
        exact ⟨by rw [nI_pred], (RR_person h0 h3 (by omega)).R hc rfl rfl rfl⟩
      · have k5 : pn = 20 := by omega
        subst k5
        have k1 : ¬ nI 20 < 20 := by decide
        have k2 : nI 20 = 20 := rfl
        repeat' (with_reducible first | refine tp_cT (by assumption) ?_ | refine tp_cF (by assumption) ?_ | refine tp_dT (by assumption) ?_ | refine tp_dF (by assumption) ?_ | refine And.intro (by assumption) ?_ | refine tp_ae ?_)
        first | exact ⟨rfl, hT⟩ | exact hT
    · repeat' (with_reducible first | refine tp_cT (by assumption) ?_ | refine tp_cF (by assumption) ?_ | refine tp_dT (by assumption) ?_ | refine tp_dF (by assumption) ?_ | refine And.intro (by assumption) ?_ | refine tp_ae ?_)
      first | exact ⟨rfl, hT⟩ | exact hT
  · repeat' (with_reducible first | refine tp_cT (by assumption) ?_ | refine tp_cF (by assumption) ?_ | refine tp_dT (by assumption) ?_ | refine tp_dF (by assumption) ?_ | refine And.intro (by assumption) ?_ | refine tp_ae ?_)
    first | exact ⟨rfl, hT⟩ | exact hT
theorem sim_goes {c : Nat} {N : tq_Nn} {S M : tq_St} {p0 p1 : Int32} (hR : tp_R c N S M) (hc : c < 512) : wpX11_goes N (fun S1 r => wpX12_goes (fun M1 r1 => r = r1 ∧ tp_R (c + 1) N S1 M1) M p0 p1) S p0 p1 := by
  have hT := hR.tick hc
  obtain ⟨d, pn, P, Sh, V, E, A, t, r, G, C, OL, h0⟩ := id hR
  obtain ⟨hsc, hss, har, hpl, hlg, hsh, hpe, hmo, hpr, hsr, hpa, hkn, hst, hpm, hsi, hab, hsm, hvo, hvm, hbi, hlb, hiv, hod, hol, hoi, hfi, hli, had, hro⟩ := id h0
  obtain ⟨s1, s2, s3, s4, s5, s6, s7, s8, s9, b1, b2, b3, b4, b5, b6, b7, b8, b9, e1, e2⟩ := id hsc
  obtain ⟨x1, x2, x3, x4, x5, x6, x7⟩ := id hss
  obtain ⟨y1, y2, y3, y4, y5, y6, y7, y8, y9, y10, y11, y12, y13, y14, y15⟩ := id har
  obtain ⟨w1, w2, w3, w4, w5, w6⟩ := id hpl
  obtain ⟨l1, l2, l3, l4, l5, l6, l7, l8⟩ := id hli
  simp (disch := decide) only [wpX11_goes, wbX11_goes_15, wpX12_goes, wbX12_goes_15, tp_isFactory, tp_isPlace, tp_isSort, tp_isSheet, tp_isHolder, tp_isPerson, tp_isPaper, tp_isShip, tp_isVoyage, tp_within, tp_in, tp_mPlace, tp_mFactory, tp_mSort, tp_mBuyer, tp_b0, tp_b1, Classical.not_not, tp_nb0, tp_nb1, tp_nb, true_and, Int32.reduceToInt, x2, s2, tp_ti (show pn < 2 ^ 31 by omega), tp_mPerson s2 (show pn < 2 ^ 31 by omega)]
  by_cases h1 : tp_i 0 ((pn : Int) - 1) p0
  · obtain ⟨ua, ua3, rfl⟩ := tp_i_lt (m := 20) h1 (by omega)
    have uav : vp_in (nI ua) 20 := vp_in_nI ua3 (by decide)
    by_cases h2 : tp_i 0 4 p1
    · repeat' (with_reducible first | refine tp_cT (by assumption) ?_ | refine tp_cF (by assumption) ?_ | refine tp_dT (by assumption) ?_ | refine tp_dF (by assumption) ?_ | refine And.intro (by assumption) ?_ | refine tp_ae ?_)
      first | exact ⟨by rw [y1], (RR_goes h0).R hc rfl rfl rfl⟩ | exact (RR_goes h0).R hc rfl rfl rfl
    · repeat' (with_reducible first | refine tp_cT (by assumption) ?_ | refine tp_cF (by assumption) ?_ | refine tp_dT (by assumption) ?_ | refine tp_dF (by assumption) ?_ | refine And.intro (by assumption) ?_ | refine tp_ae ?_)
      first | exact ⟨rfl, hT⟩ | exact hT
  · repeat' (with_reducible first | refine tp_cT (by assumption) ?_ | refine tp_cF (by assumption) ?_ | refine tp_dT (by assumption) ?_ | refine tp_dF (by assumption) ?_ | refine And.intro (by assumption) ?_ | refine tp_ae ?_)
    first | exact ⟨rfl, hT⟩ | exact hT
theorem sim_year {c : Nat} {N : tq_Nn} {S M : tq_St} {p0 p1 p2 : Int32} (hR : tp_R c N S M) (hc : c < 512) : wpX11_year N (fun S1 r => wpX12_year (fun M1 r1 => r = r1 ∧ tp_R (c + 1) N S1 M1) M p0 p1 p2) S p0 p1 p2 := by
  have hT := hR.tick hc
  obtain ⟨d, pn, P, Sh, V, E, A, t, r, G, C, OL, h0⟩ := id hR
  obtain ⟨hsc, hss, har, hpl, hlg, hsh, hpe, hmo, hpr, hsr, hpa, hkn, hst, hpm, hsi, hab, hsm, hvo, hvm, hbi, hlb, hiv, hod, hol, hoi, hfi, hli, had, hro⟩ := id h0
  obtain ⟨s1, s2, s3, s4, s5, s6, s7, s8, s9, b1, b2, b3, b4, b5, b6, b7, b8, b9, e1, e2⟩ := id hsc
  obtain ⟨x1, x2, x3, x4, x5, x6, x7⟩ := id hss
  obtain ⟨y1, y2, y3, y4, y5, y6, y7, y8, y9, y10, y11, y12, y13, y14, y15⟩ := id har
  obtain ⟨w1, w2, w3, w4, w5, w6⟩ := id hpl
  obtain ⟨l1, l2, l3, l4, l5, l6, l7, l8⟩ := id hli
  simp (disch := decide) only [wpX11_year, wbX11_year_16, wpX12_year, wbX12_year_16, tp_isFactory, tp_isPlace, tp_isSort, tp_isSheet, tp_isHolder, tp_isPerson, tp_isPaper, tp_isShip, tp_isVoyage, tp_within, tp_in, tp_mPlace, tp_mFactory, tp_mSort, tp_mBuyer, tp_b0, tp_b1, Classical.not_not, tp_nb0, tp_nb1, tp_nb, true_and, Int32.reduceToInt, y6]
  by_cases h1 : tp_i 0 3 p0
  · obtain ⟨ua, ua3, rfl⟩ := tp_i_lt (m := 4) h1 (by decide)
    have uac : (nI ua).toNatClampNeg = ua := nI_clamp (by omega)
    have uav : vp_in (nI ua) 4 := vp_in_nI ua3 (by decide)
    by_cases h2 : tp_i 0 3 p1
    · obtain ⟨ub, ub3, rfl⟩ := tp_i_lt (m := 4) h2 (by decide)
      have ubc : (nI ub).toNatClampNeg = ub := nI_clamp (by omega)
      have ubv : vp_in (nI ub) 4 := vp_in_nI ub3 (by decide)
      by_cases h3 : tp_i 0 999 p2
      · repeat' (with_reducible first | refine tp_cT (by assumption) ?_ | refine tp_cF (by assumption) ?_ | refine tp_dT (by assumption) ?_ | refine tp_dF (by assumption) ?_ | refine And.intro (by assumption) ?_ | refine tp_ae ?_)
        first | exact ⟨rfl, (RR_year h0 h3).R hc rfl rfl rfl⟩ | exact (RR_year h0 h3).R hc rfl rfl rfl
      · repeat' (with_reducible first | refine tp_cT (by assumption) ?_ | refine tp_cF (by assumption) ?_ | refine tp_dT (by assumption) ?_ | refine tp_dF (by assumption) ?_ | refine And.intro (by assumption) ?_ | refine tp_ae ?_)
        first | exact ⟨rfl, hT⟩ | exact hT
    · repeat' (with_reducible first | refine tp_cT (by assumption) ?_ | refine tp_cF (by assumption) ?_ | refine tp_dT (by assumption) ?_ | refine tp_dF (by assumption) ?_ | refine And.intro (by assumption) ?_ | refine tp_ae ?_)
      first | exact ⟨rfl, hT⟩ | exact hT
  · repeat' (with_reducible first | refine tp_cT (by assumption) ?_ | refine tp_cF (by assumption) ?_ | refine tp_dT (by assumption) ?_ | refine tp_dF (by assumption) ?_ | refine And.intro (by assumption) ?_ | refine tp_ae ?_)
    first | exact ⟨rfl, hT⟩ | exact hT
theorem sim_wants {c : Nat} {N : tq_Nn} {S M : tq_St} {p0 p1 p2 p3 : Int32} (hR : tp_R c N S M) (hc : c < 512) : wpX11_wants N (fun S1 r => wpX12_wants (fun M1 r1 => r = r1 ∧ tp_R (c + 1) N S1 M1) M p0 p1 p2 p3) S p0 p1 p2 p3 := by
  have hT := hR.tick hc
  obtain ⟨d, pn, P, Sh, V, E, A, t, r, G, C, OL, h0⟩ := id hR
  obtain ⟨hsc, hss, har, hpl, hlg, hsh, hpe, hmo, hpr, hsr, hpa, hkn, hst, hpm, hsi, hab, hsm, hvo, hvm, hbi, hlb, hiv, hod, hol, hoi, hfi, hli, had, hro⟩ := id h0
  obtain ⟨s1, s2, s3, s4, s5, s6, s7, s8, s9, b1, b2, b3, b4, b5, b6, b7, b8, b9, e1, e2⟩ := id hsc
  obtain ⟨x1, x2, x3, x4, x5, x6, x7⟩ := id hss
  obtain ⟨y1, y2, y3, y4, y5, y6, y7, y8, y9, y10, y11, y12, y13, y14, y15⟩ := id har
  obtain ⟨w1, w2, w3, w4, w5, w6⟩ := id hpl
  obtain ⟨l1, l2, l3, l4, l5, l6, l7, l8⟩ := id hli
  simp (disch := decide) only [wpX11_wants, wbX11_wants_16, wbX11_wants_40, wpX12_wants, wbX12_wants_14, wbX12_wants_38, tp_isFactory, tp_isPlace, tp_isSort, tp_isSheet, tp_isHolder, tp_isPerson, tp_isPaper, tp_isShip, tp_isVoyage, tp_within, tp_in, tp_mPlace, tp_mFactory, tp_mSort, tp_mBuyer, tp_b0, tp_b1, Classical.not_not, tp_nb0, tp_nb1, tp_nb, true_and, Int32.reduceToInt, y10]
  by_cases h1 : tp_i 0 5 p0
  · obtain ⟨ua, ua3, rfl⟩ := tp_i_lt (m := 6) h1 (by decide)
    have uac : (nI ua).toNatClampNeg = ua := nI_clamp (by omega)
    have uav : vp_in (nI ua) 6 := vp_in_nI ua3 (by decide)
    by_cases h2 : tp_i 0 3 p1
    · obtain ⟨ub, ub3, rfl⟩ := tp_i_lt (m := 4) h2 (by decide)
      have ubc : (nI ub).toNatClampNeg = ub := nI_clamp (by omega)
      have ubv : vp_in (nI ub) 4 := vp_in_nI ub3 (by decide)
      by_cases h3 : tp_i 0 99 p2
      · by_cases h4 : tp_i 0 999 p3
        · repeat' (with_reducible first | refine tp_cT (by assumption) ?_ | refine tp_cF (by assumption) ?_ | refine tp_dT (by assumption) ?_ | refine tp_dF (by assumption) ?_ | refine And.intro (by assumption) ?_ | refine tp_ae ?_)
          first | exact ⟨rfl, (RR_wants h0 h4).R hc rfl rfl rfl⟩ | exact (RR_wants h0 h4).R hc rfl rfl rfl
        · repeat' (with_reducible first | refine tp_cT (by assumption) ?_ | refine tp_cF (by assumption) ?_ | refine tp_dT (by assumption) ?_ | refine tp_dF (by assumption) ?_ | refine And.intro (by assumption) ?_ | refine tp_ae ?_)
          first | exact ⟨rfl, hT⟩ | exact hT
      · repeat' (with_reducible first | refine tp_cT (by assumption) ?_ | refine tp_cF (by assumption) ?_ | refine tp_dT (by assumption) ?_ | refine tp_dF (by assumption) ?_ | refine And.intro (by assumption) ?_ | refine tp_ae ?_)
        first | exact ⟨rfl, hT⟩ | exact hT
    · repeat' (with_reducible first | refine tp_cT (by assumption) ?_ | refine tp_cF (by assumption) ?_ | refine tp_dT (by assumption) ?_ | refine tp_dF (by assumption) ?_ | refine And.intro (by assumption) ?_ | refine tp_ae ?_)
      first | exact ⟨rfl, hT⟩ | exact hT
  · repeat' (with_reducible first | refine tp_cT (by assumption) ?_ | refine tp_cF (by assumption) ?_ | refine tp_dT (by assumption) ?_ | refine tp_dF (by assumption) ?_ | refine And.intro (by assumption) ?_ | refine tp_ae ?_)
    first | exact ⟨rfl, hT⟩ | exact hT
theorem sim_bought {c : Nat} {N : tq_Nn} {S M : tq_St} {p0 p1 : Int32} (hR : tp_R c N S M) (hc : c < 512) : wpX11_bought N (fun S1 r => wpX12_bought (fun M1 r1 => r = r1 ∧ tp_R (c + 1) N S1 M1) M p0 p1) S p0 p1 := by
  have hT := hR.tick hc
  obtain ⟨d, pn, P, Sh, V, E, A, t, r, G, C, OL, h0⟩ := id hR
  obtain ⟨hsc, hss, har, hpl, hlg, hsh, hpe, hmo, hpr, hsr, hpa, hkn, hst, hpm, hsi, hab, hsm, hvo, hvm, hbi, hlb, hiv, hod, hol, hoi, hfi, hli, had, hro⟩ := id h0
  obtain ⟨s1, s2, s3, s4, s5, s6, s7, s8, s9, b1, b2, b3, b4, b5, b6, b7, b8, b9, e1, e2⟩ := id hsc
  obtain ⟨x1, x2, x3, x4, x5, x6, x7⟩ := id hss
  obtain ⟨y1, y2, y3, y4, y5, y6, y7, y8, y9, y10, y11, y12, y13, y14, y15⟩ := id har
  obtain ⟨w1, w2, w3, w4, w5, w6⟩ := id hpl
  obtain ⟨l1, l2, l3, l4, l5, l6, l7, l8⟩ := id hli
  simp (disch := decide) only [wpX11_bought, wbX11_bought_18, wbX11_bought_45, wpX12_bought, wbX12_bought_38, wbX12_bought_39, tp_isFactory, tp_isPlace, tp_isSort, tp_isSheet, tp_isHolder, tp_isPerson, tp_isPaper, tp_isShip, tp_isVoyage, tp_within, tp_in, tp_mPlace, tp_mFactory, tp_mSort, tp_mBuyer, tp_b0, tp_b1, Classical.not_not, tp_nb0, tp_nb1, tp_nb, true_and, Int32.reduceToInt, y12, y13]
  by_cases h1 : tp_i 0 5 p0
  · obtain ⟨ua, ua3, rfl⟩ := tp_i_lt (m := 6) h1 (by decide)
    have uac : (nI ua).toNatClampNeg = ua := nI_clamp (by omega)
    have uav : vp_in (nI ua) 6 := vp_in_nI ua3 (by decide)
    by_cases h2 : tp_i 0 1 p1
    · by_cases h3 : p1 = 0
      · repeat' (with_reducible first | refine tp_cT (by assumption) ?_ | refine tp_cF (by assumption) ?_ | refine tp_dT (by assumption) ?_ | refine tp_dF (by assumption) ?_ | refine And.intro (by assumption) ?_ | refine tp_ae ?_)
        first | exact ⟨rfl, hT⟩ | exact hT
      · repeat' (with_reducible first | refine tp_cT (by assumption) ?_ | refine tp_cF (by assumption) ?_ | refine tp_dT (by assumption) ?_ | refine tp_dF (by assumption) ?_ | refine And.intro (by assumption) ?_ | refine tp_ae ?_)
        first | exact ⟨rfl, hT⟩ | exact hT
    · repeat' (with_reducible first | refine tp_cT (by assumption) ?_ | refine tp_cF (by assumption) ?_ | refine tp_dT (by assumption) ?_ | refine tp_dF (by assumption) ?_ | refine And.intro (by assumption) ?_ | refine tp_ae ?_)
      first | exact ⟨rfl, hT⟩ | exact hT
  · repeat' (with_reducible first | refine tp_cT (by assumption) ?_ | refine tp_cF (by assumption) ?_ | refine tp_dT (by assumption) ?_ | refine tp_dF (by assumption) ?_ | refine And.intro (by assumption) ?_ | refine tp_ae ?_)
    first | exact ⟨rfl, hT⟩ | exact hT
theorem sim_holder {c : Nat} {N : tq_Nn} {S M : tq_St} {p0 p1 : Int32} (hR : tp_R c N S M) (hc : c < 512) : wpX11_holder N (fun S1 r => wpX12_holder (fun M1 r1 => r = r1 ∧ tp_R (c + 1) N S1 M1) M p0 p1) S p0 p1 := by
  have hT := hR.tick hc
  obtain ⟨d, pn, P, Sh, V, E, A, t, r, G, C, OL, h0⟩ := id hR
  obtain ⟨hsc, hss, har, hpl, hlg, hsh, hpe, hmo, hpr, hsr, hpa, hkn, hst, hpm, hsi, hab, hsm, hvo, hvm, hbi, hlb, hiv, hod, hol, hoi, hfi, hli, had, hro⟩ := id h0
  obtain ⟨s1, s2, s3, s4, s5, s6, s7, s8, s9, b1, b2, b3, b4, b5, b6, b7, b8, b9, e1, e2⟩ := id hsc
  obtain ⟨x1, x2, x3, x4, x5, x6, x7⟩ := id hss
  obtain ⟨y1, y2, y3, y4, y5, y6, y7, y8, y9, y10, y11, y12, y13, y14, y15⟩ := id har
  obtain ⟨w1, w2, w3, w4, w5, w6⟩ := id hpl
  obtain ⟨l1, l2, l3, l4, l5, l6, l7, l8⟩ := id hli
  simp (disch := decide) only [wpX11_holder, wbX11_holder_16, wbX11_holder_37, wpX12_holder, wbX12_holder_41, wbX12_holder_42, tp_isFactory, tp_isPlace, tp_isSort, tp_isSheet, tp_isHolder, tp_isPerson, tp_isPaper, tp_isShip, tp_isVoyage, tp_within, tp_in, tp_mPlace, tp_mFactory, tp_mSort, tp_mBuyer, tp_b0, tp_b1, Classical.not_not, tp_nb0, tp_nb1, tp_nb, true_and, Int32.reduceToInt, y4, y5]
  by_cases h1 : tp_i 0 7 p0
  · obtain ⟨ua, ua3, rfl⟩ := tp_i_lt (m := 8) h1 (by decide)
    have uac : (nI ua).toNatClampNeg = ua := nI_clamp (by omega)
    have uav : vp_in (nI ua) 8 := vp_in_nI ua3 (by decide)
    by_cases h2 : tp_i 0 1 p1
    · by_cases h3 : p1 = 0
      · repeat' (with_reducible first | refine tp_cT (by assumption) ?_ | refine tp_cF (by assumption) ?_ | refine tp_dT (by assumption) ?_ | refine tp_dF (by assumption) ?_ | refine And.intro (by assumption) ?_ | refine tp_ae ?_)
        first | exact ⟨rfl, hT⟩ | exact hT
      · repeat' (with_reducible first | refine tp_cT (by assumption) ?_ | refine tp_cF (by assumption) ?_ | refine tp_dT (by assumption) ?_ | refine tp_dF (by assumption) ?_ | refine And.intro (by assumption) ?_ | refine tp_ae ?_)
        first | exact ⟨rfl, hT⟩ | exact hT
    · repeat' (with_reducible first | refine tp_cT (by assumption) ?_ | refine tp_cF (by assumption) ?_ | refine tp_dT (by assumption) ?_ | refine tp_dF (by assumption) ?_ | refine And.intro (by assumption) ?_ | refine tp_ae ?_)
      first | exact ⟨rfl, hT⟩ | exact hT
  · repeat' (with_reducible first | refine tp_cT (by assumption) ?_ | refine tp_cF (by assumption) ?_ | refine tp_dT (by assumption) ?_ | refine tp_dF (by assumption) ?_ | refine And.intro (by assumption) ?_ | refine tp_ae ?_)
    first | exact ⟨rfl, hT⟩ | exact hT
