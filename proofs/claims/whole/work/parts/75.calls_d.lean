/-! pure: calls, the fourth -/
theorem sim_stow {c : Nat} {N : tq_Nn} {S M : tq_St} {p0 p1 p2 : Int32} (hR : tp_R c N S M) (hc : c < 512) : wpX11_stow N (fun S1 r => wpX12_stow (fun M1 r1 => r = r1 ∧ tp_R (c + 1) N S1 M1) M p0 p1 p2) S p0 p1 p2 := by
  have hT := hR.tick hc
  obtain ⟨d, pn, P, Sh, V, E, A, t, r, G, C, OL, h0⟩ := id hR
  obtain ⟨hsc, hss, har, hpl, hlg, hsh, hpe, hmo, hpr, hsr, hpa, hkn, hst, hpm, hsi, hab, hsm, hvo, hvm, hbi, hlb, hiv, hod, hol, hoi, hfi, hli, had, hro⟩ := id h0
  obtain ⟨s1, s2, s3, s4, s5, s6, s7, s8, s9, b1, b2, b3, b4, b5, b6, b7, b8, b9, e1, e2⟩ := id hsc
  obtain ⟨x1, x2, x3, x4, x5, x6, x7⟩ := id hss
  obtain ⟨y1, y2, y3, y4, y5, y6, y7, y8, y9, y10, y11, y12, y13, y14, y15⟩ := id har
  obtain ⟨w1, w2, w3, w4, w5, w6⟩ := id hpl
  obtain ⟨l1, l2, l3, l4, l5, l6, l7, l8⟩ := id hli
  by_cases h1 : tp_i 0 ((pn : Int) - 1) p0
  · obtain ⟨i, i3, rfl⟩ := tp_i_lt (m := pn) h1 (by omega)
    have ic : (nI i).toNatClampNeg = i := nI_clamp (by omega)
    have iv : vp_in (nI i) 20 := vp_in_nI (by omega) (by decide)
    by_cases h2 : tp_i 0 ((Sh : Int) - 1) p1
    · obtain ⟨s, ss3, rfl⟩ := tp_i_lt (m := Sh) h2 (by omega)
      have sc : (nI s).toNatClampNeg = s := nI_clamp (by omega)
      have sv : vp_in (nI s) 8 := vp_in_nI (by omega) (by decide)
      obtain ⟨f1, f2, f3⟩ := tp_get l2 ss3
      obtain ⟨sa1, sa2, sa3, sa4, sa5, sa6, sa7, sa8, sa9, sa10⟩ := hsi s ss3
      obtain ⟨sb1, sb2, sb3⟩ := sa10 (by omega)
      simp (disch := decide) only [wpX11_stow, wbX11_stow_16, wpX8_freeTons, wpX12_stow, wbX12_stow_16, tp_isFactory, tp_isPlace, tp_isSort, tp_isSheet, tp_isHolder, tp_isPerson, tp_isPaper, tp_isShip, tp_isVoyage, tp_within, tp_in, tp_mPlace, tp_mFactory, tp_mSort, tp_mBuyer, tp_b0, tp_b1, Classical.not_not, tp_nb0, tp_nb1, tp_nb, true_and, Int32.reduceToInt, x2, s2, tp_ti (show pn < 2 ^ 31 by omega), tp_mPerson s2 (show pn < 2 ^ 31 by omega), tp_len l2, tp_ti (show Sh < 2 ^ 31 by omega), tp_mShip s4 (show Sh < 2 ^ 31 by omega), f2, sc, ic, y1, sa7, forall_eq, tq_upe]
      by_cases h3 : tp_i 0 20 p2
      · by_cases h4 : M 124 0 s = M 107 0 i
        · repeat' (with_reducible first | refine tp_cT (by assumption) ?_ | refine tp_cF (by assumption) ?_ | refine tp_dT (by assumption) ?_ | refine tp_dF (by assumption) ?_ | refine And.intro (by assumption) ?_ | refine tp_ae ?_)
          have fr := tp_freeq (P := P) (d := d) hsi hsm b2 b4 ss3 (show s ≠ 8 by omega)
          rw [fr]
          by_cases h5 : p2 ≤ M 123 0 s - bx_sum (M 127 s) 4 - bx_sum (M 129 s) pn
          · repeat' (with_reducible first | refine tp_cT (by assumption) ?_ | refine tp_cF (by assumption) ?_ | refine tp_dT (by assumption) ?_ | refine tp_dF (by assumption) ?_ | refine And.intro (by assumption) ?_ | refine tp_ae ?_)
            refine tp_free (s := s) (by omega) s2 b2 ?_
            refine tp_dT h5 ?_
            rw [sb3 i (by omega)]
            exact ⟨rfl, (RR_stow h0 ss3 i3 rfl).R hc rfl rfl rfl⟩
          · repeat' (with_reducible first | refine tp_cT (by assumption) ?_ | refine tp_cF (by assumption) ?_ | refine tp_dT (by assumption) ?_ | refine tp_dF (by assumption) ?_ | refine And.intro (by assumption) ?_ | refine tp_ae ?_)
            refine tp_free (s := s) (by omega) s2 b2 ?_
            first | exact tp_dF h5 ⟨rfl, hT⟩ | exact tp_dF h5 hT
        · repeat' (with_reducible first | refine tp_cT (by assumption) ?_ | refine tp_cF (by assumption) ?_ | refine tp_dT (by assumption) ?_ | refine tp_dF (by assumption) ?_ | refine And.intro (by assumption) ?_ | refine tp_ae ?_)
          first | exact ⟨rfl, hT⟩ | exact hT
      · repeat' (with_reducible first | refine tp_cT (by assumption) ?_ | refine tp_cF (by assumption) ?_ | refine tp_dT (by assumption) ?_ | refine tp_dF (by assumption) ?_ | refine And.intro (by assumption) ?_ | refine tp_ae ?_)
        first | exact ⟨rfl, hT⟩ | exact hT
    · simp (disch := decide) only [wpX11_stow, wbX11_stow_16, wpX8_freeTons, wpX12_stow, wbX12_stow_16, tp_isFactory, tp_isPlace, tp_isSort, tp_isSheet, tp_isHolder, tp_isPerson, tp_isPaper, tp_isShip, tp_isVoyage, tp_within, tp_in, tp_mPlace, tp_mFactory, tp_mSort, tp_mBuyer, tp_b0, tp_b1, Classical.not_not, tp_nb0, tp_nb1, tp_nb, true_and, Int32.reduceToInt, x2, s2, tp_ti (show pn < 2 ^ 31 by omega), tp_mPerson s2 (show pn < 2 ^ 31 by omega), tp_len l2, tp_ti (show Sh < 2 ^ 31 by omega), tp_mShip s4 (show Sh < 2 ^ 31 by omega)]
      repeat' (with_reducible first | refine tp_cT (by assumption) ?_ | refine tp_cF (by assumption) ?_ | refine tp_dT (by assumption) ?_ | refine tp_dF (by assumption) ?_ | refine And.intro (by assumption) ?_ | refine tp_ae ?_)
      first | exact ⟨rfl, hT⟩ | exact hT
  · simp (disch := decide) only [wpX11_stow, wbX11_stow_16, wpX8_freeTons, wpX12_stow, wbX12_stow_16, tp_isFactory, tp_isPlace, tp_isSort, tp_isSheet, tp_isHolder, tp_isPerson, tp_isPaper, tp_isShip, tp_isVoyage, tp_within, tp_in, tp_mPlace, tp_mFactory, tp_mSort, tp_mBuyer, tp_b0, tp_b1, Classical.not_not, tp_nb0, tp_nb1, tp_nb, true_and, Int32.reduceToInt, x2, s2, tp_ti (show pn < 2 ^ 31 by omega), tp_mPerson s2 (show pn < 2 ^ 31 by omega), tp_len l2, tp_ti (show Sh < 2 ^ 31 by omega), tp_mShip s4 (show Sh < 2 ^ 31 by omega)]
    repeat' (with_reducible first | refine tp_cT (by assumption) ?_ | refine tp_cF (by assumption) ?_ | refine tp_dT (by assumption) ?_ | refine tp_dF (by assumption) ?_ | refine And.intro (by assumption) ?_ | refine tp_ae ?_)
    first | exact ⟨rfl, hT⟩ | exact hT
theorem tp_shipAt {pn Sh V : Nat} {G : Nat → Nat → Nat → Nat} {S M : tq_St} (hsm : q_sm pn Sh V G S M) {s : Nat} (hs : s < Sh) : (¬ tp_i 0 4 (M 124 0 s) ∧ M 124 0 s < 0 ∧ ¬ 0 ≤ M 124 0 s) ∨ ∃ p : Nat, p < 5 ∧ M 124 0 s = nI p ∧ tp_i 0 4 (M 124 0 s) ∧ ¬ M 124 0 s < 0 ∧ 0 ≤ M 124 0 s ∧ vp_in (M 124 0 s) 5 ∧ (M 124 0 s).toNatClampNeg = p := by
  obtain ⟨_, a1, a2, _⟩ := hsm.1 s hs
  by_cases h : 0 ≤ (M 124 0 s).toInt
  · obtain ⟨p, p1, p2, p3⟩ := tp_nat h
    have : p < 5 := by omega
    exact Or.inr ⟨p, this, p2, ⟨h, a2⟩, by rw [p2]; exact nI_pos (by omega), by rw [p2]; exact nI_pos' (by omega), by rw [p2]; exact vp_in_nI this (by decide), by rw [p2]; exact nI_clamp (by omega)⟩
  · refine Or.inl ⟨fun z => h z.1, ?_, ?_⟩
    · rw [tp_lt]; simp; omega
    · rw [tp_le]; simp; omega
theorem tp_l64 (a : Int32) : a.toInt64.toInt = a.toInt := Int32.toInt_toInt64 a
theorem tp_bm64 (x : Int) (h : -9223372036854775808 ≤ x) (h2 : x < 9223372036854775808) : x.bmod (2 ^ 64) = x := by
  apply Int.bmod_eq_of_le <;> omega
theorem tp_ladd {a b : Int64} (h : -9223372036854775808 ≤ a.toInt + b.toInt) (h2 : a.toInt + b.toInt < 9223372036854775808) : (a + b).toInt = a.toInt + b.toInt := by
  rw [Int64.toInt_add]; exact tp_bm64 _ h h2
theorem tp_lsub {a b : Int64} (h : -9223372036854775808 ≤ a.toInt - b.toInt) (h2 : a.toInt - b.toInt < 9223372036854775808) : (a - b).toInt = a.toInt - b.toInt := by
  rw [Int64.toInt_sub]; exact tp_bm64 _ h h2
theorem tp_lneg {a : Int64} (h : -9223372036854775808 < a.toInt) : (-a).toInt = -a.toInt := by
  rw [Int64.toInt_neg]
  exact tp_bm64 _ (by have := Int64.toInt_lt a; omega) (by omega)
theorem tp_llt (a b : Int64) : a < b ↔ a.toInt < b.toInt := Int64.lt_iff_toInt_lt
theorem tp_lle (a b : Int64) : a ≤ b ↔ a.toInt ≤ b.toInt := Int64.le_iff_toInt_le
theorem sim_load {c : Nat} {N : tq_Nn} {S M : tq_St} {p0 p1 : Int32} (hR : tp_R c N S M) (hc : c < 512) : wpX11_load N (fun S1 r => wpX12_load (fun M1 r1 => r = r1 ∧ tp_R (c + 1) N S1 M1) M p0 p1) S p0 p1 := by
  have hT := hR.tick hc
  obtain ⟨d, pn, P, Sh, V, E, A, t, r, G, C, OL, h0⟩ := id hR
  obtain ⟨hsc, hss, har, hpl, hlg, hsh, hpe, hmo, hpr, hsr, hpa, hkn, hst, hpm, hsi, hab, hsm, hvo, hvm, hbi, hlb, hiv, hod, hol, hoi, hfi, hli, had, hro⟩ := id h0
  obtain ⟨s1, s2, s3, s4, s5, s6, s7, s8, s9, b1, b2, b3, b4, b5, b6, b7, b8, b9, e1, e2⟩ := id hsc
  obtain ⟨x1, x2, x3, x4, x5, x6, x7⟩ := id hss
  obtain ⟨y1, y2, y3, y4, y5, y6, y7, y8, y9, y10, y11, y12, y13, y14, y15⟩ := id har
  obtain ⟨w1, w2, w3, w4, w5, w6⟩ := id hpl
  obtain ⟨l1, l2, l3, l4, l5, l6, l7, l8⟩ := id hli
  have mo := tp_mo hmo e2 b3
  by_cases h1 : tp_i 0 ((Sh : Int) - 1) p0
  · obtain ⟨s, ss3, rfl⟩ := tp_i_lt (m := Sh) h1 (by omega)
    have sc : (nI s).toNatClampNeg = s := nI_clamp (by omega)
    have sv : vp_in (nI s) 8 := vp_in_nI (by omega) (by decide)
    obtain ⟨f1, f2, f3⟩ := tp_get l2 ss3
    obtain ⟨sa1, sa2, sa3, sa4, sa5, sa6, sa7, sa8, sa9, sa10⟩ := hsi s ss3
    obtain ⟨sb1, sb2, sb3⟩ := sa10 (by omega)
    rcases tp_shipAt hsm ss3 with ⟨q1, q2, q3⟩ | ⟨p, q1, q2, q3, q4, q5, q6, q7⟩
    · simp (disch := decide) only [wpX11_load, wpX11_canMove, wbX11_canMove_50, wbX11_canMove_51, wbX11_canMove_17, wpX12_load, wbX12_load_94, wbX12_load_97, tp_isFactory, tp_isPlace, tp_isSort, tp_isSheet, tp_isHolder, tp_isPerson, tp_isPaper, tp_isShip, tp_isVoyage, tp_within, tp_in, tp_mPlace, tp_mFactory, tp_mSort, tp_mBuyer, tp_b0, tp_b1, Classical.not_not, tp_nb0, tp_nb1, tp_nb, true_and, Int32.reduceToInt, tp_len l2, tp_ti (show Sh < 2 ^ 31 by omega), tp_mShip s4 (show Sh < 2 ^ 31 by omega), f2, sc, sa7]
      repeat' (with_reducible first | refine tp_cT (by assumption) ?_ | refine tp_cF (by assumption) ?_ | refine tp_dT (by assumption) ?_ | refine tp_dF (by assumption) ?_ | refine And.intro (by assumption) ?_ | refine tp_ae ?_)
      first | exact ⟨rfl, hT⟩ | exact hT
    · have ec : S 2 p 1 = M 101 0 p := w2 p q1
      simp (disch := decide) only [wpX11_load, wpX11_canMove, wbX11_canMove_50, wbX11_canMove_51, wbX11_canMove_17, wpX12_load, wbX12_load_94, wbX12_load_97, tp_isFactory, tp_isPlace, tp_isSort, tp_isSheet, tp_isHolder, tp_isPerson, tp_isPaper, tp_isShip, tp_isVoyage, tp_within, tp_in, tp_mPlace, tp_mFactory, tp_mSort, tp_mBuyer, tp_b0, tp_b1, Classical.not_not, tp_nb0, tp_nb1, tp_nb, true_and, Int32.reduceToInt, tp_len l2, tp_ti (show Sh < 2 ^ 31 by omega), tp_mShip s4 (show Sh < 2 ^ 31 by omega), f2, sc, sa7, q7, ec, sb1, forall_eq, tq_upe, tq_upk, lg_cmp_le, lg_cmp_lt, lg_cmp_ge, lg_cmp_gt]
      have m1 := mo.1 p q1
      have m2 := mo.2.1 s (by omega)
      have m3 := mo.2.2.2.1 p s q1 (by omega)
      have t1 := tp_l64 p1
      have t2 := tp_l64 (M 101 0 p)
      have t3 := tp_l64 (M 128 0 s)
      have t4 := tp_lo p1
      have t5 := tp_hi p1
      have t6 : (-p1.toInt64).toInt = -p1.toInt := by rw [tp_lneg (by omega), t1]
      have t7 : ((M 101 0 p).toInt64 + -p1.toInt64).toInt = (M 101 0 p).toInt - p1.toInt := by rw [tp_ladd (by omega) (by omega)]; omega
      have t8 : ((M 101 0 p).toInt64 - p1.toInt64).toInt = (M 101 0 p).toInt - p1.toInt := by rw [tp_lsub (by omega) (by omega)]; omega
      have u0 : (0 : Int64).toInt = 0 := by decide
      have u1 : (100000000 : Int64).toInt = 100000000 := by decide
      have u2 : (0 : Int32).toInt = 0 := by decide
      have c1 : (p1.toInt64 ≤ 0) ↔ p1.toInt ≤ 0 := by rw [tp_lle]; omega
      have c2 : (0 ≤ p1.toInt64) ↔ 0 ≤ p1.toInt := by rw [tp_lle]; omega
      have c3 : ((M 128 0 s).toInt64 < -p1.toInt64) ↔ (M 128 0 s).toInt < -p1.toInt := by rw [tp_llt]; omega
      have c4 : ((M 101 0 p).toInt64 - p1.toInt64 ≤ 100000000) ↔ (M 101 0 p).toInt - p1.toInt ≤ 100000000 := by rw [tp_lle]; omega
      have c5 : (100000000 < (M 101 0 p).toInt64 + -p1.toInt64) ↔ 100000000 < (M 101 0 p).toInt - p1.toInt := by rw [tp_llt]; omega
      have c6 : (p1.toInt64 ≤ (M 101 0 p).toInt64) ↔ p1.toInt ≤ (M 101 0 p).toInt := by rw [tp_lle]; omega
      have c7 : (p1 < 0) ↔ p1.toInt < 0 := by rw [tp_lt]; omega
      have c8 : (M 101 0 p < p1) ↔ (M 101 0 p).toInt < p1.toInt := by rw [tp_lt]
      simp only [c1, c2, c3, c4, c5, c6, c7, c8]
      have fin : ((p1.toInt < 0 ∧ -p1.toInt ≤ (M 128 0 s).toInt ∧ (M 101 0 p).toInt - p1.toInt ≤ 100000000) ∨ (0 ≤ p1.toInt ∧ p1.toInt ≤ (M 101 0 p).toInt)) → tp_R (c + 1) N (tq_up (tq_up S 8 (G 19 0 s) 7 (M 128 0 s + p1)) 2 p 1 (M 101 0 p - p1)) (tq_up (tq_up M 101 0 p (M 101 0 p - p1)) 128 0 s (M 128 0 s + p1)) := by
        intro z
        have z1 : (M 128 0 s + p1).toInt = (M 128 0 s).toInt + p1.toInt := tp_add (by omega) (by omega)
        have z2 : (M 101 0 p - p1).toInt = (M 101 0 p).toInt - p1.toInt := tp_sub (by omega) (by omega)
        exact (RR_load h0 ss3 q1 rfl (by omega) (by omega) (by omega)).R hc rfl rfl rfl
      by_cases k1 : p1.toInt < 0
      · have k2 : p1.toInt ≤ 0 := by omega
        have k3 : ¬ 0 ≤ p1.toInt := by omega
        by_cases k4 : (M 128 0 s).toInt < -p1.toInt
        · repeat' (with_reducible first | refine tp_cT (by first | assumption | decide) ?_ | refine tp_cF (by first | assumption | decide) ?_ | refine tp_dT (by first | assumption | decide) ?_ | refine tp_dF (by first | assumption | decide) ?_ | refine And.intro (by first | assumption | decide) ?_ | refine tp_ae ?_)
          first | exact ⟨rfl, hT⟩ | exact hT
        · by_cases k5 : (M 101 0 p).toInt - p1.toInt ≤ 100000000
          · have k6 : ¬ 100000000 < (M 101 0 p).toInt - p1.toInt := by omega
            repeat' (with_reducible first | refine tp_cT (by first | assumption | decide) ?_ | refine tp_cF (by first | assumption | decide) ?_ | refine tp_dT (by first | assumption | decide) ?_ | refine tp_dF (by first | assumption | decide) ?_ | refine And.intro (by first | assumption | decide) ?_ | refine tp_ae ?_)
            first | exact ⟨rfl, fin (by omega)⟩ | exact fin (by omega)
          · have k6 : 100000000 < (M 101 0 p).toInt - p1.toInt := by omega
            repeat' (with_reducible first | refine tp_cT (by first | assumption | decide) ?_ | refine tp_cF (by first | assumption | decide) ?_ | refine tp_dT (by first | assumption | decide) ?_ | refine tp_dF (by first | assumption | decide) ?_ | refine And.intro (by first | assumption | decide) ?_ | refine tp_ae ?_)
            first | exact ⟨rfl, hT⟩ | exact hT
      · by_cases k2 : (M 101 0 p).toInt < p1.toInt
        · have k3 : ¬ p1.toInt ≤ 0 := by omega
          have k4 : ¬ p1.toInt ≤ (M 101 0 p).toInt := by omega
          repeat' (with_reducible first | refine tp_cT (by first | assumption | decide) ?_ | refine tp_cF (by first | assumption | decide) ?_ | refine tp_dT (by first | assumption | decide) ?_ | refine tp_dF (by first | assumption | decide) ?_ | refine And.intro (by first | assumption | decide) ?_ | refine tp_ae ?_)
          first | exact ⟨rfl, hT⟩ | exact hT
        · have k4 : p1.toInt ≤ (M 101 0 p).toInt := by omega
          by_cases k3 : p1.toInt ≤ 0
          · have k5 : ¬ (M 128 0 s).toInt < -p1.toInt := by omega
            have k6 : 0 ≤ p1.toInt := by omega
            repeat' (with_reducible first | refine tp_cT (by first | assumption | decide) ?_ | refine tp_cF (by first | assumption | decide) ?_ | refine tp_dT (by first | assumption | decide) ?_ | refine tp_dF (by first | assumption | decide) ?_ | refine And.intro (by first | assumption | decide) ?_ | refine tp_ae ?_)
            first | exact ⟨rfl, fin (by omega)⟩ | exact fin (by omega)
          · repeat' (with_reducible first | refine tp_cT (by first | assumption | decide) ?_ | refine tp_cF (by first | assumption | decide) ?_ | refine tp_dT (by first | assumption | decide) ?_ | refine tp_dF (by first | assumption | decide) ?_ | refine And.intro (by first | assumption | decide) ?_ | refine tp_ae ?_)
            first | exact ⟨rfl, fin (by omega)⟩ | exact fin (by omega)
  · simp (disch := decide) only [wpX11_load, wpX11_canMove, wbX11_canMove_50, wbX11_canMove_51, wbX11_canMove_17, wpX12_load, wbX12_load_94, wbX12_load_97, tp_isFactory, tp_isPlace, tp_isSort, tp_isSheet, tp_isHolder, tp_isPerson, tp_isPaper, tp_isShip, tp_isVoyage, tp_within, tp_in, tp_mPlace, tp_mFactory, tp_mSort, tp_mBuyer, tp_b0, tp_b1, Classical.not_not, tp_nb0, tp_nb1, tp_nb, true_and, Int32.reduceToInt, tp_len l2, tp_ti (show Sh < 2 ^ 31 by omega), tp_mShip s4 (show Sh < 2 ^ 31 by omega)]
    repeat' (with_reducible first | refine tp_cT (by assumption) ?_ | refine tp_cF (by assumption) ?_ | refine tp_dT (by assumption) ?_ | refine tp_dF (by assumption) ?_ | refine And.intro (by assumption) ?_ | refine tp_ae ?_)
    first | exact ⟨rfl, hT⟩ | exact hT
