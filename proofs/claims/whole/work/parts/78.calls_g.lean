/-! pure: calls, the seventh: mail, take, heard, open -/
theorem mail_aux {h w d pn P Sh V E A r eb c : Nat} {G : Nat → Nat → Nat → Nat} {C : Nat → Nat → Nat} {OL : Nat → List Nat} {N : tq_Nn} {q i n : Nat} (hq : q < 3) (hin : i + n ≤ 64) : ∀ (k t j : Nat) (S M : tq_St), RR c h w d pn P Sh V E A t r eb G C OL N S M → j + k = n → t + k ≤ 120 → wbX11_mail_102 N (fun S1 r1 => ∃ nq, wbX12_mail_113 (fun M1 r2 => r1 = r2 ∧ RR c h w d pn P Sh V E A (t + k) r eb G C OL N S1 M1) nq M (nI q) (nI i) (nI n) (nI j)) (k + 1) S (nI i) (nI n) q (nI (i + j))
  | 0, t, j, S, M, h0, hj, ht => by
    unfold wbX11_mail_102
    rw [nI_add]
    refine tp_dT (nI_le (by omega) (by omega)) ⟨1, ?_⟩
    unfold wbX12_mail_113
    exact tp_dT (nI_le (by omega) (by omega)) ⟨h0.2.1.2.2.2.2.1, h0⟩
  | k + 1, t, j, S, M, h0, hj, ht => by
    have s1 : S 3 0 1 = nI t := h0.2.1.2.2.2.2.1.trans h0.1.2.2.2.2.2.2.2.1
    have s2 : M 64 0 61 = nI t := h0.1.2.2.2.2.2.2.2.1
    have s3 : S 49 = M 163 := h0.2.2.1.2.2.2.2.2.2.2.2.2.2.2.2.2.2
    have hlt : t < 120 := by omega
    unfold wbX11_mail_102
    rw [nI_add]
    refine tp_dF (nI_ge (by omega) (by omega)) ⟨hq, vp_in_nI (by omega) (by decide), tp_append s1 hlt ?_⟩
    rw [nI_1, nI_clamp (by omega), s3]
    have ih := mail_aux (N := N) hq hin k (t + 1) (j + 1) _ _ (RR_tape (v := M 163 q (i + j) &&& 255) h0 hlt) (by omega) (by omega)
    rw [show i + j + 1 = i + (j + 1) by omega]
    refine mn_bX11_mail_102 _ _ _ _ _ _ _ _ (fun S1 r1 hh => ?_) ih
    obtain ⟨nq, hh⟩ := hh
    refine ⟨nq + 1, ?_⟩
    unfold wbX12_mail_113
    refine tp_dF (nI_ge (by omega) (by omega)) (tp_ae ⟨vp_in_nI hq (by decide), by rw [nI_add]; exact vp_in_nI (by omega) (by decide), by rw [s2]; exact vp_in_nI hlt (by decide), tp_ae ?_⟩)
    rw [tq_upk (by decide), nI_add, s2, nI_clamp (by omega), nI_clamp (by omega), nI_clamp (by omega), nI_1, nI_1]
    rw [show t + (k + 1) = t + 1 + k by omega]
    exact hh
theorem sim_mail {c : Nat} {N : tq_Nn} {S M : tq_St} {p0 p1 p2 p3 : Int32} (hR : tp_R c N S M) (hc : c < 512) : wpX11_mail N (fun S1 r => wpX12_mail (fun M1 r1 => r = r1 ∧ tp_R (c + 1) N S1 M1) M p0 p1 p2 p3) S p0 p1 p2 p3 := by
  have hT := hR.tick hc
  obtain ⟨d, pn, P, Sh, V, E, A, t, r, G, C, OL, h0⟩ := id hR
  obtain ⟨hsc, hss, har, hpl, hlg, hsh, hpe, hmo, hpr, hsr, hpa, hkn, hst, hpm, hsi, hab, hsm, hvo, hvm, hbi, hlb, hiv, hod, hol, hoi, hfi, hli, had, hro⟩ := id h0
  obtain ⟨s1, s2, s3, s4, s5, s6, s7, s8, s9, b1, b2, b3, b4, b5, b6, b7, b8, b9, e1, e2⟩ := id hsc
  obtain ⟨x1, x2, x3, x4, x5, x6, x7⟩ := id hss
  obtain ⟨y1, y2, y3, y4, y5, y6, y7, y8, y9, y10, y11, y12, y13, y14, y15⟩ := id har
  obtain ⟨w1, w2, w3, w4, w5, w6⟩ := id hpl
  obtain ⟨l1, l2, l3, l4, l5, l6, l7, l8⟩ := id hli
  by_cases h1 : tp_i 0 2 p0
  · obtain ⟨q, q3, rfl⟩ := tp_i_lt (m := 3) h1 (by decide)
    have qc : (nI q).toNatClampNeg = q := nI_clamp (by omega)
    have qv : vp_in (nI q) 3 := vp_in_nI q3 (by decide)
    have q33 : q < 3 := q3
    obtain ⟨k1, k2, k3, k4, z, hz, ez⟩ := hsh q q3
    by_cases h3 : 0 ≤ p3
    · obtain ⟨n, hn, rfl⟩ := nI_of (x := p3) (by rw [tp_le] at h3; rw [tp_lt]; simp at h3 ⊢; omega)
      have nt := tp_ti hn
      have n0 : ¬ nI n < 0 := nI_pos hn
      have c1 : (nI n = 0) ↔ n = 0 := nI_eq (b := 0) hn (by decide)
      have c2 : (120 - M 64 0 61 < nI n) ↔ ¬ t + n ≤ 120 := by
        rw [s8, tp_lt, tp_sub (by simp; rw [tp_ti (by omega)]; omega) (by simp; rw [tp_ti (by omega)]; omega), tp_ti (show t < 2 ^ 31 by omega), nt]; simp; omega
      have c3 : (nI n ≤ 120 - M 64 0 61) ↔ t + n ≤ 120 := by
        rw [s8, tp_le, tp_sub (by simp; rw [tp_ti (by omega)]; omega) (by simp; rw [tp_ti (by omega)]; omega), tp_ti (show t < 2 ^ 31 by omega), nt]; simp; omega
      have zn : (nI z - nI n).toInt = (z : Int) - n := by rw [tp_sub (by rw [tp_ti (by omega), nt]; omega) (by rw [tp_ti (by omega), nt]; omega), tp_ti (by omega), nt]
      have c4 : (nI z < nI n) ↔ z < n := nI_ltI (by omega) hn
      simp (disch := decide) only [wpX11_mail, wbX11_mail_16, wpX7_isMissing, wbX7_isMissing_12, wpX7_has, wbX7_has_22, wbX7_has_23, wpX6_hasRoomFor, wbX6_hasRoomFor_16, wpX12_mail, wbX12_mail_18, wbX12_mail_92, tp_isFactory, tp_isPlace, tp_isSort, tp_isSheet, tp_isHolder, tp_isPerson, tp_isPaper, tp_isShip, tp_isVoyage, tp_within, tp_in, tp_mPlace, tp_mFactory, tp_mSort, tp_mBuyer, tp_b0, tp_b1, Classical.not_not, tp_nb0, tp_nb1, tp_nb, true_and, Int32.reduceToInt, qc, k1, k2, ez, x5, c1, c2, c3, c4]
      by_cases h2 : tp_i 0 2 p1
      · by_cases d0 : n = 0
        · repeat' (with_reducible first | refine tp_cT (by first | assumption | decide) ?_ | refine tp_cF (by first | assumption | decide) ?_ | refine tp_dT (by first | assumption | decide) ?_ | refine tp_dF (by first | assumption | decide) ?_ | refine And.intro (by first | assumption | decide) ?_ | refine tp_ae ?_)
          first | exact ⟨rfl, hT⟩ | exact hT
        · by_cases d1 : M 162 0 q = -1
          · have d2 : ¬ 0 ≤ M 162 0 q := by rw [d1]; decide
            repeat' (with_reducible first | refine tp_cT (by first | assumption | decide) ?_ | refine tp_cF (by first | assumption | decide) ?_ | refine tp_dT (by first | assumption | decide) ?_ | refine tp_dF (by first | assumption | decide) ?_ | refine And.intro (by first | assumption | decide) ?_ | refine tp_ae ?_)
            first | exact ⟨rfl, hT⟩ | exact hT
          · have d2 : 0 ≤ M 162 0 q := by
              rw [tp_le]
              rw [tp_eq] at d1
              simp at d1 ⊢
              omega
            by_cases d3 : M 162 0 q = p1
            · by_cases d4 : p2 < 0
              · repeat' (with_reducible first | refine tp_cT (by first | assumption | decide) ?_ | refine tp_cF (by first | assumption | decide) ?_ | refine tp_dT (by first | assumption | decide) ?_ | refine tp_dF (by first | assumption | decide) ?_ | refine And.intro (by first | assumption | decide) ?_ | refine tp_ae ?_)
                first | exact ⟨rfl, hT⟩ | exact hT
              · obtain ⟨i, hi, rfl⟩ := nI_of d4
                have it := tp_ti hi
                have c5 : (nI z - nI n < nI i) ↔ (z : Int) < i + n := by rw [tp_lt, zn, it]; omega
                have c6 : (nI i ≤ nI z - nI n) ↔ ¬ (z : Int) < i + n := by rw [tp_le, zn, it]; omega
                simp only [c5, c6]
                by_cases d5 : (z : Int) < i + n
                · have d6 : ¬ ¬ (z : Int) < i + n := fun y => y d5
                  by_cases d7 : z < n
                  · repeat' (with_reducible first | refine tp_cT (by first | assumption | decide) ?_ | refine tp_cF (by first | assumption | decide) ?_ | refine tp_dT (by first | assumption | decide) ?_ | refine tp_dF (by first | assumption | decide) ?_ | refine And.intro (by first | assumption | decide) ?_ | refine tp_ae ?_)
                    first | exact ⟨rfl, hT⟩ | exact hT
                  · repeat' (with_reducible first | refine tp_cT (by first | assumption | decide) ?_ | refine tp_cF (by first | assumption | decide) ?_ | refine tp_dT (by first | assumption | decide) ?_ | refine tp_dF (by first | assumption | decide) ?_ | refine And.intro (by first | assumption | decide) ?_ | refine tp_ae ?_)
                    first | exact ⟨rfl, hT⟩ | exact hT
                · have d7 : ¬ z < n := by omega
                  by_cases d8 : t + n ≤ 120
                  · have d9 : ¬ ¬ t + n ≤ 120 := fun y => y d8
                    repeat' (with_reducible first | refine tp_cT (by first | assumption | decide) ?_ | refine tp_cF (by first | assumption | decide) ?_ | refine tp_dT (by first | assumption | decide) ?_ | refine tp_dF (by first | assumption | decide) ?_ | refine And.intro (by first | assumption | decide) ?_ | refine tp_ae ?_)
                    refine ⟨n + 1, mn_bX11_mail_102 _ _ _ _ _ _ _ _ (fun S1 r1 hh => ?_) (mail_aux (i := i) (n := n) q3 (by omega) n t 0 S M h0 (by omega) d8)⟩
                    obtain ⟨nq, hh⟩ := hh
                    repeat' (with_reducible first | refine tp_cT (by first | assumption | decide) ?_ | refine tp_cF (by first | assumption | decide) ?_ | refine tp_dT (by first | assumption | decide) ?_ | refine tp_dF (by first | assumption | decide) ?_ | refine And.intro (by first | assumption | decide) ?_ | refine tp_ae ?_)
                    refine ⟨nq, ?_⟩
                    obtain ⟨M1, r2, ⟨hq, hr⟩, kk⟩ := dt_bX12_mail_113 _ _ _ _ _ _ _ hh
                    exact kk _ ⟨hq, hr.R hc rfl rfl rfl⟩
                  · repeat' (with_reducible first | refine tp_cT (by first | assumption | decide) ?_ | refine tp_cF (by first | assumption | decide) ?_ | refine tp_dT (by first | assumption | decide) ?_ | refine tp_dF (by first | assumption | decide) ?_ | refine And.intro (by first | assumption | decide) ?_ | refine tp_ae ?_)
                    first | exact ⟨rfl, hT⟩ | exact hT
            · repeat' (with_reducible first | refine tp_cT (by first | assumption | decide) ?_ | refine tp_cF (by first | assumption | decide) ?_ | refine tp_dT (by first | assumption | decide) ?_ | refine tp_dF (by first | assumption | decide) ?_ | refine And.intro (by first | assumption | decide) ?_ | refine tp_ae ?_)
              first | exact ⟨rfl, hT⟩ | exact hT
      · repeat' (with_reducible first | refine tp_cT (by first | assumption | decide) ?_ | refine tp_cF (by first | assumption | decide) ?_ | refine tp_dT (by first | assumption | decide) ?_ | refine tp_dF (by first | assumption | decide) ?_ | refine And.intro (by first | assumption | decide) ?_ | refine tp_ae ?_)
        first | exact ⟨rfl, hT⟩ | exact hT
    · simp (disch := decide) only [wpX11_mail, wbX11_mail_16, wpX7_isMissing, wbX7_isMissing_12, wpX7_has, wbX7_has_22, wbX7_has_23, wpX6_hasRoomFor, wbX6_hasRoomFor_16, wpX12_mail, wbX12_mail_18, wbX12_mail_92, tp_isFactory, tp_isPlace, tp_isSort, tp_isSheet, tp_isHolder, tp_isPerson, tp_isPaper, tp_isShip, tp_isVoyage, tp_within, tp_in, tp_mPlace, tp_mFactory, tp_mSort, tp_mBuyer, tp_b0, tp_b1, Classical.not_not, tp_nb0, tp_nb1, tp_nb, true_and, Int32.reduceToInt]
      by_cases h2 : tp_i 0 2 p1
      · repeat' (with_reducible first | refine tp_cT (by first | assumption | decide) ?_ | refine tp_cF (by first | assumption | decide) ?_ | refine tp_dT (by first | assumption | decide) ?_ | refine tp_dF (by first | assumption | decide) ?_ | refine And.intro (by first | assumption | decide) ?_ | refine tp_ae ?_)
        first | exact ⟨rfl, hT⟩ | exact hT
      · repeat' (with_reducible first | refine tp_cT (by first | assumption | decide) ?_ | refine tp_cF (by first | assumption | decide) ?_ | refine tp_dT (by first | assumption | decide) ?_ | refine tp_dF (by first | assumption | decide) ?_ | refine And.intro (by first | assumption | decide) ?_ | refine tp_ae ?_)
        first | exact ⟨rfl, hT⟩ | exact hT
  · simp (disch := decide) only [wpX11_mail, wbX11_mail_16, wpX7_isMissing, wbX7_isMissing_12, wpX7_has, wbX7_has_22, wbX7_has_23, wpX6_hasRoomFor, wbX6_hasRoomFor_16, wpX12_mail, wbX12_mail_18, wbX12_mail_92, tp_isFactory, tp_isPlace, tp_isSort, tp_isSheet, tp_isHolder, tp_isPerson, tp_isPaper, tp_isShip, tp_isVoyage, tp_within, tp_in, tp_mPlace, tp_mFactory, tp_mSort, tp_mBuyer, tp_b0, tp_b1, Classical.not_not, tp_nb0, tp_nb1, tp_nb, true_and, Int32.reduceToInt]
    repeat' (with_reducible first | refine tp_cT (by first | assumption | decide) ?_ | refine tp_cF (by first | assumption | decide) ?_ | refine tp_dT (by first | assumption | decide) ?_ | refine tp_dF (by first | assumption | decide) ?_ | refine And.intro (by first | assumption | decide) ?_ | refine tp_ae ?_)
    first | exact ⟨rfl, hT⟩ | exact hT
theorem tp_nm1 {j : Nat} (h : j < 2 ^ 31) : ¬ nI j = -1 := by
  intro z
  have := tp_ti h
  rw [z] at this
  have e : (-1 : Int32).toInt = -1 := by decide
  omega
/-- whose turn it is -/
noncomputable def tp_tk (A U O T : Nat → Int32) (i : Nat) (b : Int32) : Int32 := @ite _ (A i = 0 ∧ U i = 0 ∧ (b < 0 ∨ T (O i).toNatClampNeg < T (O b.toNatClampNeg).toNatClampNeg ∨ (T (O i).toNatClampNeg = T (O b.toNatClampNeg).toNatClampNeg ∧ O i < O b.toNatClampNeg))) (Classical.propDecidable _) (nI i) b
theorem tp_tk_y {A U O T : Nat → Int32} {i : Nat} {b : Int32} (h : A i = 0 ∧ U i = 0 ∧ (b < 0 ∨ T (O i).toNatClampNeg < T (O b.toNatClampNeg).toNatClampNeg ∨ (T (O i).toNatClampNeg = T (O b.toNatClampNeg).toNatClampNeg ∧ O i < O b.toNatClampNeg))) : tp_tk A U O T i b = nI i := by unfold tp_tk; rw [if_pos h]
theorem tp_tk_n {A U O T : Nat → Int32} {i : Nat} {b : Int32} (h : ¬ (A i = 0 ∧ U i = 0 ∧ (b < 0 ∨ T (O i).toNatClampNeg < T (O b.toNatClampNeg).toNatClampNeg ∨ (T (O i).toNatClampNeg = T (O b.toNatClampNeg).toNatClampNeg ∧ O i < O b.toNatClampNeg)))) : tp_tk A U O T i b = b := by unfold tp_tk; rw [if_neg h]
theorem tp_tk_inv {A U O T : Nat → Int32} : ∀ k : Nat, tp_it (tp_tk A U O T) k (-1) = -1 ∨ ∃ j : Nat, j < k ∧ tp_it (tp_tk A U O T) k (-1) = nI j
  | 0 => Or.inl rfl
  | k + 1 => by
    simp only [tp_it]
    by_cases h : (A k = 0 ∧ U k = 0 ∧ (tp_it (tp_tk A U O T) k (-1) < 0 ∨ T (O k).toNatClampNeg < T (O (tp_it (tp_tk A U O T) k (-1)).toNatClampNeg).toNatClampNeg ∨ (T (O k).toNatClampNeg = T (O (tp_it (tp_tk A U O T) k (-1)).toNatClampNeg).toNatClampNeg ∧ O k < O (tp_it (tp_tk A U O T) k (-1)).toNatClampNeg)))
    · rw [tp_tk_y h]; exact Or.inr ⟨k, by omega, rfl⟩
    · rw [tp_tk_n h]
      rcases tp_tk_inv (A := A) (U := U) (O := O) (T := T) k with h | ⟨j, h1, h2⟩
      · exact Or.inl h
      · exact Or.inr ⟨j, by omega, h2⟩
theorem sim_take {c : Nat} {N : tq_Nn} {S M : tq_St} (hR : tp_R c N S M) (hc : c < 512) : wpX11_take N (fun S1 r => wpX12_take (fun M1 r1 => r = r1 ∧ tp_R (c + 1) N S1 M1) M ) S := by
  have hT := hR.tick hc
  obtain ⟨d, pn, P, Sh, V, E, A, t, r, G, C, OL, h0⟩ := id hR
  obtain ⟨hsc, hss, har, hpl, hlg, hsh, hpe, hmo, hpr, hsr, hpa, hkn, hst, hpm, hsi, hab, hsm, hvo, hvm, hbi, hlb, hiv, hod, hol, hoi, hfi, hli, had, hro⟩ := id h0
  obtain ⟨s1, s2, s3, s4, s5, s6, s7, s8, s9, b1, b2, b3, b4, b5, b6, b7, b8, b9, e1, e2⟩ := id hsc
  obtain ⟨x1, x2, x3, x4, x5, x6, x7⟩ := id hss
  obtain ⟨y1, y2, y3, y4, y5, y6, y7, y8, y9, y10, y11, y12, y13, y14, y15⟩ := id har
  obtain ⟨w1, w2, w3, w4, w5, w6⟩ := id hpl
  obtain ⟨l1, l2, l3, l4, l5, l6, l7, l8⟩ := id hli
  have b8 : ∀ i, i < Sh → ∃ o : Nat, o ≤ 3 ∧ M 122 0 i = nI o := fun i hi => (hsm.1 i hi).1
  have inv := tp_tk_inv (A := M 124 0) (U := M 125 0) (O := M 122 0) (T := M 126 0)
  have hn := tp_len l2
  generalize hB : tp_it (tp_tk (M 124 0) (M 125 0) (M 122 0) (M 126 0)) Sh (-1) = best at *
  have hM : ∀ post : tq_St → Int32 → Prop, (best = -1 → post M (-1)) → (∀ s o : Nat, s < Sh → o < 4 → best = nI s → M 122 0 s = nI o → post (tq_up (tq_up M 125 0 s 1) 126 0 o (M 126 0 o + 1)) (nI s)) → wpX12_take post M := by
    intro post p1 p2
    refine ⟨Sh + 1, tp_loop0 (W := fun m b i => wbX12_take_4 post m M b (nI i)) (n := Sh) (f := tp_tk (M 124 0) (M 125 0) (M 122 0) (M 126 0)) (s0 := -1) (fun m => ?_) (fun m i hi hw => ?_)⟩
    · rw [hB]
      unfold wbX12_take_4
      refine tp_dT (by rw [s4]; exact nI_le (Nat.le_refl _) (by omega)) ?_
      rcases inv Sh with h | ⟨j, j1, j2⟩
      · rw [hB] at h
        rw [h]
        exact tp_dF (by decide) (p1 h)
      · rw [hB] at j2
        obtain ⟨o, ho, eo⟩ := b8 j j1
        rw [j2]
        refine tp_dT (nI_pos' (by omega)) ⟨vp_in_nI (by omega) (by decide), tp_ae ?_⟩
        rw [nI_clamp (by omega), tq_upk (by decide), eo]
        refine ⟨vp_in_nI (by omega) (by decide), tp_ae ?_⟩
        rw [nI_clamp (by omega), tq_upk (by decide)]
        exact p2 j o j1 (by omega) j2 eo
    · have key := inv i
      generalize hb : tp_it (tp_tk (M 124 0) (M 125 0) (M 122 0) (M 126 0)) i (-1) = b at key
      have hw : wbX12_take_4 post m M (tp_tk (M 124 0) (M 125 0) (M 122 0) (M 126 0) i b) (nI (i + 1)) := by rw [← hb]; exact hw
      obtain ⟨o, ho, eo⟩ := b8 i hi
      have ic : (nI i).toNatClampNeg = i := nI_clamp (by omega)
      have oc : (nI o).toNatClampNeg = o := nI_clamp (by omega)
      unfold wbX12_take_4
      refine tp_dF (by rw [s4]; exact nI_ge hi (by omega)) ⟨vp_in_nI (by omega) (by decide), ?_⟩
      simp only [wbX12_take_104, wbX12_take_102, ic, nI_1]
      by_cases e1 : M 124 0 i = 0
      · refine tp_cT e1 ?_
        by_cases e2 : M 125 0 i = 0
        · refine tp_dT e2 ?_
          rcases key with kb | ⟨j, j1, j2⟩
          · rw [tp_tk_y ⟨e1, e2, Or.inl (by rw [kb]; decide)⟩] at hw
            rw [kb]
            exact tp_dT (by decide) hw
          · obtain ⟨o2, ho2, eo2⟩ := b8 j (by omega)
            have jc : (nI j).toNatClampNeg = j := nI_clamp (by omega)
            have oc2 : (nI o2).toNatClampNeg = o2 := nI_clamp (by omega)
            rw [j2] at hw ⊢
            refine tp_dF (nI_pos (by omega)) ⟨by rw [eo]; exact vp_in_nI (by omega) (by decide), vp_in_nI (by omega) (by decide), by rw [jc, eo2]; exact vp_in_nI (by omega) (by decide), ?_⟩
            rw [jc]
            by_cases e3 : M 126 0 (M 122 0 i).toNatClampNeg < M 126 0 (M 122 0 j).toNatClampNeg
            · rw [tp_tk_y ⟨e1, e2, Or.inr (Or.inl (by rw [jc]; exact e3))⟩] at hw
              exact tp_dT e3 hw
            · refine tp_dF e3 ?_
              by_cases e4 : M 126 0 (M 122 0 i).toNatClampNeg = M 126 0 (M 122 0 j).toNatClampNeg
              · refine tp_cT e4 ?_
                by_cases e5 : M 122 0 j ≤ M 122 0 i
                · rw [tp_tk_n (fun z => by
                    rw [jc] at z
                    rcases z.2.2 with z | z | z
                    · exact absurd z (nI_pos (by omega))
                    · exact e3 z
                    · have z2 := z.2
                      rw [tp_lt] at z2
                      rw [tp_le] at e5
                      omega)] at hw
                  exact tp_dT e5 hw
                · rw [tp_tk_y ⟨e1, e2, Or.inr (Or.inr (by rw [jc]; exact ⟨e4, by rw [tp_lt]; rw [tp_le] at e5; omega⟩))⟩] at hw
                  exact tp_dF e5 hw
              · rw [tp_tk_n (fun z => by
                    rw [jc] at z
                    rcases z.2.2 with z | z | z
                    · exact absurd z (nI_pos (by omega))
                    · exact e3 z
                    · exact e4 z.1)] at hw
                exact tp_cF e4 hw
        · rw [tp_tk_n (fun z => e2 z.2.1)] at hw
          exact tp_dF e2 hw
      · rw [tp_tk_n (fun z => e1 z.1)] at hw
        exact tp_cF e1 hw
  refine ⟨Sh + 1, tp_loop0 (W := fun m b i => wbX11_take_4 N (fun S1 r => wpX12_take (fun M1 r1 => r = r1 ∧ tp_R (c + 1) N S1 M1) M) m S b (nI i)) (n := Sh) (f := tp_tk (M 124 0) (M 125 0) (M 122 0) (M 126 0)) (s0 := -1) (fun m => ?_) (fun m i hi hw => ?_)⟩
  · rw [hB]
    unfold wbX11_take_4
    refine tp_dT (by rw [hn]; exact nI_le (Nat.le_refl _) (by omega)) ?_
    rcases inv Sh with h | ⟨j, j1, j2⟩
    · rw [hB] at h
      rw [h]
      refine tp_dT rfl ?_
      unfold wbX11_take_134
      exact hM _ (fun _ => ⟨rfl, hT⟩) (fun s o h1 h2 h3 => absurd (h3.symm.trans h) (tp_nm1 (by omega)))
    · rw [hB] at j2
      obtain ⟨o, ho, eo⟩ := b8 j j1
      obtain ⟨f1, f2, f3⟩ := tp_get l2 j1
      obtain ⟨sa1, sa2, sa3, sa4, sa5, sa6, sa7, sa8, sa9, sa10⟩ := hsi j j1
      rw [j2]
      refine tp_dF (tp_nm1 (by omega)) ⟨f1, by rw [f2]; exact f3, tp_ae ?_⟩
      have f4 : tq_gok N (tq_up S 8 (tq_el S 19 20 0 (nI j)) 5 1) 19 20 0 (nI j) := f1
      have f5 : tq_el (tq_up S 8 (tq_el S 19 20 0 (nI j)) 5 1) 19 20 0 (nI j) = G 19 0 j := f2
      refine ⟨f4, by rw [f5]; exact f3, ?_⟩
      rw [f5, f2, tq_upj (by decide), sa5, eo]
      refine ⟨vp_in_nI (by omega) (by decide), tp_ae ?_⟩
      unfold wbX11_take_134
      rw [nI_clamp (by omega), tq_upk (by decide), y3]
      refine hM _ (fun z => absurd (j2.symm.trans z) (tp_nm1 (by omega))) (fun s o2 h1 h2 h3 h4 => ?_)
      have : s = j := (nI_eq (by omega) (by omega)).mp (h3.symm.trans j2)
      subst this
      have : o2 = o := (nI_eq (by omega) (by omega)).mp (h4.symm.trans eo)
      subst this
      exact ⟨rfl, (RR_take h0 j1 h2).R hc rfl rfl rfl⟩
  · have key := inv i
    generalize hb : tp_it (tp_tk (M 124 0) (M 125 0) (M 122 0) (M 126 0)) i (-1) = b at key
    have hw : wbX11_take_4 N (fun S1 r => wpX12_take (fun M1 r1 => r = r1 ∧ tp_R (c + 1) N S1 M1) M) m S (tp_tk (M 124 0) (M 125 0) (M 122 0) (M 126 0) i b) (nI (i + 1)) := by rw [← hb]; exact hw
    obtain ⟨o, ho, eo⟩ := b8 i hi
    obtain ⟨f1, f2, f3⟩ := tp_get l2 hi
    obtain ⟨sa1, sa2, sa3, sa4, sa5, sa6, sa7, sa8, sa9, sa10⟩ := hsi i hi
    have oc : (nI o).toNatClampNeg = o := nI_clamp (by omega)
    unfold wbX11_take_4
    refine tp_dF (by rw [hn]; exact nI_ge hi (by omega)) ⟨f1, by rw [f2]; exact f3, ?_⟩
    simp only [wbX11_take_45, wbX11_take_46, wbX11_take_83, wbX11_take_85, f2, sa7, sa8, sa5, nI_1, wpX11_isTurnBefore, wbX11_isTurnBefore_35, wbX11_isTurnBefore_39, wbX11_isTurnBefore_40, tp_nb0, tp_nb1, true_and, y3]
    by_cases e1 : M 124 0 i = 0
    · refine tp_cT e1 ?_
      by_cases e2 : M 125 0 i = 0
      · refine tp_cT e2 (tp_dF (by decide) ?_)
        rcases key with kb | ⟨j, j1, j2⟩
        · rw [tp_tk_y ⟨e1, e2, Or.inl (by rw [kb]; decide)⟩] at hw
          rw [kb]
          exact tp_dT rfl hw
        · obtain ⟨o2, ho2, eo2⟩ := b8 j (by omega)
          have jc : (nI j).toNatClampNeg = j := nI_clamp (by omega)
          obtain ⟨g1, g2, g3⟩ := tp_get l2 (show j < Sh by omega)
          have sj := (hsi j (by omega)).2.2.2.2.1
          rw [j2] at hw ⊢
          rw [g2, sj]
          refine tp_dF (tp_nm1 (by omega)) ⟨f3, g1, g3, by rw [eo]; exact vp_in_nI (by omega) (by decide), by rw [eo2]; exact vp_in_nI (by omega) (by decide), ?_⟩
          by_cases e3 : M 126 0 (M 122 0 i).toNatClampNeg < M 126 0 (M 122 0 j).toNatClampNeg
          · rw [tp_tk_y ⟨e1, e2, Or.inr (Or.inl (by rw [jc]; exact e3))⟩] at hw
            exact tp_dT e3 (tp_dF (by decide) hw)
          · refine tp_dF e3 ?_
            by_cases e4 : M 126 0 (M 122 0 i).toNatClampNeg = M 126 0 (M 122 0 j).toNatClampNeg
            · refine tp_cT e4 ?_
              by_cases e5 : M 122 0 j ≤ M 122 0 i
              · rw [tp_tk_n (fun z => by
                  rw [jc] at z
                  rcases z.2.2 with z | z | z
                  · exact absurd z (nI_pos (by omega))
                  · exact e3 z
                  · have z2 := z.2
                    rw [tp_lt] at z2
                    rw [tp_le] at e5
                    omega)] at hw
                exact tp_dT e5 (tp_dT (by first | rfl | trivial) hw)
              · rw [tp_tk_y ⟨e1, e2, Or.inr (Or.inr (by rw [jc]; exact ⟨e4, by rw [tp_lt]; rw [tp_le] at e5; omega⟩))⟩] at hw
                exact tp_dF e5 (tp_dF (by decide) hw)
            · rw [tp_tk_n (fun z => by
                  rw [jc] at z
                  rcases z.2.2 with z | z | z
                  · exact absurd z (nI_pos (by omega))
                  · exact e3 z
                  · exact e4 z.1)] at hw
              exact tp_cF e4 (tp_dT (by first | rfl | trivial) hw)
      · rw [tp_tk_n (fun z => e2 z.2.1)] at hw
        exact tp_cF e2 (tp_dT (by first | rfl | trivial) hw)
    · rw [tp_tk_n (fun z => e1 z.1)] at hw
      exact tp_cF e1 (tp_dT (by first | rfl | trivial) hw)
