/-! pure: the call order -/
theorem sim_order {c : Nat} {N : tq_Nn} {S M : tq_St} {p0 : Int32} (hR : tp_R c N S M) (hc : c < 512) : wpX11_order (fun N1 S1 r => wpX12_order (fun M1 r1 => r = r1 ∧ tp_R (c + 1) N1 S1 M1) M p0) N S p0 := by
  have hT := hR.tick hc
  obtain ⟨d, pn, P, Sh, V, E, A, t, r, G, C, OL, h0⟩ := id hR
  obtain ⟨hsc, hss, har, hpl, hlg, hsh, hpe, hmo, hpr, hsr, hpa, hkn, hst, hpm, hsi, hab, hsm, hvo, hvm, hbi, hlb, hiv, hod, hol, hoi, hfi, hli, had, hro⟩ := id h0
  obtain ⟨s1, s2, s3, s4, s5, s6, s7, s8, s9, b1, b2, b3, b4, b5, b6, b7, b8, b9, e1, e2⟩ := id hsc
  obtain ⟨x1, x2, x3, x4, x5, x6, x7⟩ := id hss
  obtain ⟨y1, y2, y3, y4, y5, y6, y7, y8, y9, y10, y11, y12, y13, y14, y15⟩ := id har
  obtain ⟨w1, w2, w3, w4, w5, w6⟩ := id hpl
  obtain ⟨l1, l2, l3, l4, l5, l6, l7, l8⟩ := id hli
  obtain ⟨room0, room1, _⟩ := tp_room hro (by omega) b3 b5
  simp (disch := decide) only [wpX11_order, tp_isFactory, tp_isPlace, tp_isSort, tp_isSheet, tp_isHolder, tp_isPerson, tp_isPaper, tp_isShip, tp_isVoyage, tp_within, tp_in, tp_mPlace, tp_mFactory, tp_mSort, tp_mBuyer, tp_b0, tp_b1, Classical.not_not, tp_nb0, tp_nb1, tp_nb, true_and, Int32.reduceToInt]
  by_cases h1 : tp_i 1 4 p0
  · obtain ⟨a, a1, a2, a3, rfl⟩ := tp_i_fac h1
    have ac : (nI a).toNatClampNeg = a := nI_clamp (by omega)
    have av : vp_in (nI a) 5 := vp_in_nI a3 (by decide)
    repeat' (with_reducible first | refine tp_cT (by first | assumption | decide) ?_ | refine tp_cF (by first | assumption | decide) ?_ | refine tp_dT (by first | assumption | decide) ?_ | refine tp_dF (by first | assumption | decide) ?_ | refine And.intro (by first | assumption | decide) ?_ | refine tp_ae ?_)
    refine tp_roomP (n := 1) (tp_len l1) b3 (by decide) ?_
    by_cases h4 : P + 1 ≤ 150
    · rw [tp_bt h4]
      repeat' (with_reducible first | refine tp_cT (by first | assumption | decide) ?_ | refine tp_cF (by first | assumption | decide) ?_ | refine tp_dT (by first | assumption | decide) ?_ | refine tp_dF (by first | assumption | decide) ?_ | refine And.intro (by first | assumption | decide) ?_ | refine tp_ae ?_)
      have k2 : ¬ M 64 0 9 = 150 := by
        rw [s3]
        intro z
        have := (nI_eq (a := P) (b := 150) (by omega) (by omega)).mp z
        omega
      refine ⟨by omega, by omega, fun e he0 he1 hfr => tp_ae (tp_ae ?_)⟩
      have f2 : (tq_cp S 1 e (fun _ => 0)) 2 0 0 = nI 0 := by rw [tq_cpk (by decide)]; exact w1 0 (by decide)
      refine tp_pinit (f := 0) he0 (tp_nae (by decide)) tp_na0 (by decide) f2 (fun t => by rw [tq_cpe]) (by rw [tp_na0]; omega) (by rw [tp_na1]; omega) (fun N1 S1 hn q0 q1 q2 q3 q4 q8 q9 q13 q50 q51 q52 => ?_)
      obtain ⟨n1, n2, n3, n4, n5, n6, n7, n8, n9⟩ := hn
      rw [tp_na0] at n6
      rw [tp_na1] at n7
      have gZ : gF N N1 S S1 4 22 := by
        refine ⟨tp_mono_n1.tr n1, fun k i z1 z2 z3 => ?_, ?_, by omega, by omega⟩
        · have : ¬ (i = e ∧ (k = 1 ∨ k = 7 ∨ k = 50 ∨ k = 51 ∨ k = 52)) := by
            rintro ⟨rfl, y⟩
            rcases y with rfl | y
            · have := z2 rfl; omega
            · have : k ∈ tq_dyn := by rcases y with rfl | rfl | rfl | rfl <;> decide
              exact hfr k this (z1 this)
          rw [n9 k i this]
          refine tq_cp_out (fun y => ?_)
          have := z2 y.1
          omega
        · rw [n9 3 0 (by rintro ⟨_, y⟩; omega), tq_cpk (by decide)]
      have x15 : (tq_cp S 1 e (fun _ => 0)) 15 0 2 = nI P := by rw [tq_cpk (by decide)]; exact tp_len l1
      have x10 : (tq_cp S 1 e (fun _ => 0)) 1 0 0 = nI d := by rw [tq_cpi (by omega)]; exact x1.trans s1
      rw [x15] at q0
      rw [x10] at q4
      simp only [x10] at q50
      have I0 : orI N S P e (S1 7 e) (S1 50 e) (S1 51 e) G C N1 S1 G (tp_C C 52 e 0) [] := by
        refine ⟨⟨gZ, ⟨n2, n3, n4, n5⟩, ⟨rfl, rfl, rfl⟩, q0, hfr 52 (by decide)⟩, ⟨⟨?_, Nat.zero_le _, ?_, Or.inl ⟨?_, ?_⟩⟩, fun j hj => absurd hj (by simp)⟩, Or.inl (by simp [tp_C]), fun z => ?_, fun j p hp => by simp at hp, fun _ _ _ _ _ => rfl, fun x y z _ => ?_⟩
        · rw [q52]; rfl
        · simp [tp_C]
        · rw [q52]
        · simp [tp_C]
        · rw [q52] at z; exact absurd z (by decide)
        · unfold tp_C; rw [if_neg z]
      refine orS (t := t) (tp := M 160 0) (by omega) (by omega) (x5.trans s8) (by rw [y9]) b9 I0 (fun N7 S7 G7 C7 y l el hI => ?_) (fun N7 S7 f y el hf hg => ?_)
      · obtain ⟨l1', l6', okl⟩ := por_ok 6 0 l el
        obtain ⟨⟨gz, ⟨m7, m50, m51, m52⟩, ⟨e7, e50, e51⟩, hn, hz⟩, iL, iC, iD, iP, iG, iCC⟩ := id hI
        have g4 := gz.2.2.2.1
        have g5 := gz.2.2.2.2
        have k52 : (tq_up (sk S7 y (-1)) 3 0 1 0) 52 e 2 = nI l.length := by rw [tq_upk (by decide), sk_k (by decide)]; exact iL.1.1
        rw [k52]
        refine tp_dT (by decide) ⟨m7, m52, tp_ae ?_⟩
        have s25 : ∀ k i, k ≠ 3 → ¬ (k = 7 ∧ i = e) → tq_up (tq_up (sk S7 y (-1)) 3 0 1 0) 7 e 8 (nI l.length) k i = S7 k i := fun k i z1 z2 => by
          by_cases q : k = 7
          · subst q; rw [tq_upi (fun w => z2 ⟨rfl, w⟩), tq_upk (by decide), sk_k (by decide)]
          · rw [tq_upk q, tq_upk z1, sk_k z1]
        have s257 : ∀ j, tq_up (tq_up (sk S7 y (-1)) 3 0 1 0) 7 e 8 (nI l.length) 7 e j = if j = 8 then nI l.length else S7 7 e j := fun j => by
          by_cases q : j = 8
          · rw [if_pos q, q, tq_upe]
          · rw [if_neg q, tq_upj q, tq_upk (by decide), sk_k (by decide)]
        have s253 : tq_up (tq_up (sk S7 y (-1)) 3 0 1 0) 7 e 8 (nI l.length) 3 0 1 = 0 := by rw [tq_upk (by decide), tq_upe]
        generalize tq_up (tq_up (sk S7 y (-1)) 3 0 1 0) 7 e 8 (nI l.length) = S25 at s25 s257 s253 ⊢
        have c15 : C7 15 0 = C 15 0 := iCC 15 0 (fun w => absurd w.1 (by decide)) (fun w => absurd w (by decide))
        have cC := hro.2.2.2.1
        have f15 : S25 15 = S 15 := funext (fun i => by
          rw [s25 15 i (by decide) (fun w => absurd w.1 (by decide))]
          exact gz.2.1 15 i (fun w => absurd w (by decide)) (fun w => absurd w (by decide)) (by decide))
        have L1 : tp_L N7 (S25 15) (S25 16) G7 C7 15 16 7 0 P := by
          rw [f15]
          exact tp_L_fr0 l1 rfl rfl (fun z => by
            rw [s25 16 _ (by decide) (fun w => absurd w.1 (by decide))]
            exact gz.2.1 16 _ (fun _ => z) (fun w => absurd w (by decide)) (by decide)) (fun j hj => dyn_m gz.1 (by decide) hj) (fun j hj => dyn_m gz.1 (by decide) hj) (fun j _ => iG 15 0 j (fun w => absurd w.1 (by decide)) (fun w => absurd w (by decide))) c15
        refine ⟨tp_L_aok L1 (by omega) m7 (by omega) (by omega) (by omega), fun N8 S8 hadd => ?_⟩
        obtain ⟨c1, d1, u1, u2, u3, u4, u5, u6, u7, u8, u9, u10, u11, u12⟩ := tp_L_add L1 hadd m7 (by omega) (by decide) (by decide) (by decide) (by decide) (by decide)
        have s8k : ∀ k i, k ≠ 15 → k ≠ 16 → S8 k i = S25 k i := fun k i z1 z2 => u3 k i (fun w => z1 w.1) (fun w => z2 w.1)
        have s70 : S8 7 e 0 = nI P := by rw [s8k 7 e (by decide) (by decide), s257 0, if_neg (by decide), e7]; exact hn
        have n8p : 1 ≤ N8 0 0 := by
          obtain ⟨_, _, _, _, _, _, _, _, q⟩ := hadd
          rcases q with ⟨q, _⟩ | ⟨_, _, _, _, q⟩
          · rw [q]
            exact gz.2.2.2.2.2 hro.2.2.1
          · rw [q, tp_na0]; omega
        refine ⟨dyn_m u2 (by decide) m7, ?_⟩
        rw [s70]
        simp (disch := decide) only [wpX12_order, wbX12_order_57, tp_isFactory, tp_isPlace, tp_isSort, tp_isSheet, tp_isHolder, tp_isPerson, tp_isPaper, tp_isShip, tp_isVoyage, tp_within, tp_in, tp_mPlace, tp_mFactory, tp_mSort, tp_mBuyer, tp_b0, tp_b1, Classical.not_not, tp_nb0, tp_nb1, tp_nb, true_and, Int32.reduceToInt]
        repeat' (with_reducible first | refine tp_cT (by first | assumption | decide) ?_ | refine tp_cF (by first | assumption | decide) ?_ | refine tp_dT (by first | assumption | decide) ?_ | refine tp_dF (by first | assumption | decide) ?_ | refine And.intro (by first | assumption | decide) ?_ | refine tp_ae ?_)
        rw [s3]
        refine orM (P := P) (t := t) (tp := M 160 0) (by omega) b9 s8 rfl (fun M1 l2 y2 v2 el2 f2 e117 hpr2 => ?_) (fun M1 f y2 v2 el2 hf f2 => ?_)
        · have ll : l = l2 := Except.ok.inj (el.symm.trans el2)
          subst ll
          refine tp_ae (tp_dF (by decide) (tp_write (k := nI 2) (a := 0) (to := nI a) (P := P) ?_ (by omega) (by decide) ⟨rfl, ?_⟩))
          · rw [tq_upj (by decide), mk_gj (by decide) (by decide) (by decide), f2.g61]; exact s3
          · have fin := RR_order (y := y2) (f := -1) (v := v2) h0 (by omega) a1 a3 hI hfr l1' l6' okl q1 q2 q3 q4 q9 q13 q50 s25 s257 s253 u2 s8k u1 u7 (u10 (by omega) (by omega)) u8 u9 n8p f2 e117 hpr2 hc (by omega)
            exact ⟨d, pn, _, Sh, V, E, A, _, r, _, _, OL, fin.wk (c' := c + 1) (eb' := 5000 * d + (c + 1)) (by omega) (by omega) (by omega) (by omega)⟩
        · rw [el] at el2; cases el2
      · refine tp_dF (nI_pos (by omega)) ?_
        simp (disch := decide) only [wpX12_order, wbX12_order_57, tp_isFactory, tp_isPlace, tp_isSort, tp_isSheet, tp_isHolder, tp_isPerson, tp_isPaper, tp_isShip, tp_isVoyage, tp_within, tp_in, tp_mPlace, tp_mFactory, tp_mSort, tp_mBuyer, tp_b0, tp_b1, Classical.not_not, tp_nb0, tp_nb1, tp_nb, true_and, Int32.reduceToInt]
        repeat' (with_reducible first | refine tp_cT (by first | assumption | decide) ?_ | refine tp_cF (by first | assumption | decide) ?_ | refine tp_dT (by first | assumption | decide) ?_ | refine tp_dF (by first | assumption | decide) ?_ | refine And.intro (by first | assumption | decide) ?_ | refine tp_ae ?_)
        rw [s3]
        refine orM (P := P) (t := t) (tp := M 160 0) (by omega) b9 s8 rfl (fun M1 l2 y2 v2 el2 f2 e117 hpr2 => ?_) (fun M1 f3 y2 v2 el2 hf f2 => ?_)
        · rw [el] at el2; cases el2
        · have ll : f = f3 := Except.error.inj (el.symm.trans el2)
          subst ll
          refine tp_ae (tp_dT rfl ⟨?_, ?_⟩)
          · rw [tq_upj (by decide), mk_g68]
          · have g4 := hg.2.2.2.1
            have g5 := hg.2.2.2.2
            have f1 := ((RR_tape0 h0).wk (c' := c + 1) (eb' := 5000 * d + (c + 1)) (by omega) (by omega) (by omega) (by omega)).fr (N1 := N7) (S1 := tq_up (sk S7 y (nI f)) 3 0 1 0) hg.1 (fun k i z1 z2 z3 z12 => by rw [tq_upk z3, sk_k z3, tq_upk z3]; exact hg.2.1 k i z1 z2 z3) (by rw [tq_upe, tq_upe]) (by
              obtain ⟨b1, b2, b3, b4⟩ := hro
              exact ⟨by omega, by omega, g5.2 b3, b4⟩)
            have f3 := f1.mf (M1 := tq_up (mk M1 y2 (nI f) v2) 64 0 61 0) (fun j z1 z2 z3 _ _ => by
              by_cases q : j = 61
              · rw [q, tq_upe, tq_upe]
              · rw [tq_upj q, tq_upj q, mk_gj z1 z2 z3, f2.g61]) (fun k z1 z2 z3 z4 z5 z6 _ _ _ => by
              rw [tq_upk z1, mk_k z1, tq_upk z1]; exact f2.1 k z2 z3 z4 z5 z6) (fun n hn => by rw [tq_upk (by decide), mk_k (by decide), tq_upk (by decide)]; exact f2.2.2 n (by omega)) (fun n hn => by rw [tq_upk (by decide), mk_k (by decide), tq_upk (by decide)]; exact (f2.2.1 n (by omega)).1) (fun n hn => by rw [tq_upk (by decide), mk_k (by decide), tq_upk (by decide)]; exact (f2.2.1 n (by omega)).2)
            exact ⟨d, pn, P, Sh, V, E, A, 0, r, G, C, OL, f3⟩
    · have k1 : P = 150 := by omega
      have k2 : M 64 0 9 = 150 := by rw [s3, k1]; rfl
      rw [tp_bf h4]
      repeat' (with_reducible first | refine tp_cT (by first | assumption | decide) ?_ | refine tp_cF (by first | assumption | decide) ?_ | refine tp_dT (by first | assumption | decide) ?_ | refine tp_dF (by first | assumption | decide) ?_ | refine And.intro (by first | assumption | decide) ?_ | refine tp_ae ?_)
      simp (disch := decide) only [wpX12_order, wbX12_order_57, tp_isFactory, tp_isPlace, tp_isSort, tp_isSheet, tp_isHolder, tp_isPerson, tp_isPaper, tp_isShip, tp_isVoyage, tp_within, tp_in, tp_mPlace, tp_mFactory, tp_mSort, tp_mBuyer, tp_b0, tp_b1, Classical.not_not, tp_nb0, tp_nb1, tp_nb, true_and, Int32.reduceToInt]
      repeat' (with_reducible first | refine tp_cT (by first | assumption | decide) ?_ | refine tp_cF (by first | assumption | decide) ?_ | refine tp_dT (by first | assumption | decide) ?_ | refine tp_dF (by first | assumption | decide) ?_ | refine And.intro (by first | assumption | decide) ?_ | refine tp_ae ?_)
      first | exact ⟨rfl, hT⟩ | exact hT
  · repeat' (with_reducible first | refine tp_cT (by first | assumption | decide) ?_ | refine tp_cF (by first | assumption | decide) ?_ | refine tp_dT (by first | assumption | decide) ?_ | refine tp_dF (by first | assumption | decide) ?_ | refine And.intro (by first | assumption | decide) ?_ | refine tp_ae ?_)
    simp (disch := decide) only [wpX12_order, wbX12_order_57, tp_isFactory, tp_isPlace, tp_isSort, tp_isSheet, tp_isHolder, tp_isPerson, tp_isPaper, tp_isShip, tp_isVoyage, tp_within, tp_in, tp_mPlace, tp_mFactory, tp_mSort, tp_mBuyer, tp_b0, tp_b1, Classical.not_not, tp_nb0, tp_nb1, tp_nb, true_and, Int32.reduceToInt]
    repeat' (with_reducible first | refine tp_cT (by first | assumption | decide) ?_ | refine tp_cF (by first | assumption | decide) ?_ | refine tp_dT (by first | assumption | decide) ?_ | refine tp_dF (by first | assumption | decide) ?_ | refine And.intro (by first | assumption | decide) ?_ | refine tp_ae ?_)
    first | exact ⟨rfl, hT⟩ | exact hT
