/-! pure: leave, sail -/
theorem tp_leaveC {c h w d pn P Sh V E A t r eb : Nat} {G : Nat → Nat → Nat → Nat} {C : Nat → Nat → Nat} {OL : Nat → List Nat} {N : tq_Nn} {S M : tq_St} {post : tq_Nn → tq_St → Nat → Prop} {s p : Nat} {days bey : Int32} (h0 : RR c h w d pn P Sh V E A t r eb G C OL N S M) (hs : s < Sh) (hshh : s ≠ h) (hV : V < 99) (hp : p < 5) (hk : ∀ (N2 : tq_Nn) (S3 : tq_St) (e c1 : Nat), RR c h w d pn P Sh (V + 1) E A t r eb (tp_G G 22 0 V e) (tp_C C 22 0 c1) OL N2 S3 (tp_lv M s V (nI p) (M 64 0 0 + days + tp_win (M 64 0 0)) bey) → N2 9 e = 1 → S3 9 e 0 = nI V → tp_mono N N2 → (∀ k i : Nat, (k ∈ tq_dyn → N k i = 1) → (k = 1 → i = 0) → k ≠ 8 → k ≠ 22 → k ≠ 23 → S3 k i = S k i) → post N2 S3 e) : wpX11_leave post N S (G 19 0 s) (nI p) days bey := by
  obtain ⟨hsc, hss, har, hpl, hlg, hsh, hpe, hmo, hpr, hsr, hpa, hkn, hst, hpm, hsi, hab, hsm, hvo, hvm, hbi, hlb, hiv, hod, hol, hoi, hfi, hli, had, hro⟩ := id h0
  obtain ⟨s1, s2, s3, s4, s5, s6, s7, s8, s9, b1, b2, b3, b4, b5, b6, b7, b8, b9, e1, e2⟩ := id hsc
  obtain ⟨r0, r1, r2⟩ := tp_room hro e2 b3 b5
  have cC := hro.2.2.2.2.2.2.1
  have l2 := hli.2.1
  have l3 := hli.2.2.1
  have x1 := hss.1
  obtain ⟨sa1, sa2, sa3, sa4, sa5, sa6, sa7, sa8, sa9, sa10⟩ := hsi s hs
  have h8 := (l2.2 s hs).2.1
  have core : ∀ win : Int32, win = tp_win (M 64 0 0) → wbX11_leave_26 post N S (G 19 0 s) (nI p) bey win (S 1 0 0 + days) := by
    intro win hw
    unfold wbX11_leave_26
    refine ⟨by omega, by omega, fun e he0 he1 hfr => tp_ae (tp_ae ?_)⟩
    have ee : G 19 0 s ≠ e := fun z => by rw [z] at h8; exact hfr 8 (by decide) h8
    refine tp_vinit he0 (tp_nae (by decide)) tp_na0 (by rw [tp_nak (by decide) (by decide)]; exact h8) (by rw [tp_nak (by decide) (by decide)]; exact sa1) (fun t => by rw [tq_cpe]) (by rw [tp_na0]; omega) (by rw [tp_na1]; omega) (fun N1 S1 n1 n2 n3 n4 n6 n7 n9 q0 q1 q2 q3 q4 q5 q8 q9 q10 q57 q58 => ?_)
    have mN : tp_mono N N1 := tp_mono_n1.tr n1
    have ne : ∀ k i : Nat, (k ∈ tq_dyn → N k i = 1) → (k = 1 → i = 0) → S1 k i = S k i := by
      intro k i z1 z2
      have : ¬ (i = e ∧ (k = 1 ∨ k = 9 ∨ k = 57 ∨ k = 58)) := by
        rintro ⟨rfl, y⟩
        rcases y with rfl | y
        · have := z2 rfl; omega
        · have : k ∈ tq_dyn := by rcases y with rfl | rfl | rfl <;> decide
          exact hfr k this (z1 this)
      rw [n9 k i this]
      refine tq_cp_out (fun y => ?_)
      have := z2 y.1
      omega
    have ne2 : ∀ k i : Nat, (k ∈ tq_dyn → N k i = 1) → (k = 1 → i = 0) → tq_up S1 9 e 11 bey k i = S k i := by
      intro k i z1 z2
      rw [tq_up_out (fun y => by rw [y.1, y.2] at z1; exact hfr 9 (by decide) (z1 (by decide)))]
      exact ne k i z1 z2
    have k22 : tq_up S1 9 e 11 bey 22 = S 22 := funext (fun i => ne2 22 i (fun z => absurd z (by decide)) (fun z => absurd z (by decide)))
    have hL : tp_L N1 (tq_up S1 9 e 11 bey 22) (tq_up S1 9 e 11 bey 23) G C 22 23 9 0 V := tp_L_fr l3 (by rw [k22]) (by rw [k22]) (fun z => ne2 23 _ (fun _ => z) (fun z => absurd z (by decide))) (fun j hj => mN 23 j (by decide) (by decide) (by decide) hj) (fun j hj => mN 9 j (by decide) (by decide) (by decide) hj) (fun _ _ => rfl) rfl
    have ex : e ≤ tq_CX := by omega
    rw [tp_na0] at n6
    rw [tp_na1] at n7
    refine ⟨n2, tp_ae ⟨tp_L_aok hL (by omega) n2 ex (by omega) (by omega), fun N2 S2 hadd => ?_⟩⟩
    have hN1 : 1 ≤ N2 0 0 := by
      obtain ⟨_, _, _, _, _, _, _, _, q⟩ := id hadd
      rcases q with ⟨q, _⟩ | ⟨_, _, _, _, q⟩
      · rw [q]; omega
      · rw [q, tp_na0]; omega
    obtain ⟨c1, d1, g1, g2, g3, g4, g5, g6, g7, g8, g9, g10, g11, g12⟩ := tp_L_add hL hadd n2 ex (by decide) (by decide) (by decide) (by decide) (by decide)
    have at7 : ∀ k : Nat, k ≠ 22 → k ≠ 23 → S2 k = tq_up S1 9 e 11 bey k := fun k z1 z2 => funext (fun i => g3 k i (fun y => z1 y.1) (fun y => z2 y.1))
    have y0 : (tq_cp S 1 e (fun _ => 0)) 22 0 2 = nI V := by rw [tq_cpk (by decide)]; exact tp_len l3
    have y1 : (tq_cp S 1 e (fun _ => 0)) 1 0 0 = M 64 0 0 := by rw [tq_cpi (by omega)]; exact x1
    have t0 : S2 9 e 0 = nI V := by rw [at7 9 (by decide) (by decide), tq_upj (by decide), q0]; exact y0
    have t1 : S2 9 e 1 = nI s := by rw [at7 9 (by decide) (by decide), tq_upj (by decide), q1, tq_cpk (by decide)]; exact sa4
    have t2 : S2 9 e 2 = M 124 0 s := by rw [at7 9 (by decide) (by decide), tq_upj (by decide), q2, tq_cpk (by decide)]; exact sa7
    have t3 : S2 9 e 3 = nI p := by rw [at7 9 (by decide) (by decide), tq_upj (by decide), q3]
    have t4 : S2 9 e 4 = M 64 0 0 := by rw [at7 9 (by decide) (by decide), tq_upj (by decide), q4]; exact y1
    have t5 : S2 9 e 5 = M 64 0 0 + days + tp_win (M 64 0 0) := by rw [at7 9 (by decide) (by decide), tq_upj (by decide), q5, x1, hw]
    have t8 : S2 9 e 8 = 0 := by rw [at7 9 (by decide) (by decide), tq_upj (by decide), q8]
    have t9 : S2 9 e 9 = 0 := by rw [at7 9 (by decide) (by decide), tq_upj (by decide), q9]
    have t10 : S2 9 e 10 = -1 := by rw [at7 9 (by decide) (by decide), tq_upj (by decide), q10]
    have t11 : S2 9 e 11 = bey := by rw [at7 9 (by decide) (by decide), tq_upe]
    have t57 : S2 57 e = S 54 (G 19 0 s) := by rw [at7 57 (by decide) (by decide), tq_upk (by decide), q57, tq_cpk (by decide)]
    have t58 : S2 58 e = S 54 (G 19 0 s) := by rw [at7 58 (by decide) (by decide), tq_upk (by decide), q58, tq_cpk (by decide)]
    have q := RR_leave (e := e) (c1 := c1) (s := s) (p := p) (comes := M 64 0 0 + days + tp_win (M 64 0 0)) (bey := bey) h0 hs hshh hV hp (mN.tr g2) (fun k i z1 z2 z3 z4 => by rw [at7 k z3 z4]; exact ne2 k i z1 z2) g1 (g2 57 e (by decide) (by decide) (by decide) n3) (g2 58 e (by decide) (by decide) (by decide) n4) t0 t1 t2 t3 t4 t5 t8 t9 t10 t11 t57 t58 ?_
    · refine ⟨g2 8 _ (by decide) (by decide) (by decide) (mN 8 _ (by decide) (by decide) (by decide) h8), tp_ae (tp_ae ⟨g2 9 e (by decide) (by decide) (by decide) n2, tp_ae ?_⟩)⟩
      have z9 : tq_up (tq_up S2 8 (G 19 0 s) 3 (-1)) 8 (G 19 0 s) 4 (S 1 0 0 + days + win) 9 e 0 = nI V := by rw [tq_upk (by decide), tq_upk (by decide)]; exact t0
      rw [z9, x1, hw]
      exact hk N2 _ e c1 q (g2 9 e (by decide) (by decide) (by decide) n2) (by rw [tq_upk (by decide), tq_upk (by decide), tq_upk (by decide)]; exact t0) (mN.tr g2) (fun k i z1 z2 z3 z4 z5 => by rw [tq_upk z3, tq_upk z3, tq_upk z3, at7 k z4 z5]; exact ne2 k i z1 z2)
    · obtain ⟨a1, a2, a3, a4, a5, a6, a7, a8, a9⟩ := hro
      have e1 : tp_CS (tp_C C 22 0 c1) + C 22 0 = tp_CS C + c1 := by
        unfold tp_CS
        simp [tp_C]
        omega
      refine ⟨by omega, by omega, hN1, ?_, ?_, ?_, ?_, ?_, ?_⟩
      · simp [tp_C]; exact a4
      · simp [tp_C]; exact a5
      · simp [tp_C]; exact a6
      · simp [tp_C]; exact g10 (by omega) cC
      · intro p hp; simp [tp_C]; exact a8 p hp
      · intro p hp; simp [tp_C]; exact a9 p hp
  unfold wpX11_leave
  rw [x1]
  rw [x1] at core
  by_cases z : M 64 0 0 - M 64 0 0 / 360 * 360 < 240
  · exact tp_dT z (core 0 (by unfold tp_win; rw [if_pos z]))
  · exact tp_dF z (core 60 (by unfold tp_win; rw [if_neg z]))
theorem sim_sail {c : Nat} {N : tq_Nn} {S M : tq_St} {p0 p1 : Int32} (hR : tp_R c N S M) (hc : c < 512) : wpX11_sail (fun N1 S1 r => wpX12_sail (fun M1 r1 => r = r1 ∧ tp_R (c + 1) N1 S1 M1) M p0 p1) N S p0 p1 := by
  have hT := hR.tick hc
  obtain ⟨d, pn, P, Sh, V, E, A, t, r, G, C, OL, h0⟩ := id hR
  obtain ⟨hsc, hss, har, hpl, hlg, hsh, hpe, hmo, hpr, hsr, hpa, hkn, hst, hpm, hsi, hab, hsm, hvo, hvm, hbi, hlb, hiv, hod, hol, hoi, hfi, hli, had, hro⟩ := id h0
  obtain ⟨s1, s2, s3, s4, s5, s6, s7, s8, s9, b1, b2, b3, b4, b5, b6, b7, b8, b9, e1, e2⟩ := id hsc
  obtain ⟨x1, x2, x3, x4, x5, x6, x7⟩ := id hss
  obtain ⟨y1, y2, y3, y4, y5, y6, y7, y8, y9, y10, y11, y12, y13, y14, y15⟩ := id har
  obtain ⟨w1, w2, w3, w4, w5, w6⟩ := id hpl
  obtain ⟨l1, l2, l3, l4, l5, l6, l7, l8⟩ := id hli
  by_cases h1 : tp_i 0 ((Sh : Int) - 1) p0
  · obtain ⟨s, ss3, rfl⟩ := tp_i_lt (m := Sh) h1 (by omega)
    have sc : (nI s).toNatClampNeg = s := nI_clamp (by omega)
    have sv : vp_in (nI s) 8 := vp_in_nI (by omega) (by decide)
    obtain ⟨f1, f2, f3⟩ := tp_get l2 ss3
    obtain ⟨sa1, sa2, sa3, sa4, sa5, sa6, sa7, sa8, sa9, sa10⟩ := hsi s ss3
    obtain ⟨sb1, sb2, sb3⟩ := sa10 (by omega)
    by_cases h2 : tp_i 1 4 p1
    · obtain ⟨ua, ua1, ua2, ua3, rfl⟩ := tp_i_fac h2
      have uac : (nI ua).toNatClampNeg = ua := nI_clamp (by omega)
      have uav : vp_in (nI ua) 5 := vp_in_nI ua3 (by decide)
      have ew : S 2 ua 3 = M 103 ua 0 := w3 ua ua1 ua3
      have ln := tp_len l3
      simp (disch := decide) only [wpX11_sail, wbX11_sail_15, wbX11_sail_43, wpX12_sail, wbX12_sail_15, wbX12_sail_35, wbX12_sail_58, tp_isFactory, tp_isPlace, tp_isSort, tp_isSheet, tp_isHolder, tp_isPerson, tp_isPaper, tp_isShip, tp_isVoyage, tp_within, tp_in, tp_mPlace, tp_mFactory, tp_mSort, tp_mBuyer, tp_b0, tp_b1, Classical.not_not, tp_nb0, tp_nb1, tp_nb, true_and, Int32.reduceToInt, tp_len l2, tp_ti (show Sh < 2 ^ 31 by omega), tp_mShip s4 (show Sh < 2 ^ 31 by omega), f2, sc, sa7, sa8, ew, uac, ln, s5]
      by_cases q1 : M 124 0 s = 0
      · by_cases q2 : M 125 0 s = 0
        · repeat' (with_reducible first | refine tp_cT (by first | assumption | decide) ?_ | refine tp_cF (by first | assumption | decide) ?_ | refine tp_dT (by first | assumption | decide) ?_ | refine tp_dF (by first | assumption | decide) ?_ | refine And.intro (by first | assumption | decide) ?_ | refine tp_ae ?_)
          first | exact ⟨rfl, hT⟩ | exact hT
        · by_cases q3 : V < 99
          · have k1 : nI V < 99 := nI_lt (b := 99) q3 (by decide)
            have k2 : ¬ nI V = 99 := fun z => by have := (nI_eq (b := 99) (by omega) (by decide)).mp z; omega
            repeat' (with_reducible first | refine tp_cT (by first | assumption | decide) ?_ | refine tp_cF (by first | assumption | decide) ?_ | refine tp_dT (by first | assumption | decide) ?_ | refine tp_dF (by first | assumption | decide) ?_ | refine And.intro (by first | assumption | decide) ?_ | refine tp_ae ?_)
            refine tp_leaveC h0 ss3 (by omega) q3 ua3 (fun N2 S3 e c1 hq n9 f0 _ _ => ⟨n9, ?_⟩)
            repeat' (with_reducible first | refine tp_cT (by first | assumption | decide) ?_ | refine tp_cF (by first | assumption | decide) ?_ | refine tp_dT (by first | assumption | decide) ?_ | refine tp_dF (by first | assumption | decide) ?_ | refine And.intro (by first | assumption | decide) ?_ | refine tp_ae ?_)
            refine tp_leaveM (days := M 103 ua 0) (by omega) q3 s5 s2 b2 (Or.inl ⟨q1, uav, by rw [uac]⟩) ⟨f0, ?_⟩
            have eb : tp_bey M s pn = 0 := by unfold tp_bey; rw [if_pos q1]
            rw [eb]
            exact hq.R hc rfl rfl rfl
          · have k1 : V = 99 := by omega
            subst k1
            have k2 : ¬ nI 99 < 99 := by decide
            have k3 : nI 99 = 99 := rfl
            repeat' (with_reducible first | refine tp_cT (by first | assumption | decide) ?_ | refine tp_cF (by first | assumption | decide) ?_ | refine tp_dT (by first | assumption | decide) ?_ | refine tp_dF (by first | assumption | decide) ?_ | refine And.intro (by first | assumption | decide) ?_ | refine tp_ae ?_)
            first | exact ⟨rfl, hT⟩ | exact hT
      · repeat' (with_reducible first | refine tp_cT (by first | assumption | decide) ?_ | refine tp_cF (by first | assumption | decide) ?_ | refine tp_dT (by first | assumption | decide) ?_ | refine tp_dF (by first | assumption | decide) ?_ | refine And.intro (by first | assumption | decide) ?_ | refine tp_ae ?_)
        first | exact ⟨rfl, hT⟩ | exact hT
    · simp (disch := decide) only [wpX11_sail, wbX11_sail_15, wbX11_sail_43, wpX12_sail, wbX12_sail_15, wbX12_sail_35, wbX12_sail_58, tp_isFactory, tp_isPlace, tp_isSort, tp_isSheet, tp_isHolder, tp_isPerson, tp_isPaper, tp_isShip, tp_isVoyage, tp_within, tp_in, tp_mPlace, tp_mFactory, tp_mSort, tp_mBuyer, tp_b0, tp_b1, Classical.not_not, tp_nb0, tp_nb1, tp_nb, true_and, Int32.reduceToInt, tp_len l2, tp_ti (show Sh < 2 ^ 31 by omega), tp_mShip s4 (show Sh < 2 ^ 31 by omega)]
      repeat' (with_reducible first | refine tp_cT (by first | assumption | decide) ?_ | refine tp_cF (by first | assumption | decide) ?_ | refine tp_dT (by first | assumption | decide) ?_ | refine tp_dF (by first | assumption | decide) ?_ | refine And.intro (by first | assumption | decide) ?_ | refine tp_ae ?_)
      first | exact ⟨rfl, hT⟩ | exact hT
  · simp (disch := decide) only [wpX11_sail, wbX11_sail_15, wbX11_sail_43, wpX12_sail, wbX12_sail_15, wbX12_sail_35, wbX12_sail_58, tp_isFactory, tp_isPlace, tp_isSort, tp_isSheet, tp_isHolder, tp_isPerson, tp_isPaper, tp_isShip, tp_isVoyage, tp_within, tp_in, tp_mPlace, tp_mFactory, tp_mSort, tp_mBuyer, tp_b0, tp_b1, Classical.not_not, tp_nb0, tp_nb1, tp_nb, true_and, Int32.reduceToInt, tp_len l2, tp_ti (show Sh < 2 ^ 31 by omega), tp_mShip s4 (show Sh < 2 ^ 31 by omega)]
    repeat' (with_reducible first | refine tp_cT (by first | assumption | decide) ?_ | refine tp_cF (by first | assumption | decide) ?_ | refine tp_dT (by first | assumption | decide) ?_ | refine tp_dF (by first | assumption | decide) ?_ | refine And.intro (by first | assumption | decide) ?_ | refine tp_ae ?_)
    first | exact ⟨rfl, hT⟩ | exact hT
