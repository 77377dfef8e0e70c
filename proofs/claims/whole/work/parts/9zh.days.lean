/-! pure: a ship is lost; ships come; a day; days -/
theorem RR_it0 {c h w d pn P Sh V E A t r eb : Nat} {G : Nat → Nat → Nat → Nat} {C : Nat → Nat → Nat} {OL : Nat → List Nat} {N : tq_Nn} {S M : tq_St} {s : Nat} (h0 : RR c h w d pn P Sh V E A t r eb G C OL N S M) (hs : s < Sh) : ∀ i : Nat, i ≤ P → RR c h w d pn P Sh V E A t r eb G C OL N (tp_it (fun n T => tq_up T 56 (G 19 0 s) n 0) i S) (I120 s i M)
  | 0, _ => h0
  | i + 1, hi => RR_c0 (RR_it0 h0 hs i (by omega)) hs (by omega)
theorem I120_k {s n k : Nat} {T : tq_St} (h : k ≠ 120) : I120 s n T k = T k := tp_it_k (f := fun q T => tq_up T 120 q s 0) (fun _ _ => tq_upk h) n T
theorem I120_v {s : Nat} {T : tq_St} : ∀ n q : Nat, q < n → I120 s n T 120 q s = 0
  | 0, _, h => absurd h (by omega)
  | n + 1, q, h => by
    show tq_up (I120 s n T) 120 n s 0 120 q s = 0
    by_cases e : q = n
    · rw [e, tq_upe]
    · rw [tq_upi e]; exact I120_v n q (by omega)
theorem it56_ow {S : tq_St} {e : Nat} {f : Nat → Int32} : ∀ i : Nat, tq_cp (tp_it (fun n T => tq_up T 56 e n 0) i S) 56 e f = tq_cp S 56 e f
  | 0 => rfl
  | i + 1 => by
    show tq_cp (tq_up (tp_it (fun n T => tq_up T 56 e n 0) i S) 56 e i 0) 56 e f = _
    rw [tq_cp_ow]; exact it56_ow i
theorem ev_gone {c w d pn P Sh V E A t r eb : Nat} {G : Nat → Nat → Nat → Nat} {C : Nat → Nat → Nat} {OL : Nat → List Nat} {N : tq_Nn} {S M : tq_St} {post : tq_Nn → tq_St → Prop} {s v : Nat} (h0 : RR c 8 w d pn P Sh V E A t r eb G C OL N S M) (hs : s < Sh) (hv : v < V) (h130 : M 130 0 s = nI v) (h132 : M 132 0 v = nI s) (h138 : M 138 0 v = 0) (h137 : ¬ M 137 0 v = 0)
    (K : ∀ (S1 M1 : tq_St), RR c 8 w d pn P Sh V E A t r eb G C OL N S1 M1 → (∀ pm : tq_St → Prop, pm M1 → wpX12_gone pm M (nI s)) → post N S1) : wpX11_endVoyage post N S (G 19 0 s) (G 22 0 v) := by
  obtain ⟨hsc, hss, har, hpl, hlg, hsh, hpe, hmo, hpr, hsr, hpa, hkn, hst, hpm, hsi, hab, hsm, hvo, hvm, hbi, hlb, hiv, hod, hol, hoi, hfi, hli, had, hro⟩ := id h0
  obtain ⟨s1, s2, s3, s4, s5, s6, s7, s8, s9, b1, b2, b3, b4, b5, b6, b7, b8, b9, e1, e2⟩ := id hsc
  have e8 : N 8 (G 19 0 s) = 1 := (hli.2.1.2 s hs).2.1
  have e9 : N 9 (G 22 0 v) = 1 := (hli.2.2.1.2 v hv).2.1
  have e56 := (hsi s hs).2.2.1
  have sc : (nI s).toNatClampNeg = s := nI_clamp (by omega)
  have vc : (nI v).toNatClampNeg = v := nI_clamp (by omega)
  have v8 : S 9 (G 22 0 v) 8 = M 137 0 v := (hvo v hv).2.2.2.2.2.2.2.2.1
  have r1 := RR_place (x := -2) h0 hs (by decide) (by decide) (by decide)
  have r2 := RR_vend (e := 2) r1 hv (by decide) (by decide) (by rw [tq_upk (by decide)]; exact h138) (fun z => absurd z (by decide)) (fun x hx z1 z2 => by
    rw [tq_upk (by decide)] at z2
    by_cases q : x = s
    · rw [q, tq_upe] at z1; exact absurd z1 (by decide)
    · rw [tq_upj q] at z1
      obtain ⟨v', w1, w2, w3, w4, _⟩ := (hsm.1 x hx).2.2.2 z1
      rw [w2] at z2
      have : v' = v := (nI_eq (by omega) (by omega)).mp z2
      rw [this, h132] at w4
      exact q ((nI_eq (by omega) (by omega)).mp w4).symm)
  obtain ⟨mo1, mo2, _⟩ := tp_mo hmo e2 b3
  have o1 := mo1 0 (by decide)
  have o2 := mo2 s (by omega)
  have r4 := RR_ec (s := s) (p := 0) (z := M 101 0 0) (r2.hole (s := s)) hs (by decide) rfl o1.1 (by simp (disch := decide) only [tq_upk]; omega)
  rw [tq_up_id (k := 2) (by simp (disch := decide) only [tq_upk]; exact hpl.2.1 0 (by decide)), tq_up_id (k := 101) (by simp (disch := decide) only [tq_upk])] at r4
  have r5 := RR_em r4 hs (by rw [tq_upk (by decide), tq_upk (by decide), tq_upe]; decide)
  rw [← em_in] at r5
  have r6 := RR_it0 r5 hs P (Nat.le_refl _)
  have r7 := RR_c56 (f := tq_fl (tq_up (tq_up S 9 (G 22 0 v) 9 2) 8 (G 19 0 s) 3 (-2) 56 (G 19 0 s)) 150 0) r6 hs (fun n hn => by
    have z : tq_fl (tq_up (tq_up S 9 (G 22 0 v) 9 2) 8 (G 19 0 s) 3 (-2) 56 (G 19 0 s)) 150 0 n = 0 := if_pos hn
    rw [z]
    by_cases q : n < P
    · exact (I120_v P n q).symm
    · exact ((r6.2.2.2.2.2.2.2.2.2.2.2.2.2.1.2.2 n (by omega) hn).2.2 s (by omega)).symm)
  rw [it56_ow] at r7
  have eS : tq_up (tq_up S 8 (G 19 0 s) 3 (-2)) 9 (G 22 0 v) 9 (nI 2) = tq_up (tq_up S 9 (G 22 0 v) 9 2) 8 (G 19 0 s) 3 (-2) := tq_up_cj (fun z => absurd z.1 (by decide))
  rw [eS] at r7
  have eM : I120 s P (em s (tq_up (tq_up M 124 0 s (-2)) 138 0 v (nI 2))) = tq_up (tq_up (I120 s P (em s M)) 124 0 s (-2)) 138 0 v 2 := by
    rw [em_up (by decide) (by decide) (by decide), em_up (by decide) (by decide) (by decide), I120_cm (g := fun T => tq_up T 138 0 v (nI 2)) (fun q T => tq_up_cj (fun z => absurd z.1 (by decide))), I120_cm (g := fun T => tq_up T 124 0 s (-2)) (fun q T => tq_up_cj (fun z => absurd z.1 (by decide)))]
    rfl
  unfold wpX11_endVoyage
  rw [v8]
  refine ⟨e9, tp_dF h137 (tp_ae ⟨e8, tp_ae ⟨e56, tp_ae (ev_hold r7 hs ?_ (fun q hq => ?_) (fun q hq => ?_) (fun S2 h2 => K S2 _ h2 (fun pm hpm => ?_)))⟩⟩)⟩
  · rw [I120_k (by decide)]; exact em_128
  · rw [I120_k (by decide)]; exact em_127 hq
  · rw [I120_k (by decide)]; exact em_129 hq
  · rw [eM] at hpm
    have f9 : ∀ i, tp_it (fun q T => tq_up T 120 q s 0) i (em s M) 64 0 9 = nI P := fun i => by
      rw [tp_it_k (f := fun q T => tq_up T 120 q s 0) (fun q T => tq_upk (by decide)), em_k (by decide) (by decide) (by decide)]; exact s3
    unfold wpX12_gone
    refine tp_empty (by omega) ⟨P + 1, tp_loop0 (W := fun m T i => wbX12_gone_7 pm m T (nI s) (nI i)) (n := P) (f := fun q T => tq_up T 120 q s 0) (s0 := em s M) (fun m => ?_) (fun m i hi hw => ?_)⟩
    · unfold wbX12_gone_7
      rw [f9, sc]
      refine tp_dT (nI_le (Nat.le_refl _) (by omega)) ⟨vp_in_nI (by omega) (by decide), tp_ae ?_⟩
      have u130 : tq_up (tp_it (fun q T => tq_up T 120 q s 0) P (em s M)) 124 0 s (-2) 130 0 s = nI v := by
        rw [tq_upk (by decide), tp_it_k (f := fun q T => tq_up T 120 q s 0) (fun q T => tq_upk (by decide)), em_k (by decide) (by decide) (by decide)]; exact h130
      rw [u130, vc]
      exact ⟨vp_in_nI (by omega) (by decide), tp_ae hpm⟩
    · unfold wbX12_gone_7
      rw [f9, nI_clamp (show i < 2 ^ 31 by omega), sc, nI_1]
      exact tp_dF (nI_ge hi (by omega)) ⟨vp_in_nI (by omega) (by decide), vp_in_nI (by omega) (by decide), tp_ae hw⟩
theorem sh_loop {c w d pn P Sh V E A t r eb : Nat} {post : tq_Nn → tq_St → Prop} : ∀ (m s : Nat) (N : tq_Nn) (S M : tq_St) (G : Nat → Nat → Nat → Nat) (C : Nat → Nat → Nat) (OL : Nat → List Nat), s + m = Sh → RR c 8 w d pn P Sh V E A t r eb G C OL N S M →
    (∀ (N1 : tq_Nn) (S1 M1 : tq_St) (G1 : Nat → Nat → Nat → Nat) (C1 : Nat → Nat → Nat) (OL1 : Nat → List Nat), RR c 8 w d pn P Sh V E A t r eb G1 C1 OL1 N1 S1 M1 → (∀ pm : tq_St → Prop, wpX12_billsFallDue (fun M3 => ∃ nq, wbX12_dayComes_87 pm nq M3 1) M1 → wbX12_dayComes_12 pm (m + 1) M (nI s)) → ∃ nq, wbX11_comeDay_92 post nq N1 S1 0) → wbX11_comeDay_12 post (m + 1) N S (nI s)
  | 0, s, N, S, M, G, C, OL, hn, h0, K => by
    have hn2 : s = Sh := by omega
    subst hn2
    have l2 := h0.2.2.2.2.2.2.2.2.2.2.2.2.2.2.2.2.2.2.2.2.2.2.2.2.2.2.1.2.1
    have s4 := h0.1.2.2.2.1
    have b4 := h0.1.2.2.2.2.2.2.2.2.2.2.2.2.1
    unfold wbX11_comeDay_12
    rw [tp_len l2]
    refine tp_dT (nI_le (Nat.le_refl _) (by omega)) (K N S M G C OL h0 (fun pm hpm => ?_))
    unfold wbX12_dayComes_12
    rw [s4]
    exact tp_dT (nI_le (Nat.le_refl _) (by omega)) hpm
  | m + 1, s, N, S, M, G, C, OL, hn, h0, K => by
    obtain ⟨hsc, hss, har, hpl, hlg, hsh, hpe, hmo, hpr, hsr, hpa, hkn, hst, hpm, hsi, hab, hsm, hvo, hvm, hbi, hlb, hiv, hod, hol, hoi, hfi, hli, had, hro⟩ := id h0
    obtain ⟨s1, s2, s3, s4, s5, s6, s7, s8, s9, b1, b2, b3, b4, b5, b6, b7, b8, b9, e1, e2⟩ := id hsc
    have hs : s < Sh := by omega
    have sc : (nI s).toNatClampNeg = s := nI_clamp (by omega)
    have sv : vp_in (nI s) 8 := vp_in_nI (by omega) (by decide)
    obtain ⟨f1, f2, f3⟩ := tp_get hli.2.1 hs
    obtain ⟨a1, a2, a3, a4, a5, a6, a7, a8, a9, a10⟩ := hsi s hs
    have x1 := hss.1
    have skip : (∀ pm : tq_St → Prop, wbX12_dayComes_12 pm (m + 1) M (nI (s + 1)) → wbX12_dayComes_12 pm (m + 1 + 1) M (nI s)) → wbX11_comeDay_84 post (wbX11_comeDay_12 post (m + 1)) N S (nI s) := fun z => by
      unfold wbX11_comeDay_84
      rw [nI_1]
      exact sh_loop m (s + 1) N S M G C OL (by omega) h0 (fun N1 S1 M1 G1 C1 OL1 h1 kk => K N1 S1 M1 G1 C1 OL1 h1 (fun pm hpm => z pm (kk pm hpm)))
    unfold wbX11_comeDay_12
    rw [tp_len hli.2.1, f2, a7, x1]
    refine tp_dF (nI_ge hs (by omega)) ⟨f1, f3, ?_⟩
    by_cases q1 : M 124 0 s = -1
    · obtain ⟨v, w1, w2, w3, w4, w5, w6⟩ := (hsm.1 s hs).2.2.2 q1
      have vc : (nI v).toNatClampNeg = v := nI_clamp (by omega)
      have vv : vp_in (nI v) 99 := vp_in_nI (by omega) (by decide)
      rw [w3]
      by_cases q2 : M 136 0 v = M 64 0 0
      · obtain ⟨g1, g2, g3⟩ := tp_get hli.2.2.1 w1
        have a9' : S 8 (G 19 0 s) 6 = nI v := a9.trans w2
        have tv : tp_b (tp_i 0 ((S 22 0 2).toInt - 1) (nI v)) = 1 := tp_bt (by
          rw [tp_len hli.2.2.1, tp_ti (show V < 2 ^ 31 by omega), tp_iI (by omega)]
          omega)
        refine tp_cT q1 (tp_cT q2 ?_)
        rw [a9', tp_isVoyage, tv]
        refine tp_dF (by decide) ?_
        rw [a9', g2]
        refine ⟨g1, g3, ?_⟩
        by_cases q3 : M 137 0 v = 0
        · refine ev_come h0 hs w1 w2 w4 w5 w6 q3 (fun N1 S1 M1 G1 C1 OL1 h1 k1 => ?_)
          unfold wbX11_comeDay_84
          rw [nI_1]
          refine sh_loop m (s + 1) N1 S1 M1 G1 C1 OL1 (by omega) h1 (fun N2 S2 M2 G2 C2 OL2 h2 kk => K N2 S2 M2 G2 C2 OL2 h2 (fun pm hpm => ?_))
          unfold wbX12_dayComes_12 wbX12_dayComes_75
          rw [s4, sc, w2, vc, nI_1]
          exact tp_dF (nI_ge hs (by omega)) ⟨sv, tp_cT q1 ⟨vv, tp_cT q2 (tp_dT q3 (k1 _ (kk pm hpm)))⟩⟩
        · refine ev_gone h0 hs w1 w2 w4 w5 q3 (fun S1 M1 h1 k1 => ?_)
          unfold wbX11_comeDay_84
          rw [nI_1]
          refine sh_loop m (s + 1) N S1 M1 G C OL (by omega) h1 (fun N2 S2 M2 G2 C2 OL2 h2 kk => K N2 S2 M2 G2 C2 OL2 h2 (fun pm hpm => ?_))
          unfold wbX12_dayComes_12 wbX12_dayComes_75
          rw [s4, sc, w2, vc, nI_1]
          exact tp_dF (nI_ge hs (by omega)) ⟨sv, tp_cT q1 ⟨vv, tp_cT q2 (tp_dF q3 (k1 _ (kk pm hpm)))⟩⟩
      · refine tp_cT q1 (tp_cF q2 (skip (fun pm hpm => ?_)))
        unfold wbX12_dayComes_12 wbX12_dayComes_75
        rw [s4, sc, w2, vc, nI_1]
        exact tp_dF (nI_ge hs (by omega)) ⟨sv, tp_cT q1 ⟨vv, tp_cF q2 hpm⟩⟩
    · refine tp_cF q1 (skip (fun pm hpm => ?_))
      unfold wbX12_dayComes_12 wbX12_dayComes_75
      rw [s4, sc, nI_1]
      exact tp_dF (nI_ge hs (by omega)) ⟨sv, tp_cF q1 hpm⟩
theorem pl_loop {c d pn Sh t r : Nat} {OL : Nat → List Nat} {post : tq_Nn → tq_St → Prop} : ∀ (m p : Nat) (P V E A eb : Nat) (N : tq_Nn) (S M : tq_St) (G : Nat → Nat → Nat → Nat) (C : Nat → Nat → Nat), p + m = 5 → 1 ≤ p → RR c 8 p d pn P Sh V E A t r eb G C OL N S M → eb + 900 * m ≤ 100000000 →
    (∀ (N1 : tq_Nn) (S1 M1 : tq_St) (P1 V1 E1 A1 : Nat) (G1 : Nat → Nat → Nat → Nat) (C1 : Nat → Nat → Nat), RR c 8 5 d pn P1 Sh V1 E1 A1 t r (eb + 900 * m) G1 C1 OL N1 S1 M1 → (∀ pm : tq_St → Prop, pm M1 → wbX12_dayComes_87 pm (m + 1) M (nI p)) → post N1 S1) → wbX11_comeDay_147 post (m + 1) N S (nI p)
  | 0, p, P, V, E, A, eb, N, S, M, G, C, hm, hp1, h0, heb, K => by
    have hp5 : p = 5 := by omega
    subst hp5
    unfold wbX11_comeDay_147
    refine tp_dT (show nI 5 ≤ nI 5 by decide) (K N S M P V E A G C h0 (fun pm hpm => ?_))
    unfold wbX12_dayComes_87
    exact tp_dT (show nI 4 < nI 5 by decide) hpm
  | m + 1, p, P, V, E, A, eb, N, S, M, G, C, hm, hp1, h0, heb, K => by
    have pc : (nI p).toNatClampNeg = p := nI_clamp (by omega)
    have hp5 : p < 5 := by omega
    have heb9 : eb + 900 ≤ 100000000 := Nat.le_trans (Nat.add_le_add_left (Nat.le_mul_of_pos_right 900 (Nat.succ_pos m)) eb) heb
    unfold wbX11_comeDay_147
    rw [pc]
    refine tp_dF (show ¬ nI 5 ≤ nI p from nI_ge hp5 (by decide)) ⟨vp_in_nI hp5 (by decide), wk_at h0 hp1 hp5 heb9 (fun N1 S1 M1 P1 V1 E1 A1 G1 C1 h1 k1 => ?_)⟩
    have e : eb + 900 + 900 * m = eb + 900 * (m + 1) := by omega
    rw [nI_1]
    refine pl_loop m (p + 1) P1 V1 E1 A1 (eb + 900) N1 S1 M1 G1 C1 (by omega) (by omega) h1 (by omega) (fun N2 S2 M2 P2 V2 E2 A2 G2 C2 h2 k2 => K N2 S2 M2 P2 V2 E2 A2 G2 C2 (by rw [← e]; exact h2) (fun pm hpm => ?_))
    unfold wbX12_dayComes_87
    refine tp_dF (show ¬ nI 4 < nI p from nI_nlt (by omega) (by decide)) (k1 _ ?_)
    rw [nI_1]
    exact k2 pm hpm
theorem cd_day {c d pn P Sh V E A t r eb : Nat} {G : Nat → Nat → Nat → Nat} {C : Nat → Nat → Nat} {OL : Nat → List Nat} {N : tq_Nn} {S M : tq_St} {post : tq_Nn → tq_St → Prop} (h0 : RR c 8 5 d pn P Sh V E A t r eb G C OL N S M) (hd : d + 1 ≤ 2999) (heb : eb + 3600 ≤ 100000000)
    (K : ∀ (N1 : tq_Nn) (S1 M1 : tq_St) (P1 V1 E1 A1 : Nat) (G1 : Nat → Nat → Nat → Nat) (C1 : Nat → Nat → Nat) (OL1 : Nat → List Nat), RR c 8 5 (d + 1) pn P1 Sh V1 E1 A1 t r (eb + 3600) G1 C1 OL1 N1 S1 M1 → (∀ pm : tq_St → Prop, pm M1 → wpX12_dayComes pm M) → post N1 S1) : wpX11_comeDay post N S := by
  have s1 := h0.1.1
  have x1 := h0.2.1.1
  unfold wpX11_comeDay
  rw [x1, s1, nI_1]
  refine tp_ae ⟨Sh + 1, sh_loop Sh 0 N _ _ G C OL (by omega) (RR_day0 h0 hd rfl) (fun N1 S1 M1 G1 C1 OL1 h1 k1 => ?_)⟩
  exact bl_loop P 0 S1 M1 (by omega) h1 (fun S2 M2 h2 k2 => ⟨5, pl_loop 4 1 P V E A eb N1 S2 M2 G1 C1 (by omega) (by omega) h2 (by omega) (fun N3 S3 M3 P3 V3 E3 A3 G3 C3 h3 k3 => K N3 S3 M3 P3 V3 E3 A3 G3 C3 OL1 h3 (fun pm hpm => by
    unfold wpX12_dayComes
    rw [s1, nI_1]
    exact tp_ae ⟨Sh + 1, k1 pm ⟨P + 1, k2 _ ⟨5, k3 pm hpm⟩⟩⟩))⟩)
theorem dy_loop {c pn Sh t r n0 : Nat} {post : tq_Nn → tq_St → Int32 → Prop} (hc : c ≤ 512) : ∀ (m k d P V E A : Nat) (G : Nat → Nat → Nat → Nat) (C : Nat → Nat → Nat) (OL : Nat → List Nat) (N : tq_Nn) (S M : tq_St), k + m = n0 → n0 ≤ 200 → d + m ≤ 2999 → RR c 8 5 d pn P Sh V E A t r (5000 * d + c) G C OL N S M →
    (∀ (N1 : tq_Nn) (S1 M1 : tq_St) (P1 V1 E1 A1 : Nat) (G1 : Nat → Nat → Nat → Nat) (C1 : Nat → Nat → Nat) (OL1 : Nat → List Nat), RR c 8 5 (d + m) pn P1 Sh V1 E1 A1 t r (5000 * (d + m) + c) G1 C1 OL1 N1 S1 M1 → (∀ pm : tq_St → Int32 → Prop, pm M1 (nI (d + m)) → wbX12_days_28 pm (m + 1) M (nI n0) (nI k)) → post N1 S1 (nI (d + m))) → wbX11_days_28 post (m + 1) N S (nI n0) (nI k)
  | 0, k, d, P, V, E, A, G, C, OL, N, S, M, hk, hn, hd, h0, K => by
    have s1 := h0.1.1
    have x1 := h0.2.1.1
    unfold wbX11_days_28
    rw [x1, s1]
    refine tp_dT (nI_le (by omega) (by omega)) (K N S M P V E A G C OL h0 (fun pm hpm => ?_))
    unfold wbX12_days_28
    rw [s1]
    exact tp_dT (nI_le (by omega) (by omega)) hpm
  | m + 1, k, d, P, V, E, A, G, C, OL, N, S, M, hk, hn, hd, h0, K => by
    have e : d + 1 + m = d + (m + 1) := by omega
    unfold wbX11_days_28
    refine tp_dF (nI_ge (by omega) (by omega)) (cd_day h0 (by omega) (by omega) (fun N1 S1 M1 P1 V1 E1 A1 G1 C1 OL1 h1 k1 => ?_))
    rw [nI_1]
    refine dy_loop hc m (k + 1) (d + 1) P1 V1 E1 A1 G1 C1 OL1 N1 S1 M1 (by omega) hn (by omega) (h1.wk (Nat.le_refl _) hc (by omega) (by omega)) (fun N2 S2 M2 P2 V2 E2 A2 G2 C2 OL2 h2 k2 => ?_)
    rw [e] at h2 k2 ⊢
    refine K N2 S2 M2 P2 V2 E2 A2 G2 C2 OL2 h2 (fun pm hpm => ?_)
    unfold wbX12_days_28
    refine tp_dF (nI_ge (by omega) (by omega)) (k1 _ ?_)
    rw [nI_1]
    exact k2 pm hpm
theorem sim_days {c : Nat} {N : tq_Nn} {S M : tq_St} {p0 : Int32} (hR : tp_R c N S M) (hc : c < 512) : wpX11_days (fun N1 S1 r => wpX12_days (fun M1 r1 => r = r1 ∧ tp_R (c + 1) N1 S1 M1) M p0) N S p0 := by
  have hT := hR.tick hc
  obtain ⟨d, pn, P, Sh, V, E, A, t, r, G, C, OL, h0⟩ := id hR
  have s1 := h0.1.1
  have x1 := h0.2.1.1
  have b1 := h0.1.2.2.2.2.2.2.2.2.2.1
  unfold wpX11_days
  rw [tp_within]
  by_cases q1 : tp_i (1 : Int32).toInt (200 : Int32).toInt p0
  · rw [tp_bt q1]
    refine tp_dF (by decide) ?_
    by_cases q2 : M 64 0 0 + p0 ≤ 2999
    · obtain ⟨n0, n1, n2⟩ : ∃ n0 : Nat, (1 ≤ n0 ∧ n0 ≤ 200) ∧ p0 = nI n0 := by
        have t1 : (1 : Int32).toInt = 1 := by decide
        have t2 : (200 : Int32).toInt = 200 := by decide
        have z1 := q1.1
        have z2 := q1.2
        rw [t1] at z1
        rw [t2] at z2
        obtain ⟨n0, y1, y2, y3⟩ := tp_nat (x := p0) (by omega)
        exact ⟨n0, ⟨by omega, by omega⟩, y2⟩
      subst n2
      have q3 : d + n0 ≤ 2999 := by
        rw [s1, nI_add] at q2
        exact (nI_leI (b := 2999) (by omega) (by decide)).mp q2
      refine tp_dT (by rw [x1]; exact q2) ⟨n0 + 1, dy_loop (by omega) n0 0 d P V E A G C OL N S M (by omega) n1.2 q3 h0 (fun N1 S1 M1 P1 V1 E1 A1 G1 C1 OL1 h1 k1 => ?_)⟩
      unfold wpX12_days
      rw [tp_in, tp_bt q1]
      exact tp_dF (by decide) (tp_dT q2 ⟨n0 + 1, k1 _ ⟨rfl, h1.R hc rfl rfl rfl⟩⟩)
    · refine tp_dF (by rw [x1]; exact q2) ?_
      unfold wbX11_days_23
      show wpX12_days (fun M1 r1 => (-2) = r1 ∧ tp_R (c + 1) N S M1) M p0
      unfold wpX12_days
      rw [tp_in, tp_bt q1]
      refine tp_dF (by decide) (tp_dF q2 ?_)
      unfold wbX12_days_23
      exact ⟨rfl, hT⟩
  · rw [tp_bf q1]
    refine tp_dT rfl ?_
    unfold wbX11_days_23
    show wpX12_days (fun M1 r1 => (-2) = r1 ∧ tp_R (c + 1) N S M1) M p0
    unfold wpX12_days
    rw [tp_in, tp_bf q1]
    refine tp_dT rfl ?_
    unfold wbX12_days_23
    exact ⟨rfl, hT⟩
