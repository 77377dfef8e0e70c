/-! pure: a ship comes, her papers -/
theorem RR_come {c w d pn P Sh V E A t r eb : Nat} {G : Nat → Nat → Nat → Nat} {C : Nat → Nat → Nat} {OL : Nat → List Nat} {N : tq_Nn} {S M : tq_St} {s p v : Nat} (h0 : RR c 8 w d pn P Sh V E A t r eb G C OL N S M) (hs : s < Sh) (hp : p < 5) (hv : v < V) (h132 : M 132 0 v = nI s) (h138 : M 138 0 v = 0) (h139 : ∀ q : Nat, q < 4 → M 127 s q = M 139 v q) : RR c s w d pn P Sh V E A t r eb G C OL N (cS2 (tq_up S 9 (G 22 0 v) 9 1) (G 19 0 s) p) (fz p s (cM2 M s p v)) := by
  obtain ⟨hsc, hss, har, hpl, hlg, hsh, hpe, hmo, hpr, hsr, hpa, hkn, hst, hpm, hsi, hab, hsm, hvo, hvm, hbi, hlb, hiv, hod, hol, hoi, hfi, hli, had, hro⟩ := id h0
  obtain ⟨s1, s2, s3, s4, s5, s6, s7, s8, s9, b1, b2, b3, b4, b5, b6, b7, b8, b9, e1, e2⟩ := id hsc
  have tm : (-1 : Int32).toInt = -1 := by decide
  have tp' : (nI p).toInt = (p : Int) := tp_ti (by omega)
  have pm1 : ¬ nI p = -1 := fun z => by rw [tp_eq, tp', tm] at z; omega
  have r1 := RR_place (x := nI p) h0 hs pm1 (by omega) (by omega)
  have r2 := RR_z (p := p) r1 hs
  have m138 : fz p s (tq_up M 124 0 s (nI p)) 138 0 v = 0 := by rw [fz_k (by decide), tq_upk (by decide)]; exact h138
  have r3 := RR_land (p := p) (v := v) r2 hs m138 4 (Nat.le_refl _)
  have eM : tp_it (fM3 s p v) 4 (fz p s (tq_up M 124 0 s (nI p))) = fz p s (tp_it (fM3 s p v) 4 (tq_up M 124 0 s (nI p))) := tp_it_cm (g := fz p s) (fun q T => fM3_z) 4 _
  rw [eM] at r3
  have k3 : ∀ k, k ≠ 102 → k ≠ 140 → k ≠ 124 → k ≠ 125 → fz p s (tp_it (fM3 s p v) 4 (tq_up M 124 0 s (nI p))) k = M k := fun k z1 z2 z3 z4 => by rw [fz_k z4, tp_it_k (fun q T => fM3_k z1 z2), tq_upk z3]
  have r4 := RR_vend (e := 1) r3 hv (by decide) (by decide) (by rw [k3 138 (by decide) (by decide) (by decide) (by decide)]; exact h138) (fun _ q hq => by
    rw [k3 139 (by decide) (by decide) (by decide) (by decide), fz_k (by decide), it140 4 q hq, tq_upk (by decide)]; exact h139 q hq) (fun x hx z1 z2 => by
    rw [fz_k (by decide), tp_it_k (fun q T => fM3_k (by decide) (by decide))] at z1
    rw [k3 130 (by decide) (by decide) (by decide) (by decide)] at z2
    by_cases q : x = s
    · rw [q, tq_upe] at z1; exact pm1 z1
    · rw [tq_upj q] at z1
      obtain ⟨v', w1, w2, w3, w4, _⟩ := (hsm.1 x hx).2.2.2 z1
      rw [w2] at z2
      have : v' = v := (nI_eq (by omega) (by omega)).mp z2
      rw [this, h132] at w4
      exact q ((nI_eq (by omega) (by omega)).mp w4).symm)
  have eM4 : tq_up (fz p s (tp_it (fM3 s p v) 4 (tq_up M 124 0 s (nI p)))) 138 0 v (nI 1) = fz p s (cM1 M s p v) := by
    rw [cM1_o, fz_up (by decide)]; rfl
  have eS4 : tq_up (tp_it (fS3 (G 19 0 s) p) 4 (gz p (G 19 0 s) (tq_up S 8 (G 19 0 s) 3 (nI p)))) 9 (G 22 0 v) 9 (nI 1) = cS1 (tq_up S 9 (G 22 0 v) 9 1) (G 19 0 s) p := by
    rw [cS1_o]; rfl
  rw [eM4, eS4] at r4
  have c101 : fz p s (cM1 M s p v) 101 = M 101 := by rw [fz_k (by decide), cM1_k (by decide) (by decide) (by decide) (by decide)]
  have c128 : fz p s (cM1 M s p v) 128 = M 128 := by rw [fz_k (by decide), cM1_k (by decide) (by decide) (by decide) (by decide)]
  have d101 : cM1 M s p v 101 = M 101 := cM1_k (by decide) (by decide) (by decide) (by decide)
  have d128 : cM1 M s p v 128 = M 128 := cM1_k (by decide) (by decide) (by decide) (by decide)
  have q1 := r4.2.2.2.1.2.1 p hp
  have q2 := ((r4.2.2.2.2.2.2.2.2.2.2.2.2.2.2.1 s hs).2.2.2.2.2.2.2.2.2 (by omega)).1
  rw [c101] at q1
  rw [c128] at q2
  obtain ⟨mo1, mo2, mo3, mo4, _⟩ := tp_mo hmo e2 b3
  have o1 := mo1 p hp
  have o2 := mo2 s (by omega)
  have o4 := mo4 p s hp (by omega)
  have tz : (M 101 0 p + M 128 0 s).toInt = (M 101 0 p).toInt + (M 128 0 s).toInt := tp_add (by omega) (by omega)
  have r6 := RR_ec (s := s) (p := p) (z := M 101 0 p + M 128 0 s) (r4.hole (s := s)) hs hp rfl (by omega) (by rw [c101, c128]; omega)
  have r7 := RR_em r6 hs (by
    rw [tq_upk (by decide), tq_upk (by decide), fz_k (by decide)]
    unfold cM1
    rw [tp_it_k (fun q T => fM3_k (by decide) (by decide)), tq_upk (by decide), tq_upe]
    exact pm1)
  have eM7 : I129 s (I127 s (tq_up (tq_up (fz p s (cM1 M s p v)) 101 0 p (M 101 0 p + M 128 0 s)) 128 0 s 0)) = fz p s (cM2 M s p v) := by
    rw [← em_in, ← fz_up (by decide), em_fz]
    unfold cM2
    rw [d101, d128]
  rw [eM7] at r7
  unfold cS2
  rw [q1, q2]
  exact r7
theorem rdM_k {M : tq_St} {n p d k : Nat} (h : k ≠ 115) : rdM M n p d k = M k := by
  unfold rdM
  by_cases q : 0 ≤ M 115 n p
  · rw [if_pos q]
  · rw [if_neg q, tq_upk h]
theorem rdM_z {M : tq_St} {n p q s d : Nat} : rdM (fz q s M) n p d = fz q s (rdM M n p d) := by
  unfold rdM
  rw [fz_k (by decide)]
  by_cases z : 0 ≤ M 115 n p
  · rw [if_pos z, if_pos z]
  · rw [if_neg z, if_neg z, fz_up (by decide)]
theorem arr_loop {c w d pn P Sh V E A t r eb : Nat} {post : tq_Nn → tq_St → Prop} {s p : Nat} (hs : s < Sh) (hp : p < 5) : ∀ (m n : Nat) (N : tq_Nn) (S T : tq_St) (G : Nat → Nat → Nat → Nat) (C : Nat → Nat → Nat) (OL : Nat → List Nat), n + m = P → RR c s w d pn P Sh V E A t r eb G C OL N S (fz p s T) →
    (∀ (N1 : tq_Nn) (S1 T1 : tq_St) (G1 : Nat → Nat → Nat → Nat) (C1 : Nat → Nat → Nat) (OL1 : Nat → List Nat), RR c s w d pn P Sh V E A t r eb G1 C1 OL1 N1 S1 (fz p s T1) → (∀ k, k ≠ 115 → k ≠ 120 → T1 k = T k) → G1 19 0 s = G 19 0 s → (∀ pm : tq_St → Prop, pm (fz p s T1) → wbX12_comes_105 pm (m + 1) T (nI s) (nI p) (nI n)) → post N1 S1) → wbX11_arrive_63 post (m + 1) N S (G 19 0 s) p (nI n)
  | 0, n, N, S, T, G, C, OL, hn, h0, K => by
    have hn2 : n = P := by omega
    subst hn2
    have l1 := h0.2.2.2.2.2.2.2.2.2.2.2.2.2.2.2.2.2.2.2.2.2.2.2.2.2.2.1.1
    have s3 := h0.1.2.2.1
    have b3 := h0.1.2.2.2.2.2.2.2.2.2.2.2.1
    have b4 := h0.1.2.2.2.2.2.2.2.2.2.2.2.2.1
    have sc : (nI s).toNatClampNeg = s := nI_clamp (by omega)
    rw [fz_k (by decide)] at s3
    unfold wbX11_arrive_63 wbX11_arrive_140
    rw [tp_len l1]
    refine tp_dT (nI_le (Nat.le_refl _) (by omega)) (K N S T G C OL h0 (fun _ _ _ => rfl) rfl (fun pm hpm => ?_))
    unfold wbX12_comes_105 wbX12_comes_189
    rw [s3, sc]
    refine tp_dT (nI_le (Nat.le_refl _) (by omega)) ?_
    unfold fz at hpm
    by_cases q : p = 0
    · rw [if_pos q] at hpm
      exact tp_cT (by rw [q]; rfl) ⟨vp_in_nI (by omega) (by decide), tp_ae hpm⟩
    · rw [if_neg q] at hpm
      exact tp_cF (fun z => q ((nI_eq (a := p) (b := 0) (by omega) (by omega)).mp z)) hpm
  | m + 1, n, N, S, T, G, C, OL, hn, h0, K => by
    obtain ⟨hsc, hss, har, hpl, hlg, hsh, hpe, hmo, hpr, hsr, hpa, hkn, hst, hpm, hsi, hab, hsm, hvo, hvm, hbi, hlb, hiv, hod, hol, hoi, hfi, hli, had, hro⟩ := id h0
    obtain ⟨s1, s2, s3, s4, s5, s6, s7, s8, s9, b1, b2, b3, b4, b5, b6, b7, b8, b9, e1, e2⟩ := id hsc
    have l1 := hli.1
    have l2 := hli.2.1
    have nP : n < P := by omega
    have sc : (nI s).toNatClampNeg = s := nI_clamp (by omega)
    have nc : (nI n).toNatClampNeg = n := nI_clamp (by omega)
    have pc : (nI p).toNatClampNeg = p := nI_clamp (by omega)
    have nv : vp_in (nI n) 150 := vp_in_nI (by omega) (by decide)
    have sv : vp_in (nI s) 8 := vp_in_nI (by omega) (by decide)
    have s3' : T 64 0 9 = nI P := by rw [fz_k (by decide)] at s3; exact s3
    have s1' : T 64 0 0 = nI d := by rw [fz_k (by decide)] at s1; exact s1
    obtain ⟨g1, g2, g3⟩ := tp_get l1 nP
    have e8 : N 8 (G 19 0 s) = 1 := (l2.2 s hs).2.1
    have e56 : N 56 (G 19 0 s) = 1 := (hsi s hs).2.2.1
    have c56 : S 56 (G 19 0 s) n = T 120 n s := by
      have := hab s n hs (by omega)
      rw [fz_k (by decide)] at this
      exact this
    have c3 : S 7 (G 15 0 n) 3 = T 113 0 n := by
      have := (hpa n nP).2.2.2.2.2.2.1
      rw [fz_k (by decide)] at this
      exact this
    have w0 := hpl.1 p hp
    have onw : wbX11_arrive_63 post (m + 1) N S (G 19 0 s) p (nI (n + 1)) → wbX11_arrive_134 post (wbX11_arrive_63 post (m + 1)) N S (G 19 0 s) p (nI n) := fun z => by
      unfold wbX11_arrive_134
      rw [nI_1]; exact z
    have skip : (∀ pm : tq_St → Prop, wbX12_comes_105 pm (m + 1) T (nI s) (nI p) (nI (n + 1)) → wbX12_comes_105 pm (m + 1 + 1) T (nI s) (nI p) (nI n)) → wbX11_arrive_134 post (wbX11_arrive_63 post (m + 1)) N S (G 19 0 s) p (nI n) := fun z => onw (arr_loop hs hp m (n + 1) N S T G C OL (by omega) h0 (fun N1 S1 T1 G1 C1 OL1 h1 f1 f2 kk => K N1 S1 T1 G1 C1 OL1 h1 f1 f2 (fun pm hpm => z pm (kk pm hpm))))
    unfold wbX11_arrive_63
    rw [tp_len l1, nc, g2, c56, c3, w0]
    refine tp_dF (nI_ge nP (by omega)) (tp_dF (show ¬ nI 150 ≤ nI n from nI_ge (by omega) (by decide)) ⟨e8, nv, e56, ?_⟩)
    by_cases q1 : T 120 n s ≤ 0
    · refine tp_dT q1 (skip (fun pm hpm => ?_))
      unfold wbX12_comes_105 wbX12_comes_172
      rw [s3', nc, sc, nI_1]
      exact tp_dF (nI_ge nP (by omega)) ⟨nv, sv, tp_dT q1 hpm⟩
    · refine tp_dF q1 ⟨g1, g3, hp, ?_⟩
      by_cases q2 : T 113 0 n = nI p
      · have g1' : tq_gok N (tq_up S 56 (G 19 0 s) n 0) 15 16 0 (nI n) := by
          unfold tq_gok at g1 ⊢
          rw [tq_upk (by decide), tq_upk (by decide)]; exact g1
        have g2' : tq_el (tq_up S 56 (G 19 0 s) n 0) 15 16 0 (nI n) = G 15 0 n := by
          unfold tq_el at g2 ⊢
          rw [tq_upk (by decide), tq_upk (by decide)]; exact g2
        have r1 := RR_c0 h0 hs nP
        rw [← fz_up (by decide)] at r1
        refine tp_cT q2 (tp_ae ?_)
        rw [g2']
        refine ⟨g1', g3, rd_at r1 nP hp (by rw [fz_k (by decide), tq_upk (by decide)]; exact q2) (fun N1 S1 G1 C1 OL1 h1 f1 => ?_)⟩
        rw [rdM_z] at h1
        have gs : G1 19 0 s = G 19 0 s := f1 19 0 s (by decide) (by decide)
        have := arr_loop (post := post) hs hp m (n + 1) N1 S1 (rdM (tq_up T 120 n s 0) n p d) G1 C1 OL1 (by omega) h1 (fun N2 S2 T2 G2 C2 OL2 h2 k2 k3 kk => K N2 S2 T2 G2 C2 OL2 h2 (fun k z1 z2 => by rw [k2 k z1 z2, rdM_k z1, tq_upk z2]) (k3.trans gs) (fun pm hpm => by
          have kk' := kk pm hpm
          have u115 : tq_up T 120 n s 0 115 n p = T 115 n p := by rw [tq_upk (by decide)]
          have u64 : tq_up T 120 n s 0 64 0 0 = nI d := by rw [tq_upk (by decide)]; exact s1'
          unfold wbX12_comes_105 wbX12_comes_172
          rw [s3', nc, sc, pc, nI_1]
          refine tp_dF (nI_ge nP (by omega)) ⟨nv, sv, tp_dF q1 (tp_cT q2 (tp_ae ⟨vp_in_nI hp (by decide), ?_⟩))⟩
          unfold rdM at kk'
          rw [u115] at kk' ⊢
          rw [u64]
          by_cases q3 : 0 ≤ T 115 n p
          · rw [if_pos q3] at kk'
            exact tp_dT q3 kk'
          · rw [if_neg q3] at kk'
            exact tp_dF q3 (tp_ae kk')))
        rw [gs] at this
        unfold wbX11_arrive_134
        rw [nI_1]
        exact this
      · refine tp_cF q2 (skip (fun pm hpm => ?_))
        unfold wbX12_comes_105 wbX12_comes_172
        rw [s3', nc, sc, nI_1]
        exact tp_dF (nI_ge nP (by omega)) ⟨nv, sv, tp_dF q1 (tp_cF q2 hpm)⟩
theorem ev_hold {c w d pn P Sh V E A t r eb : Nat} {G : Nat → Nat → Nat → Nat} {C : Nat → Nat → Nat} {OL : Nat → List Nat} {N : tq_Nn} {S M : tq_St} {post : tq_Nn → tq_St → Prop} {s : Nat} (h0 : RR c s w d pn P Sh V E A t r eb G C OL N S M) (hs : s < Sh) (m128 : M 128 0 s = 0) (m127 : ∀ q : Nat, q < 4 → M 127 s q = 0) (m129 : ∀ q : Nat, q < 20 → M 129 s q = 0) (K : ∀ S1, RR c 8 w d pn P Sh V E A t r eb G C OL N S1 M → post N S1) : wbX11_endVoyage_48 post N S (G 19 0 s) := by
  obtain ⟨hsc, hss, har, hpl, hlg, hsh, hpe, hmo, hpr, hsr, hpa, hkn, hst, hpm, hsi, hab, hsm, hvo, hvm, hbi, hlb, hiv, hod, hol, hoi, hfi, hli, had, hro⟩ := id h0
  have e8 : N 8 (G 19 0 s) = 1 := (hli.2.1.2 s hs).2.1
  have e54 := (hsi s hs).1
  have e55 := (hsi s hs).2.1
  unfold wbX11_endVoyage_48 wpX8_clearHold
  refine ⟨e8, e8, tp_ae ⟨e54, tp_ae ⟨e55, tp_ae (K _ (RR_clear h0 hs rfl (fun q hq => if_pos hq) (fun q hq => if_pos hq) m128 m127 m129))⟩⟩⟩
theorem ev_come {c w d pn P Sh V E A t r eb : Nat} {G : Nat → Nat → Nat → Nat} {C : Nat → Nat → Nat} {OL : Nat → List Nat} {N : tq_Nn} {S M : tq_St} {post : tq_Nn → tq_St → Prop} {s v : Nat} (h0 : RR c 8 w d pn P Sh V E A t r eb G C OL N S M) (hs : s < Sh) (hv : v < V) (h130 : M 130 0 s = nI v) (h132 : M 132 0 v = nI s) (h138 : M 138 0 v = 0) (h139 : ∀ q : Nat, q < 4 → M 127 s q = M 139 v q) (h137 : M 137 0 v = 0)
    (K : ∀ (N1 : tq_Nn) (S1 M1 : tq_St) (G1 : Nat → Nat → Nat → Nat) (C1 : Nat → Nat → Nat) (OL1 : Nat → List Nat), RR c 8 w d pn P Sh V E A t r eb G1 C1 OL1 N1 S1 M1 → (∀ pm : tq_St → Prop, pm M1 → wpX12_comes pm M (nI s)) → post N1 S1) : wpX11_endVoyage post N S (G 19 0 s) (G 22 0 v) := by
  obtain ⟨hsc, hss, har, hpl, hlg, hsh, hpe, hmo, hpr, hsr, hpa, hkn, hst, hpm, hsi, hab, hsm, hvo, hvm, hbi, hlb, hiv, hod, hol, hoi, hfi, hli, had, hro⟩ := id h0
  obtain ⟨s1, s2, s3, s4, s5, s6, s7, s8, s9, b1, b2, b3, b4, b5, b6, b7, b8, b9, e1, e2⟩ := id hsc
  have e8 : N 8 (G 19 0 s) = 1 := (hli.2.1.2 s hs).2.1
  have e9 : N 9 (G 22 0 v) = 1 := (hli.2.2.1.2 v hv).2.1
  have e54 := (hsi s hs).1
  obtain ⟨⟨p, hp, h134⟩, _⟩ := hvm.1 v hv
  have v3 : S 9 (G 22 0 v) 3 = nI p := by rw [← h134]; exact (hvo v hv).2.2.2.2.2.1
  have v8 : S 9 (G 22 0 v) 8 = 0 := by rw [← h137]; exact (hvo v hv).2.2.2.2.2.2.2.2.1
  have pc : (nI p).toNatClampNeg = p := nI_clamp (by omega)
  have rc := RR_come (p := p) h0 hs hp hv h132 h138 h139
  have u3 : tq_up S 9 (G 22 0 v) 9 1 9 (G 22 0 v) 3 = nI p := by rw [tq_upj (by decide)]; exact v3
  unfold wpX11_endVoyage
  rw [v8]
  refine ⟨e9, tp_dT rfl (tp_ae ?_)⟩
  rw [u3, pc]
  refine ⟨vp_in_nI hp (by decide), tp_arrS hp e8 e54 (by rw [tq_upk (by decide)]; exact hpl.1 p hp) ⟨P + 1, arr_loop hs hp P 0 N _ (cM2 M s p v) G C OL (by omega) rc (fun N1 S1 T1 G1 C1 OL1 h1 k1 gs kk => ?_)⟩⟩
  rw [← gs]
  refine ev_hold h1 hs ?_ (fun q hq => ?_) (fun q hq => ?_) (fun S2 h2 => K N1 S2 _ G1 C1 OL1 h2 (fun pm hpm => tp_comesM (by omega) hp (by omega) h130 h134 ⟨P + 1, kk pm hpm⟩))
  · rw [fz_k (by decide), k1 128 (by decide) (by decide)]; exact em_128
  · rw [fz_k (by decide), k1 127 (by decide) (by decide)]; exact em_127 hq
  · rw [fz_k (by decide), k1 129 (by decide) (by decide)]; exact em_129 hq
