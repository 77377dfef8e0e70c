/-! pure: calls, the third -/
theorem tp_loopx {W : Nat → Nat → Prop} {n : Nat} {c : Nat → Prop} (hend : (∀ i, i < n → c i) → ∀ m, W (m + 1) n) (hstep : ∀ m i, i < n → c i → W m (i + 1) → W (m + 1) i) (hexit : ∀ m i, i < n → (∀ j, j < i → c j) → ¬ c i → W (m + 1) i) : ∀ k, k ≤ n → (∀ j, j < n - k → c j) → W (k + 1) (n - k)
  | 0, _, h => hend h 0
  | k + 1, hk, h => by
    by_cases e : c (n - (k + 1))
    · have z : n - k = n - (k + 1) + 1 := by omega
      refine hstep _ _ (by omega) e ?_
      rw [← z]
      refine tp_loopx hend hstep hexit k (by omega) (fun j hj => ?_)
      by_cases q : j = n - (k + 1)
      · subst q; exact e
      · exact h j (by omega)
    · exact hexit _ _ (by omega) h e
theorem tp_loopx0 {W : Nat → Nat → Prop} {n : Nat} {c : Nat → Prop} (hend : (∀ i, i < n → c i) → ∀ m, W (m + 1) n) (hstep : ∀ m i, i < n → c i → W m (i + 1) → W (m + 1) i) (hexit : ∀ m i, i < n → (∀ j, j < i → c j) → ¬ c i → W (m + 1) i) : W (n + 1) 0 := by
  have := tp_loopx hend hstep hexit n (Nat.le_refl n) (fun j hj => by omega)
  rw [Nat.sub_self] at this
  exact this
/-- all of four, or 3 -/
theorem tp_joined {N : tq_Nn} {S : tq_St} {post : tq_St → Int32 → Prop} {o : Nat} (h9 : N 9 o = 1) (h57 : N 57 o = 1) (h58 : N 58 o = 1) (h0 : (∀ q, q < 4 → S 57 o q = S 58 o q) → post S 0) (h3 : ¬ (∀ q, q < 4 → S 57 o q = S 58 o q) → post S 3) : ∃ nq, wbX10_joined_32 N post nq S o 0 := by
  refine ⟨5, tp_loopx0 (W := fun m i => wbX10_joined_32 N post m S o (nI i)) (n := 4) (c := fun q => S 57 o q = S 58 o q) (fun h m => ?_) (fun m i hi hc hw => ?_) (fun m i hi hj hc => ?_)⟩
  · unfold wbX10_joined_32
    exact tp_dT (nI_le (a := 4) (b := 4) (by decide) (by decide)) (h0 h)
  · unfold wbX10_joined_32
    refine tp_dF (nI_ge (a := i) (b := 4) hi (by decide)) ⟨h9, vp_in_nI hi (by decide), h57, h58, ?_⟩
    rw [nI_clamp (by omega), nI_1]
    exact tp_dT hc hw
  · unfold wbX10_joined_32
    refine tp_dF (nI_ge (a := i) (b := 4) hi (by decide)) ⟨h9, vp_in_nI hi (by decide), h57, h58, ?_⟩
    rw [nI_clamp (by omega), nI_1]
    exact tp_dF hc (h3 (fun z => hc (z i hi)))
theorem tp_joins {M : tq_St} {post : tq_St → Int32 → Prop} {v : Nat} (hv : v < 99) (h0 : (∀ q, q < 4 → M 140 v q = M 139 v q) → post M 0) (h3 : ¬ (∀ q, q < 4 → M 140 v q = M 139 v q) → post M 3) : ∃ nq, wbX12_joins_36 post nq M (nI v) 0 := by
  refine ⟨5, tp_loopx0 (W := fun m i => wbX12_joins_36 post m M (nI v) (nI i)) (n := 4) (c := fun q => M 140 v q = M 139 v q) (fun h m => ?_) (fun m i hi hc hw => ?_) (fun m i hi hj hc => ?_)⟩
  · unfold wbX12_joins_36
    exact tp_dT (nI_le (a := 4) (b := 4) (by decide) (by decide)) (h0 h)
  · unfold wbX12_joins_36
    refine tp_dF (nI_ge (a := i) (b := 4) hi (by decide)) ⟨vp_in_nI hv (by decide), vp_in_nI hi (by decide), ?_⟩
    rw [nI_clamp (by omega), nI_clamp (by omega), nI_1]
    exact tp_dT hc hw
  · unfold wbX12_joins_36
    refine tp_dF (nI_ge (a := i) (b := 4) hi (by decide)) ⟨vp_in_nI hv (by decide), vp_in_nI hi (by decide), ?_⟩
    rw [nI_clamp (by omega), nI_clamp (by omega), nI_1]
    exact tp_dF hc (h3 (fun z => hc (z i hi)))
/-- the copies aboard -/
theorem tp_aboard {M : tq_St} {post : tq_St → Int32 → Prop} {s P : Nat} (hs : s < 8) (hp : M 64 0 9 = nI P) (hP : P ≤ 150) (h : post M (bx_sum (fun n => M 120 n s) P)) : ∃ nq, wbX12_shipOf_149 post nq M (nI s) 0 0 := by
  refine ⟨P + 1, tp_loop0 (W := fun m a i => wbX12_shipOf_149 post m M (nI s) a (nI i)) (n := P) (f := fun i a => a + M 120 i s) (s0 := 0) (fun m => ?_) (fun m i hi hw => ?_)⟩
  · unfold wbX12_shipOf_149
    refine tp_dT (by rw [hp]; exact nI_le (Nat.le_refl _) (by omega)) ?_
    rw [tp_it_sum (g := fun n => M 120 n s)]; exact h
  · unfold wbX12_shipOf_149
    refine tp_dF (by rw [hp]; exact nI_ge hi (by omega)) ⟨vp_in_nI (by omega) (by decide), vp_in_nI hs (by decide), ?_⟩
    rw [nI_clamp (by omega), nI_clamp (by omega), nI_1]; exact hw
/-- ships at a place -/
theorem tp_shipsAt {N : tq_Nn} {S : tq_St} {post : tq_St → Int32 → Prop} {G : Nat → Nat → Nat → Nat} {C : Nat → Nat → Nat} {Sh : Nat} {x : Int32} (hl : tp_L N (S 19) (S 20) G C 19 20 8 0 Sh) (hS : Sh ≤ 8) (h : post S (tp_cnt (fun i => S 8 (G 19 0 i) 3 = x) Sh)) : wpX11_shipsAt N post S x := by
  have hn := tp_len hl
  refine ⟨Sh + 1, tp_loop0 (W := fun m a i => wbX11_shipsAt_4 N post m S x a (nI i)) (n := Sh) (f := fun i a => a + tp_b (S 8 (G 19 0 i) 3 = x)) (s0 := 0) (fun m => ?_) (fun m i hi hw => ?_)⟩
  · unfold wbX11_shipsAt_4
    refine tp_dT (by rw [hn]; exact nI_le (Nat.le_refl _) (by omega)) ?_
    have : ∀ k, tp_it (fun i a => a + tp_b (S 8 (G 19 0 i) 3 = x)) k 0 = tp_cnt (fun i => S 8 (G 19 0 i) 3 = x) k := by
      intro k
      induction k with
      | zero => rfl
      | succ k ih => simp only [tp_it, tp_cnt]; rw [ih]
    rw [this]; exact h
  · obtain ⟨g1, g2, g3⟩ := tp_get hl hi
    unfold wbX11_shipsAt_4
    refine tp_dF (by rw [hn]; exact nI_ge hi (by omega)) ⟨g1, by rw [g2]; exact g3, ?_⟩
    rw [g2]
    unfold wbX11_shipsAt_36
    rw [nI_1]
    by_cases e : S 8 (G 19 0 i) 3 = x
    · refine tp_cT e ?_
      simpa only [tp_it, tp_bt e] using hw
    · refine tp_cF e ?_
      simpa only [tp_it, tp_bf e, Int32.add_zero] using hw
theorem tp_cnt_cong {c c2 : Nat → Prop} : ∀ {n : Nat}, (∀ k, k < n → (c k ↔ c2 k)) → tp_cnt c n = tp_cnt c2 n
  | 0, _ => rfl
  | n + 1, h => by
    simp only [tp_cnt]
    rw [tp_cnt_cong (fun k hk => h k (by omega)), show c n = c2 n from propext (h n (by omega))]
theorem tp_count99 {M : tq_St} {post : tq_St → Int32 → Prop} {Sh : Nat} (hp : M 64 0 21 = nI Sh) (hS : Sh ≤ 8) (h : post M (tp_cnt (fun i => M 124 0 i = -1) Sh)) : ∃ nq, wbX12_count_99 post nq M 0 0 := by
  refine ⟨Sh + 1, tp_loop0 (W := fun m a i => wbX12_count_99 post m M a (nI i)) (n := Sh) (f := fun i a => a + tp_b (M 124 0 i = -1)) (s0 := 0) (fun m => ?_) (fun m i hi hw => ?_)⟩
  · unfold wbX12_count_99
    refine tp_dT (by rw [hp]; exact nI_le (Nat.le_refl _) (by omega)) ?_
    have : ∀ k, tp_it (fun i a => a + tp_b (M 124 0 i = -1)) k 0 = tp_cnt (fun i => M 124 0 i = -1) k := by
      intro k
      induction k with
      | zero => rfl
      | succ k ih => simp only [tp_it, tp_cnt]; rw [ih]
    rw [this]; exact h
  · unfold wbX12_count_99
    refine tp_dF (by rw [hp]; exact nI_ge hi (by omega)) ⟨vp_in_nI (by omega) (by decide), ?_⟩
    rw [nI_clamp (by omega)]
    unfold wbX12_count_123
    rw [nI_1]
    by_cases e : M 124 0 i = -1
    · refine tp_cT e ?_
      simpa only [tp_it, tp_bt e] using hw
    · refine tp_cF e ?_
      simpa only [tp_it, tp_bf e] using hw
/-- tons that are free -/
theorem tp_freeq {h pn P Sh V d : Nat} {G : Nat → Nat → Nat → Nat} {N : tq_Nn} {S M : tq_St} (hsi : q_si h Sh G N S M) (hsm : q_sm pn Sh V G S M) (hpn : pn ≤ 20) (h8 : Sh ≤ 8) {s : Nat} (hs : s < Sh) (hh : s ≠ h) : S 8 (G 19 0 s) 2 - bx_sum (S 54 (G 19 0 s)) 4 - bx_sum (S 55 (G 19 0 s)) 20 = M 123 0 s - bx_sum (M 127 s) 4 - bx_sum (M 129 s) pn := by
  obtain ⟨a1, a2, a3, a4, a5, a6, a7, a8, a9, a10⟩ := hsi s hs
  obtain ⟨c1, c2, c3⟩ := a10 hh
  rw [a6, tp_sum_cong c2, tp_sum_cong c3]
  have := tp_sum_more (f := M 129 s) (m := pn) (n := 20 - pn) (fun k h1 h2 => hsm.2.1 s k (by omega) h1 (by omega))
  rw [show pn + (20 - pn) = 20 by omega] at this
  rw [this]
theorem sim_voyage {c : Nat} {N : tq_Nn} {S M : tq_St} {p0 p1 : Int32} (hR : tp_R c N S M) (hc : c < 512) : wpX11_voyage N (fun S1 r => wpX12_voyage (fun M1 r1 => r = r1 ∧ tp_R (c + 1) N S1 M1) M p0 p1) S p0 p1 := by
  have hT := hR.tick hc
  obtain ⟨d, pn, P, Sh, V, E, A, t, r, G, C, OL, h0⟩ := id hR
  obtain ⟨hsc, hss, har, hpl, hlg, hsh, hpe, hmo, hpr, hsr, hpa, hkn, hst, hpm, hsi, hab, hsm, hvo, hvm, hbi, hlb, hiv, hod, hol, hoi, hfi, hli, had, hro⟩ := id h0
  obtain ⟨s1, s2, s3, s4, s5, s6, s7, s8, s9, b1, b2, b3, b4, b5, b6, b7, b8, b9, e1, e2⟩ := id hsc
  obtain ⟨x1, x2, x3, x4, x5, x6, x7⟩ := id hss
  obtain ⟨y1, y2, y3, y4, y5, y6, y7, y8, y9, y10, y11, y12, y13, y14, y15⟩ := id har
  obtain ⟨w1, w2, w3, w4, w5, w6⟩ := id hpl
  obtain ⟨l1, l2, l3, l4, l5, l6, l7, l8⟩ := id hli
  by_cases h1 : tp_i 0 ((V : Int) - 1) p0
  · obtain ⟨v, vv3, rfl⟩ := tp_i_lt (m := V) h1 (by omega)
    have vc : (nI v).toNatClampNeg = v := nI_clamp (by omega)
    have vv : vp_in (nI v) 99 := vp_in_nI (by omega) (by decide)
    obtain ⟨j1, j2, j3⟩ := tp_get l3 vv3
    obtain ⟨va1, va2, va3, va4, va5, va6, va7, va8, va9, va10, va11, va12, va13, va14, va15⟩ := hvo v vv3
    simp (disch := decide) only [wpX11_voyage, wbX11_voyage_149, wbX11_voyage_165, wpX10_joined, wbX10_joined_29, wpX12_voyage, wbX12_voyage_129, wbX12_voyage_130, wpX12_joins, tp_isFactory, tp_isPlace, tp_isSort, tp_isSheet, tp_isHolder, tp_isPerson, tp_isPaper, tp_isShip, tp_isVoyage, tp_within, tp_in, tp_mPlace, tp_mFactory, tp_mSort, tp_mBuyer, tp_b0, tp_b1, Classical.not_not, tp_nb0, tp_nb1, tp_nb, true_and, Int32.reduceToInt, tp_len l3, tp_ti (show V < 2 ^ 31 by omega), tp_mVoyage s5 (show V < 2 ^ 31 by omega), j2, vc, va5, va10]
    by_cases i0 : p1 = 0
    · subst i0
      have hw : ¬ tp_i 6 9 0 := by unfold tp_i; decide
      repeat' (with_reducible first | refine tp_cT (by first | assumption | decide) ?_ | refine tp_cF (by first | assumption | decide) ?_ | refine tp_dT (by first | assumption | decide) ?_ | refine tp_dF (by first | assumption | decide) ?_ | refine And.intro (by first | assumption | decide) ?_ | refine tp_ae ?_)
      first | exact hT | exact ⟨va4, hT⟩ | (rw [va4]; exact ⟨rfl, hT⟩)
    · skip
      by_cases i1 : p1 = 1
      · subst i1
        have hw : ¬ tp_i 6 9 1 := by unfold tp_i; decide
        repeat' (with_reducible first | refine tp_cT (by first | assumption | decide) ?_ | refine tp_cF (by first | assumption | decide) ?_ | refine tp_dT (by first | assumption | decide) ?_ | refine tp_dF (by first | assumption | decide) ?_ | refine And.intro (by first | assumption | decide) ?_ | refine tp_ae ?_)
        first | exact hT | exact ⟨va5, hT⟩ | (rw [va5]; exact ⟨rfl, hT⟩)
      · skip
        by_cases i2 : p1 = 2
        · subst i2
          have hw : ¬ tp_i 6 9 2 := by unfold tp_i; decide
          repeat' (with_reducible first | refine tp_cT (by first | assumption | decide) ?_ | refine tp_cF (by first | assumption | decide) ?_ | refine tp_dT (by first | assumption | decide) ?_ | refine tp_dF (by first | assumption | decide) ?_ | refine And.intro (by first | assumption | decide) ?_ | refine tp_ae ?_)
          first | exact hT | exact ⟨va6, hT⟩ | (rw [va6]; exact ⟨rfl, hT⟩)
        · skip
          by_cases i3 : p1 = 3
          · subst i3
            have hw : ¬ tp_i 6 9 3 := by unfold tp_i; decide
            repeat' (with_reducible first | refine tp_cT (by first | assumption | decide) ?_ | refine tp_cF (by first | assumption | decide) ?_ | refine tp_dT (by first | assumption | decide) ?_ | refine tp_dF (by first | assumption | decide) ?_ | refine And.intro (by first | assumption | decide) ?_ | refine tp_ae ?_)
            first | exact hT | exact ⟨va7, hT⟩ | (rw [va7]; exact ⟨rfl, hT⟩)
          · skip
            by_cases i4 : p1 = 4
            · subst i4
              have hw : ¬ tp_i 6 9 4 := by unfold tp_i; decide
              repeat' (with_reducible first | refine tp_cT (by first | assumption | decide) ?_ | refine tp_cF (by first | assumption | decide) ?_ | refine tp_dT (by first | assumption | decide) ?_ | refine tp_dF (by first | assumption | decide) ?_ | refine And.intro (by first | assumption | decide) ?_ | refine tp_ae ?_)
              first | exact hT | exact ⟨va8, hT⟩ | (rw [va8]; exact ⟨rfl, hT⟩)
            · skip
              by_cases i5 : p1 = 5
              · subst i5
                have hw : ¬ tp_i 6 9 5 := by unfold tp_i; decide
                rw [va9]
                by_cases q1 : M 137 0 v = 0
                · repeat' (with_reducible first | refine tp_cT (by first | assumption | decide) ?_ | refine tp_cF (by first | assumption | decide) ?_ | refine tp_dT (by first | assumption | decide) ?_ | refine tp_dF (by first | assumption | decide) ?_ | refine And.intro (by first | assumption | decide) ?_ | refine tp_ae ?_)
                  first | exact hT | exact ⟨rfl, hT⟩
                · repeat' (with_reducible first | refine tp_cT (by first | assumption | decide) ?_ | refine tp_cF (by first | assumption | decide) ?_ | refine tp_dT (by first | assumption | decide) ?_ | refine tp_dF (by first | assumption | decide) ?_ | refine And.intro (by first | assumption | decide) ?_ | refine tp_ae ?_)
                  first | exact hT | exact ⟨rfl, hT⟩
              · skip
                by_cases i6 : p1 = 6
                · subst i6
                  have hw : tp_i 6 9 6 := by unfold tp_i; decide
                  have kv : vp_in ((6 : Int32) - 6) 4 := by unfold vp_in; decide
                  have kc : ((6 : Int32) - 6).toNatClampNeg = 0 := by decide
                  repeat' (with_reducible first | refine tp_cT (by first | assumption | decide) ?_ | refine tp_cF (by first | assumption | decide) ?_ | refine tp_dT (by first | assumption | decide) ?_ | refine tp_dF (by first | assumption | decide) ?_ | refine And.intro (by first | assumption | decide) ?_ | refine tp_ae ?_)
                  rw [kc]
                  exact ⟨va13 0 (by decide), hT⟩
                · skip
                  by_cases i7 : p1 = 7
                  · subst i7
                    have hw : tp_i 6 9 7 := by unfold tp_i; decide
                    have kv : vp_in ((7 : Int32) - 6) 4 := by unfold vp_in; decide
                    have kc : ((7 : Int32) - 6).toNatClampNeg = 1 := by decide
                    repeat' (with_reducible first | refine tp_cT (by first | assumption | decide) ?_ | refine tp_cF (by first | assumption | decide) ?_ | refine tp_dT (by first | assumption | decide) ?_ | refine tp_dF (by first | assumption | decide) ?_ | refine And.intro (by first | assumption | decide) ?_ | refine tp_ae ?_)
                    rw [kc]
                    exact ⟨va13 1 (by decide), hT⟩
                  · skip
                    by_cases i8 : p1 = 8
                    · subst i8
                      have hw : tp_i 6 9 8 := by unfold tp_i; decide
                      have kv : vp_in ((8 : Int32) - 6) 4 := by unfold vp_in; decide
                      have kc : ((8 : Int32) - 6).toNatClampNeg = 2 := by decide
                      repeat' (with_reducible first | refine tp_cT (by first | assumption | decide) ?_ | refine tp_cF (by first | assumption | decide) ?_ | refine tp_dT (by first | assumption | decide) ?_ | refine tp_dF (by first | assumption | decide) ?_ | refine And.intro (by first | assumption | decide) ?_ | refine tp_ae ?_)
                      rw [kc]
                      exact ⟨va13 2 (by decide), hT⟩
                    · skip
                      by_cases i9 : p1 = 9
                      · subst i9
                        have hw : tp_i 6 9 9 := by unfold tp_i; decide
                        have kv : vp_in ((9 : Int32) - 6) 4 := by unfold vp_in; decide
                        have kc : ((9 : Int32) - 6).toNatClampNeg = 3 := by decide
                        repeat' (with_reducible first | refine tp_cT (by first | assumption | decide) ?_ | refine tp_cF (by first | assumption | decide) ?_ | refine tp_dT (by first | assumption | decide) ?_ | refine tp_dF (by first | assumption | decide) ?_ | refine And.intro (by first | assumption | decide) ?_ | refine tp_ae ?_)
                        rw [kc]
                        exact ⟨va13 3 (by decide), hT⟩
                      · skip
                        by_cases i10 : p1 = 10
                        · subst i10
                          have hw : ¬ tp_i 6 9 10 := by unfold tp_i; decide
                          repeat' (with_reducible first | refine tp_cT (by first | assumption | decide) ?_ | refine tp_cF (by first | assumption | decide) ?_ | refine tp_dT (by first | assumption | decide) ?_ | refine tp_dF (by first | assumption | decide) ?_ | refine And.intro (by first | assumption | decide) ?_ | refine tp_ae ?_)
                          first | exact hT | exact ⟨va11, hT⟩ | (rw [va11]; exact ⟨rfl, hT⟩)
                        · skip
                          by_cases i11 : p1 = 11
                          · subst i11
                            have hw : ¬ tp_i 6 9 11 := by unfold tp_i; decide
                            by_cases q1 : M 133 0 v = 0
                            · repeat' (with_reducible first | refine tp_cT (by first | assumption | decide) ?_ | refine tp_cF (by first | assumption | decide) ?_ | refine tp_dT (by first | assumption | decide) ?_ | refine tp_dF (by first | assumption | decide) ?_ | refine And.intro (by first | assumption | decide) ?_ | refine tp_ae ?_)
                              first | exact ⟨rfl, hT⟩ | exact hT
                            · have q2 := hvm.1 v vv3
                              obtain ⟨_, e, he, hee⟩ := q2
                              have : e = 0 ∨ e = 1 ∨ e = 2 := by omega
                              rcases this with rfl | rfl | rfl
                              · have q3 : M 138 0 v = 0 := hee
                                have q4 : ¬ M 138 0 v = 1 := fun z => by rw [q3] at z; exact absurd z (by decide)
                                repeat' (with_reducible first | refine tp_cT (by first | assumption | decide) ?_ | refine tp_cF (by first | assumption | decide) ?_ | refine tp_dT (by first | assumption | decide) ?_ | refine tp_dF (by first | assumption | decide) ?_ | refine And.intro (by first | assumption | decide) ?_ | refine tp_ae ?_)
                                first | exact ⟨rfl, hT⟩ | exact hT
                              · have q3 : M 138 0 v = 1 := hee
                                have q4 : ¬ M 138 0 v = 0 := fun z => by rw [q3] at z; exact absurd z (by decide)
                                have q5 : ¬ M 138 0 v = 2 := fun z => by rw [q3] at z; exact absurd z (by decide)
                                have q6 : (∀ q, q < 4 → S 57 (G 22 0 v) q = S 58 (G 22 0 v) q) ↔ (∀ q, q < 4 → M 140 v q = M 139 v q) := ⟨fun z q hq => by rw [← va13 q hq, ← va14 q3 q hq]; exact (z q hq).symm, fun z q hq => by rw [va13 q hq, va14 q3 q hq]; exact (z q hq).symm⟩
                                repeat' (with_reducible first | refine tp_cT (by first | assumption | decide) ?_ | refine tp_cF (by first | assumption | decide) ?_ | refine tp_dT (by first | assumption | decide) ?_ | refine tp_dF (by first | assumption | decide) ?_ | refine And.intro (by first | assumption | decide) ?_ | refine tp_ae ?_)
                                refine tp_joined j3 va1 va2 (fun z => ?_) (fun z => ?_)
                                · repeat' (with_reducible first | refine tp_cT (by first | assumption | decide) ?_ | refine tp_cF (by first | assumption | decide) ?_ | refine tp_dT (by first | assumption | decide) ?_ | refine tp_dF (by first | assumption | decide) ?_ | refine And.intro (by first | assumption | decide) ?_ | refine tp_ae ?_)
                                  exact tp_joins (by omega) (fun _ => ⟨rfl, hT⟩) (fun z2 => absurd (q6.mp z) z2)
                                · repeat' (with_reducible first | refine tp_cT (by first | assumption | decide) ?_ | refine tp_cF (by first | assumption | decide) ?_ | refine tp_dT (by first | assumption | decide) ?_ | refine tp_dF (by first | assumption | decide) ?_ | refine And.intro (by first | assumption | decide) ?_ | refine tp_ae ?_)
                                  exact tp_joins (by omega) (fun z2 => absurd (q6.mpr z2) z) (fun _ => ⟨rfl, hT⟩)
                              · have q3 : M 138 0 v = 2 := hee
                                have q4 : ¬ M 138 0 v = 0 := fun z => by rw [q3] at z; exact absurd z (by decide)
                                have q5 : ¬ M 138 0 v = 1 := fun z => by rw [q3] at z; exact absurd z (by decide)
                                repeat' (with_reducible first | refine tp_cT (by first | assumption | decide) ?_ | refine tp_cF (by first | assumption | decide) ?_ | refine tp_dT (by first | assumption | decide) ?_ | refine tp_dF (by first | assumption | decide) ?_ | refine And.intro (by first | assumption | decide) ?_ | refine tp_ae ?_)
                                first | exact ⟨rfl, hT⟩ | exact hT
                          · skip
                            by_cases i12 : p1 = 12
                            · subst i12
                              have hw : ¬ tp_i 6 9 12 := by unfold tp_i; decide
                              repeat' (with_reducible first | refine tp_cT (by first | assumption | decide) ?_ | refine tp_cF (by first | assumption | decide) ?_ | refine tp_dT (by first | assumption | decide) ?_ | refine tp_dF (by first | assumption | decide) ?_ | refine And.intro (by first | assumption | decide) ?_ | refine tp_ae ?_)
                              first | exact hT | exact ⟨va12, hT⟩ | (rw [va12]; exact ⟨rfl, hT⟩)
                            · skip
                              have hw : ¬ tp_i 6 9 p1 := by
                                intro z
                                obtain ⟨z1, z2⟩ := z
                                obtain ⟨q, q1, q2, q3⟩ := tp_nat (x := p1) (by omega)
                                have q4 : q = 6 ∨ q = 7 ∨ q = 8 ∨ q = 9 := by omega
                                rcases q4 with rfl | rfl | rfl | rfl
                                · exact absurd q2 i6
                                · exact absurd q2 i7
                                · exact absurd q2 i8
                                · exact absurd q2 i9
                              repeat' (with_reducible first | refine tp_cT (by first | assumption | decide) ?_ | refine tp_cF (by first | assumption | decide) ?_ | refine tp_dT (by first | assumption | decide) ?_ | refine tp_dF (by first | assumption | decide) ?_ | refine And.intro (by first | assumption | decide) ?_ | refine tp_ae ?_)
                              first | exact hT | exact ⟨rfl, hT⟩
  · simp (disch := decide) only [wpX11_voyage, wbX11_voyage_149, wbX11_voyage_165, wpX10_joined, wbX10_joined_29, wpX12_voyage, wbX12_voyage_129, wbX12_voyage_130, wpX12_joins, tp_isFactory, tp_isPlace, tp_isSort, tp_isSheet, tp_isHolder, tp_isPerson, tp_isPaper, tp_isShip, tp_isVoyage, tp_within, tp_in, tp_mPlace, tp_mFactory, tp_mSort, tp_mBuyer, tp_b0, tp_b1, Classical.not_not, tp_nb0, tp_nb1, tp_nb, true_and, Int32.reduceToInt, tp_len l3, tp_ti (show V < 2 ^ 31 by omega), tp_mVoyage s5 (show V < 2 ^ 31 by omega)]
    repeat' (with_reducible first | refine tp_cT (by assumption) ?_ | refine tp_cF (by assumption) ?_ | refine tp_dT (by assumption) ?_ | refine tp_dF (by assumption) ?_ | refine And.intro (by assumption) ?_ | refine tp_ae ?_)
    first | exact ⟨rfl, hT⟩ | exact hT
theorem sim_shipOf {c : Nat} {N : tq_Nn} {S M : tq_St} {p0 p1 : Int32} (hR : tp_R c N S M) (hc : c < 512) : wpX11_shipOf N (fun S1 r => wpX12_shipOf (fun M1 r1 => r = r1 ∧ tp_R (c + 1) N S1 M1) M p0 p1) S p0 p1 := by
  have hT := hR.tick hc
  obtain ⟨d, pn, P, Sh, V, E, A, t, r, G, C, OL, h0⟩ := id hR
  obtain ⟨hsc, hss, har, hpl, hlg, hsh, hpe, hmo, hpr, hsr, hpa, hkn, hst, hpm, hsi, hab, hsm, hvo, hvm, hbi, hlb, hiv, hod, hol, hoi, hfi, hli, had, hro⟩ := id h0
  obtain ⟨s1, s2, s3, s4, s5, s6, s7, s8, s9, b1, b2, b3, b4, b5, b6, b7, b8, b9, e1, e2⟩ := id hsc
  obtain ⟨x1, x2, x3, x4, x5, x6, x7⟩ := id hss
  obtain ⟨y1, y2, y3, y4, y5, y6, y7, y8, y9, y10, y11, y12, y13, y14, y15⟩ := id har
  obtain ⟨w1, w2, w3, w4, w5, w6⟩ := id hpl
  obtain ⟨l1, l2, l3, l4, l5, l6, l7, l8⟩ := id hli
  by_cases h1 : tp_i 0 ((Sh : Int) - 1) p0
  · obtain ⟨s, ss3, rfl⟩ := tp_i_lt (m := Sh) h1 (by omega)
    have sc : (nI s).toNatClampNeg = s := nI_clamp (by omega)
    have sv : vp_in (nI s) 8 := vp_in_nI (by omega) (by decide)
    obtain ⟨f1, f2, f3⟩ := tp_get l2 ss3
    obtain ⟨sa1, sa2, sa3, sa4, sa5, sa6, sa7, sa8, sa9, sa10⟩ := hsi s ss3
    obtain ⟨sb1, sb2, sb3⟩ := sa10 (by omega)
    simp (disch := decide) only [wpX11_shipOf, wbX11_shipOf_121, wpX8_freeTons, wbX11_shipOf_139, wbX11_shipOf_158, wpX12_shipOf, wbX12_shipOf_104, wbX12_shipOf_125, wbX12_shipOf_133, tp_isFactory, tp_isPlace, tp_isSort, tp_isSheet, tp_isHolder, tp_isPerson, tp_isPaper, tp_isShip, tp_isVoyage, tp_within, tp_in, tp_mPlace, tp_mFactory, tp_mSort, tp_mBuyer, tp_b0, tp_b1, Classical.not_not, tp_nb0, tp_nb1, tp_nb, true_and, Int32.reduceToInt, tp_len l2, tp_ti (show Sh < 2 ^ 31 by omega), tp_mShip s4 (show Sh < 2 ^ 31 by omega), f2, sc]
    by_cases i0 : p1 = 0
    · subst i0
      have hw : ¬ tp_i 5 8 0 := by unfold tp_i; decide
      repeat' (with_reducible first | refine tp_cT (by first | assumption | decide) ?_ | refine tp_cF (by first | assumption | decide) ?_ | refine tp_dT (by first | assumption | decide) ?_ | refine tp_dF (by first | assumption | decide) ?_ | refine And.intro (by first | assumption | decide) ?_ | refine tp_ae ?_)
      first | exact hT | exact ⟨sa7, hT⟩ | (rw [sa7]; exact ⟨rfl, hT⟩)
    · skip
      by_cases i1 : p1 = 1
      · subst i1
        have hw : ¬ tp_i 5 8 1 := by unfold tp_i; decide
        rw [sa7]
        by_cases q1 : M 124 0 s = -1
        · obtain ⟨v, v1, v2, v3, v4⟩ := (hsm.1 s ss3).2.2.2 q1
          have k1 : vp_in (M 130 0 s) 99 := by rw [v2]; exact vp_in_nI (by omega) (by decide)
          have k2 : (M 130 0 s).toNatClampNeg = v := by rw [v2]; exact nI_clamp (by omega)
          repeat' (with_reducible first | refine tp_cT (by first | assumption | decide) ?_ | refine tp_cF (by first | assumption | decide) ?_ | refine tp_dT (by first | assumption | decide) ?_ | refine tp_dF (by first | assumption | decide) ?_ | refine And.intro (by first | assumption | decide) ?_ | refine tp_ae ?_)
          rw [k2]
          exact ⟨v3, hT⟩
        · repeat' (with_reducible first | refine tp_cT (by first | assumption | decide) ?_ | refine tp_cF (by first | assumption | decide) ?_ | refine tp_dT (by first | assumption | decide) ?_ | refine tp_dF (by first | assumption | decide) ?_ | refine And.intro (by first | assumption | decide) ?_ | refine tp_ae ?_)
          first | exact hT | exact ⟨rfl, hT⟩
      · skip
        by_cases i2 : p1 = 2
        · subst i2
          have hw : ¬ tp_i 5 8 2 := by unfold tp_i; decide
          repeat' (with_reducible first | refine tp_cT (by first | assumption | decide) ?_ | refine tp_cF (by first | assumption | decide) ?_ | refine tp_dT (by first | assumption | decide) ?_ | refine tp_dF (by first | assumption | decide) ?_ | refine And.intro (by first | assumption | decide) ?_ | refine tp_ae ?_)
          refine tp_free (s := s) (by omega) s2 b2 ?_
          exact ⟨tp_freeq (P := P) (d := d) hsi hsm b2 b4 ss3 (by omega), hT⟩
        · skip
          by_cases i3 : p1 = 3
          · subst i3
            have hw : ¬ tp_i 5 8 3 := by unfold tp_i; decide
            rw [sa8]
            by_cases q1 : M 125 0 s = 0
            · repeat' (with_reducible first | refine tp_cT (by first | assumption | decide) ?_ | refine tp_cF (by first | assumption | decide) ?_ | refine tp_dT (by first | assumption | decide) ?_ | refine tp_dF (by first | assumption | decide) ?_ | refine And.intro (by first | assumption | decide) ?_ | refine tp_ae ?_)
              first | exact hT | exact ⟨rfl, hT⟩
            · repeat' (with_reducible first | refine tp_cT (by first | assumption | decide) ?_ | refine tp_cF (by first | assumption | decide) ?_ | refine tp_dT (by first | assumption | decide) ?_ | refine tp_dF (by first | assumption | decide) ?_ | refine And.intro (by first | assumption | decide) ?_ | refine tp_ae ?_)
              first | exact hT | exact ⟨rfl, hT⟩
          · skip
            by_cases i4 : p1 = 4
            · subst i4
              have hw : ¬ tp_i 5 8 4 := by unfold tp_i; decide
              repeat' (with_reducible first | refine tp_cT (by first | assumption | decide) ?_ | refine tp_cF (by first | assumption | decide) ?_ | refine tp_dT (by first | assumption | decide) ?_ | refine tp_dF (by first | assumption | decide) ?_ | refine And.intro (by first | assumption | decide) ?_ | refine tp_ae ?_)
              first | exact hT | exact ⟨sb1, hT⟩ | (rw [sb1]; exact ⟨rfl, hT⟩)
            · skip
              by_cases i5 : p1 = 5
              · subst i5
                have hw : tp_i 5 8 5 := by unfold tp_i; decide
                have kv : vp_in ((5 : Int32) - 5) 4 := by unfold vp_in; decide
                have kc : ((5 : Int32) - 5).toNatClampNeg = 0 := by decide
                repeat' (with_reducible first | refine tp_cT (by first | assumption | decide) ?_ | refine tp_cF (by first | assumption | decide) ?_ | refine tp_dT (by first | assumption | decide) ?_ | refine tp_dF (by first | assumption | decide) ?_ | refine And.intro (by first | assumption | decide) ?_ | refine tp_ae ?_)
                rw [kc]
                exact ⟨sb2 0 (by decide), hT⟩
              · skip
                by_cases i6 : p1 = 6
                · subst i6
                  have hw : tp_i 5 8 6 := by unfold tp_i; decide
                  have kv : vp_in ((6 : Int32) - 5) 4 := by unfold vp_in; decide
                  have kc : ((6 : Int32) - 5).toNatClampNeg = 1 := by decide
                  repeat' (with_reducible first | refine tp_cT (by first | assumption | decide) ?_ | refine tp_cF (by first | assumption | decide) ?_ | refine tp_dT (by first | assumption | decide) ?_ | refine tp_dF (by first | assumption | decide) ?_ | refine And.intro (by first | assumption | decide) ?_ | refine tp_ae ?_)
                  rw [kc]
                  exact ⟨sb2 1 (by decide), hT⟩
                · skip
                  by_cases i7 : p1 = 7
                  · subst i7
                    have hw : tp_i 5 8 7 := by unfold tp_i; decide
                    have kv : vp_in ((7 : Int32) - 5) 4 := by unfold vp_in; decide
                    have kc : ((7 : Int32) - 5).toNatClampNeg = 2 := by decide
                    repeat' (with_reducible first | refine tp_cT (by first | assumption | decide) ?_ | refine tp_cF (by first | assumption | decide) ?_ | refine tp_dT (by first | assumption | decide) ?_ | refine tp_dF (by first | assumption | decide) ?_ | refine And.intro (by first | assumption | decide) ?_ | refine tp_ae ?_)
                    rw [kc]
                    exact ⟨sb2 2 (by decide), hT⟩
                  · skip
                    by_cases i8 : p1 = 8
                    · subst i8
                      have hw : tp_i 5 8 8 := by unfold tp_i; decide
                      have kv : vp_in ((8 : Int32) - 5) 4 := by unfold vp_in; decide
                      have kc : ((8 : Int32) - 5).toNatClampNeg = 3 := by decide
                      repeat' (with_reducible first | refine tp_cT (by first | assumption | decide) ?_ | refine tp_cF (by first | assumption | decide) ?_ | refine tp_dT (by first | assumption | decide) ?_ | refine tp_dF (by first | assumption | decide) ?_ | refine And.intro (by first | assumption | decide) ?_ | refine tp_ae ?_)
                      rw [kc]
                      exact ⟨sb2 3 (by decide), hT⟩
                    · skip
                      by_cases i9 : p1 = 9
                      · subst i9
                        have hw : ¬ tp_i 5 8 9 := by unfold tp_i; decide
                        have k1 : bx_sum (S 56 (G 19 0 s)) 150 = bx_sum (fun n => M 120 n s) P := by
                          rw [tp_sum_cong (g := fun n => M 120 n s) (fun k hk => hab s k ss3 hk)]
                          have := tp_sum_more (f := fun n => M 120 n s) (m := P) (n := 150 - P) (fun k h1 h2 => (hpm.2.2 k h1 (by omega)).2.2 s (by omega))
                          rw [show P + (150 - P) = 150 by omega] at this
                          exact this
                        repeat' (with_reducible first | refine tp_cT (by first | assumption | decide) ?_ | refine tp_cF (by first | assumption | decide) ?_ | refine tp_dT (by first | assumption | decide) ?_ | refine tp_dF (by first | assumption | decide) ?_ | refine And.intro (by first | assumption | decide) ?_ | refine tp_ae ?_)
                        exact tp_aboard (by omega) s3 b3 ⟨k1, hT⟩
                      · skip
                        by_cases i10 : p1 = 10
                        · subst i10
                          have hw : ¬ tp_i 5 8 10 := by unfold tp_i; decide
                          repeat' (with_reducible first | refine tp_cT (by first | assumption | decide) ?_ | refine tp_cF (by first | assumption | decide) ?_ | refine tp_dT (by first | assumption | decide) ?_ | refine tp_dF (by first | assumption | decide) ?_ | refine And.intro (by first | assumption | decide) ?_ | refine tp_ae ?_)
                          first | exact hT | exact ⟨sa9, hT⟩ | (rw [sa9]; exact ⟨rfl, hT⟩)
                        · skip
                          have hw : ¬ tp_i 5 8 p1 := by
                            intro z
                            obtain ⟨z1, z2⟩ := z
                            obtain ⟨q, q1, q2, q3⟩ := tp_nat (x := p1) (by omega)
                            have q4 : q = 5 ∨ q = 6 ∨ q = 7 ∨ q = 8 := by omega
                            rcases q4 with rfl | rfl | rfl | rfl
                            · exact absurd q2 i5
                            · exact absurd q2 i6
                            · exact absurd q2 i7
                            · exact absurd q2 i8
                          repeat' (with_reducible first | refine tp_cT (by first | assumption | decide) ?_ | refine tp_cF (by first | assumption | decide) ?_ | refine tp_dT (by first | assumption | decide) ?_ | refine tp_dF (by first | assumption | decide) ?_ | refine And.intro (by first | assumption | decide) ?_ | refine tp_ae ?_)
                          first | exact hT | exact ⟨rfl, hT⟩
  · simp (disch := decide) only [wpX11_shipOf, wbX11_shipOf_121, wpX8_freeTons, wbX11_shipOf_139, wbX11_shipOf_158, wpX12_shipOf, wbX12_shipOf_104, wbX12_shipOf_125, wbX12_shipOf_133, tp_isFactory, tp_isPlace, tp_isSort, tp_isSheet, tp_isHolder, tp_isPerson, tp_isPaper, tp_isShip, tp_isVoyage, tp_within, tp_in, tp_mPlace, tp_mFactory, tp_mSort, tp_mBuyer, tp_b0, tp_b1, Classical.not_not, tp_nb0, tp_nb1, tp_nb, true_and, Int32.reduceToInt, tp_len l2, tp_ti (show Sh < 2 ^ 31 by omega), tp_mShip s4 (show Sh < 2 ^ 31 by omega)]
    repeat' (with_reducible first | refine tp_cT (by assumption) ?_ | refine tp_cF (by assumption) ?_ | refine tp_dT (by assumption) ?_ | refine tp_dF (by assumption) ?_ | refine And.intro (by assumption) ?_ | refine tp_ae ?_)
    first | exact ⟨rfl, hT⟩ | exact hT
