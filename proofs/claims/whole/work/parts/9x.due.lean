/-! pure: bills fall due -/
theorem BL_pre {K : Nat → Int32} {n : Nat} : ∀ m : Nat, ∃ l, tp_BL (n + m) K = tp_BL n K ++ l
  | 0 => ⟨[], by rw [List.append_nil]; rfl⟩
  | m + 1 => by
    obtain ⟨l, hl⟩ := BL_pre (K := K) (n := n) m
    exact ⟨l ++ (if K (n + m) = 5 then [n + m] else []), by rw [← Nat.add_assoc, tp_BL_succ, hl, List.append_assoc]⟩
theorem BL_at {K : Nat → Int32} {n P : Nat} (hn : n < P) (hk : K n = 5) : (tp_BL P K)[(tp_BL n K).length]? = some n ∧ (tp_BL n K).length < (tp_BL P K).length := by
  obtain ⟨l, hl⟩ := BL_pre (K := K) (n := n + 1) (P - (n + 1))
  rw [show n + 1 + (P - (n + 1)) = P by omega, tp_BL_succ, if_pos hk, List.append_assoc] at hl
  rw [hl]
  refine ⟨?_, by simp⟩
  rw [List.getElem?_append_right (Nat.le_refl _), Nat.sub_self]
  rfl
theorem bl_loop {c w d pn P Sh V E A t r eb : Nat} {G : Nat → Nat → Nat → Nat} {C : Nat → Nat → Nat} {OL : Nat → List Nat} {N : tq_Nn} {post : tq_Nn → tq_St → Prop} : ∀ (m n : Nat) (S M : tq_St), n + m = P → RR c 8 w d pn P Sh V E A t r eb G C OL N S M →
    (∀ S1 M1 : tq_St, RR c 8 w d pn P Sh V E A t r eb G C OL N S1 M1 → (∀ pm : tq_St → Prop, pm M1 → wbX12_billsFallDue_2 pm (m + 1) M (nI n)) → ∃ nq, wbX11_comeDay_147 post nq N S1 1) → ∃ nq, wbX11_comeDay_92 post nq N S (nI (tp_BL n (M 110 0)).length)
  | 0, n, S, M, hn, h0, k => by
    have hn2 : n = P := by omega
    subst hn2
    have l4 := h0.2.2.2.2.2.2.2.2.2.2.2.2.2.2.2.2.2.2.2.2.2.2.2.2.2.2.1.2.2.2.1
    have s3 := h0.1.2.2.1
    have b3 := h0.1.2.2.2.2.2.2.2.2.2.2.2.1
    have blen : (tp_BL n (M 110 0)).length ≤ n := by
      unfold tp_BL
      have := List.length_filter_le (fun n => decide (M 110 0 n = 5)) (List.range n)
      rw [List.length_range] at this
      exact this
    refine ⟨1, ?_⟩
    unfold wbX11_comeDay_92
    rw [tp_len l4]
    refine tp_dT (nI_le (Nat.le_refl _) (by omega)) (k S M h0 (fun pm hpm => ?_))
    unfold wbX12_billsFallDue_2
    rw [s3]
    exact tp_dT (nI_le (Nat.le_refl _) (by omega)) hpm
  | m + 1, n, S, M, hn, h0, k => by
    obtain ⟨hsc, hss, har, hpl, hlg, hsh, hpe, hmo, hpr, hsr, hpa, hkn, hst, hpm, hsi, hab, hsm, hvo, hvm, hbi, hlb, hiv, hod, hol, hoi, hfi, hli, had, hro⟩ := id h0
    obtain ⟨s1, s2, s3, s4, s5, s6, s7, s8, s9, b1, b2, b3, b4, b5, b6, b7, b8, b9, e1, e2⟩ := id hsc
    have l4 := hli.2.2.2.1
    have nc : (nI n).toNatClampNeg = n := nI_clamp (by omega)
    have nv : vp_in (nI n) 150 := vp_in_nI (by omega) (by decide)
    have blen : (tp_BL P (M 110 0)).length ≤ P := by
      unfold tp_BL
      have := List.length_filter_le (fun n => decide (M 110 0 n = 5)) (List.range P)
      rw [List.length_range] at this
      exact this
    by_cases hk : M 110 0 n = 5
    · obtain ⟨ba, bb⟩ := BL_at (P := P) (show n < P by omega) hk
      have eb1 : (tp_BL (n + 1) (M 110 0)).length = (tp_BL n (M 110 0)).length + 1 := by rw [tp_BL_succ, if_pos hk]; simp
      obtain ⟨f1, f2, f3⟩ := tp_get l4 bb
      have gG := hbi _ n ba
      rw [gG] at f2 f3
      obtain ⟨pa1, pa2, pa3, pa4, pa5, pa6, pa7, pa8, pa9, pa10, pa11, pa12⟩ := hpa n (by omega)
      obtain ⟨c1, c2, c3⟩ := pa12 hk
      have n13 := pa11.mp hk
      have x1 := hss.1
      obtain ⟨_, _, _, ⟨wd, wd1, wd2⟩, _, _, pn7⟩ := hpm.1 n (by omega)
      obtain ⟨⟨am, am1, am2⟩, _⟩ := pn7 hk
      have am8 : S 7 (G 15 0 n) 8 = nI am := by rw [pa10, if_neg (by rw [hk]; decide), if_pos (Or.inr hk)]; exact am2
      -- the next step, in both
      have next : ∀ S2 M2 : tq_St, RR c 8 w d pn P Sh V E A t r eb G C OL N S2 M2 → M2 110 = M 110 → (∀ pm : tq_St → Prop, wbX12_billsFallDue_2 pm (m + 1) M2 (nI (n + 1)) → wbX12_billsFallDue_2 pm (m + 1 + 1) M (nI n)) → ∃ nq, wbX11_comeDay_92 post nq N S2 (nI ((tp_BL n (M 110 0)).length + 1)) := fun S2 M2 h2 e110 hr => by
        have := bl_loop m (n + 1) S2 M2 (by omega) h2 (fun S3 M3 h3 kk => k S3 M3 h3 (fun pm hpm => hr pm (kk pm hpm)))
        rw [e110, eb1] at this
        exact this
      have skip : (¬ (M 116 n 1 = 1 ∧ M 116 n 2 - 1 = M 64 0 0)) → ∃ nq, wbX11_comeDay_92 post nq N S (nI ((tp_BL n (M 110 0)).length + 1)) := fun z => next S M h0 rfl (fun pm hpm => by
        unfold wbX12_billsFallDue_2 wbX12_billsFallDue_117
        rw [s3, nc, nI_1]
        refine tp_dF (nI_ge (by omega) (by omega)) ⟨nv, tp_cT hk ?_⟩
        by_cases z1 : M 116 n 1 = 1
        · exact tp_cT z1 (tp_dF (fun w => z ⟨z1, w⟩) hpm)
        · exact tp_cF z1 hpm)
      have head : ∀ {nq : Nat}, (((¬ M 116 n 1 = 1 → wbX11_comeDay_139 post (wbX11_comeDay_92 post nq) N S (nI (tp_BL n (M 110 0)).length)) ∧ (M 116 n 1 = 1 → ((¬ M 116 n 2 - 1 = M 64 0 0 → wbX11_comeDay_139 post (wbX11_comeDay_92 post nq) N S (nI (tp_BL n (M 110 0)).length)) ∧ (M 116 n 2 - 1 = M 64 0 0 → wpX11_fallDue N (fun S30 => wbX11_comeDay_139 post (wbX11_comeDay_92 post nq) N S30 (nI (tp_BL n (M 110 0)).length)) S (G 15 0 n)))))) → wbX11_comeDay_92 post (nq + 1) N S (nI (tp_BL n (M 110 0)).length) := fun {nq} hh => by
        unfold wbX11_comeDay_92
        rw [tp_len l4, f2, c1, c2, x1]
        exact tp_dF (nI_ge bb (by omega)) ⟨f1, f3, n13, hh⟩
      by_cases z1 : M 116 n 1 = 1
      · by_cases z2 : M 116 n 2 - 1 = M 64 0 0
        · -- due
          obtain ⟨i1, i2, _⟩ := tp_int (a := am) (d := d) (x := wd) am1 wd1 b1
          have hq : am * ((d - wd) / 30) ≤ 9999 * 99 := Nat.mul_le_mul am1 (by omega)
          generalize hX : am + am * ((d - wd) / 30) / 100 = X
          have hX2 : X ≤ 20000 := by omega
          have cls : ∀ {nq : Nat}, ((nI X ≤ M 101 0 0 → wbX11_comeDay_92 post nq N (tq_up (tq_up (tq_up S 7 (G 15 0 n) 10 2) 7 (G 15 0 n) 12 (nI X)) 2 0 1 (M 101 0 0 - nI X)) (nI ((tp_BL n (M 110 0)).length + 1))) ∧ (¬ nI X ≤ M 101 0 0 → wbX11_comeDay_92 post nq N (tq_up (tq_up (tq_up S 7 (G 15 0 n) 10 2) 7 (G 15 0 n) 12 (nI X)) 7 (G 15 0 n) 10 3) (nI ((tp_BL n (M 110 0)).length + 1)))) → wbX11_comeDay_92 post (nq + 1) N S (nI (tp_BL n (M 110 0)).length) := fun {nq} hh => by
            refine head (tp_cT z1 (tp_cT z2 ?_))
            unfold wpX11_fallDue wpX1_settle wbX11_fallDue_48 wbX11_comeDay_139
            have j13 : tq_up S 7 (G 15 0 n) 10 2 7 (G 15 0 n) 13 = S 7 (G 15 0 n) 13 := by rw [tq_upj (by decide)]
            have j8 : tq_up S 7 (G 15 0 n) 10 2 7 (G 15 0 n) 8 = nI am := by rw [tq_upj (by decide)]; exact am8
            refine ⟨f3, n13, f3, n13, tp_ae ⟨by rw [j13]; exact n13, tp_ae ?_⟩⟩
            have ex : nI am + nI am * ((S 1 0 0 - S 7 (G 15 0 n) 4) / 30) / 100 = nI X := by
              rw [x1, s1, pa8, wd2, i1, nI_add, hX]
            rw [j8, ex]
            have t12 : tq_up (tq_up S 7 (G 15 0 n) 10 2) 7 (G 15 0 n) 12 (nI X) 7 (G 15 0 n) 12 = nI X := tq_upe
            have t13 : tq_up (tq_up S 7 (G 15 0 n) 10 2) 7 (G 15 0 n) 12 (nI X) 7 (G 15 0 n) 13 = S 7 (G 15 0 n) 13 := by rw [tq_upj (by decide), tq_upj (by decide)]
            have t2 : tq_up (tq_up S 7 (G 15 0 n) 10 2) 7 (G 15 0 n) 12 (nI X) 2 0 1 = M 101 0 0 := by rw [tq_upk (by decide), tq_upk (by decide)]; exact hpl.2.1 0 (by decide)
            rw [t12, t13, t2, nI_1]
            refine ⟨n13, ?_⟩
            by_cases y : nI X ≤ M 101 0 0
            · exact tp_dT y (tp_ae (hh.1 y))
            · exact tp_dF y (tp_ae (hh.2 y))
          have ref : ∀ pm : tq_St → Prop, ((M 101 0 0 < nI X → wbX12_billsFallDue_2 pm (m + 1) (tq_up (tq_up M 116 n 3 (nI X)) 116 n 1 3) (nI (n + 1))) ∧ (¬ M 101 0 0 < nI X → wbX12_billsFallDue_2 pm (m + 1) (tq_up (tq_up (tq_up M 116 n 3 (nI X)) 101 0 0 (M 101 0 0 - nI X)) 116 n 1 2) (nI (n + 1)))) → wbX12_billsFallDue_2 pm (m + 1 + 1) M (nI n) := fun pm hpm => by
            unfold wbX12_billsFallDue_2 wbX12_billsFallDue_117 wpX12_interest
            have ex : nI am + (((nI am).toInt64 * ((nI d - nI wd) / 30).toInt64) / 100).toInt32 = nI X := by rw [i2, nI_add, hX]
            rw [s3, nc, nI_1, am2, s1, wd2]
            simp only [ex]
            rw [s1] at z2
            refine tp_dF (nI_ge (by omega) (by omega)) ⟨nv, tp_cT hk (tp_cT z1 (tp_dT z2 ⟨nv, tp_ae ?_⟩))⟩
            rw [tq_upk (show 101 ≠ 116 by decide)]
            by_cases y : M 101 0 0 < nI X
            · exact tp_dT y (tp_ae (hpm.1 y))
            · exact tp_dF y (tp_ae (tp_ae (hpm.2 y)))
          have mo := (tp_mo hmo e2 b3).1 0 (by decide)
          have tX : (nI X).toInt = (X : Int) := tp_ti (by omega)
          by_cases y : nI X ≤ M 101 0 0
          · have y2 : ¬ M 101 0 0 < nI X := by rw [tp_lt]; rw [tp_le] at y; omega
            have tz : (M 101 0 0 - nI X).toInt = (M 101 0 0).toInt - X := by rw [tp_sub (by omega) (by omega), tX]
            have ha := RR_settle (x := nI X) h0 (show n < P by omega) hk (Nat.le_refl 2) (by decide)
            have hb := RR_coin (c' := c) (p := 0) (v := M 101 0 0 - nI X) ha (by decide) (by rw [tp_le] at y; omega) (by simp (disch := decide) only [tq_upk]; rw [tp_le] at y; omega) (Nat.le_refl _) e2
            have eM : tq_up (tq_up (tq_up M 116 n 1 (nI 2)) 116 n 3 (nI X)) 101 0 0 (M 101 0 0 - nI X) = tq_up (tq_up (tq_up M 116 n 3 (nI X)) 101 0 0 (M 101 0 0 - nI X)) 116 n 1 2 := by
              rw [tq_up_cj (k := 101) (k2 := 116) (fun w => absurd w.1 (by decide)), tq_up_cj (S := M) (j := 3) (j2 := 1) (fun w => absurd w.2.2 (by decide))]; rfl
            obtain ⟨nq, hq2⟩ := next _ _ hb (by simp (disch := decide) only [tq_upk]) (fun pm hpm => ref pm (tp_dF y2 (by rw [← eM]; exact hpm)))
            exact ⟨nq + 1, cls (tp_dT y hq2)⟩
          · have y2 : M 101 0 0 < nI X := by rw [tp_lt]; rw [tp_le] at y; omega
            have ha := RR_settle (x := nI X) h0 (show n < P by omega) hk (show 2 ≤ 3 by decide) (Nat.le_refl 3)
            have eM : tq_up (tq_up M 116 n 1 (nI 3)) 116 n 3 (nI X) = tq_up (tq_up M 116 n 3 (nI X)) 116 n 1 3 := by
              rw [tq_up_cj (j := 1) (j2 := 3) (fun w => absurd w.2.2 (by decide))]; rfl
            have eS : tq_up (tq_up S 7 (G 15 0 n) 10 (nI 3)) 7 (G 15 0 n) 12 (nI X) = tq_up (tq_up (tq_up S 7 (G 15 0 n) 10 2) 7 (G 15 0 n) 12 (nI X)) 7 (G 15 0 n) 10 3 := by
              rw [tq_up_cj (j := 12) (j2 := 10) (fun w => absurd w.2.2 (by decide)), tq_up_ow]; rfl
            obtain ⟨nq, hq2⟩ := next _ _ ha (by simp (disch := decide) only [tq_upk]) (fun pm hpm => ref pm (tp_dT y2 (by rw [← eM]; exact hpm)))
            rw [eS] at hq2
            exact ⟨nq + 1, cls (tp_dF y hq2)⟩
        · obtain ⟨nq, hq⟩ := skip (fun z => z2 z.2)
          refine ⟨nq + 1, head (tp_cT z1 (tp_cF z2 ?_))⟩
          unfold wbX11_comeDay_139
          rw [nI_1]; exact hq
      · obtain ⟨nq, hq⟩ := skip (fun z => z1 z.1)
        refine ⟨nq + 1, head (tp_cF z1 ?_)⟩
        unfold wbX11_comeDay_139
        rw [nI_1]; exact hq
    · have e1' : tp_BL (n + 1) (M 110 0) = tp_BL n (M 110 0) := by rw [tp_BL_succ, if_neg hk, List.append_nil]
      have := bl_loop m (n + 1) S M (by omega) h0 (fun S1 M1 h1 kk => k S1 M1 h1 (fun pm hpm => by
        unfold wbX12_billsFallDue_2 wbX12_billsFallDue_117
        rw [s3, nc, nI_1]
        exact tp_dF (nI_ge (by omega) (by omega)) ⟨nv, tp_cF hk (kk pm hpm)⟩))
      rw [e1'] at this
      exact this
