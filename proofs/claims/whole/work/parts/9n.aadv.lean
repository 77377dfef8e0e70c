/-! pure: what a factory does: advance, the second -/
theorem tp_ad1 {d w A p s num : Nat} {S M X : tq_St} (had : q_ad d w A S M) (hp1 : 1 ≤ p) (hp : p < 5) (hs : s < 4) (hw : p < w) (hn1 : 1 ≤ num) (hn2 : num ≤ 9999) (hd : M 64 0 0 = nI d) (hd2 : d ≤ 2999) (hno : ∀ a, ¬ tp_opn A p s (M 146 0) (M 147 0) (M 150 0) a)
    (F1 : ∀ k, (k < 146 ∨ 150 < k) → X k = tq_up M 64 0 45 (nI ((gK (M 150 0) A).length + 1)) k) (F2 : ∀ k j a, 146 ≤ k → k ≤ 150 → (gK (M 150 0) A)[j]? = some a → X k 0 j = M k 0 a) (F3 : X 146 0 (gK (M 150 0) A).length = nI p ∧ X 147 0 (gK (M 150 0) A).length = nI s ∧ X 148 0 (gK (M 150 0) A).length = nI num ∧ X 149 0 (gK (M 150 0) A).length = M 64 0 0 ∧ X 150 0 (gK (M 150 0) A).length = 0) :
    q_ad d w ((gK (M 150 0) A).length + 1) (tq_up (tq_up (tq_up S 33 p s (nI d)) 34 p s (nI num)) 35 p s (nI num)) X ∧ (gK (M 150 0) A).length + 1 ≤ 17 := by
  obtain ⟨a1, a2, a3⟩ := had
  obtain ⟨f1, f2, f3, f4, f5⟩ := F3
  rw [hd] at f4
  have old : ∀ j, j < (gK (M 150 0) A).length → ∃ a, (gK (M 150 0) A)[j]? = some a ∧ a < A ∧ M 150 0 a < 5 ∧ X 146 0 j = M 146 0 a ∧ X 147 0 j = M 147 0 a ∧ X 148 0 j = M 148 0 a ∧ X 149 0 j = M 149 0 a ∧ X 150 0 j = M 150 0 a := by
    intro j hj
    have e := List.getElem?_eq_getElem hj
    have m := gK_mem.mp (List.getElem_mem hj)
    exact ⟨_, e, m.1, m.2, F2 146 j _ (by decide) (by decide) e, F2 147 j _ (by decide) (by decide) e, F2 148 j _ (by decide) (by decide) e, F2 149 j _ (by decide) (by decide) e, F2 150 j _ (by decide) (by decide) e⟩
  have o1 : ∀ p' s' j, p' < 5 → s' < 4 → tp_opn ((gK (M 150 0) A).length + 1) p' s' (X 146 0) (X 147 0) (X 150 0) j → (j = (gK (M 150 0) A).length ∧ p' = p ∧ s' = s) ∨ ∃ a, (gK (M 150 0) A)[j]? = some a ∧ tp_opn A p' s' (M 146 0) (M 147 0) (M 150 0) a := by
    rintro p' s' j hp' hs' ⟨z1, z2, z3, z4⟩
    by_cases q : j = (gK (M 150 0) A).length
    · subst q
      rw [f1] at z2
      rw [f2] at z3
      exact Or.inl ⟨rfl, ((nI_eq (by omega) (by omega)).mp z2).symm, ((nI_eq (by omega) (by omega)).mp z3).symm⟩
    · obtain ⟨a, b1, b2, b3, b4, b5, b6, b7, b8⟩ := old j (by omega)
      rw [b4] at z2
      rw [b5] at z3
      exact Or.inr ⟨a, b1, b2, z2, z3, b3⟩
  have o2 : ∀ p' s' a, tp_opn A p' s' (M 146 0) (M 147 0) (M 150 0) a → ∃ j, j < (gK (M 150 0) A).length ∧ (gK (M 150 0) A)[j]? = some a ∧ tp_opn ((gK (M 150 0) A).length + 1) p' s' (X 146 0) (X 147 0) (X 150 0) j := by
    rintro p' s' a ⟨z1, z2, z3, z4⟩
    obtain ⟨j, hj⟩ := List.mem_iff_getElem?.mp (gK_mem.mpr ⟨z1, z4⟩)
    have jl : j < (gK (M 150 0) A).length := by
      rw [List.getElem?_eq_some_iff] at hj
      exact hj.1
    refine ⟨j, jl, hj, by omega, ?_, ?_, ?_⟩
    · rw [F2 146 j a (by decide) (by decide) hj]; exact z2
    · rw [F2 147 j a (by decide) (by decide) hj]; exact z3
    · rw [F2 150 j a (by decide) (by decide) hj]; exact z4
  refine ⟨⟨fun a ha => ?_, fun p' s' j j' hp' hs' h1 h2 => ?_, fun p' s' h1 h2 h3 => ?_⟩, ?_⟩
  · by_cases q : a = (gK (M 150 0) A).length
    · subst q
      exact ⟨⟨p, hp1, hp, f1⟩, ⟨s, hs, f2⟩, ⟨num, hn1, hn2, f3⟩, ⟨d, Nat.le_refl _, f4⟩, ⟨0, by decide, f5⟩⟩
    · obtain ⟨e, b1, b2, b3, b4, b5, b6, b7, b8⟩ := old a (by omega)
      rw [b4, b5, b6, b7, b8]
      exact a1 e b2
  · rcases o1 p' s' j hp' hs' h1 with ⟨z1, z2, z3⟩ | ⟨a, z1, z2⟩
    · rcases o1 p' s' j' hp' hs' h2 with ⟨y1, y2, y3⟩ | ⟨b, y1, y2⟩
      · omega
      · rw [z2, z3] at y2
        exact absurd y2 (hno b)
    · rcases o1 p' s' j' hp' hs' h2 with ⟨y1, y2, y3⟩ | ⟨b, y1, y2⟩
      · rw [y2, y3] at z2
        exact absurd z2 (hno a)
      · have := a2 p' s' a b hp' hs' z2 y2
        subst this
        exact gK_inj z1 y1
  · by_cases q : p' = p ∧ s' = s
    · obtain ⟨rfl, rfl⟩ := q
      refine Or.inr ⟨(gK (M 150 0) A).length, num, d, 0, ⟨by omega, f1, f2, by rw [f5]; decide⟩, f3, f4, f5, hn1, hn2, Nat.le_refl _, by decide, ?_, ?_, ?_, fun _ => by rw [Nat.sub_self], fun z => absurd z (by omega)⟩
      · rw [tq_upk (by decide), tq_upk (by decide), tq_upe]
      · rw [tq_upk (by decide), tq_upe]
      · rw [tq_upe, Nat.zero_mul, Nat.sub_zero]
    · have e : ∀ k, k = 33 ∨ k = 34 ∨ k = 35 → tq_up (tq_up (tq_up S 33 p s (nI d)) 34 p s (nI num)) 35 p s (nI num) k p' s' = S k p' s' := by
        intro k hk
        simp only [tq_up]
        rw [if_neg (fun z => q ⟨z.2.1, z.2.2⟩), if_neg (fun z => q ⟨z.2.1, z.2.2⟩), if_neg (fun z => q ⟨z.2.1, z.2.2⟩)]
      rw [e 33 (by decide), e 34 (by decide), e 35 (by decide)]
      rcases a3 p' s' h1 h2 h3 with ⟨z1, z2⟩ | ⟨a, b, oo, t, z1, z2, z3, z4, z5⟩
      · refine Or.inl ⟨z1, fun j hj => ?_⟩
        rcases o1 p' s' j h2 h3 hj with ⟨y1, y2, y3⟩ | ⟨b, y1, y2⟩
        · exact q ⟨y2, y3⟩
        · exact z2 b y2
      · obtain ⟨j, y1, y2, y3⟩ := o2 p' s' a z1
        refine Or.inr ⟨j, b, oo, t, y3, ?_, ?_, ?_, z5⟩
        · rw [F2 148 j a (by decide) (by decide) y2]; exact z2
        · rw [F2 149 j a (by decide) (by decide) y2]; exact z3
        · rw [F2 150 j a (by decide) (by decide) y2]; exact z4
  · have hh := fb_holes 16 (gK (M 150 0) A).length (fun j => 4 * ((X 146 0 j).toNatClampNeg - 1) + (X 147 0 j).toNatClampNeg) (fun j hj => ?_) (fun i j hij hj e => ?_)
    · omega
    · obtain ⟨a, b1, b2, b3, b4, b5, b6, b7, b8⟩ := old j hj
      obtain ⟨⟨u, u1, u2, u3⟩, ⟨v, v1, v2⟩, _⟩ := a1 a b2
      show 4 * ((X 146 0 j).toNatClampNeg - 1) + (X 147 0 j).toNatClampNeg < 16
      rw [b4, b5, u3, v2, nI_clamp (by omega), nI_clamp (by omega)]; omega
    · obtain ⟨a, b1, b2, b3, b4, b5, b6, b7, b8⟩ := old j hj
      obtain ⟨a', c1, c2, c3, c4, c5, c6, c7, c8⟩ := old i (by omega)
      obtain ⟨⟨u, u1, u2, u3⟩, ⟨v, v1, v2⟩, _⟩ := a1 a b2
      obtain ⟨⟨u', x1, x2, x3⟩, ⟨v', y1, y2⟩, _⟩ := a1 a' c2
      have e2 : 4 * ((X 146 0 i).toNatClampNeg - 1) + (X 147 0 i).toNatClampNeg = 4 * ((X 146 0 j).toNatClampNeg - 1) + (X 147 0 j).toNatClampNeg := e
      rw [b4, b5, c4, c5, u3, v2, x3, y2, nI_clamp (by omega), nI_clamp (by omega), nI_clamp (by omega), nI_clamp (by omega)] at e2
      have eu : u' = u := by omega
      have ev : v' = v := by omega
      subst eu
      subst ev
      have := a2 u' v' a a' (by omega) y1 ⟨b2, u3, v2, b3⟩ ⟨c2, x3, y2, c3⟩
      subst this
      have := gK_inj b1 c1
      omega
theorem ac_adv {c w d pn P Sh V E A t r eb : Nat} {G : Nat → Nat → Nat → Nat} {C : Nat → Nat → Nat} {OL : Nat → List Nat} {N : tq_Nn} {S M : tq_St} {post : tq_St → Prop} {p s q x g num kp : Nat} (h0 : RR c 8 w d pn P Sh V E A t r eb G C OL N S M) (hp1 : 1 ≤ p) (hp : p < 5) (hs : s < 4) (hnum : num ≤ 9999) (hkp : kp ≤ 9999) (heb : eb + 1 ≤ 100000000) (hpw : p < w) (hq : N 10 q = 1) (q0 : S 10 q 0 = nI x) (q1 : S 10 q 1 = nI g) (q2 : S 10 q 2 = nI 1) (q3 : S 10 q 3 = nI s) (q4 : S 10 q 4 = nI num) (hk8 : S 2 p 8 = nI kp) (hk74 : M 64 0 74 = nI kp)
    (k : ∀ (S1 M1 : tq_St) (E1 A1 : Nat), RR c 8 w d pn P Sh V E1 A1 t r (eb + 1) G C OL N S1 M1 → aF p P S S1 M M1 → (∀ pm : tq_St → Prop, pm M1 → wpX12_doAdvance pm M (nI p) (nI s) (nI num) (nI x) (nI g)) → post S1) : wpX11_giveAdvance N post S q p := by
  obtain ⟨hsc, hss, har, hpl, hlg, hsh, hpe, hmo, hpr, hsr, hpa, hkn, hst, hpm, hsi, hab, hsm, hvo, hvm, hbi, hlb, hiv, hod, hol, hoi, hfi, hli, had, hro⟩ := id h0
  obtain ⟨s1, s2, s3, s4, s5, s6, s7, s8, s9, b1, b2, b3, b4, b5, b6, b7, b8, b9, e1, e2⟩ := id hsc
  have w1 : S 2 p 0 = nI p := hpl.1 p hp
  have ec : S 2 p 1 = M 101 0 p := hpl.2.1 p hp
  have e31 : S 31 p = M 104 p := hpl.2.2.2.2.2 p hp1 hp
  have e32 : S 32 = M 105 := har.2.2.2.2.2.2.2.1
  have sc : (nI s).toNatClampNeg = s := nI_clamp (by omega)
  have sv : vp_in (nI s) 4 := vp_in_nI hs (by decide)
  have pc : (nI p).toNatClampNeg = p := nI_clamp (by omega)
  have pv : vp_in (nI p) 5 := vp_in_nI hp (by decide)
  obtain ⟨v1, v2⟩ := tp_price h0 hp1 hp hs
  generalize hv0 : M 104 p s + M 105 p s / 5 = v0 at v1 v2
  obtain ⟨v, v3, v4, v5⟩ := tp_nat (x := v0) (by omega)
  have mo := (tp_mo hmo e2 b3).1 p hp
  obtain ⟨cn, c3, c4, c5⟩ := tp_nat (x := M 101 0 p) mo.1
  have hKn : num * v ≤ 9999 * v := Nat.mul_le_mul_right v hnum
  have cost : (((nI num).toInt64 * v0.toInt64) * 9) / 10 = lN (num * v * 9 / 10) := by
    rw [v4, nI_l (by omega), nI_l (by omega), lN_mul, show (9 : Int64) = lN 9 from rfl, lN_mul, show (10 : Int64) = lN 10 from rfl, pk_lDiv (by omega) (by decide) (by decide)]
  generalize hK : num * v * 9 / 10 = K at cost
  have hK2 : K < 2 ^ 63 := by omega
  have tkp : (nI kp).toInt = (kp : Int) := tp_ti (by omega)
  have tcn : (nI cn).toInt = (cn : Int) := tp_ti (by omega)
  have cA : (lg_cmp (lN K) ((nI cn - nI kp).toInt64) ≤ 0) ↔ (K : Int) ≤ (cn : Int) - kp := by
    rw [lg_cmp_le, tp_lle, pk_lT hK2, tp_l64, tp_sub (by omega) (by omega), tkp, tcn]
  have cB : (0 < lg_cmp (lN K) ((nI cn).toInt64 - (nI kp).toInt64)) ↔ ¬ (K : Int) ≤ (cn : Int) - kp := by
    rw [lg_cmp_gt, tp_llt, pk_lT hK2, tp_lsub (by rw [tp_l64, tp_l64]; omega) (by rw [tp_l64, tp_l64]; omega), tp_l64, tp_l64, tkp, tcn]
    omega
  have nop : (∀ pm : tq_St → Prop, pm M → wpX12_doAdvance pm M (nI p) (nI s) (nI num) (nI x) (nI g)) → post S := fun hr => k S M E A (h0.wk (Nat.le_refl _) e2 (by omega) heb) aF.rf hr
  unfold wpX11_giveAdvance wbX11_giveAdvance_61 wpX5_priceOf
  simp only [q3, q4, sc, e31, e32, hv0, ec, hk8, c4, cost]
  refine ⟨hq, hp, hp, sv, ?_⟩
  by_cases hn : num = 0
  · subst hn
    refine tp_dT rfl (nop (fun pm hpm => ?_))
    unfold wpX12_doAdvance wbX12_doAdvance_86 wpX12_priceOf
    exact ⟨pv, sv, tp_dT (by decide) hpm⟩
  · have n0 : ¬ nI num = 0 := nI_ne0 (by omega) (by omega)
    have n1 : ¬ nI num ≤ 0 := nI_ge (a := 0) (by omega) (by omega)
    refine tp_dF n0 ⟨sv, ?_⟩
    rcases had.2.2 p s hp1 hp hs with ⟨z1, z2⟩ | ⟨a, b, oo, tt, z1, z2, z3, z4, z5, z6, z7, z8, z9, z10, z11, z12, z13⟩
    · rw [z1]
      refine tp_dF (by decide) ?_
      by_cases q : (K : Int) ≤ (cn : Int) - kp
      · have li : (lN K).toInt32 = nI K := lN_i K
        rw [li]
        have hKc : K ≤ cn := by omega
        have e3 : nI cn - nI K = nI (cn - K) := pk_sub hKc
        rw [e3]
        have hcoin := RR_coin (c' := c) (p := p) (v := nI (cn - K)) h0 hp (by rw [tp_ti (by omega)]; omega) (by rw [tp_ti (by omega), c5]; omega) (Nat.le_refl _) e2
        have hadc := hcoin.2.2.2.2.2.2.2.2.2.2.2.2.2.2.2.2.2.2.2.2.2.2.2.2.2.2.2.1
        have g45 : tq_up M 101 0 p (nI (cn - K)) 64 0 45 = nI A := by rw [tq_upk (by decide)]; exact s7
        have hh : wpX12_give (fun M1 => (∀ k, (k < 146 ∨ 150 < k) → M1 k = tq_up (tq_up M 101 0 p (nI (cn - K))) 64 0 45 (nI ((gK (tq_up M 101 0 p (nI (cn - K)) 150 0) A).length + 1)) k) ∧ (∀ k j a, 146 ≤ k → k ≤ 150 → (gK (tq_up M 101 0 p (nI (cn - K)) 150 0) A)[j]? = some a → M1 k 0 j = tq_up M 101 0 p (nI (cn - K)) k 0 a) ∧ (M1 146 0 (gK (tq_up M 101 0 p (nI (cn - K)) 150 0) A).length = nI p ∧ M1 147 0 (gK (tq_up M 101 0 p (nI (cn - K)) 150 0) A).length = nI s ∧ M1 148 0 (gK (tq_up M 101 0 p (nI (cn - K)) 150 0) A).length = nI num ∧ M1 149 0 (gK (tq_up M 101 0 p (nI (cn - K)) 150 0) A).length = tq_up M 101 0 p (nI (cn - K)) 64 0 0 ∧ M1 150 0 (gK (tq_up M 101 0 p (nI (cn - K)) 150 0) A).length = 0)) (tq_up M 101 0 p (nI (cn - K))) (nI p) (nI s) (nI num) :=
          ⟨A + 1, tp_giveM g45 b8 (fun M1 f1 f2 f3 => ⟨f1, f2, f3⟩) A 0 _ (by omega) (fun _ _ => rfl) (fun _ _ _ _ _ z => by simp [gK] at z) (fun _ _ _ _ _ => rfl)⟩
        obtain ⟨M1, ⟨F1, F2, F3⟩, kk⟩ := dt_pX12_give _ hh
        clear hh
        obtain ⟨had1, hA1⟩ := tp_ad1 hadc hp1 hp hs hpw (by omega) hnum (by rw [tq_upk (by decide)]; exact s1) b1 (fun a => by simp only [tq_upk, ne_eq, Nat.reduceEqDiff, not_false_eq_true]; exact z2 a) F1 F2 F3
        have eo := ov_eq F1
        have h2 := RR_advs (X := M1) (p := p) (s := s) (u1 := nI d) (u2 := nI num) (u3 := nI num) hcoin hA1 (by rw [eo]; exact had1)
        rw [eo] at h2
        obtain ⟨S6, M6, g1, g2, g3, g4, g5, g6, g7⟩ := tp_enter (v2 := 1) (v3 := nI s) (v4 := nI num) (v5 := nI K) (v6 := nI x) (v7 := nI g) h2 hp1 (by omega) heb
        refine tp_dT (cA.mpr q) (tp_ae (tp_ae (tp_ae (tp_ae ?_))))
        have ed : tq_up S 2 p 1 (nI (cn - K)) 1 0 0 = nI d := by rw [tq_upk (by decide)]; exact hss.1.trans s1
        rw [ed]
        unfold wpX11_enterFor
        have k10 : tq_up (tq_up (tq_up (tq_up S 2 p 1 (nI (cn - K))) 33 p s (nI d)) 34 p s (nI num)) 35 p s (nI num) 10 = S 10 := by simp (disch := decide) only [tq_upk]
        have k20 : tq_up (tq_up (tq_up (tq_up S 2 p 1 (nI (cn - K))) 33 p s (nI d)) 34 p s (nI num)) 35 p s (nI num) 2 p 0 = nI p := by
          simp (disch := decide) only [tq_upk, tq_upj]; exact w1
        rw [k10, k20, q0, q1, q2, q3]
        have x1 : ∀ k, (k < 146 ∨ 150 < k) → k ≠ 64 → k ≠ 101 → M1 k = M k := fun k z1 z2 z3 => by rw [F1 k z1, tq_upk z2, tq_upk z3]
        refine ⟨hp, hq, g6 _ (k S6 M6 _ _ g1 ⟨?_, ?_, ?_, fun n _ => ⟨?_, ?_⟩⟩ (fun pm hpm => ?_))⟩
        · rw [g2 2 (by decide) (by decide)]; simp (disch := decide) only [tq_upk, tq_upj]
        · rw [g4 74 (by decide), F1 64 (by decide), tq_upj (by decide), tq_upk (by decide)]
        · rw [g3 172 (by decide) (by decide), x1 172 (by decide) (by decide) (by decide)]
        · rw [g3 117 (by decide) (by decide), x1 117 (by decide) (by decide) (by decide)]
        · rw [g3 118 (by decide) (by decide), x1 118 (by decide) (by decide) (by decide)]
        · unfold wpX12_doAdvance wbX12_doAdvance_86 wpX12_priceOf
          simp only [pc, sc, hv0, cost]
          refine ⟨pv, sv, tp_dF n1 ⟨A + 1, tp_anyM s7 b8 ?_ A 0 (by omega) (fun a ha => absurd ha (by omega))⟩⟩
          rw [tp_bf (fun ⟨a, ha⟩ => z2 a ha), c4, hk74, li, e3]
          exact tp_cT rfl ⟨pv, tp_dF (fun z => cB.mp z q) (tp_ae (kk _ (g7 _ hpm)))⟩
      · refine tp_dF (fun z => q (cA.mp z)) (nop (fun pm hpm => ?_))
        unfold wpX12_doAdvance wbX12_doAdvance_86 wpX12_priceOf
        simp only [pc, sc, hv0, cost]
        refine ⟨pv, sv, tp_dF n1 ⟨A + 1, tp_anyM s7 b8 ?_ A 0 (by omega) (fun a ha => absurd ha (by omega))⟩⟩
        rw [tp_bf (fun ⟨a, ha⟩ => z2 a ha), c4, hk74]
        exact tp_cT rfl ⟨pv, tp_dT (cB.mpr q) hpm⟩
    · have zb : 1 ≤ b - tt * (b / 5) ∧ b - tt * (b / 5) ≤ 9999 := by
        have : tt * (b / 5) ≤ 4 * (b / 5) := Nat.mul_le_mul_right _ (by omega)
        omega
      rw [z11]
      refine tp_dT (nI_lt (a := 0) (by omega) (by omega)) (nop (fun pm hpm => ?_))
      unfold wpX12_doAdvance wbX12_doAdvance_86 wpX12_priceOf
      simp only [pc, sc, hv0, cost]
      refine ⟨pv, sv, tp_dF n1 ⟨A + 1, tp_anyM s7 b8 ?_ A 0 (by omega) (fun a ha => absurd ha (by omega))⟩⟩
      rw [tp_bt ⟨a, z1⟩]
      exact tp_cF (by decide) hpm
