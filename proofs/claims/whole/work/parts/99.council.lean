/-! pure: council -/
theorem bm_up {M : tq_St} {X1 X2 X3 : Nat → Nat → Int32} {v x : Int32} {k i j : Nat} (h1 : k ≠ 101) (h2 : k ≠ 102) (h3 : k ≠ 105) (h4 : k ≠ 64 ∨ j ≠ 73) : bm (tq_up M k i j x) X1 X2 X3 v = tq_up (bm M X1 X2 X3 v) k i j x := by
  funext a b c
  unfold bm
  by_cases q1 : a = 101
  · rw [if_pos q1, tq_upk (by omega), if_pos q1]
  · rw [if_neg q1]
    by_cases q2 : a = 102
    · rw [if_pos q2, tq_upk (by omega), if_neg q1, if_pos q2]
    · rw [if_neg q2]
      by_cases q3 : a = 105
      · rw [if_pos q3, tq_upk (by omega), if_neg q1, if_neg q2, if_pos q3]
      · rw [if_neg q3]
        simp only [tq_up]
        by_cases r1 : a = k
        · subst r1
          by_cases r2 : b = i
          · subst r2
            by_cases r3 : c = j
            · subst r3
              by_cases r4 : a = 64 ∧ b = 0 ∧ c = 73
              · omega
              · simp [r4]
            · simp [r3, q1, q2, q3]; rfl
          · simp [r2, q1, q2, q3]; rfl
        · simp [r1, q1, q2, q3]; rfl
theorem bm_cp {M : tq_St} {X1 X2 X3 : Nat → Nat → Int32} {v : Int32} {k i : Nat} {f : Nat → Int32} (h1 : k ≠ 101) (h2 : k ≠ 102) (h3 : k ≠ 105) (h4 : k ≠ 64) : bm (tq_cp M k i f) X1 X2 X3 v = tq_cp (bm M X1 X2 X3 v) k i f := by
  funext a b c
  unfold bm
  by_cases q1 : a = 101
  · rw [if_pos q1, tq_cpk (by omega), if_pos q1]
  · rw [if_neg q1]
    by_cases q2 : a = 102
    · rw [if_pos q2, tq_cpk (by omega), if_neg q1, if_pos q2]
    · rw [if_neg q2]
      by_cases q3 : a = 105
      · rw [if_pos q3, tq_cpk (by omega), if_neg q1, if_neg q2, if_pos q3]
      · rw [if_neg q3]
        by_cases r1 : a = k
        · subst r1
          rw [tq_upk h4]
          simp [tq_cp, q1, q2, q3, tq_upk h4]
        · rw [tq_cpk r1, if_neg q1, if_neg q2, if_neg q3]
          by_cases r : a = 64
          · subst r
            simp only [tq_up, tq_cp]
            simp [r1]
          · rw [tq_upk r, tq_upk r, tq_cpk r1]
theorem bm_wr {M : tq_St} {X1 X2 X3 : Nat → Nat → Int32} {v : Int32} {P a : Nat} {k to : Int32} : bm (tp_wr M P k a to) X1 X2 X3 v = tp_wr (bm M X1 X2 X3 v) P k a to := by
  have e0 : bm M X1 X2 X3 v 64 0 0 = M 64 0 0 := by
    unfold bm
    rw [if_neg (by decide), if_neg (by decide), if_neg (by decide), tq_upj (by decide)]
  have e1 : bm M X1 X2 X3 v 115 = M 115 := by
    unfold bm
    rw [if_neg (by decide), if_neg (by decide), if_neg (by decide), tq_upk (by decide)]
  unfold tp_wr
  rw [e0, e1, bm_cp (by decide) (by decide) (by decide) (by decide), bm_up (by decide) (by decide) (by decide) (by omega), bm_up (by decide) (by decide) (by decide) (by omega), bm_up (by decide) (by decide) (by decide) (by omega), bm_up (by decide) (by decide) (by decide) (by omega), bm_up (by decide) (by decide) (by decide) (by omega)]
theorem bi_dist {x y m : Int32} (h : (x ||| y) &&& m = 0) : x &&& m = 0 ∧ y &&& m = 0 := by
  have hb : (x.toBitVec ||| y.toBitVec) &&& m.toBitVec = 0#32 := congrArg Int32.toBitVec h
  constructor
  · apply Int32.toBitVec_inj.mp
    show x.toBitVec &&& m.toBitVec = 0#32
    apply BitVec.eq_of_getLsbD_eq
    intro i hi
    have := congrArg (fun b => BitVec.getLsbD b i) hb
    simp only [BitVec.getLsbD_and, BitVec.getLsbD_or, BitVec.getLsbD_zero] at this ⊢
    revert this
    cases x.toBitVec.getLsbD i <;> cases y.toBitVec.getLsbD i <;> cases m.toBitVec.getLsbD i <;> decide
  · apply Int32.toBitVec_inj.mp
    show y.toBitVec &&& m.toBitVec = 0#32
    apply BitVec.eq_of_getLsbD_eq
    intro i hi
    have := congrArg (fun b => BitVec.getLsbD b i) hb
    simp only [BitVec.getLsbD_and, BitVec.getLsbD_or, BitVec.getLsbD_zero] at this ⊢
    revert this
    cases x.toBitVec.getLsbD i <;> cases y.toBitVec.getLsbD i <;> cases m.toBitVec.getLsbD i <;> decide
theorem bm_64 {M : tq_St} {X1 X2 X3 : Nat → Nat → Int32} {v : Int32} {j : Nat} (h : j ≠ 73) : bm M X1 X2 X3 v 64 0 j = M 64 0 j := by
  unfold bm
  rw [if_neg (by decide), if_neg (by decide), if_neg (by decide), tq_upj h]
theorem bm_73 {M : tq_St} {X1 X2 X3 : Nat → Nat → Int32} {v : Int32} : bm M X1 X2 X3 v 64 0 73 = v := by
  unfold bm
  rw [if_neg (by decide), if_neg (by decide), if_neg (by decide), tq_upe]
theorem bm_up73 {M : tq_St} {X1 X2 X3 : Nat → Nat → Int32} {v x : Int32} : bm (tq_up M 64 0 73 x) X1 X2 X3 v = bm M X1 X2 X3 v := by
  refine bm_off (fun k _ _ _ h => tq_upk h) (fun i j h => ?_)
  by_cases e : i = 0
  · subst e
    rw [tq_upj (h.resolve_left (fun z => z rfl))]
  · rw [tq_upi e]
/-- how many bits below n are set -/
def tp_bn (x : Int32) : Nat → Nat
  | 0 => 0
  | n + 1 => tp_bn x n + (if tp_bit x n = 1 then 1 else 0)
theorem tp_bn_c (x : Int32) : ∀ n : Nat, tp_cnt (fun i => tp_bit x i = 1) n = nI (tp_bn x n)
  | 0 => rfl
  | n + 1 => by
    simp only [tp_cnt, tp_bn]
    rw [tp_bn_c x n]
    by_cases h : tp_bit x n = 1
    · rw [tp_bt h, if_pos h, nI_1]
    · rw [tp_bf h, if_neg h, Int32.add_zero]; rfl
theorem tp_bn_le (x : Int32) : ∀ n : Nat, tp_bn x n ≤ n
  | 0 => Nat.le_refl _
  | n + 1 => by
    simp only [tp_bn]
    have := tp_bn_le x n
    by_cases h : tp_bit x n = 1
    · rw [if_pos h]; omega
    · rw [if_neg h]; omega
theorem tp_bn_hi {x : Int32} {k : Nat} : ∀ {m : Nat}, (∀ i, k ≤ i → i < k + m → ¬ tp_bit x i = 1) → tp_bn x (k + m) = tp_bn x k
  | 0, _ => rfl
  | m + 1, h => by
    rw [← Nat.add_assoc]
    simp only [tp_bn]
    rw [tp_bn_hi (m := m) (fun i h1 h2 => h i h1 (by omega)), if_neg (h _ (by omega) (by omega))]; rfl
theorem tp_bcn {b pn : Nat} (hpn : pn ≤ 20) (hb : b < 2 ^ pn) : tq_bc (nI b) = nI (tp_bn (nI b) pn) := by
  have pw : 2 ^ pn ≤ 2 ^ 20 := Nat.pow_le_pow_right (by decide) hpn
  rw [tp_bits (by omega), tp_bn_c]
  have e : pn + (20 - pn) = 20 := by omega
  have := tp_bn_hi (x := nI b) (k := pn) (m := 20 - pn) (fun i h1 h2 => by
    rw [tp_bit_n (by omega) (by omega), Nat.div_eq_of_lt (Nat.lt_of_lt_of_le hb (Nat.pow_le_pow_right (by decide) h1))]
    decide)
  rw [e] at this
  rw [this]
/-- dissents that are written -/
def tp_w6 (a : Nat) (T : tq_St) : tq_St := tp_wr T (T 64 0 9).toNatClampNeg (nI 6) a (nI 0)
def tp_w6n (a n : Nat) (M : tq_St) : tq_St := tp_it (fun _ T => tp_w6 a T) n M
theorem w6_s (a n : Nat) (M : tq_St) : tp_w6n a (n + 1) M = tp_w6 a (tp_w6n a n M) := rfl
theorem w6_j {a : Nat} {M : tq_St} {j : Nat} (hj : j ≠ 9) : ∀ n : Nat, tp_w6n a n M 64 0 j = M 64 0 j
  | 0 => rfl
  | n + 1 => by
    rw [w6_s, ← w6_j (M := M) (a := a) hj n]
    unfold tp_w6 tp_wr
    rw [tq_cpk (by decide), tq_upk (by decide), tq_upk (by decide), tq_upk (by decide), tq_upk (by decide), tq_upj hj]
theorem w6_k {a : Nat} {M : tq_St} {k : Nat} (h1 : k ≠ 64) (h2 : k < 110 ∨ 113 < k) (h3 : k ≠ 115) : ∀ n : Nat, tp_w6n a n M k = M k
  | 0 => rfl
  | n + 1 => by
    rw [w6_s, ← w6_k (M := M) (a := a) h1 h2 h3 n]
    unfold tp_w6 tp_wr
    rw [tq_cpk h3, tq_upk (by omega), tq_upk (by omega), tq_upk (by omega), tq_upk (by omega), tq_upk h1]
theorem w6_9 {a P : Nat} {M : tq_St} (h : M 64 0 9 = nI P) : ∀ n : Nat, P + n ≤ 150 → tp_w6n a n M 64 0 9 = nI (P + n)
  | 0, _ => h
  | n + 1, hn => by
    have e := w6_9 (a := a) h n (by omega)
    rw [w6_s]
    unfold tp_w6
    rw [e, nI_clamp (by omega)]
    unfold tp_wr
    rw [tq_cpk (by decide), tq_upk (by decide), tq_upk (by decide), tq_upk (by decide), tq_upk (by decide), tq_upe]; rfl
theorem bm_w6n {M : tq_St} {X1 X2 X3 : Nat → Nat → Int32} {v : Int32} {a : Nat} : ∀ n : Nat, bm (tp_w6n a n M) X1 X2 X3 v = tp_w6n a n (bm M X1 X2 X3 v)
  | 0 => rfl
  | n + 1 => by
    rw [w6_s, w6_s, ← bm_w6n n]
    unfold tp_w6
    rw [bm_wr, bm_64 (by decide)]
theorem w6_it {a : Nat} {M : tq_St} {x : Int32} : ∀ n : Nat, tp_it (fun i T => if tp_bit x i = 1 then tp_w6 a T else T) n M = tp_w6n a (tp_bn x n) M
  | 0 => rfl
  | n + 1 => by
    simp only [tp_it, tp_bn]
    rw [w6_it n]
    by_cases h : tp_bit x n = 1
    · rw [if_pos h, if_pos h]; rfl
    · rw [if_neg h, if_neg h]; rfl
theorem tp_bcM {post : tq_St → Int32 → Prop} {M : tq_St} {x : Int32} (h : post M (tq_bc x)) : wpJ6_bitCount_0f7a4 post M x := h
theorem tp_w6M {post : tq_St → Int32 → Prop} {a pn P b : Nat} {x2 x6 x7 x8 : Int32} {M : tq_St} (hP : M 64 0 9 = nI P) (hp : M 64 0 6 = nI pn) (hpn : pn ≤ 20) (hr : P + tp_bn (nI b) pn ≤ 150) (ha : a < 5)
    (h : (x6 ≤ 0 → post (tp_w6n a (tp_bn (nI b) pn) M) x7) ∧ (¬ x6 ≤ 0 → wpX12_enter (fun M25 => post M25 x7) (tp_w6n a (tp_bn (nI b) pn) M) (nI a) 5 x2 x6 x7 x8 (-1))) : ∃ nq, wbX12_council_109 post nq M (nI a) x2 (nI b) x6 x7 x8 0 := by
  have mono : ∀ i, i ≤ pn → tp_bn (nI b) i ≤ tp_bn (nI b) pn := by
    intro i hi
    obtain ⟨k, rfl⟩ : ∃ k, pn = i + k := ⟨pn - i, by omega⟩
    clear hi h hr hp hpn
    induction k with
    | zero => exact Nat.le_refl _
    | succ k ih =>
      rw [← Nat.add_assoc]
      simp only [tp_bn]
      omega
  refine ⟨pn + 1, tp_loop0 (W := fun m T i => wbX12_council_109 post m T (nI a) x2 (nI b) x6 x7 x8 (nI i)) (n := pn) (f := fun i T => if tp_bit (nI b) i = 1 then tp_w6 a T else T) (s0 := M) (fun m => ?_) (fun m i hi hw => ?_)⟩
  · rw [w6_it]
    unfold wbX12_council_109 wbX12_council_163
    rw [w6_j (by decide), hp]
    exact tp_dT (nI_le (Nat.le_refl _) (by omega)) h
  · rw [w6_it] at hw ⊢
    unfold wbX12_council_109 wbX12_council_138
    rw [w6_j (by decide), hp]
    refine tp_dF (nI_ge hi (by omega)) ?_
    have e : tp_bn (nI b) (i + 1) = tp_bn (nI b) i + (if tp_bit (nI b) i = 1 then 1 else 0) := rfl
    have m1 := mono (i + 1) hi
    have m0 := mono i (by omega)
    by_cases q : tp_bit (nI b) i = 1
    · rw [if_pos q] at e
      have e9 := w6_9 (a := a) hP (tp_bn (nI b) i) (by omega)
      refine tp_cT (show ((nI b >>> (nI i &&& 31)) &&& 1) = 1 from q) (tp_write (k := nI 6) (to := nI 0) e9 (by omega) ha ?_)
      rw [e, w6_s] at hw
      unfold tp_w6 at hw
      rw [e9, nI_clamp (by omega)] at hw
      rw [nI_1]
      exact hw
    · rw [if_neg q, Nat.add_zero] at e
      rw [e] at hw
      rw [nI_1]
      exact tp_cF (show ¬ ((nI b >>> (nI i &&& 31)) &&& 1) = 1 from q) hw
theorem tp_w6S {c h w d pn P Sh V E A t r eb : Nat} {OL : Nat → List Nat} {M : tq_St} {post : tq_Nn → tq_St → Int32 → Prop} {a κ e0 : Nat} {x2 x3 x : Int32} (ha1 : 1 ≤ a) (ha : a < 5) (hr : P + κ ≤ 150)
    (hend : ∀ G C N S, RR c h w d pn (P + κ) Sh V E A t r eb G C OL N S ((tp_w6n a κ M)) → N 7 e0 = 1 → S 7 e0 0 = x → wbX11_council_107 post 1 N S (nI a) x2 x3 (nI κ) a e0 (nI κ)) :
    ∀ (m i : Nat), i + m = κ → ∀ G C N S, RR c h w d pn (P + i) Sh V E A t r eb G C OL N S ((tp_w6n a i M)) → N 7 e0 = 1 → S 7 e0 0 = x → wbX11_council_107 post (m + 1) N S (nI a) x2 x3 (nI κ) a e0 (nI i)
  | 0, i, hi, G, C, N, S, h0, n0, n1 => by
    have : i = κ := by omega
    subst this
    exact hend G C N S h0 n0 n1
  | m + 1, i, hi, G, C, N, S, h0, n0, n1 => by
    unfold wbX11_council_107
    refine tp_dF (nI_ge (by omega) (by omega)) (tp_cwrite (κ := nI 6) (to := nI 0) h0 (by omega) ha (fun N2 S2 e c1 hW => ?_))
    have e9 : tp_w6n a i M 64 0 9 = nI (P + i) := h0.1.2.2.1
    have hq := RR_addQ (M1 := tp_w6n a (i + 1) M) (b := 0) h0 (by omega) hW ha (by decide) (by omega) (Or.inr (Or.inr rfl)) (fun k hk => by
      rw [w6_s]; unfold tp_w6; rw [e9, nI_clamp (by omega)]) (fun n hn => by
      rw [w6_k (by decide) (by decide) (by decide), w6_k (by decide) (by decide) (by decide)]) (fun z => absurd z (by decide))
    rw [nI_1]
    exact tp_w6S ha1 ha hr hend m (i + 1) (by omega) _ _ N2 S2 hq (hW.1 7 e0 (by decide) (by decide) (by decide) n0) (by rw [hW.2.2.2.2.2.2.1 7 e0 (fun _ => n0) (fun z => absurd z (by decide)) (by decide) (by decide)]; exact n1)
theorem sim_council {c : Nat} {N : tq_Nn} {S M : tq_St} {p0 p1 p2 p3 p4 : Int32} (hR : tp_R c N S M) (hc : c < 512) : wpX11_council (fun N1 S1 r => wpX12_council (fun M1 r1 => r = r1 ∧ tp_R (c + 1) N1 S1 M1) M p0 p1 p2 p3 p4) N S p0 p1 p2 p3 p4 := by
  have hT := hR.tick hc
  obtain ⟨d, pn, P, Sh, V, E, A, t, r, G, C, OL, h0⟩ := id hR
  obtain ⟨hsc, hss, har, hpl, hlg, hsh, hpe, hmo, hpr, hsr, hpa, hkn, hst, hpm, hsi, hab, hsm, hvo, hvm, hbi, hlb, hiv, hod, hol, hoi, hfi, hli, had, hro⟩ := id h0
  obtain ⟨s1, s2, s3, s4, s5, s6, s7, s8, s9, b1, b2, b3, b4, b5, b6, b7, b8, b9, e1, e2⟩ := id hsc
  obtain ⟨x1, x2, x3, x4, x5, x6, x7⟩ := id hss
  obtain ⟨y1, y2, y3, y4, y5, y6, y7, y8, y9, y10, y11, y12, y13, y14, y15⟩ := id har
  obtain ⟨w1, w2, w3, w4, w5, w6⟩ := id hpl
  obtain ⟨l1, l2, l3, l4, l5, l6, l7, l8⟩ := id hli
  obtain ⟨σ, σ1, σ2⟩ := tp_sit_lt (M := M) (x := p0) b2
  simp (disch := decide) only [wpX11_council, wbX11_council_14, wbX11_council_46, tp_isFactory, tp_isPlace, tp_isSort, tp_isSheet, tp_isHolder, tp_isPerson, tp_isPaper, tp_isShip, tp_isVoyage, tp_within, tp_in, tp_mPlace, tp_mFactory, tp_mSort, tp_mBuyer, tp_b0, tp_b1, Classical.not_not, tp_nb0, tp_nb1, tp_nb, true_and, Int32.reduceToInt]
  by_cases h1 : tp_i 1 4 p0
  · obtain ⟨a, a1, a2, a3, rfl⟩ := tp_i_fac h1
    have ac : (nI a).toNatClampNeg = a := nI_clamp (by omega)
    have av : vp_in (nI a) 5 := vp_in_nI a3 (by decide)
    by_cases h2 : tp_i 0 3 p1
    · obtain ⟨z, z3, rfl⟩ := tp_i_lt (m := 4) h2 (by decide)
      have zc : (nI z).toNatClampNeg = z := nI_clamp (by omega)
      have zv : vp_in (nI z) 4 := vp_in_nI z3 (by decide)
      repeat' (with_reducible first | refine tp_cT (by first | assumption | decide) ?_ | refine tp_cF (by first | assumption | decide) ?_ | refine tp_dT (by first | assumption | decide) ?_ | refine tp_dF (by first | assumption | decide) ?_ | refine And.intro (by first | assumption | decide) ?_ | refine tp_ae ?_)
      refine tp_sitS (x2.trans s2) b2 y1 ?_
      rw [σ2]
      by_cases h3 : tp_i 1 99 p2
      · obtain ⟨k, k1, k2, rfl⟩ : ∃ k : Nat, 1 ≤ k ∧ k ≤ 99 ∧ p2 = nI k := by
          obtain ⟨k, k1, k2, k3⟩ := tp_nat (x := p2) (by have := h3.1; omega)
          have := h3.1
          have := h3.2
          exact ⟨k, by omega, by omega, k2⟩
        by_cases h4 : (p3 ||| p4) &&& (nI σ ^^^ (-1)) = 0
        · obtain ⟨d1, d2⟩ := bi_dist h4
          obtain ⟨ya, ya1, rfl⟩ := tp_sub_sit σ1 b2 d1
          obtain ⟨yb, yb1, rfl⟩ := tp_sub_sit σ1 b2 d2
          repeat' (with_reducible first | refine tp_cT (by first | assumption | decide) ?_ | refine tp_cF (by first | assumption | decide) ?_ | refine tp_dT (by first | assumption | decide) ?_ | refine tp_dF (by first | assumption | decide) ?_ | refine And.intro (by first | assumption | decide) ?_ | refine tp_ae ?_)
          refine tp_carS (x2.trans s2) b2 y2 hpe ya1 yb1 ?_
          by_cases h5 : tp_CA M pn (nI σ) (nI ya) (nI yb)
          · rw [tp_bt h5]
            repeat' (with_reducible first | refine tp_cT (by first | assumption | decide) ?_ | refine tp_cF (by first | assumption | decide) ?_ | refine tp_dT (by first | assumption | decide) ?_ | refine tp_dF (by first | assumption | decide) ?_ | refine And.intro (by first | assumption | decide) ?_ | refine tp_ae ?_)
            have bc := tp_bcn b2 yb1
            have κ20 := tp_bn_le (nI yb) pn
            rw [bc]
            generalize hκ : tp_bn (nI yb) pn = κ at bc κ20
            rw [show (1 : Int32) + nI κ = nI (1 + κ) from nI_add 1 κ]
            refine tp_roomP (tp_len l1) b3 (by omega) ?_
            by_cases h6 : P + (1 + κ) ≤ 150
            · rw [tp_bt h6]
              repeat' (with_reducible first | refine tp_cT (by first | assumption | decide) ?_ | refine tp_cF (by first | assumption | decide) ?_ | refine tp_dT (by first | assumption | decide) ?_ | refine tp_dF (by first | assumption | decide) ?_ | refine And.intro (by first | assumption | decide) ?_ | refine tp_ae ?_)
              rw [ac]
              refine tp_cwrite (κ := nI 3) (to := nI 0) h0 (by omega) a3 (fun N2 S2 e c1 hW => ?_)
              have hq := RR_addQ (M1 := tp_wr M P (nI 3) a (nI 0)) (b := 0) h0 (by omega) hW a3 (by decide) (by omega) (Or.inr (Or.inl rfl)) (fun k hk => rfl) (fun n hn => by
                unfold tp_wr
                rw [tq_cpk (by decide), tq_upk (by decide), tq_upk (by decide), tq_upk (by decide), tq_upk (by decide), tq_upk (by decide)]) (fun z => absurd z (by decide))
              have c101 : ∀ q, q = 101 ∨ q = 102 ∨ q = 104 ∨ q = 105 → tp_wr M P (nI 3) a (nI 0) q = M q := fun q hq => by
                unfold tp_wr
                rw [tq_cpk (by omega), tq_upk (by omega), tq_upk (by omega), tq_upk (by omega), tq_upk (by omega), tq_upk (by omega)]
              generalize hM3 : tp_wr M P (nI 3) a (nI 0) = M3 at hq c101
              refine ⟨κ + 1, tp_w6S (x := nI P) a1 a3 (by omega) (fun G4 C4 N4 S4 r4 n40 n41 => ?_) κ 0 (by omega) _ _ N2 S2 hq hW.2.1 hW.2.2.2.2.2.2.2.1.1⟩
              unfold wbX11_council_107
              refine tp_dT (nI_le (Nat.le_refl _) (by omega)) ⟨a3, zv, ?_⟩
              rw [zc]
              have h73 : RR c 8 5 d pn (P + 1 + κ) Sh V E A t r (5000 * d + c) G4 C4 OL N4 S4 ((tq_up (tp_w6n a κ M3) 64 0 73 0)) := by
                refine r4.mf (fun j _ _ _ j4 _ => tq_upj j4) (fun k k1 _ _ _ _ _ _ _ _ => tq_upk k1) (fun n _ => ?_) (fun n _ => ?_) (fun n _ => ?_)
                · rw [tq_upk (by decide)]
                · rw [tq_upk (by decide)]
                · rw [tq_upk (by decide)]
              obtain ⟨S5, X1, X2, X3, v, j, j1, j2, j3, j4, j5, j8, j6, j7⟩ := tp_buys (k := k) (keep := 0) a1 a3 z3 (by omega) (by decide) k 0 0 S4 _ (by omega) h73 tq_upe
              rw [bm_up73] at j3
              refine ⟨k + 1, j6 _ ?_⟩
              rw [j5, Nat.sub_zero, Int32.add_comm, Int32.add_sub_cancel]
              have hMB : bm (tp_w6n a κ M3) X1 X2 X3 v = tp_w6n a κ (tp_wr (bm (tq_up M 64 0 73 0) X1 X2 X3 v) P (nI 3) a (nI 0)) := by
                rw [bm_w6n, ← hM3, bm_wr, bm_up73]
              have hREF : ∀ post : tq_St → Int32 → Prop, ((nI j ≤ 0 → post (bm (tp_w6n a κ M3) X1 X2 X3 v) v) ∧ (¬ nI j ≤ 0 → wpX12_enter (fun M25 => post M25 v) (bm (tp_w6n a κ M3) X1 X2 X3 v) (nI a) 5 (nI z) (nI j) v (nI P) (-1))) → wpX12_council post M (nI a) (nI z) (nI k) (nI ya) (nI yb) := by
                intro post hpost
                simp (disch := decide) only [wpX12_council, wbX12_council_14, wbX12_council_42, tp_isFactory, tp_isPlace, tp_isSort, tp_isSheet, tp_isHolder, tp_isPerson, tp_isPaper, tp_isShip, tp_isVoyage, tp_within, tp_in, tp_mPlace, tp_mFactory, tp_mSort, tp_mBuyer, tp_b0, tp_b1, Classical.not_not, tp_nb0, tp_nb1, tp_nb, true_and, Int32.reduceToInt]
                repeat' (with_reducible first | refine tp_cT (by first | assumption | decide) ?_ | refine tp_cF (by first | assumption | decide) ?_ | refine tp_dT (by first | assumption | decide) ?_ | refine tp_dF (by first | assumption | decide) ?_ | refine And.intro (by first | assumption | decide) ?_ | refine tp_ae ?_)
                refine tp_sitM s2 b2 ?_
                rw [σ2]
                repeat' (with_reducible first | refine tp_cT (by first | assumption | decide) ?_ | refine tp_cF (by first | assumption | decide) ?_ | refine tp_dT (by first | assumption | decide) ?_ | refine tp_dF (by first | assumption | decide) ?_ | refine And.intro (by first | assumption | decide) ?_ | refine tp_ae ?_)
                refine tp_carM s2 b2 ?_
                rw [σ2, tp_bt h5]
                repeat' (with_reducible first | refine tp_cT (by first | assumption | decide) ?_ | refine tp_cF (by first | assumption | decide) ?_ | refine tp_dT (by first | assumption | decide) ?_ | refine tp_dF (by first | assumption | decide) ?_ | refine And.intro (by first | assumption | decide) ?_ | refine tp_ae ?_)
                refine tp_bcM ?_
                rw [bc, s3, nI_1 P, nI_add (P + 1) κ]
                refine tp_dT (nI_le (b := 150) (by omega) (by decide)) ?_
                unfold wpX12_buy
                refine tp_ae ⟨k + 1, j7 _ _ ?_ ?_ ?_ ?_ tq_upe ?_⟩
                · rw [tq_upk (by decide), tq_upk (by decide), w6_k (by decide) (by decide) (by decide), c101 101 (by decide)]
                · rw [tq_upk (by decide), tq_upk (by decide), w6_k (by decide) (by decide) (by decide), c101 102 (by decide)]
                · rw [tq_upk (by decide), tq_upk (by decide), w6_k (by decide) (by decide) (by decide), c101 104 (by decide)]
                · rw [tq_upk (by decide), tq_upk (by decide), w6_k (by decide) (by decide) (by decide), c101 105 (by decide)]
                · have e9 : bm (tq_up M 64 0 73 0) X1 X2 X3 v 64 0 9 = nI P := by rw [bm_64 (by decide), tq_upj (by decide)]; exact s3
                  have e6 : bm (tq_up M 64 0 73 0) X1 X2 X3 v 64 0 6 = nI pn := by rw [bm_64 (by decide), tq_upj (by decide)]; exact s2
                  refine tp_write (k := nI 3) (to := nI 0) e9 (by omega) a3 ?_
                  rw [bm_73]
                  rw [hMB, ← hκ] at hpost
                  refine tp_w6M (P := P + 1) ?_ ?_ b2 (by rw [hκ]; omega) a3 hpost
                  · unfold tp_wr
                    rw [tq_cpk (by decide), tq_upk (by decide), tq_upk (by decide), tq_upk (by decide), tq_upk (by decide), tq_upe]
                  · unfold tp_wr
                    rw [tq_cpk (by decide), tq_upk (by decide), tq_upk (by decide), tq_upk (by decide), tq_upk (by decide), tq_upj (by decide)]
                    exact e6
              by_cases h7 : j = 0
              · subst h7
                refine tp_dT (show nI 0 ≤ 0 by decide) ?_
                refine hREF _ (tp_dT (show nI 0 ≤ 0 by decide) ⟨rfl, j3.R hc rfl rfl rfl⟩)
              · have g0 : ¬ nI j ≤ 0 := nI_ge (a := 0) (by omega) (by omega)
                obtain ⟨S6, M6, f1, f2, f3, f4, f5, f6, f7⟩ := tp_enter (v2 := 5) (v3 := nI z) (v4 := nI j) (v5 := v) (v6 := nI P) (v7 := -1) j3 a1 a2 (by omega)
                refine tp_dF g0 ⟨n40, ?_⟩
                rw [j4 7 (by decide) (by decide) (by decide), n41]
                refine f6 _ (hREF _ (tp_dF g0 (f7 _ ⟨rfl, ?_⟩)))
                exact ⟨d, pn, _, Sh, V, _, A, t, r, _, _, OL, f1.wk (c' := c + 1) (eb' := 5000 * d + (c + 1)) (by omega) (by omega) (by omega) (by omega)⟩
            · rw [tp_bf h6]
              repeat' (with_reducible first | refine tp_cT (by first | assumption | decide) ?_ | refine tp_cF (by first | assumption | decide) ?_ | refine tp_dT (by first | assumption | decide) ?_ | refine tp_dF (by first | assumption | decide) ?_ | refine And.intro (by first | assumption | decide) ?_ | refine tp_ae ?_)
              simp (disch := decide) only [wpX12_council, wbX12_council_14, wbX12_council_42, tp_isFactory, tp_isPlace, tp_isSort, tp_isSheet, tp_isHolder, tp_isPerson, tp_isPaper, tp_isShip, tp_isVoyage, tp_within, tp_in, tp_mPlace, tp_mFactory, tp_mSort, tp_mBuyer, tp_b0, tp_b1, Classical.not_not, tp_nb0, tp_nb1, tp_nb, true_and, Int32.reduceToInt]
              repeat' (with_reducible first | refine tp_cT (by first | assumption | decide) ?_ | refine tp_cF (by first | assumption | decide) ?_ | refine tp_dT (by first | assumption | decide) ?_ | refine tp_dF (by first | assumption | decide) ?_ | refine And.intro (by first | assumption | decide) ?_ | refine tp_ae ?_)
              refine tp_sitM s2 b2 ?_
              rw [σ2]
              repeat' (with_reducible first | refine tp_cT (by first | assumption | decide) ?_ | refine tp_cF (by first | assumption | decide) ?_ | refine tp_dT (by first | assumption | decide) ?_ | refine tp_dF (by first | assumption | decide) ?_ | refine And.intro (by first | assumption | decide) ?_ | refine tp_ae ?_)
              refine tp_carM s2 b2 ?_
              rw [σ2, tp_bt h5]
              repeat' (with_reducible first | refine tp_cT (by first | assumption | decide) ?_ | refine tp_cF (by first | assumption | decide) ?_ | refine tp_dT (by first | assumption | decide) ?_ | refine tp_dF (by first | assumption | decide) ?_ | refine And.intro (by first | assumption | decide) ?_ | refine tp_ae ?_)
              refine tp_bcM ?_
              rw [bc, s3, nI_1 P, nI_add (P + 1) κ]
              refine tp_dF (nI_ge (b := P + 1 + κ) (a := 150) (by omega) (by omega)) ?_
              first | exact ⟨rfl, hT⟩ | exact hT
          · rw [tp_bf h5]
            repeat' (with_reducible first | refine tp_cT (by first | assumption | decide) ?_ | refine tp_cF (by first | assumption | decide) ?_ | refine tp_dT (by first | assumption | decide) ?_ | refine tp_dF (by first | assumption | decide) ?_ | refine And.intro (by first | assumption | decide) ?_ | refine tp_ae ?_)
            simp (disch := decide) only [wpX12_council, wbX12_council_14, wbX12_council_42, tp_isFactory, tp_isPlace, tp_isSort, tp_isSheet, tp_isHolder, tp_isPerson, tp_isPaper, tp_isShip, tp_isVoyage, tp_within, tp_in, tp_mPlace, tp_mFactory, tp_mSort, tp_mBuyer, tp_b0, tp_b1, Classical.not_not, tp_nb0, tp_nb1, tp_nb, true_and, Int32.reduceToInt]
            repeat' (with_reducible first | refine tp_cT (by first | assumption | decide) ?_ | refine tp_cF (by first | assumption | decide) ?_ | refine tp_dT (by first | assumption | decide) ?_ | refine tp_dF (by first | assumption | decide) ?_ | refine And.intro (by first | assumption | decide) ?_ | refine tp_ae ?_)
            refine tp_sitM s2 b2 ?_
            rw [σ2]
            repeat' (with_reducible first | refine tp_cT (by first | assumption | decide) ?_ | refine tp_cF (by first | assumption | decide) ?_ | refine tp_dT (by first | assumption | decide) ?_ | refine tp_dF (by first | assumption | decide) ?_ | refine And.intro (by first | assumption | decide) ?_ | refine tp_ae ?_)
            refine tp_carM s2 b2 ?_
            rw [σ2, tp_bf h5]
            repeat' (with_reducible first | refine tp_cT (by first | assumption | decide) ?_ | refine tp_cF (by first | assumption | decide) ?_ | refine tp_dT (by first | assumption | decide) ?_ | refine tp_dF (by first | assumption | decide) ?_ | refine And.intro (by first | assumption | decide) ?_ | refine tp_ae ?_)
            first | exact ⟨rfl, hT⟩ | exact hT
        · repeat' (with_reducible first | refine tp_cT (by first | assumption | decide) ?_ | refine tp_cF (by first | assumption | decide) ?_ | refine tp_dT (by first | assumption | decide) ?_ | refine tp_dF (by first | assumption | decide) ?_ | refine And.intro (by first | assumption | decide) ?_ | refine tp_ae ?_)
          simp (disch := decide) only [wpX12_council, wbX12_council_14, wbX12_council_42, tp_isFactory, tp_isPlace, tp_isSort, tp_isSheet, tp_isHolder, tp_isPerson, tp_isPaper, tp_isShip, tp_isVoyage, tp_within, tp_in, tp_mPlace, tp_mFactory, tp_mSort, tp_mBuyer, tp_b0, tp_b1, Classical.not_not, tp_nb0, tp_nb1, tp_nb, true_and, Int32.reduceToInt]
          repeat' (with_reducible first | refine tp_cT (by first | assumption | decide) ?_ | refine tp_cF (by first | assumption | decide) ?_ | refine tp_dT (by first | assumption | decide) ?_ | refine tp_dF (by first | assumption | decide) ?_ | refine And.intro (by first | assumption | decide) ?_ | refine tp_ae ?_)
          refine tp_sitM s2 b2 ?_
          rw [σ2]
          repeat' (with_reducible first | refine tp_cT (by first | assumption | decide) ?_ | refine tp_cF (by first | assumption | decide) ?_ | refine tp_dT (by first | assumption | decide) ?_ | refine tp_dF (by first | assumption | decide) ?_ | refine And.intro (by first | assumption | decide) ?_ | refine tp_ae ?_)
          first | exact ⟨rfl, hT⟩ | exact hT
      · repeat' (with_reducible first | refine tp_cT (by first | assumption | decide) ?_ | refine tp_cF (by first | assumption | decide) ?_ | refine tp_dT (by first | assumption | decide) ?_ | refine tp_dF (by first | assumption | decide) ?_ | refine And.intro (by first | assumption | decide) ?_ | refine tp_ae ?_)
        simp (disch := decide) only [wpX12_council, wbX12_council_14, wbX12_council_42, tp_isFactory, tp_isPlace, tp_isSort, tp_isSheet, tp_isHolder, tp_isPerson, tp_isPaper, tp_isShip, tp_isVoyage, tp_within, tp_in, tp_mPlace, tp_mFactory, tp_mSort, tp_mBuyer, tp_b0, tp_b1, Classical.not_not, tp_nb0, tp_nb1, tp_nb, true_and, Int32.reduceToInt]
        repeat' (with_reducible first | refine tp_cT (by first | assumption | decide) ?_ | refine tp_cF (by first | assumption | decide) ?_ | refine tp_dT (by first | assumption | decide) ?_ | refine tp_dF (by first | assumption | decide) ?_ | refine And.intro (by first | assumption | decide) ?_ | refine tp_ae ?_)
        first | exact ⟨rfl, hT⟩ | exact hT
    · repeat' (with_reducible first | refine tp_cT (by first | assumption | decide) ?_ | refine tp_cF (by first | assumption | decide) ?_ | refine tp_dT (by first | assumption | decide) ?_ | refine tp_dF (by first | assumption | decide) ?_ | refine And.intro (by first | assumption | decide) ?_ | refine tp_ae ?_)
      simp (disch := decide) only [wpX12_council, wbX12_council_14, wbX12_council_42, tp_isFactory, tp_isPlace, tp_isSort, tp_isSheet, tp_isHolder, tp_isPerson, tp_isPaper, tp_isShip, tp_isVoyage, tp_within, tp_in, tp_mPlace, tp_mFactory, tp_mSort, tp_mBuyer, tp_b0, tp_b1, Classical.not_not, tp_nb0, tp_nb1, tp_nb, true_and, Int32.reduceToInt]
      repeat' (with_reducible first | refine tp_cT (by first | assumption | decide) ?_ | refine tp_cF (by first | assumption | decide) ?_ | refine tp_dT (by first | assumption | decide) ?_ | refine tp_dF (by first | assumption | decide) ?_ | refine And.intro (by first | assumption | decide) ?_ | refine tp_ae ?_)
      first | exact ⟨rfl, hT⟩ | exact hT
  · repeat' (with_reducible first | refine tp_cT (by first | assumption | decide) ?_ | refine tp_cF (by first | assumption | decide) ?_ | refine tp_dT (by first | assumption | decide) ?_ | refine tp_dF (by first | assumption | decide) ?_ | refine And.intro (by first | assumption | decide) ?_ | refine tp_ae ?_)
    simp (disch := decide) only [wpX12_council, wbX12_council_14, wbX12_council_42, tp_isFactory, tp_isPlace, tp_isSort, tp_isSheet, tp_isHolder, tp_isPerson, tp_isPaper, tp_isShip, tp_isVoyage, tp_within, tp_in, tp_mPlace, tp_mFactory, tp_mSort, tp_mBuyer, tp_b0, tp_b1, Classical.not_not, tp_nb0, tp_nb1, tp_nb, true_and, Int32.reduceToInt]
    repeat' (with_reducible first | refine tp_cT (by first | assumption | decide) ?_ | refine tp_cF (by first | assumption | decide) ?_ | refine tp_dT (by first | assumption | decide) ?_ | refine tp_dF (by first | assumption | decide) ?_ | refine And.intro (by first | assumption | decide) ?_ | refine tp_ae ?_)
    first | exact ⟨rfl, hT⟩ | exact hT
