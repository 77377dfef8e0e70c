/-! pure: calls, the eighth: heard, open, gain, divide -/
theorem tp_last (c : Nat → Prop) : ∀ P : Nat, (∀ i, i < P → ¬ c i) ∨ ∃ n, n < P ∧ c n ∧ ∀ i, n < i → i < P → ¬ c i
  | 0 => Or.inl (fun i hi => absurd hi (Nat.not_lt_zero _))
  | P + 1 => by
    by_cases h : c P
    · exact Or.inr ⟨P, by omega, h, fun i h1 h2 => by omega⟩
    · rcases tp_last c P with q | ⟨n, q1, q2, q3⟩
      · refine Or.inl (fun i hi => ?_)
        by_cases e : i = P
        · subst e; exact h
        · exact q i (by omega)
      · refine Or.inr ⟨n, by omega, q2, fun i h1 h2 => ?_⟩
        by_cases e : i = P
        · subst e; exact h
        · exact q3 i h1 (by omega)
/-- a report of p to the house that was known by then -/
def tp_rep (M : tq_St) (p : Int32) (when : Int32) (i : Nat) : Prop := M 110 0 i = 1 ∧ M 111 0 i = p ∧ M 113 0 i = 0 ∧ tp_i 0 when.toInt (M 115 i 0)
theorem tp_heardM {M : tq_St} {post : tq_St → Int32 → Prop} {p s when : Int32} {P : Nat} (hP : M 64 0 9 = nI P) (hP2 : P ≤ 150) (hs : vp_in s 4) (hmon : ∀ n m, n < m → m < P → M 112 0 n ≤ M 112 0 m) (h1 : (∀ i, i < P → ¬ tp_rep M p when i) → post M (-1)) (h2 : ∀ n, n < P → tp_rep M p when n → (∀ i, n < i → i < P → ¬ tp_rep M p when i) → post M (M 116 n s.toNatClampNeg)) : ∃ nq, wbX12_heard_27 post nq M p s when (-1) 0 := by
  refine loop_0 (W := fun f i b => wbX12_heard_27 post f M p s when b (nI i)) (I := fun i (b : Int32) => (b = -1 ∧ ∀ j, j < i → ¬ tp_rep M p when j) ∨ ∃ n, n < i ∧ b = nI n ∧ tp_rep M p when n ∧ ∀ j, n < j → j < i → ¬ tp_rep M p when j) (e := P) (-1) (Or.inl ⟨rfl, fun j hj => absurd hj (Nat.not_lt_zero _)⟩) (fun f b hI => ?_) (fun f i b hi hI hn => ?_)
  · unfold wbX12_heard_27
    refine tp_dT (by rw [hP]; exact nI_le (Nat.le_refl _) (by omega)) ?_
    unfold wbX12_heard_147
    rcases hI with ⟨rfl, q⟩ | ⟨n, q1, rfl, q2, q3⟩
    · exact tp_dF (by decide) (h1 q)
    · refine tp_dT (nI_pos' (by omega)) ⟨vp_in_nI (by omega) (by decide), hs, ?_⟩
      rw [nI_clamp (by omega)]
      exact h2 n q1 q2 q3
  · have ic : (nI i).toNatClampNeg = i := nI_clamp (by omega)
    unfold wbX12_heard_27
    refine tp_dF (by rw [hP]; exact nI_ge hi (by omega)) ⟨vp_in_nI (by omega) (by decide), ?_⟩
    simp only [wbX12_heard_72, wbX12_heard_73, wbX12_heard_119, wbX12_heard_123, ic, nI_1, tp_in, tp_b0, Classical.not_not, Int32.reduceToInt]
    have no : ¬ tp_rep M p when i → wbX12_heard_27 post f M p s when b (nI (i + 1)) := fun z => hn b (by
      rcases hI with ⟨rfl, q⟩ | ⟨n, q1, rfl, q2, q3⟩
      · refine Or.inl ⟨rfl, fun j hj => ?_⟩
        by_cases e : j = i
        · subst e; exact z
        · exact q j (by omega)
      · refine Or.inr ⟨n, by omega, rfl, q2, fun j h1 h2 => ?_⟩
        by_cases e : j = i
        · subst e; exact z
        · exact q3 j h1 (by omega))
    have yes : tp_rep M p when i → wbX12_heard_27 post f M p s when (nI i) (nI (i + 1)) := fun z => hn _ (Or.inr ⟨i, by omega, rfl, z, fun j h1 h2 => by omega⟩)
    by_cases e1 : M 110 0 i = 1
    · refine tp_cT e1 ?_
      by_cases e2 : M 111 0 i = p
      · refine tp_cT e2 ?_
        by_cases e3 : M 113 0 i = 0
        · refine tp_cT e3 (tp_dF (by decide) ⟨vp_in_nI (by omega) (by decide), ?_⟩)
          by_cases e4 : tp_i 0 when.toInt (M 115 i 0)
          · refine tp_cT e4 ?_
            rcases hI with ⟨rfl, q⟩ | ⟨n, q1, rfl, q2, q3⟩
            · exact tp_dT (by decide) (yes ⟨e1, e2, e3, e4⟩)
            · refine tp_dF (nI_pos (by omega)) ⟨vp_in_nI (by omega) (by decide), ?_⟩
              rw [nI_clamp (by omega)]
              have := hmon n i q1 hi
              refine tp_dF ?_ (yes ⟨e1, e2, e3, e4⟩)
              rw [tp_lt]
              rw [tp_le] at this
              omega
          · exact tp_cF e4 (no (fun z => e4 z.2.2.2))
        · exact tp_cF e3 (tp_dT (by first | rfl | trivial) (no (fun z => e3 z.2.2.1)))
      · exact tp_cF e2 (tp_dT (by first | rfl | trivial) (no (fun z => e2 z.2.1)))
    · exact tp_cF e1 (tp_dT (by first | rfl | trivial) (no (fun z => e1 z.1)))
theorem tp_heardS {N : tq_Nn} {S M : tq_St} {post : tq_St → Int32 → Prop} {G : Nat → Nat → Nat → Nat} {C : Nat → Nat → Nat} {P : Nat} {p s when : Int32} (hP2 : P ≤ 150) (hs : vp_in s 4) (hl : tp_L N (S 15) (S 16) G C 15 16 7 0 P) (hpa : q_pa P G N S M) (hkn : q_kn P G S M)
    (hno : (∀ i, i < P → ¬ tp_rep M p when i) → post S (-1)) (hyes : ∀ n, n < P → tp_rep M p when n → (∀ i, n < i → i < P → ¬ tp_rep M p when i) → post S (S 51 (G 15 0 n) s.toNatClampNeg)) : ∀ k : Nat, k ≤ P → (∀ i, k ≤ i → i < P → ¬ tp_rep M p when i) → wbX11_heard_32 N post (k + 1) S p s when (nI k - 1)
  | 0, hk, h => by
    unfold wbX11_heard_32
    exact tp_dT (by decide) (hno (fun i hi => h i (by omega) hi))
  | k + 1, hk, h => by
    obtain ⟨g1, g2, g3⟩ := tp_get hl (show k < P by omega)
    have pb := hpa k (by omega)
    unfold q_pb at pb
    obtain ⟨pa1, pa2, pa3, pa4, pa5, pa6, pa7, pa8, pa9⟩ := pb
    have ek := hkn k 0 (by omega) (by decide)
    rw [nI_pred]
    have no : ¬ tp_rep M p when k → wbX11_heard_32 N post (k + 1) S p s when (nI k - 1) := fun z => tp_heardS hP2 hs hl hpa hkn hno hyes k (by omega) (fun i h1 h2 => by
      by_cases e : i = k
      · subst e; exact z
      · exact h i (by omega) h2)
    unfold wbX11_heard_32
    refine tp_dF (nI_pos (by omega)) ⟨g1, by rw [g2]; exact g3, ?_⟩
    simp only [wbX11_heard_81, wbX11_heard_82, wbX11_heard_112, g2, tp_m1, tp_within, tp_b0, Classical.not_not, pa5, pa6, pa7, ek, Int32.reduceToInt]
    by_cases e1 : M 110 0 k = 1
    · refine tp_cT e1 ?_
      by_cases e2 : M 111 0 k = p
      · refine tp_cT e2 ?_
        by_cases e3 : M 113 0 k = 0
        · refine tp_cT e3 (tp_dF (by decide) ⟨g3, pa1, ?_⟩)
          by_cases e4 : tp_i 0 when.toInt (M 115 k 0)
          · exact tp_cT e4 ⟨hs, pa2, hyes k (by omega) ⟨e1, e2, e3, e4⟩ (fun i h1 h2 => h i (by omega) h2)⟩
          · exact tp_cF e4 (no (fun z => e4 z.2.2.2))
        · exact tp_cF e3 (tp_dT (by first | rfl | trivial) (no (fun z => e3 z.2.2.1)))
      · exact tp_cF e2 (tp_dT (by first | rfl | trivial) (no (fun z => e2 z.2.1)))
    · exact tp_cF e1 (tp_dT (by first | rfl | trivial) (no (fun z => e1 z.1)))
theorem sim_heard {c : Nat} {N : tq_Nn} {S M : tq_St} {p0 p1 p2 : Int32} (hR : tp_R c N S M) (hc : c < 512) : wpX11_heard N (fun S1 r => wpX12_heard (fun M1 r1 => r = r1 ∧ tp_R (c + 1) N S1 M1) M p0 p1 p2) S p0 p1 p2 := by
  have hT := hR.tick hc
  obtain ⟨d, pn, P, Sh, V, E, A, t, r, G, C, OL, h0⟩ := id hR
  obtain ⟨hsc, hss, har, hpl, hlg, hsh, hpe, hmo, hpr, hsr, hpa, hkn, hst, hpm, hsi, hab, hsm, hvo, hvm, hbi, hlb, hiv, hod, hol, hoi, hfi, hli, had, hro⟩ := id h0
  obtain ⟨s1, s2, s3, s4, s5, s6, s7, s8, s9, b1, b2, b3, b4, b5, b6, b7, b8, b9, e1, e2⟩ := id hsc
  obtain ⟨x1, x2, x3, x4, x5, x6, x7⟩ := id hss
  obtain ⟨y1, y2, y3, y4, y5, y6, y7, y8, y9, y10, y11, y12, y13, y14, y15⟩ := id har
  obtain ⟨w1, w2, w3, w4, w5, w6⟩ := id hpl
  obtain ⟨l1, l2, l3, l4, l5, l6, l7, l8⟩ := id hli
  by_cases h1 : tp_i 1 4 p0
  · by_cases h2 : tp_i 0 3 p1
    · by_cases h3 : 0 ≤ p2
      · obtain ⟨s, s33, rfl⟩ := tp_i_lt (m := 4) h2 (by decide)
        have sv : vp_in (nI s) 4 := vp_in_nI s33 (by decide)
        have scc : (nI s).toNatClampNeg = s := nI_clamp (by omega)
        simp (disch := decide) only [wpX11_heard, wbX11_heard_18, wpX12_heard, wbX12_heard_18, tp_isFactory, tp_isPlace, tp_isSort, tp_isSheet, tp_isHolder, tp_isPerson, tp_isPaper, tp_isShip, tp_isVoyage, tp_within, tp_in, tp_mPlace, tp_mFactory, tp_mSort, tp_mBuyer, tp_b0, tp_b1, Classical.not_not, tp_nb0, tp_nb1, tp_nb, true_and, Int32.reduceToInt, tp_len l1]
        repeat' (with_reducible first | refine tp_cT (by first | assumption | decide) ?_ | refine tp_cF (by first | assumption | decide) ?_ | refine tp_dT (by first | assumption | decide) ?_ | refine tp_dF (by first | assumption | decide) ?_ | refine And.intro (by first | assumption | decide) ?_ | refine tp_ae ?_)
        refine ⟨P + 1, tp_heardS b3 sv l1 hpa hkn (fun q => ?_) (fun n q1 q2 q3 => ?_) P (Nat.le_refl _) (fun i z1 z2 => by omega)⟩
        · repeat' (with_reducible first | refine tp_cT (by first | assumption | decide) ?_ | refine tp_cF (by first | assumption | decide) ?_ | refine tp_dT (by first | assumption | decide) ?_ | refine tp_dF (by first | assumption | decide) ?_ | refine And.intro (by first | assumption | decide) ?_ | refine tp_ae ?_)
          exact tp_heardM s3 b3 sv hpm.2.1 (fun _ => ⟨rfl, hT⟩) (fun n z1 z2 z3 => absurd z2 (q n z1))
        · repeat' (with_reducible first | refine tp_cT (by first | assumption | decide) ?_ | refine tp_cF (by first | assumption | decide) ?_ | refine tp_dT (by first | assumption | decide) ?_ | refine tp_dF (by first | assumption | decide) ?_ | refine And.intro (by first | assumption | decide) ?_ | refine tp_ae ?_)
          refine tp_heardM s3 b3 sv hpm.2.1 (fun z => absurd q2 (z n q1)) (fun m z1 z2 z3 => ?_)
          have : m = n := by
            by_cases e : m < n
            · exact absurd q2 (z3 n e q1)
            · by_cases e2 : n < m
              · exact absurd z2 (q3 m e2 z1)
              · omega
          subst this
          rw [scc]
          exact ⟨hst m s q1 s33 q2.1, hT⟩
      · simp (disch := decide) only [wpX11_heard, wbX11_heard_18, wpX12_heard, wbX12_heard_18, tp_isFactory, tp_isPlace, tp_isSort, tp_isSheet, tp_isHolder, tp_isPerson, tp_isPaper, tp_isShip, tp_isVoyage, tp_within, tp_in, tp_mPlace, tp_mFactory, tp_mSort, tp_mBuyer, tp_b0, tp_b1, Classical.not_not, tp_nb0, tp_nb1, tp_nb, true_and, Int32.reduceToInt]
        repeat' (with_reducible first | refine tp_cT (by first | assumption | decide) ?_ | refine tp_cF (by first | assumption | decide) ?_ | refine tp_dT (by first | assumption | decide) ?_ | refine tp_dF (by first | assumption | decide) ?_ | refine And.intro (by first | assumption | decide) ?_ | refine tp_ae ?_)
        first | exact ⟨rfl, hT⟩ | exact hT
    · simp (disch := decide) only [wpX11_heard, wbX11_heard_18, wpX12_heard, wbX12_heard_18, tp_isFactory, tp_isPlace, tp_isSort, tp_isSheet, tp_isHolder, tp_isPerson, tp_isPaper, tp_isShip, tp_isVoyage, tp_within, tp_in, tp_mPlace, tp_mFactory, tp_mSort, tp_mBuyer, tp_b0, tp_b1, Classical.not_not, tp_nb0, tp_nb1, tp_nb, true_and, Int32.reduceToInt]
      repeat' (with_reducible first | refine tp_cT (by first | assumption | decide) ?_ | refine tp_cF (by first | assumption | decide) ?_ | refine tp_dT (by first | assumption | decide) ?_ | refine tp_dF (by first | assumption | decide) ?_ | refine And.intro (by first | assumption | decide) ?_ | refine tp_ae ?_)
      first | exact ⟨rfl, hT⟩ | exact hT
  · simp (disch := decide) only [wpX11_heard, wbX11_heard_18, wpX12_heard, wbX12_heard_18, tp_isFactory, tp_isPlace, tp_isSort, tp_isSheet, tp_isHolder, tp_isPerson, tp_isPaper, tp_isShip, tp_isVoyage, tp_within, tp_in, tp_mPlace, tp_mFactory, tp_mSort, tp_mBuyer, tp_b0, tp_b1, Classical.not_not, tp_nb0, tp_nb1, tp_nb, true_and, Int32.reduceToInt]
    repeat' (with_reducible first | refine tp_cT (by first | assumption | decide) ?_ | refine tp_cF (by first | assumption | decide) ?_ | refine tp_dT (by first | assumption | decide) ?_ | refine tp_dF (by first | assumption | decide) ?_ | refine And.intro (by first | assumption | decide) ?_ | refine tp_ae ?_)
    first | exact ⟨rfl, hT⟩ | exact hT
theorem tp_openOf {M : tq_St} {post : tq_St → Int32 → Prop} {p s A d w : Nat} {S : tq_St} (hA : M 64 0 45 = nI A) (hA2 : A ≤ 17) (hp1 : 1 ≤ p) (hp : p < 5) (hs : s < 4) (had : q_ad d w A S M) (h : post M (S 35 p s)) : wpX12_openOf post M (nI p) (nI s) := by
  obtain ⟨a1, a2, a3⟩ := had
  have key : ∃ (a0 x : Nat), (∀ a, a < A → a ≠ a0 → ¬ tp_opn A p s (M 146 0) (M 147 0) (M 150 0) a) ∧ (a0 < A → tp_opn A p s (M 146 0) (M 147 0) (M 150 0) a0 ∧ ∀ q : tq_St → Int32 → Prop, q M (nI x) → wpX12_leftOf q M (nI a0)) ∧ S 35 p s = (if a0 < A then nI x else 0) := by
    rcases a3 p s hp1 hp hs with ⟨q1, q2⟩ | ⟨a, b, o, t, q1, q2, q3, q4, q5, q6, q7, q8, q9, q10, q11, q12⟩
    · exact ⟨A, 0, fun a _ _ => q2 a, fun z => absurd z (Nat.lt_irrefl _), by rw [if_neg (Nat.lt_irrefl _)]; exact q1⟩
    · refine ⟨a, b - t * (b / 5), fun x _ hxa z => hxa (a2 p s x a hp hs z q1), fun _ => ⟨q1, fun q hq => ?_⟩, by rw [if_pos q1.1]; exact q11⟩
      have hv : vp_in (nI a) 64 := vp_in_nI (by have := q1.1; omega) (by decide)
      have ac : (nI a).toNatClampNeg = a := nI_clamp (by have := q1.1; omega)
      have e5 : nI b / 5 = nI (b / 5) := pk_div (d := 5) (by omega) (by decide) (by decide)
      have tb : t * (b / 5) ≤ b := by
        have : t * (b / 5) ≤ 5 * (b / 5) := Nat.mul_le_mul_right _ (by omega)
        have := Nat.mul_div_le b 5
        omega
      unfold wpX12_leftOf
      simp only [ac, q2, q4, e5, pk_mul]
      rw [pk_sub tb]
      exact ⟨hv, hq⟩
  obtain ⟨a0, x, k1, k2, k3⟩ := key
  refine ⟨A + 1, tp_loop0 (W := fun m acc i => wbX12_openOf_5 post m M (nI p) (nI s) acc (nI i)) (n := A) (f := fun i acc => if i = a0 then acc + nI x else acc) (s0 := 0) (fun m => ?_) (fun m i hi hw => ?_)⟩
  · have e : ∀ k, tp_it (fun i (acc : Int32) => if i = a0 then acc + nI x else acc) k 0 = if a0 < k then nI x else 0 := by
      intro k
      induction k with
      | zero => rfl
      | succ k ih =>
        simp only [tp_it]
        rw [ih]
        by_cases q : k = a0
        · subst q; rw [if_pos rfl, if_neg (Nat.lt_irrefl _), if_pos (by omega)]; exact Int32.zero_add _
        · rw [if_neg q]
          by_cases q2 : a0 < k
          · rw [if_pos q2, if_pos (by omega)]
          · rw [if_neg q2, if_neg (by omega)]
    unfold wbX12_openOf_5
    refine tp_dT (by rw [hA]; exact nI_le (Nat.le_refl _) (by omega)) ?_
    rw [e A, ← k3]; exact h
  · have ic : (nI i).toNatClampNeg = i := nI_clamp (by omega)
    have hv : vp_in (nI i) 64 := vp_in_nI (by omega) (by decide)
    unfold wbX12_openOf_5
    refine tp_dF (by rw [hA]; exact nI_ge hi (by omega)) ⟨hv, ?_⟩
    simp only [wbX12_openOf_56, ic, nI_1]
    simp only [tp_it] at hw
    by_cases e : i = a0
    · rw [if_pos e] at hw
      obtain ⟨z1, z2⟩ := k2 (by omega)
      rw [← e] at z1 z2
      obtain ⟨_, y1, y2, y3⟩ := z1
      refine tp_cT y1 (tp_cT y2 (tp_dF (by rw [tp_le]; rw [tp_lt] at y3; omega) (z2 _ hw)))
    · rw [if_neg e] at hw
      have z := k1 i hi e
      by_cases y1 : M 146 0 i = nI p
      · refine tp_cT y1 ?_
        by_cases y2 : M 147 0 i = nI s
        · refine tp_cT y2 (tp_dT ?_ hw)
          by_cases y3 : M 150 0 i < 5
          · exact absurd ⟨hi, y1, y2, y3⟩ z
          · rw [tp_lt] at y3; rw [tp_le]; omega
        · exact tp_cF y2 hw
      · exact tp_cF y1 hw
theorem sim_open {c : Nat} {N : tq_Nn} {S M : tq_St} {p0 p1 : Int32} (hR : tp_R c N S M) (hc : c < 512) : wpX11_open N (fun S1 r => wpX12_open (fun M1 r1 => r = r1 ∧ tp_R (c + 1) N S1 M1) M p0 p1) S p0 p1 := by
  have hT := hR.tick hc
  obtain ⟨d, pn, P, Sh, V, E, A, t, r, G, C, OL, h0⟩ := id hR
  obtain ⟨hsc, hss, har, hpl, hlg, hsh, hpe, hmo, hpr, hsr, hpa, hkn, hst, hpm, hsi, hab, hsm, hvo, hvm, hbi, hlb, hiv, hod, hol, hoi, hfi, hli, had, hro⟩ := id h0
  obtain ⟨s1, s2, s3, s4, s5, s6, s7, s8, s9, b1, b2, b3, b4, b5, b6, b7, b8, b9, e1, e2⟩ := id hsc
  obtain ⟨x1, x2, x3, x4, x5, x6, x7⟩ := id hss
  obtain ⟨y1, y2, y3, y4, y5, y6, y7, y8, y9, y10, y11, y12, y13, y14, y15⟩ := id har
  obtain ⟨w1, w2, w3, w4, w5, w6⟩ := id hpl
  obtain ⟨l1, l2, l3, l4, l5, l6, l7, l8⟩ := id hli
  by_cases h1 : tp_i 1 4 p0
  · obtain ⟨ua, ua1, ua2, ua3, rfl⟩ := tp_i_fac h1
    have uac : (nI ua).toNatClampNeg = ua := nI_clamp (by omega)
    have uav : vp_in (nI ua) 5 := vp_in_nI ua3 (by decide)
    by_cases h2 : tp_i 0 3 p1
    · obtain ⟨ub, ub3, rfl⟩ := tp_i_lt (m := 4) h2 (by decide)
      have ubc : (nI ub).toNatClampNeg = ub := nI_clamp (by omega)
      have ubv : vp_in (nI ub) 4 := vp_in_nI ub3 (by decide)
      simp (disch := decide) only [wpX11_open, wbX11_open_28, wbX11_open_29, wpX12_open, wbX12_open_23, wbX12_open_24, tp_isFactory, tp_isPlace, tp_isSort, tp_isSheet, tp_isHolder, tp_isPerson, tp_isPaper, tp_isShip, tp_isVoyage, tp_within, tp_in, tp_mPlace, tp_mFactory, tp_mSort, tp_mBuyer, tp_b0, tp_b1, Classical.not_not, tp_nb0, tp_nb1, tp_nb, true_and, Int32.reduceToInt]
      repeat' (with_reducible first | refine tp_cT (by first | assumption | decide) ?_ | refine tp_cF (by first | assumption | decide) ?_ | refine tp_dT (by first | assumption | decide) ?_ | refine tp_dF (by first | assumption | decide) ?_ | refine And.intro (by first | assumption | decide) ?_ | refine tp_ae ?_)
      rw [uac, ubc]
      exact tp_openOf s7 b8 ua1 ua3 ub3 had ⟨rfl, hT⟩
    · simp (disch := decide) only [wpX11_open, wbX11_open_28, wbX11_open_29, wpX12_open, wbX12_open_23, wbX12_open_24, tp_isFactory, tp_isPlace, tp_isSort, tp_isSheet, tp_isHolder, tp_isPerson, tp_isPaper, tp_isShip, tp_isVoyage, tp_within, tp_in, tp_mPlace, tp_mFactory, tp_mSort, tp_mBuyer, tp_b0, tp_b1, Classical.not_not, tp_nb0, tp_nb1, tp_nb, true_and, Int32.reduceToInt]
      repeat' (with_reducible first | refine tp_cT (by first | assumption | decide) ?_ | refine tp_cF (by first | assumption | decide) ?_ | refine tp_dT (by first | assumption | decide) ?_ | refine tp_dF (by first | assumption | decide) ?_ | refine And.intro (by first | assumption | decide) ?_ | refine tp_ae ?_)
      first | exact ⟨rfl, hT⟩ | exact hT
  · simp (disch := decide) only [wpX11_open, wbX11_open_28, wbX11_open_29, wpX12_open, wbX12_open_23, wbX12_open_24, tp_isFactory, tp_isPlace, tp_isSort, tp_isSheet, tp_isHolder, tp_isPerson, tp_isPaper, tp_isShip, tp_isVoyage, tp_within, tp_in, tp_mPlace, tp_mFactory, tp_mSort, tp_mBuyer, tp_b0, tp_b1, Classical.not_not, tp_nb0, tp_nb1, tp_nb, true_and, Int32.reduceToInt]
    repeat' (with_reducible first | refine tp_cT (by first | assumption | decide) ?_ | refine tp_cF (by first | assumption | decide) ?_ | refine tp_dT (by first | assumption | decide) ?_ | refine tp_dF (by first | assumption | decide) ?_ | refine And.intro (by first | assumption | decide) ?_ | refine tp_ae ?_)
    first | exact ⟨rfl, hT⟩ | exact hT
