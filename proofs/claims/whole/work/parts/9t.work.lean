/-! pure: a factory at work -/
def acR (pm : tq_St → Prop) (M : tq_St) (p x g : Nat) : Prop :=
  (M 118 x (4 * g) = 0 → wpX12_doBuy pm M (nI p) (M 118 x (4 * g + 1)) (M 118 x (4 * g + 2)) (nI x) (nI g)) ∧ (¬ M 118 x (4 * g) = 0 →
  ((M 118 x (4 * g) = 1 → wpX12_doAdvance pm M (nI p) (M 118 x (4 * g + 1)) (M 118 x (4 * g + 2)) (nI x) (nI g)) ∧ (¬ M 118 x (4 * g) = 1 →
  ((M 118 x (4 * g) = 2 → wpX12_doLade pm M (nI p) (M 118 x (4 * g + 1)) (M 118 x (4 * g + 2)) (nI x) (nI g)) ∧ (¬ M 118 x (4 * g) = 2 →
  ((M 118 x (4 * g) = 3 → wpX12_doSail pm M (nI p) (M 118 x (4 * g + 2)) (nI x) (nI g)) ∧ (¬ M 118 x (4 * g) = 3 →
  ((M 118 x (4 * g) = 4 → wpX12_doDraw pm M (nI p) (M 118 x (4 * g + 2)) (nI x) (nI g)) ∧ (¬ M 118 x (4 * g) = 4 →
  (∀ M28, M28 = tq_up M 64 0 74 (M 118 x (4 * g + 2)) → pm M28))))))))))
theorem ac_all {c w d pn P Sh V E A t r eb : Nat} {G : Nat → Nat → Nat → Nat} {C : Nat → Nat → Nat} {OL : Nat → List Nat} {N : tq_Nn} {S M : tq_St} {post : tq_Nn → tq_St → Prop} {p q x g kp : Nat} (h0 : RR c 8 w d pn P Sh V E A t r eb G C OL N S M) (hp1 : 1 ≤ p) (hp : p < 5) (heb : eb + 1 ≤ 100000000) (hpw : p < w) (hkp : kp ≤ 9999) (hq : N 10 q = 1) (hpg : q_pg x g q G C N (S 10) (S 11) (S 59) (S 60) (M 118 x) (M 119 x)) (hk8 : S 2 p 8 = nI kp) (hk74 : M 64 0 74 = nI kp)
    (k : ∀ (N1 : tq_Nn) (S1 M1 : tq_St) (P1 V1 E1 A1 kp1 : Nat) (G1 : Nat → Nat → Nat → Nat) (C1 : Nat → Nat → Nat), RR c 8 w d pn P1 Sh V1 E1 A1 t r (eb + 1) G1 C1 OL N1 S1 M1 → P ≤ P1 → (S1 2 p 8 = nI kp1 ∧ M1 64 0 74 = nI kp1 ∧ kp1 ≤ 9999) → M1 172 = M 172 → (∀ n, n < P → M1 117 0 n = M 117 0 n ∧ M1 118 n = M 118 n) → (∀ pm : tq_St → Prop, pm M1 → acR pm M p x g) → post N1 S1) : wpX11_carryOut post N S q p := by
  have hx : tq_CX < 2 ^ 31 - 1 := by unfold tq_CX; decide
  obtain ⟨c1, q0, q1, ⟨a, a1, a2, q2, q3, a5, a6⟩, ⟨num, num1, num2⟩, q4, _⟩ := hpg
  rw [num2] at q4
  have e2 := h0.1.2.2.2.2.2.2.2.2.2.2.2.2.2.2.2.2.2.2.2
  have l2 := h0.2.2.2.2.2.2.2.2.2.2.2.2.2.2.2.2.2.2.2.2.2.2.2.2.2.2.1.2.1
  have b4 := h0.1.2.2.2.2.2.2.2.2.2.2.2.2.1
  unfold acR at k
  rw [num2] at k
  unfold wpX11_carryOut wbX11_carryOut_93
  refine ⟨hq, ?_⟩
  have ca : a = 0 ∨ a = 1 ∨ a = 2 ∨ a = 3 ∨ a = 4 ∨ a = 5 := by omega
  rcases ca with rfl | rfl | rfl | rfl | rfl | rfl
  · obtain ⟨s, s1, s2, _⟩ := a5 (by decide)
    rw [s2] at q3 k
    rw [a2] at k
    rw [q2]
    refine tp_dT (by decide) (ac_buy h0 hp1 hp s1 num1 hkp heb hq q0 q1 q2 q3 q4 hk8 hk74 (fun S1 M1 E1 hR aF1 kk => ?_))
    exact k N S1 M1 P V E1 A kp G C hR (Nat.le_refl _) ⟨aF1.1.trans hk8, aF1.2.1.trans hk74, hkp⟩ aF1.2.2.1 aF1.2.2.2 (fun pm hpm => tp_dT (by decide) (kk pm hpm))
  · obtain ⟨s, s1, s2, _⟩ := a5 (by decide)
    rw [s2] at q3 k
    rw [a2] at k
    rw [q2]
    refine tp_dF (by decide) (tp_dT (by decide) (ac_adv h0 hp1 hp s1 num1 hkp heb hpw hq q0 q1 q2 q3 q4 hk8 hk74 (fun S1 M1 E1 A1 hR aF1 kk => ?_)))
    exact k N S1 M1 P V E1 A1 kp G C hR (Nat.le_refl _) ⟨aF1.1.trans hk8, aF1.2.1.trans hk74, hkp⟩ aF1.2.2.1 aF1.2.2.2 (fun pm hpm => tp_dF (by decide) (tp_dT (by decide) (kk pm hpm)))
  · obtain ⟨s, s1, s2, _⟩ := a5 (by decide)
    rw [s2] at q3 k
    rw [a2] at k
    rw [q2]
    refine tp_dF (by decide) (tp_dF (by decide) (tp_dT (by decide) ?_))
    unfold wpX11_ladeShip
    rw [q3]
    refine ⟨hq, Sh + 1, ac_lade h0 hp1 hp s1 heb hq q0 q1 q2 q3 q4 (fun S1 M1 E1 hR aF1 kk => ?_) Sh 0 (by omega) (fun pm hpm => ⟨Sh + 1, hpm⟩)⟩
    exact k N S1 M1 P V E1 A kp G C hR (Nat.le_refl _) ⟨aF1.1.trans hk8, aF1.2.1.trans hk74, hkp⟩ aF1.2.2.1 aF1.2.2.2 (fun pm hpm => tp_dF (by decide) (tp_dF (by decide) (tp_dT (by decide) (kk pm hpm))))
  · have s2 := (a6 (by decide)).1
    rw [s2] at q3
    rw [a2] at k
    rw [q2]
    refine tp_dF (by decide) (tp_dF (by decide) (tp_dF (by decide) (tp_dT (by decide) ?_)))
    unfold wpX11_sendShip
    rw [q4]
    refine ⟨hq, Sh + 1, ac_sail h0 hp1 hp num1 heb hq q0 q1 q2 q3 (fun N1 S1 M1 P1 V1 E1 A1 G1 C1 hR hP1 aF1 kk => ?_) Sh 0 (by omega) (fun pm hpm => ⟨Sh + 1, hpm⟩)⟩
    exact k N1 S1 M1 P1 V1 E1 A1 kp G1 C1 hR hP1 ⟨aF1.1.trans hk8, aF1.2.1.trans hk74, hkp⟩ aF1.2.2.1 aF1.2.2.2 (fun pm hpm => tp_dF (by decide) (tp_dF (by decide) (tp_dF (by decide) (tp_dT (by decide) (kk pm hpm)))))
  · have s2 := (a6 (by decide)).1
    rw [s2] at q3
    rw [a2] at k
    rw [q2]
    refine tp_dF (by decide) (tp_dF (by decide) (tp_dF (by decide) (tp_dF (by decide) (tp_dT (by decide) ?_))))
    refine ac_draw h0 hp1 hp num1 heb hq q0 q1 q2 q3 q4 (fun N1 S1 M1 P1 V1 E1 A1 G1 C1 hR hP1 aF1 kk => ?_)
    exact k N1 S1 M1 P1 V1 E1 A1 kp G1 C1 hR hP1 ⟨aF1.1.trans hk8, aF1.2.1.trans hk74, hkp⟩ aF1.2.2.1 aF1.2.2.2 (fun pm hpm => tp_dF (by decide) (tp_dF (by decide) (tp_dF (by decide) (tp_dF (by decide) (tp_dT (by decide) (kk pm hpm))))))
  · rw [a2] at k
    rw [q2, q4]
    refine tp_dF (by decide) (tp_dF (by decide) (tp_dF (by decide) (tp_dF (by decide) (tp_dF (by decide) ⟨hp, tp_ae ?_⟩))))
    have hk := (RR_keep0 (p := p) (v := nI num) (h0.wk (Nat.le_refl _) e2 (Nat.le_succ eb) heb)).mf (M1 := tq_up M 64 0 74 (nI num)) (fun j _ _ _ _ j5 => tq_upj j5) (fun k k1 _ _ _ _ _ _ _ _ => tq_upk k1) (fun n _ => by rw [tq_upk (by decide)]) (fun n _ => by rw [tq_upk (by decide)]) (fun n _ => by rw [tq_upk (by decide)])
    exact k N _ _ P V E A num G C hk (Nat.le_refl _) ⟨tq_upe, tq_upe, num1⟩ (by rw [tq_upk (by decide)]) (fun n _ => ⟨by rw [tq_upk (by decide)], by rw [tq_upk (by decide)]⟩) (fun pm hpm => tp_dF (by decide) (tp_dF (by decide) (tp_dF (by decide) (tp_dF (by decide) (tp_dF (by decide) (tp_ae hpm))))))
theorem wk_loop {c w d pn Sh t r p : Nat} {OL : Nat → List Nat} {L : List (Nat × Nat)} {post : tq_Nn → tq_St → Prop} (hp1 : 1 ≤ p) (hp : p < 5) (hpw : p < w) (hL : L.length ≤ 900) :
    ∀ (m i : Nat) (P V E A eb kp : Nat) (G : Nat → Nat → Nat → Nat) (C : Nat → Nat → Nat) (N : tq_Nn) (S M : tq_St), i + m = L.length → RR c 8 w d pn P Sh V E A t r eb G C OL N S M → eb + m ≤ 100000000 → kp ≤ 9999 → S 2 p 8 = nI kp → M 64 0 74 = nI kp → tp_FL (M 117 0) (M 118) (OL p) = L → (∀ j x g : Nat, L[j]? = some (x, g) → M 172 0 j = nI (10 * x + g)) →
    (∀ (N1 : tq_Nn) (S1 M1 : tq_St) (P1 V1 E1 A1 : Nat) (G1 : Nat → Nat → Nat → Nat) (C1 : Nat → Nat → Nat), RR c 8 w d pn P1 Sh V1 E1 A1 t r (eb + m) G1 C1 OL N1 S1 M1 → (∀ pm : tq_St → Prop, pm M1 → wbX12_factoryDay_53 pm (m + 1) M (nI p) (nI L.length) (nI i)) → post N1 S1) → wbX11_workAt_19 post (m + 1) N S p (nI i)
  | 0, i, P, V, E, A, eb, kp, G, C, N, S, M, hi, h0, heb, hkp, hk8, hk74, hF, h172, k => by
    have l6 := h0.2.2.2.2.2.2.2.2.2.2.2.2.2.2.2.2.2.2.2.2.2.2.2.2.2.2.1.2.2.2.2.2.1 p hp
    unfold wbX11_workAt_19
    rw [tp_len l6, hF]
    refine ⟨hp, tp_dT (nI_le (by omega) (by omega)) (k N S M P V E A G C h0 (fun pm hpm => ?_))⟩
    unfold wbX12_factoryDay_53
    exact tp_dT (nI_le (by omega) (by omega)) hpm
  | m + 1, i, P, V, E, A, eb, kp, G, C, N, S, M, hi, h0, heb, hkp, hk8, hk74, hF, h172, k => by
    have l6 := h0.2.2.2.2.2.2.2.2.2.2.2.2.2.2.2.2.2.2.2.2.2.2.2.2.2.2.1.2.2.2.2.2.1 p hp
    have s4 := h0.1.2.2.2.1
    have b3 := h0.1.2.2.2.2.2.2.2.2.2.2.2.1
    have b4 := h0.1.2.2.2.2.2.2.2.2.2.2.2.2.1
    have e2 := h0.1.2.2.2.2.2.2.2.2.2.2.2.2.2.2.2.2.2.2.2
    have hol := h0.2.2.2.2.2.2.2.2.2.2.2.2.2.2.2.2.2.2.2.2.2.2.2.1
    have hiL : i < L.length := by omega
    obtain ⟨⟨x, g⟩, hxg⟩ : ∃ xg, L[i]? = some xg := ⟨_, List.getElem?_eq_getElem hiL⟩
    have ic : (nI i).toNatClampNeg = i := nI_clamp (by omega)
    have hxg2 := hxg
    rw [← hF] at hxg2
    obtain ⟨px, pk, pg, pG, gok, gel, n10, hpg⟩ := h0.par hp hxg2
    have v172 := h172 i x g hxg
    have hx10 : 10 * x + g < 2 ^ 31 := by omega
    have dX : nI (10 * x + g) / 10 = nI x := by
      have : nI (10 * x + g) / 10 = nI ((10 * x + g) / 10) := pk_div (d := 10) hx10 (by decide) (by decide)
      rw [this, show (10 * x + g) / 10 = x by omega]
    have dG : nI (10 * x + g) - nI (10 * x + g) / 10 * 10 = nI g := by
      have : nI (10 * x + g) - nI (10 * x + g) / 10 * 10 = nI ((10 * x + g) % 10) := pk_rem (d := 10) hx10 (by decide) (by decide)
      rw [this, show (10 * x + g) % 10 = g by omega]
    have dG2 : nI (10 * x + g) - nI x * 10 = nI g := by rw [← dX]; exact dG
    have href : ∀ pm : tq_St → Prop, ((tp_H M p Sh x g → acR (fun M1 => wbX12_factoryDay_53 pm (m + 1) M1 (nI p) (nI L.length) (nI (i + 1))) M p x g) ∧ (¬ tp_H M p Sh x g → wbX12_factoryDay_53 pm (m + 1) M (nI p) (nI L.length) (nI (i + 1)))) → wbX12_factoryDay_53 pm (m + 1 + 1) M (nI p) (nI L.length) (nI i) := by
      intro pm hpm
      unfold wbX12_factoryDay_53 wbX12_factoryDay_254
      have e4 : (4 : Int32) * nI g = nI (4 * g) := pk_mul 4 g
      have e41 : nI (4 * g) + 1 = nI (4 * g + 1) := nI_1 _
      have e42 : nI (4 * g) + 2 = nI (4 * g + 2) := nI_add _ 2
      have f0 : (nI x).toNatClampNeg = x := nI_clamp (by omega)
      have f1 : (nI (4 * g)).toNatClampNeg = 4 * g := nI_clamp (by omega)
      have f2 : (nI (4 * g + 1)).toNatClampNeg = 4 * g + 1 := nI_clamp (by omega)
      have f3 : (nI (4 * g + 2)).toNatClampNeg = 4 * g + 2 := nI_clamp (by omega)
      simp only [ic, v172, dX, dG, dG2, e4, e41, e42, f0, f1, f2, f3, nI_1 i]
      refine tp_dF (nI_ge (by omega) (by omega)) ⟨vp_in_nI (by omega) (by decide), tp_holdM2 (M := M) (fun _ _ => rfl) hp (by omega) pg s4 b4 hpg ?_⟩
      by_cases z : tp_H M p Sh x g
      · rw [tp_bt z]
        exact tp_cF (by decide) ⟨vp_in_nI (by omega) (by decide), vp_in_nI (by omega) (by decide), vp_in_nI (by omega) (by decide), vp_in_nI (by omega) (by decide), hpm.1 z⟩
      · rw [tp_bf z]
        exact tp_cT rfl (hpm.2 z)
    unfold wbX11_workAt_19 wbX11_workAt_57
    rw [tp_len l6, hF, gel, nI_1 i]
    refine ⟨hp, tp_dF (nI_ge (by omega) (by omega)) ⟨gok, n10, tp_holdS h0 hp1 hp n10 hpg ?_⟩⟩
    by_cases z : tp_H M p Sh x g
    · rw [tp_bt z]
      refine tp_dF (by decide) (ac_all h0 hp1 hp (by omega) hpw hkp n10 hpg hk8 hk74 (fun N1 S1 M1 P1 V1 E1 A1 kp1 G1 C1 hR hP1 hkk h1 h2 kk => ?_))
      refine wk_loop hp1 hp hpw hL m (i + 1) P1 V1 E1 A1 (eb + 1) kp1 G1 C1 N1 S1 M1 (by omega) hR (by omega) hkk.2.2 hkk.1 hkk.2.1 ?_ (fun j x' g' hj => by rw [h1]; exact h172 j x' g' hj) (fun N2 S2 M2 P2 V2 E2 A2 G2 C2 hR2 kk2 => k N2 S2 M2 P2 V2 E2 A2 G2 C2 (by rw [show eb + (m + 1) = eb + 1 + m by omega]; exact hR2) (fun pm hpm => href pm ⟨fun _ => kk _ (kk2 pm hpm), fun w => absurd z w⟩))
      rw [← hF]
      refine tp_FL_cong (fun y hy => ?_)
      have hy2 := ((hol p hp).1 y).mp hy
      exact h2 y hy2.1
    · rw [tp_bf z]
      refine tp_dT rfl (wk_loop hp1 hp hpw hL m (i + 1) P V E A (eb + 1) kp G C N S M (by omega) (h0.wk (Nat.le_refl _) e2 (by omega) (by omega)) (by omega) hkp hk8 hk74 hF h172 (fun N2 S2 M2 P2 V2 E2 A2 G2 C2 hR2 kk2 => k N2 S2 M2 P2 V2 E2 A2 G2 C2 (by rw [show eb + (m + 1) = eb + 1 + m by omega]; exact hR2) (fun pm hpm => href pm ⟨fun w => absurd w z, fun _ => kk2 pm hpm⟩)))
