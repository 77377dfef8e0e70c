/-! pure: what a factory does: lade -/
theorem RR_lade {c h w d pn P Sh V E A t r eb : Nat} {G : Nat → Nat → Nat → Nat} {C : Nat → Nat → Nat} {OL : Nat → List Nat} {N : tq_Nn} {S M : tq_St} (h0 : RR c h w d pn P Sh V E A t r eb G C OL N S M) {s p y : Nat} {u v : Int32} (hs : s < Sh) (hp : p < 5) (hy : y < 4) (h8 : h = 8) (hat : M 124 0 s = nI p) : RR c h w d pn P Sh V E A t r eb G C OL N (tq_up (tq_up S 30 p y u) 54 (G 19 0 s) y v) (tq_up (tq_up M 102 p y u) 127 s y v) := by
  obtain ⟨hsc, hss, har, hpl, hlg, hsh, hpe, hmo, hpr, hsr, hpa, hkn, hst, hpm, hsi, hab, hsm, hvo, hvm, hbi, hlb, hiv, hod, hol, hoi, hfi, hli, had, hro⟩ := h0
  have b5 := hsc.2.2.2.2.2.2.2.2.2.2.2.2.2.1
  have b4 := hsc.2.2.2.2.2.2.2.2.2.2.2.2.1
  have b3 := hsc.2.2.2.2.2.2.2.2.2.2.2.1
  have b2 := hsc.2.2.2.2.2.2.2.2.2.2.1
  refine ⟨?_, ?_, ?_, ?_, ?_, ?_, ?_, ?_, ?_, ?_, ?_, ?_, ?_, ?_, ?_, ?_, ?_, ?_, ?_, ?_, ?_, ?_, ?_, ?_, ?_, ?_, ?_, ?_, ?_⟩
  · simpa (disch := decide) only [q_sc, tq_upk, tq_upj, tq_cpk] using hsc
  · simpa (disch := decide) only [q_ss, tq_upk, tq_upj, tq_cpk] using hss
  · obtain ⟨y1, y2, y3, y4, y5, y6, y7, y8, y9, y10, y11, y12, y13, y14, y15⟩ := har
    refine ⟨?_, ?_, ?_, ?_, ?_, ?_, ?_, ?_, ?_, ?_, ?_, ?_, ?_, ?_, ?_⟩
    · simpa (disch := decide) only [tq_upk, tq_upj, tq_cpk] using y1
    · simpa (disch := decide) only [tq_upk, tq_upj, tq_cpk] using y2
    · simpa (disch := decide) only [tq_upk, tq_upj, tq_cpk] using y3
    · simpa (disch := decide) only [tq_upk, tq_upj, tq_cpk] using y4
    · simpa (disch := decide) only [tq_upk, tq_upj, tq_cpk] using y5
    · simpa (disch := decide) only [tq_upk, tq_upj, tq_cpk] using y6
    · first | exact tp_up2 y7 | (simp (disch := decide) only [tq_upk, tq_cpk]; exact tp_up2 y7)
    · simpa (disch := decide) only [tq_upk, tq_upj, tq_cpk] using y8
    · simpa (disch := decide) only [tq_upk, tq_upj, tq_cpk] using y9
    · simpa (disch := decide) only [tq_upk, tq_upj, tq_cpk] using y10
    · simpa (disch := decide) only [tq_upk, tq_upj, tq_cpk] using y11
    · simpa (disch := decide) only [tq_upk, tq_upj, tq_cpk] using y12
    · simpa (disch := decide) only [tq_upk, tq_upj, tq_cpk] using y13
    · simpa (disch := decide) only [tq_upk, tq_upj, tq_cpk] using y14
    · simpa (disch := decide) only [tq_upk, tq_upj, tq_cpk] using y15
  · simpa (disch := decide) only [q_pl, tq_upk, tq_upj, tq_cpk] using hpl
  · simpa (disch := decide) only [q_lg, tq_upk, tq_upj, tq_cpk] using hlg
  · simpa (disch := decide) only [q_sh, tq_upk, tq_upj, tq_cpk] using hsh
  · simpa (disch := decide) only [q_pe, tq_upk, tq_upj, tq_cpk] using hpe
  · simpa (disch := decide) only [q_mo, tq_upk, tq_upj, tq_cpk] using hmo
  · simpa (disch := decide) only [q_pr, tq_upk, tq_upj, tq_cpk] using hpr
  · simpa (disch := decide) only [q_sr, tq_upk, tq_upj, tq_cpk] using hsr
  · simpa (disch := decide) only [q_pa, q_pb, tq_upk, tq_upj, tq_cpk] using hpa
  · simpa (disch := decide) only [q_kn, tq_upk, tq_upj, tq_cpk] using hkn
  · simpa (disch := decide) only [q_st, tq_upk, tq_upj, tq_cpk] using hst
  · simpa (disch := decide) only [q_pm, q_pn, tq_upk, tq_upj, tq_cpk] using hpm
  · intro z hz
    obtain ⟨a1, a2, a3, a4, a5, a6, a7, a8, a9, a10⟩ := hsi z hz
    simp (disch := decide) only [tq_upk]
    refine ⟨a1, a2, a3, a4, a5, a6, a7, a8, a9, ?_⟩
    intro h1
    obtain ⟨c1, c2, c3⟩ := a10 h1
    refine ⟨c1, fun q hq => ?_, c3⟩
    by_cases e : z = s
    · subst e
      by_cases e2 : q = y
      · subst e2; rw [tq_upe, tq_upe]
      · simp (disch := first | decide | exact e2) only [tq_upj, tq_upk]; exact c2 q hq
    · rw [tq_upi (fun z2 => e (hsi.inj b4 hz hs z2)), tq_upi e, tq_upk (by decide), tq_upk (by decide)]; exact c2 q hq
  · simpa (disch := decide) only [q_ab, tq_upk, tq_upj, tq_cpk] using hab
  · obtain ⟨a1, a2, a3⟩ := hsm
    refine ⟨fun z hz => ?_, ?_, fun z h1 h2 => ?_⟩
    · obtain ⟨c1, c2, c3, c4⟩ := a1 z hz
      simp (disch := decide) only [tq_upk]
      refine ⟨c1, c2, c3, fun h1 => ?_⟩
      by_cases e : z = s
      · subst e
        rw [hat] at h1
        exact absurd h1 (fun w => by rw [tp_eq, tp_ti (by omega)] at w; have : (-1 : Int32).toInt = -1 := by decide
                                     omega)
      · rw [tq_upi e, tq_upk (by decide)]; exact c4 h1
    · simpa (disch := decide) only [tq_upk] using a2
    · have z2 : tq_up (tq_up M 102 p y u) 127 s y v 127 z = M 127 z := by rw [tq_upi (by omega), tq_upk (by decide)]
      simp (disch := decide) only [tq_upk] at z2 ⊢
      rw [z2]
      exact a3 z h1 h2
  · simpa (disch := decide) only [q_vo, tq_upk, tq_upj, tq_cpk] using hvo
  · simpa (disch := decide) only [q_vm, tq_upk, tq_upj, tq_cpk] using hvm
  · simpa (disch := decide) only [q_bi, tq_upk, tq_upj, tq_cpk] using hbi
  · simpa (disch := decide) only [q_lb, tq_upk, tq_upj, tq_cpk] using hlb
  · simpa (disch := decide) only [q_iv, tq_upk, tq_upj, tq_cpk] using hiv
  · simpa (disch := decide) only [q_od, tq_upk, tq_upj, tq_cpk] using hod
  · simpa (disch := decide) only [q_ol, tq_upk, tq_upj, tq_cpk] using hol
  · simpa (disch := decide) only [q_oi, tq_upk, tq_upj, tq_cpk] using hoi
  · simpa (disch := decide) only [q_fi, tq_upk, tq_upj, tq_cpk] using hfi
  · simpa (disch := decide) only [q_li, tq_upk, tq_upj, tq_cpk] using hli
  · simpa (disch := decide) only [q_ad, tq_upk, tq_upj, tq_cpk] using had
  · simpa (disch := decide) only [q_ro, tq_upk, tq_upj, tq_cpk] using hro
theorem ac_lade {c w d pn P Sh V E A t r eb : Nat} {G : Nat → Nat → Nat → Nat} {C : Nat → Nat → Nat} {OL : Nat → List Nat} {N : tq_Nn} {S M : tq_St} {post : tq_St → Prop} {p s q x g num : Nat} (h0 : RR c 8 w d pn P Sh V E A t r eb G C OL N S M) (hp1 : 1 ≤ p) (hp : p < 5) (hs : s < 4) (heb : eb + 1 ≤ 100000000) (hq : N 10 q = 1) (q0 : S 10 q 0 = nI x) (q1 : S 10 q 1 = nI g) (q2 : S 10 q 2 = nI 2) (q3 : S 10 q 3 = nI s) (q4 : S 10 q 4 = nI num)
    (k : ∀ (S1 M1 : tq_St) (E1 : Nat), RR c 8 w d pn P Sh V E1 A t r (eb + 1) G C OL N S1 M1 → aF p P S S1 M M1 → (∀ pm : tq_St → Prop, pm M1 → wpX12_doLade pm M (nI p) (nI s) (nI num) (nI x) (nI g)) → post S1) :
    ∀ (m i : Nat), i + m = Sh → (∀ pm : tq_St → Prop, wbX12_doLade_3 pm (m + 1) M (nI p) (nI s) (nI num) (nI x) (nI g) (nI i) → wpX12_doLade pm M (nI p) (nI s) (nI num) (nI x) (nI g)) → wbX11_ladeShip_8 N post (m + 1) S q p (nI s) (nI i) := by
  obtain ⟨hsc, hss, har, hpl, hlg, hsh, hpe, hmo, hpr, hsr, hpa, hkn, hst, hpm, hsi, hab, hsm, hvo, hvm, hbi, hlb, hiv, hod, hol, hoi, hfi, hli, had, hro⟩ := id h0
  obtain ⟨s1, s2, s3, s4, s5, s6, s7, s8, s9, b1, b2, b3, b4, b5, b6, b7, b8, b9, e1, e2⟩ := id hsc
  have w1 : S 2 p 0 = nI p := hpl.1 p hp
  have l2 := hli.2.1
  have e30 : S 30 = M 102 := har.2.2.2.2.2.2.1
  have sc : (nI s).toNatClampNeg = s := nI_clamp (by omega)
  have sv : vp_in (nI s) 4 := vp_in_nI hs (by decide)
  have pc : (nI p).toNatClampNeg = p := nI_clamp (by omega)
  have pv : vp_in (nI p) 5 := vp_in_nI hp (by decide)
  have nop : (∀ pm : tq_St → Prop, pm M → wpX12_doLade pm M (nI p) (nI s) (nI num) (nI x) (nI g)) → post S := fun hr => k S M E (h0.wk (Nat.le_refl _) e2 (by omega) heb) aF.rf hr
  intro m
  induction m with
  | zero =>
    intro i hi hr
    unfold wbX11_ladeShip_8
    rw [tp_len l2]
    refine tp_dT (nI_le (by omega) (by omega)) (nop (fun pm hpm => hr pm ?_))
    unfold wbX12_doLade_3
    rw [s4]
    exact tp_dT (nI_le (by omega) (by omega)) hpm
  | succ m ih =>
    intro i hi hr
    have ic : (nI i).toNatClampNeg = i := nI_clamp (by omega)
    have iv : vp_in (nI i) 8 := vp_in_nI (by omega) (by decide)
    obtain ⟨f1, f2, f3⟩ := tp_get l2 (show i < Sh by omega)
    obtain ⟨sa1, sa2, sa3, sa4, sa5, sa6, sa7, sa8, sa9, sa10⟩ := hsi i (by omega)
    obtain ⟨sb1, sb2, sb3⟩ := sa10 (by omega)
    have hnext : (¬ (M 124 0 i = nI p ∧ ¬ M 125 0 i = 0)) → wbX11_ladeShip_8 N post (m + 1) S q p (nI s) (nI (i + 1)) := fun z => ih (i + 1) (by omega) (fun pm hpm => hr pm (by
      unfold wbX12_doLade_3 wbX12_doLade_106
      rw [s4, ic, nI_1]
      refine tp_dF (nI_ge (by omega) (by omega)) ⟨iv, ?_⟩
      by_cases z1 : M 124 0 i = nI p
      · exact tp_cT z1 (tp_cT (Classical.byContradiction (fun z2 => z ⟨z1, z2⟩)) hpm)
      · exact tp_cF z1 hpm))
    unfold wbX11_ladeShip_8 wbX11_ladeShip_118 wbX11_ladeShip_119 wpX8_freeTons
    rw [tp_len l2, f2, nI_1 i]
    refine tp_dF (nI_ge (by omega) (by omega)) ⟨f1, f3, hp, ?_⟩
    rw [sa7, w1]
    by_cases z1 : M 124 0 i = nI p
    · refine tp_cT z1 ?_
      rw [sa8]
      by_cases z2 : M 125 0 i = 0
      · exact tp_dT z2 (hnext (fun z => z.2 z2))
      · refine tp_dF z2 ⟨sv, f3, sa1, sa2, hq, ?_⟩
        have fr := tp_freeq (P := P) (d := d) hsi hsm b2 b4 (show i < Sh by omega) (show i ≠ 8 by omega)
        rw [fr, q4, sc, e30]
        generalize hFR : M 123 0 i - bx_sum (M 127 i) 4 - bx_sum (M 129 i) pn = FR
        generalize hKK : (if (if FR < M 102 p s then FR else M 102 p s) < nI num then (if FR < M 102 p s then FR else M 102 p s) else nI num) = KK
        have href : ∀ pm : tq_St → Prop, ((KK ≤ 0 → pm M) ∧ (¬ KK ≤ 0 → wpX12_enter pm (tq_up (tq_up M 102 p s (M 102 p s - KK)) 127 i s (M 127 i s + KK)) (nI p) 2 (nI s) KK 0 (nI x) (nI g))) → wpX12_doLade pm M (nI p) (nI s) (nI num) (nI x) (nI g) := fun pm hpm => hr pm (by
          unfold wbX12_doLade_3 wbX12_doLade_105
          rw [s4, ic, pc, sc]
          refine tp_dF (nI_ge (by omega) (by omega)) ⟨iv, tp_cT z1 (tp_cF z2 ⟨pv, sv, tp_free (by omega) s2 b2 ?_⟩)⟩
          rw [hFR, hKK]
          by_cases z3 : KK ≤ 0
          · exact tp_dT z3 (hpm.1 z3)
          · refine tp_dF z3 (tp_ae (tp_ae ?_))
            rw [tq_upk (show 127 ≠ 102 by decide)]
            exact hpm.2 z3)
        by_cases z3 : KK ≤ 0
        · exact tp_dT z3 (nop (fun pm hpm => href pm (tp_dT z3 hpm)))
        · refine tp_dF z3 (tp_ae ⟨sa1, tp_ae ?_⟩)
          rw [tq_upk (show 54 ≠ 30 by decide), sb2 s hs]
          have h1 := RR_lade (y := s) (u := M 102 p s - KK) (v := M 127 i s + KK) h0 (show i < Sh by omega) hp hs rfl z1
          obtain ⟨S6, M6, g1, g2, g3, g4, g5, g6, g7⟩ := tp_enter (v2 := 2) (v3 := nI s) (v4 := KK) (v5 := 0) (v6 := nI x) (v7 := nI g) h1 hp1 (by omega) heb
          unfold wpX11_enterFor
          have k10 : tq_up (tq_up S 30 p s (M 102 p s - KK)) 54 (G 19 0 i) s (M 127 i s + KK) 10 = S 10 := by simp (disch := decide) only [tq_upk]
          have k20 : tq_up (tq_up S 30 p s (M 102 p s - KK)) 54 (G 19 0 i) s (M 127 i s + KK) 2 = S 2 := by simp (disch := decide) only [tq_upk]
          rw [k10, k20, q0, q1, q2, q3, w1]
          refine ⟨hp, hq, g6 _ (k S6 M6 _ g1 ⟨?_, ?_, ?_, fun n _ => ⟨?_, ?_⟩⟩ (fun pm hpm => href pm (tp_dF z3 (g7 _ hpm))))⟩
          · rw [g2 2 (by decide) (by decide)]; simp (disch := decide) only [tq_upk]
          · rw [g4 74 (by decide)]; simp (disch := decide) only [tq_upk]
          · rw [g3 172 (by decide) (by decide)]; simp (disch := decide) only [tq_upk]
          · rw [g3 117 (by decide) (by decide)]; simp (disch := decide) only [tq_upk]
          · rw [g3 118 (by decide) (by decide)]; simp (disch := decide) only [tq_upk]
    · exact tp_cF z1 (hnext (fun z => z1 z.1))
