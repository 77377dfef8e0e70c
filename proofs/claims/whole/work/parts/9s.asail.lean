/-! pure: what a factory does: sail, the second -/
theorem lv_64 {M : tq_St} {s V j : Nat} {to comes bey : Int32} (h : j ≠ 31) : tp_lv M s V to comes bey 64 0 j = M 64 0 j := by
  unfold tp_lv
  simp (disch := first | decide | exact h) only [tq_upk, tq_upj, tq_cpk]
/-- behind the ship's leave: the invoice and the entry -/
theorem ac_inv {c w d pn P Sh V E A t r eb : Nat} {G : Nat → Nat → Nat → Nat} {C : Nat → Nat → Nat} {OL : Nat → List Nat} {N : tq_Nn} {S M : tq_St} {post : tq_Nn → tq_St → Prop} {p s q x g v : Nat} (h0 : RR c 8 w d pn P Sh V E A t r eb G C OL N S M) (hp1 : 1 ≤ p) (hp : p < 5) (hs : s < Sh) (hv : v < V) (heb : eb + 1 ≤ 100000000) (hq : N 10 q = 1) (q0 : S 10 q 0 = nI x) (q1 : S 10 q 1 = nI g) (q2 : S 10 q 2 = nI 3) (q3 : S 10 q 3 = -1)
    (k : ∀ (N1 : tq_Nn) (S1 M1 : tq_St) (P1 E1 : Nat) (G1 : Nat → Nat → Nat → Nat) (C1 : Nat → Nat → Nat), RR c 8 w d pn P1 Sh V E1 A t r (eb + 1) G1 C1 OL N1 S1 M1 → P ≤ P1 → aF p P S S1 M M1 → (∀ pm : tq_St → Prop, pm M1 → (150 ≤ M 64 0 9 → wbX12_doSail_117 pm M (nI p) (nI x) (nI g) (nI v)) ∧ (¬ 150 ≤ M 64 0 9 → wpX12_write (fun M11 r12 => vp_in r12 150 ∧ (∀ M14, M14 = tq_up M11 116 r12.toNatClampNeg 0 (nI v) → (vp_in (nI v) 99 ∧ (∀ M16, M16 = tq_up M14 141 0 (nI v).toNatClampNeg r12 → (∀ M17, M17 = tq_up M16 114 0 r12.toNatClampNeg 1 → (∀ M18, M18 = tq_up M17 120 r12.toNatClampNeg s 1 → (wbX12_doSail_117 pm M18 (nI p) (nI x) (nI g) (nI v)))))))) M 4 (nI p) 0)) → post N1 S1) : wpX11_writeInvoice (fun N23 S24 => N23 9 (G 22 0 v) = 1 ∧ (wpX11_enterFor N23 (fun S26 => post N23 S26) S24 q p (S24 9 (G 22 0 v) 0) 0)) N S (G 22 0 v) (G 19 0 s) p := by
  obtain ⟨hsc, hss, har, hpl, hlg, hsh, hpe, hmo, hpr, hsr, hpa, hkn, hst, hpm, hsi, hab, hsm, hvo, hvm, hbi, hlb, hiv, hod, hol, hoi, hfi, hli, had, hro⟩ := id h0
  obtain ⟨s1, s2, s3, s4, s5, s6, s7, s8, s9, b1, b2, b3, b4, b5, b6, b7, b8, b9, e1, e2⟩ := id hsc
  have w1 : S 2 p 0 = nI p := hpl.1 p hp
  have l1 := hli.1
  have l2 := hli.2.1
  have l3 := hli.2.2.1
  have n9 : N 9 (G 22 0 v) = 1 := (l3.2 v hv).2.1
  have n8 : N 8 (G 19 0 s) = 1 := (l2.2 s hs).2.1
  have n56 := (hsi s hs).2.2.1
  have v0 : S 9 (G 22 0 v) 0 = nI v := (hvo v hv).2.2.1
  obtain ⟨room0, room1⟩ := tp_room2 hro e2 b3 b5
  unfold wpX11_writeInvoice wbX11_writeInvoice_65
  refine tp_roomP (n := 1) (tp_len l1) b3 (by decide) ?_
  by_cases h4 : P + 1 ≤ 150
  · rw [tp_bt h4]
    refine tp_dF (by decide) ⟨by omega, by omega, fun e he0 he1 hfr => tp_ae (tp_ae ?_)⟩
    have f2 : (tq_cp S 1 e (fun _ => 0)) 2 p 0 = nI p := by rw [tq_cpk (by decide)]; exact w1
    have x15 : (tq_cp S 1 e (fun _ => 0)) 15 0 2 = nI P := by rw [tq_cpk (by decide)]; exact tp_len l1
    have x10 : (tq_cp S 1 e (fun _ => 0)) 1 0 0 = nI d := by rw [tq_cpi (by omega)]; exact hss.1.trans s1
    rw [x15, x10]
    refine tp_pinit (f := p) he0 (tp_nae (by decide)) tp_na0 hp f2 (fun t => by rw [tq_cpe]) (by rw [tp_na0]; omega) (by rw [tp_na1]; omega) (fun N1 S1 hn y0 y1 y2 y3 y4 y8 y9 y13 y50 y51 y52 => ?_)
    obtain ⟨n1, n2, n3, n4, n5, n6, n7, n8', n9'⟩ := hn
    rw [tp_na0] at n6
    rw [tp_na1] at n7
    have mN : tp_mono N N1 := tp_mono_n1.tr n1
    have ne : ∀ k i : Nat, (k ∈ tq_dyn → N k i = 1) → (k = 1 → i = 0) → S1 k i = S k i := by
      intro k i z1 z2
      have : ¬ (i = e ∧ (k = 1 ∨ k = 7 ∨ k = 50 ∨ k = 51 ∨ k = 52)) := by
        rintro ⟨rfl, y⟩
        rcases y with rfl | y
        · have := z2 rfl; omega
        · have : k ∈ tq_dyn := by rcases y with rfl | rfl | rfl | rfl <;> decide
          exact hfr k this (z1 this)
      rw [n9' k i this]
      refine tq_cp_out (fun y => ?_)
      have := z2 y.1
      omega
    have sv9 : S1 9 (G 22 0 v) = S 9 (G 22 0 v) := ne 9 _ (fun _ => n9) (fun z => absurd z (by decide))
    refine ⟨dyn_m mN (by decide) n9, n2, tp_ae ?_⟩
    rw [sv9, v0]
    unfold wpX3_comesAboard
    have z56 : S 56 (G 19 0 s) P = 0 := (hab s P hs (by omega)).trans ((hpm.2.2 P (Nat.le_refl _) (by omega)).2.2 s (by omega))
    have c9 : tq_up S1 7 e 8 (nI v) 7 e 9 + 1 = 1 := by rw [tq_upj (by decide), y9]; decide
    have c0 : tq_up (tq_up S1 7 e 8 (nI v)) 7 e 9 1 7 e 0 = nI P := by rw [tq_upj (by decide), tq_upj (by decide)]; exact y0
    have c56 : tq_up (tq_up S1 7 e 8 (nI v)) 7 e 9 1 56 (G 19 0 s) P + 1 = 1 := by rw [tq_upk (by decide), tq_upk (by decide), ne 56 _ (fun _ => n56) (fun z => absurd z (by decide)), z56]; decide
    refine ⟨n2, tp_ae ?_⟩
    rw [c9, c0, nI_clamp (show P < 2 ^ 31 by omega)]
    refine ⟨dyn_m mN (by decide) n8, vp_in_nI (by omega) (by decide), dyn_m mN (by decide) n56, tp_ae ?_⟩
    rw [c56]
    generalize hS6 : tq_up (tq_up (tq_up S1 7 e 8 (nI v)) 7 e 9 1) 56 (G 19 0 s) P 1 = S6
    have k6 : ∀ kk, kk ≠ 7 → kk ≠ 56 → S6 kk = S1 kk := fun kk z1 z2 => by rw [← hS6, tq_upk z2, tq_upk z1, tq_upk z1]
    have k67 : ∀ i j, i ≠ e → S6 7 i j = S1 7 i j := fun i j z => by rw [← hS6, tq_upk (by decide), tq_upi z, tq_upi z]
    have k67e : ∀ j, j ≠ 8 → j ≠ 9 → S6 7 e j = S1 7 e j := fun j z1 z2 => by rw [← hS6, tq_upk (by decide), tq_upj z2, tq_upj z1]
    have k678 : S6 7 e 8 = nI v := by rw [← hS6, tq_upk (by decide), tq_upj (by decide), tq_upe]
    have k679 : S6 7 e 9 = 1 := by rw [← hS6, tq_upk (by decide), tq_upe]
    have k656 : ∀ i n, S6 56 i n = if i = G 19 0 s ∧ n = P then 1 else S1 56 i n := fun i n => by
      rw [← hS6]
      by_cases z : i = G 19 0 s
      · subst z
        by_cases z2 : n = P
        · subst z2; rw [tq_upe, if_pos ⟨rfl, rfl⟩]
        · rw [tq_upj z2, if_neg (fun w => z2 w.2), tq_upk (by decide), tq_upk (by decide)]
      · rw [tq_upi z, if_neg (fun w => z w.1), tq_upk (by decide), tq_upk (by decide)]
    clear hS6
    have hL1 : tp_L N1 (S6 15) (S6 16) G C 15 16 7 0 P := by
      rw [k6 15 (by decide) (by decide), k6 16 (by decide) (by decide)]
      have e15 : S1 15 = S 15 := funext (fun i => ne 15 i (fun z => absurd z (by decide)) (fun z => absurd z (by decide)))
      exact tp_L_fr l1 (by rw [e15]) (by rw [e15]) (fun z => ne 16 _ (fun _ => z) (fun z => absurd z (by decide))) (fun j hj => dyn_m mN (by decide) hj) (fun j hj => dyn_m mN (by decide) hj) (fun _ _ => rfl) rfl
    have ex : e ≤ tq_CX := by omega
    have cC := hro.2.2.2.1
    refine ⟨tp_L_aok hL1 (by omega) n2 ex (by omega) (by omega), fun N2 S2 hadd => ?_⟩
    obtain ⟨c1, d1, u1, u2, u3, u4, u5, u6, u7, u8, u9, u10, u11, u12⟩ := tp_L_add hL1 hadd n2 ex (by decide) (by decide) (by decide) (by decide) (by decide)
    have r2 : 1 ≤ N2 0 0 := by
      obtain ⟨_, _, _, _, _, _, _, _, q⟩ := hadd
      rcases q with ⟨q, _⟩ | ⟨_, _, _, _, q⟩
      · rw [q]; omega
      · rw [q, tp_na0]; omega
    have at2 : ∀ k : Nat, k ≠ 15 → k ≠ 16 → S2 k = S6 k := fun k z1 z2 => funext (fun i => u3 k i (fun y => z1 y.1) (fun y => z2 y.1))
    have m2 : tp_mono N N2 := mN.tr u2
    have fS : ∀ k i, (k ∈ tq_dyn → N k i = 1) → (k = 1 → i = 0) → k ≠ 15 → k ≠ 16 → k ≠ 56 → S2 k i = S k i := fun k i z1 z2 z3 z4 z5 => by
      rw [at2 k z3 z4]
      by_cases z : k = 7
      · subst z
        have hie : i ≠ e := fun w => hfr 7 (by decide) (by rw [← w]; exact z1 (by decide))
        funext j
        rw [k67 i j hie, ne 7 i z1 z2]
      · rw [k6 k z z5]; exact ne k i z1 z2
    have f56 : ∀ s' n, s' < Sh → n < 150 → S2 56 (G 19 0 s') n = if s' = s ∧ n = P then 1 else S 56 (G 19 0 s') n := fun s' n hs' hn => by
      rw [at2 56 (by decide) (by decide), k656, ne 56 _ (fun _ => (hsi s' hs').2.2.1) (fun z => absurd z (by decide))]
      by_cases z : s' = s
      · rw [z]; simp
      · rw [if_neg (fun w => z (hsi.inj b4 hs' hs w.1)), if_neg (fun w => z w.1)]
    have s7e : S2 7 e = S6 7 e := by rw [at2 7 (by decide) (by decide)]
    have hB := RR_inv (e := e) (x := nI v) h0 (by omega) hp1 hp hs m2 fS f56 (dyn_m u2 (by decide) n3) (dyn_m u2 (by decide) n4) (dyn_m u2 (by decide) n5) (by rw [s7e, k67e 0 (by decide) (by decide)]; exact y0) (by rw [s7e, k67e 1 (by decide) (by decide)]; exact y1) (by rw [s7e, k67e 2 (by decide) (by decide)]; exact y2) (by rw [s7e, k67e 3 (by decide) (by decide)]; exact y3) (by rw [s7e, k67e 4 (by decide) (by decide)]; exact y4) (by rw [s7e]; exact k678) (by rw [s7e]; exact k679) (by rw [s7e, k67e 13 (by decide) (by decide)]; exact y13) (fun q hq => by rw [at2 50 (by decide) (by decide), k6 50 (by decide) (by decide)]; exact y50 q hq) u1 (u10 (by omega) cC) u7 (by omega) (by omega) r2
    have hV := RR_vinv (v := v) (x := nI P) hB hv
    have gv : tp_G G 15 0 P e 22 0 v = G 22 0 v := by simp [tp_G]
    rw [gv] at hV
    have s70 : S2 7 e 0 = nI P := by rw [s7e, k67e 0 (by decide) (by decide)]; exact y0
    refine ⟨dyn_m u2 (by decide) n2, dyn_m m2 (by decide) n9, tp_ae ?_⟩
    rw [s70]
    refine ⟨dyn_m m2 (by decide) n9, ?_⟩
    have k10 : tq_up S2 9 (G 22 0 v) 10 (nI P) 10 q = S 10 q := by rw [tq_upk (by decide)]; exact fS 10 q (fun _ => hq) (fun z => absurd z (by decide)) (by decide) (by decide) (by decide)
    have k2 : tq_up S2 9 (G 22 0 v) 10 (nI P) 2 p = S 2 p := by rw [tq_upk (by decide)]; exact fS 2 p (fun z => absurd z (by decide)) (fun z => absurd z (by decide)) (by decide) (by decide) (by decide)
    have k90 : tq_up S2 9 (G 22 0 v) 10 (nI P) 9 (G 22 0 v) 0 = nI v := by rw [tq_upj (by decide), fS 9 _ (fun _ => n9) (fun z => absurd z (by decide)) (by decide) (by decide) (by decide)]; exact v0
    obtain ⟨S7, M7, g1, g2, g3, g4, g5, g6, g7⟩ := tp_enter (v2 := 3) (v3 := -1) (v4 := nI v) (v5 := 0) (v6 := nI x) (v7 := nI g) hV hp1 (by omega) heb
    unfold wpX11_enterFor
    rw [k10, k2, k90, w1, q0, q1, q2, q3]
    have mW : ∀ kk, kk ≠ 64 → (kk < 110 ∨ 116 < kk) → kk ≠ 120 → kk ≠ 141 → tq_up (tq_up (tq_up (tq_up (tp_wr M P (nI 4) p (nI 0)) 116 P 0 (nI v)) 114 0 P 1) 120 P s 1) 141 0 v (nI P) kk = M kk := fun kk z1 z2 z3 z4 => by
      rw [tq_upk z4, tq_upk z3, tq_upk (by omega), tq_upk (by omega)]; unfold tp_wr
      rw [tq_cpk (by omega), tq_upk (by omega), tq_upk (by omega), tq_upk (by omega), tq_upk (by omega), tq_upk z1]
    refine ⟨hp, dyn_m m2 (by decide) hq, g6 _ (k N2 S7 M7 _ _ _ _ g1 (by omega) ⟨?_, ?_, ?_, fun n _ => ⟨?_, ?_⟩⟩ (fun pm hpm => ?_))⟩
    · rw [g2 2 (by decide) (by decide), k2]
    · rw [g4 74 (by decide), tq_upk (by decide), tq_upk (by decide), tq_upk (by decide), tq_upk (by decide)]; unfold tp_wr
      rw [tq_cpk (by decide), tq_upk (by decide), tq_upk (by decide), tq_upk (by decide), tq_upk (by decide), tq_upj (by decide)]
    · rw [g3 172 (by decide) (by decide), mW 172 (by decide) (by decide) (by decide) (by decide)]
    · rw [g3 117 (by decide) (by decide), mW 117 (by decide) (by decide) (by decide) (by decide)]
    · rw [g3 118 (by decide) (by decide), mW 118 (by decide) (by decide) (by decide) (by decide)]
    · refine tp_dF (by rw [s3]; exact nI_ge (b := 150) (by omega) (by decide)) (tp_write (k := nI 4) (to := nI 0) s3 (by omega) hp ⟨vp_in_nI (by omega) (by decide), tp_ae ⟨vp_in_nI (by omega) (by decide), tp_ae (tp_ae (tp_ae ?_))⟩⟩)
      rw [nI_clamp (show P < 2 ^ 31 by omega), nI_clamp (show v < 2 ^ 31 by omega), tq_up_cj (k := 141) (k2 := 114) (fun w => absurd w.1 (by decide)), tq_up_cj (k := 141) (k2 := 120) (fun w => absurd w.1 (by decide))]
      unfold wbX12_doSail_117
      exact g7 _ hpm
  · have k1 : P = 150 := by omega
    rw [tp_bf h4]
    refine tp_dT rfl ⟨n9, ?_⟩
    obtain ⟨S7, M7, g1, g2, g3, g4, g5, g6, g7⟩ := tp_enter (v2 := 3) (v3 := -1) (v4 := nI v) (v5 := 0) (v6 := nI x) (v7 := nI g) h0 hp1 (by omega) heb
    unfold wpX11_enterFor
    rw [v0, w1, q0, q1, q2, q3]
    refine ⟨hp, hq, g6 _ (k N S7 M7 _ _ _ _ g1 (Nat.le_refl _) ⟨?_, ?_, ?_, fun n _ => ⟨?_, ?_⟩⟩ (fun pm hpm => ?_))⟩
    · rw [g2 2 (by decide) (by decide)]
    · rw [g4 74 (by decide)]
    · rw [g3 172 (by decide) (by decide)]
    · rw [g3 117 (by decide) (by decide)]
    · rw [g3 118 (by decide) (by decide)]
    · refine tp_dT (by rw [s3, k1]; decide) ?_
      unfold wbX12_doSail_117
      exact g7 _ hpm
theorem ac_sail {c w d pn P Sh V E A t r eb : Nat} {G : Nat → Nat → Nat → Nat} {C : Nat → Nat → Nat} {OL : Nat → List Nat} {N : tq_Nn} {S M : tq_St} {post : tq_Nn → tq_St → Prop} {p q x g num : Nat} (h0 : RR c 8 w d pn P Sh V E A t r eb G C OL N S M) (hp1 : 1 ≤ p) (hp : p < 5) (hnum : num ≤ 9999) (heb : eb + 1 ≤ 100000000) (hq : N 10 q = 1) (q0 : S 10 q 0 = nI x) (q1 : S 10 q 1 = nI g) (q2 : S 10 q 2 = nI 3) (q3 : S 10 q 3 = -1)
    (k : ∀ (N1 : tq_Nn) (S1 M1 : tq_St) (P1 V1 E1 A1 : Nat) (G1 : Nat → Nat → Nat → Nat) (C1 : Nat → Nat → Nat), RR c 8 w d pn P1 Sh V1 E1 A1 t r (eb + 1) G1 C1 OL N1 S1 M1 → P ≤ P1 → aF p P S S1 M M1 → (∀ pm : tq_St → Prop, pm M1 → wpX12_doSail pm M (nI p) (nI num) (nI x) (nI g)) → post N1 S1) : ∀ (m i : Nat), i + m = Sh → (∀ pm : tq_St → Prop, wbX12_doSail_3 pm (m + 1) M (nI p) (nI num) (nI x) (nI g) (nI i) → wpX12_doSail pm M (nI p) (nI num) (nI x) (nI g)) → wbX11_sendShip_12 post (m + 1) N S q p (if nI num < 1 then 1 else nI num) (nI i) := by
  obtain ⟨hsc, hss, har, hpl, hlg, hsh, hpe, hmo, hpr, hsr, hpa, hkn, hst, hpm, hsi, hab, hsm, hvo, hvm, hbi, hlb, hiv, hod, hol, hoi, hfi, hli, had, hro⟩ := id h0
  obtain ⟨s1, s2, s3, s4, s5, s6, s7, s8, s9, b1, b2, b3, b4, b5, b6, b7, b8, b9, e1, e2⟩ := id hsc
  have w1 : S 2 p 0 = nI p := hpl.1 p hp
  have w4 : S 2 p 4 = M 103 p 1 := hpl.2.2.2.1 p hp1 hp
  have l2 := hli.2.1
  have l3 := hli.2.2.1
  have pc : (nI p).toNatClampNeg = p := nI_clamp (by omega)
  have pv : vp_in (nI p) 5 := vp_in_nI hp (by decide)
  have np0 : ¬ nI p = 0 := nI_ne0 (by omega) (by omega)
  have nop : (∀ pm : tq_St → Prop, pm M → wpX12_doSail pm M (nI p) (nI num) (nI x) (nI g)) → post N S := fun hr => k N S M P V E A G C (h0.wk (Nat.le_refl _) e2 (by omega) heb) (Nat.le_refl _) aF.rf hr
  intro m
  induction m with
  | zero =>
    intro i hi hr
    unfold wbX11_sendShip_12
    rw [tp_len l2]
    refine tp_dT (nI_le (by omega) (by omega)) (nop (fun pm hpm => hr pm ?_))
    unfold wbX12_doSail_3
    rw [s4]
    exact tp_dT (nI_le (by omega) (by omega)) hpm
  | succ m ih =>
    intro i hi hr
    have ic : (nI i).toNatClampNeg = i := nI_clamp (by omega)
    have iv : vp_in (nI i) 8 := vp_in_nI (by omega) (by decide)
    have hiS : i < Sh := by omega
    obtain ⟨f1, f2, f3⟩ := tp_get l2 hiS
    obtain ⟨sa1, sa2, sa3, sa4, sa5, sa6, sa7, sa8, sa9, sa10⟩ := hsi i hiS
    obtain ⟨sb1, sb2, sb3⟩ := sa10 (by omega)
    have eb4 : bx_sum (S 54 (G 19 0 i)) 4 = bx_sum (M 127 i) 4 := tp_sum_cong (fun q hq => sb2 q hq)
    have hnext : (¬ (M 124 0 i = nI p ∧ (if nI num < 1 then 1 else nI num) ≤ bx_sum (M 127 i) 4)) → wbX11_sendShip_12 post (m + 1) N S q p (if nI num < 1 then 1 else nI num) (nI (i + 1)) := fun z => ih (i + 1) (by omega) (fun pm hpm => hr pm (by
      unfold wbX12_doSail_3 wbX12_doSail_131
      rw [s4, ic, nI_1]
      refine tp_dF (nI_ge (by omega) (by omega)) ⟨iv, ?_⟩
      by_cases z1 : M 124 0 i = nI p
      · exact tp_cT z1 (tp_balesOn (by omega) (tp_dF (fun z2 => z ⟨z1, z2⟩) hpm))
      · exact tp_cF z1 hpm))
    unfold wbX11_sendShip_12 wbX11_sendShip_118 wbX11_sendShip_119
    rw [tp_len l2, f2, nI_1 i]
    refine tp_dF (nI_ge (by omega) (by omega)) ⟨f1, f3, hp, ?_⟩
    rw [sa7, w1]
    by_cases z1 : M 124 0 i = nI p
    · refine tp_cT z1 ⟨sa1, ?_⟩
      rw [eb4]
      by_cases z2 : (if nI num < 1 then 1 else nI num) ≤ bx_sum (M 127 i) 4
      · refine tp_dF (fun z => by rw [tp_lt] at z; rw [tp_le] at z2; omega) ?_
        rw [tp_len l3]
        have href : ∀ pm : tq_St → Prop, ((¬ M 64 0 31 = 99 → wpX12_leave (fun M8 r9 => (150 ≤ M8 64 0 9 → wbX12_doSail_117 pm M8 (nI p) (nI x) (nI g) r9) ∧ (¬ 150 ≤ M8 64 0 9 → wpX12_write (fun M11 r12 => vp_in r12 150 ∧ (∀ M14, M14 = tq_up M11 116 r12.toNatClampNeg 0 r9 → (vp_in r9 99 ∧ (∀ M16, M16 = tq_up M14 141 0 r9.toNatClampNeg r12 → (∀ M17, M17 = tq_up M16 114 0 r12.toNatClampNeg 1 → (∀ M18, M18 = tq_up M17 120 r12.toNatClampNeg i 1 → (wbX12_doSail_117 pm M18 (nI p) (nI x) (nI g) r9))))))) M8 4 (nI p) 0)) M (nI i) 0) ∧ (M 64 0 31 = 99 → pm M)) → wpX12_doSail pm M (nI p) (nI num) (nI x) (nI g) := fun pm hpm => hr pm (by
          unfold wbX12_doSail_3
          rw [s4, ic]
          exact tp_dF (nI_ge (by omega) (by omega)) ⟨iv, tp_cT z1 (tp_balesOn (by omega) (tp_dT z2 hpm))⟩)
        by_cases z3 : V < 99
        · refine tp_dF (nI_ge (b := 99) z3 (by decide)) ?_
          unfold wpX11_beyondRights
          have eX : bx_sum (S 55 (G 19 0 i)) 20 = bx_sum (M 129 i) pn := by
            rw [tp_sum_cong (fun q hq => sb3 q hq)]
            have := tp_sum_more (f := M 129 i) (m := pn) (n := 20 - pn) (fun q h1 h2 => hsm.2.1 i q (by omega) h1 (by omega))
            rw [show pn + (20 - pn) = 20 by omega] at this
            exact this
          have eB : (if bx_sum (M 129 i) pn - bx_sum (tp_rig M (nI p)) pn ≤ 0 then 0 else bx_sum (M 129 i) pn - bx_sum (tp_rig M (nI p)) pn) = tp_bey M i pn := by
            unfold tp_bey
            rw [z1, if_neg np0]
          refine ⟨f3, sa2, pn + 1, ?_⟩
          rw [eX]
          have hz : bx_sum (M 129 i) pn = bx_sum (M 129 i) pn - bx_sum (tp_rig M (nI p)) 0 := (Int32.sub_zero _).symm
          rw [hz]
          refine tp_beyS (X := bx_sum (M 129 i) pn) (hss.2.1.trans s2) b2 har.1 har.2.1 ?_ pn 0 (by omega)
          rw [eB, w4]
          refine tp_leaveC (p := 0) h0 hiS (by omega) z3 (by decide) (fun N2 S3 e c1 hl n9 f0 mN fS => ?_)
          have gv : tp_G G 22 0 V e 22 0 V = e := by simp [tp_G]
          have gs : tp_G G 22 0 V e 19 0 i = G 19 0 i := by simp [tp_G]
          have k10 : S3 10 q = S 10 q := fS 10 q (fun _ => hq) (fun z => absurd z (by decide)) (by decide) (by decide) (by decide)
          have inv := ac_inv (post := post) (v := V) (s := i) (q := q) (x := x) (g := g) hl hp1 hp hiS (by omega) heb (dyn_m mN (by decide) hq) (by rw [k10]; exact q0) (by rw [k10]; exact q1) (by rw [k10]; exact q2) (by rw [k10]; exact q3) (fun N4 S4 M4 P4 E4 G4 C4 hR4 hP4 aF4 kk4 => k N4 S4 M4 P4 (V + 1) E4 A G4 C4 hR4 hP4 (aF.tr (S1 := S3) (M1 := tp_lv M i V (nI 0) (M 64 0 0 + M 103 p 1 + tp_win (M 64 0 0)) (tp_bey M i pn)) ⟨?_, ?_, ?_, fun n _ => ⟨?_, ?_⟩⟩ (Nat.le_refl _) aF4) (fun pm hpm => href pm ⟨fun _ => ?_, fun z => ?_⟩))
          · rw [gv, gs] at inv
            exact inv
          · rw [fS 2 p (fun z => absurd z (by decide)) (fun z => absurd z (by decide)) (by decide) (by decide) (by decide)]
          · exact lv_64 (by decide)
          · rw [tp_lvk (by decide)]
          · rw [tp_lvk (by decide)]
          · rw [tp_lvk (by decide)]
          · refine tp_leaveM (days := M 103 p 1) (by omega) z3 s5 s2 b2 (Or.inr ⟨by rw [z1]; exact np0, by rw [z1]; exact pv, by rw [z1, pc]⟩) ?_
            exact kk4 pm hpm
          · rw [s5] at z
            have := (nI_eq (a := V) (b := 99) (by omega) (by omega)).mp z
            omega
        · have k1 : V = 99 := by omega
          refine tp_dT (nI_le (a := 99) (by omega) (by omega)) (nop (fun pm hpm => href pm ⟨fun z => absurd (by rw [s5, k1]; rfl) z, fun _ => hpm⟩))
      · exact tp_dT (by rw [tp_lt]; rw [tp_le] at z2; omega) (hnext (fun z => z2 z.2))
    · exact tp_cF z1 (hnext (fun z => z1 z.1))
