/-! pure: what a factory does: draw, the second -/
theorem tp_room2 {c P V : Nat} {C : Nat → Nat → Nat} {N : tq_Nn} (h : q_ro c P V C N) (hc : c ≤ 512) (hP : P ≤ 150) (hV : V ≤ 99) : N 0 0 + 400000 ≤ tq_CX ∧ N 0 1 + 5000000 ≤ tq_CY := by
  obtain ⟨_, _, r⟩ := tp_room h hc hP hV
  obtain ⟨a1, a2, _⟩ := h
  unfold tq_CX tq_CY
  exact ⟨by omega, by omega⟩
def tp_cl (P p : Nat) (M : tq_St) : Prop := ∀ m, m < P → M 110 0 m = 5 → M 111 0 m = nI p → ¬ M 116 m 1 < 2
theorem tp_drawM {pm : tq_St → Prop} {M : tq_St} {P p : Nat} {x2 x3 x4 : Int32} (hP : M 64 0 9 = nI P) (hP2 : P ≤ 150) (ka : tp_cl P p M → wpX12_write (fun M5 r6 => vp_in r6 150 ∧ (∀ M8, M8 = tq_up M5 116 r6.toNatClampNeg 0 x2 → (vp_in (nI p) 5 ∧ (∀ M10, M10 = tq_up M8 101 0 (nI p).toNatClampNeg ((M8 101 0 (nI p).toNatClampNeg) + x2) → (wpX12_enter (fun M11 => pm M11) M10 (nI p) 4 (-1) r6 x2 x3 x4))))) M 5 (nI p) 0) (kb : ¬ tp_cl P p M → pm M) : ∀ (m i : Nat), i + m = P → (∀ a, a < i → M 110 0 a = 5 → M 111 0 a = nI p → ¬ M 116 a 1 < 2) → wbX12_doDraw_24 pm (m + 1) M (nI p) x2 x3 x4 (nI i)
  | 0, i, hi, hn => by
    unfold wbX12_doDraw_24
    rw [hP]
    exact tp_dT (nI_le (by omega) (by omega)) (ka (fun m hm => hn m (by omega)))
  | m + 1, i, hi, hn => by
    unfold wbX12_doDraw_24 wbX12_doDraw_69
    rw [hP, nI_clamp (show i < 2 ^ 31 by omega), nI_1]
    refine tp_dF (nI_ge (by omega) (by omega)) ⟨vp_in_nI (by omega) (by decide), ?_⟩
    have nx : (M 110 0 i = 5 → M 111 0 i = nI p → ¬ M 116 i 1 < 2) → wbX12_doDraw_24 pm (m + 1) M (nI p) x2 x3 x4 (nI (i + 1)) := fun z => tp_drawM hP hP2 ka kb m (i + 1) (by omega) (fun a ha => by
      by_cases e : a = i
      · rw [e]; exact z
      · exact hn a (by omega))
    by_cases q1 : M 110 0 i = 5
    · refine tp_cT q1 ?_
      by_cases q2 : M 111 0 i = nI p
      · refine tp_cT q2 ?_
        by_cases q3 : 2 ≤ M 116 i 1
        · exact tp_dT q3 (nx (fun _ _ z => by rw [tp_lt] at z; rw [tp_le] at q3; omega))
        · refine tp_dF q3 (kb (fun z => z i (by omega) q1 q2 (by rw [tp_lt]; rw [tp_le] at q3; omega)))
      · exact tp_cF q2 (nx (fun _ z => absurd z q2))
    · exact tp_cF q1 (nx (fun z => absurd z q1))
theorem ac_draw27 {c w d pn P Sh V E A t r eb : Nat} {G : Nat → Nat → Nat → Nat} {C : Nat → Nat → Nat} {OL : Nat → List Nat} {N : tq_Nn} {S M : tq_St} {post : tq_Nn → tq_St → Prop} {p q x g num : Nat} {y0 : Int32} (h0 : RR c 8 w d pn P Sh V E A t r eb G C OL N S M) (hp1 : 1 ≤ p) (hp : p < 5) (hnum : num ≤ 9999) (heb : eb + 1 ≤ 100000000) (hq : N 10 q = 1) (q0 : S 10 q 0 = nI x) (q1 : S 10 q 1 = nI g) (q2 : S 10 q 2 = nI 4) (q3 : S 10 q 3 = -1) (hy : (tp_cl P p M ∧ y0 = 0) ∨ (¬ tp_cl P p M ∧ ¬ y0 = 0))
    (k : ∀ (N1 : tq_Nn) (S1 M1 : tq_St) (P1 V1 E1 A1 : Nat) (G1 : Nat → Nat → Nat → Nat) (C1 : Nat → Nat → Nat), RR c 8 w d pn P1 Sh V1 E1 A1 t r (eb + 1) G1 C1 OL N1 S1 M1 → P ≤ P1 → aF p P S S1 M M1 → (∀ pm : tq_St → Prop, pm M1 → wpX12_doDraw pm M (nI p) (nI num) (nI x) (nI g)) → post N1 S1) : wbX11_drawBill_27 post N S q p (nI num) y0 := by
  obtain ⟨hsc, hss, har, hpl, hlg, hsh, hpe, hmo, hpr, hsr, hpa, hkn, hst, hpm, hsi, hab, hsm, hvo, hvm, hbi, hlb, hiv, hod, hol, hoi, hfi, hli, had, hro⟩ := id h0
  obtain ⟨s1, s2, s3, s4, s5, s6, s7, s8, s9, b1, b2, b3, b4, b5, b6, b7, b8, b9, e1, e2⟩ := id hsc
  have w1 : S 2 p 0 = nI p := hpl.1 p hp
  have ec : S 2 p 1 = M 101 0 p := hpl.2.1 p hp
  have l1 := hli.1
  have l4 := hli.2.2.2.1
  have pc : (nI p).toNatClampNeg = p := nI_clamp (by omega)
  have pv : vp_in (nI p) 5 := vp_in_nI hp (by decide)
  obtain ⟨room0, room1⟩ := tp_room2 hro e2 b3 b5
  have nop : (∀ pm : tq_St → Prop, pm M → wpX12_doDraw pm M (nI p) (nI num) (nI x) (nI g)) → post N S := fun hr => k N S M P V E A G C (h0.wk (Nat.le_refl _) e2 (by omega) heb) (Nat.le_refl _) aF.rf hr
  have blen : (tp_BL P (M 110 0)).length ≤ P := by
    unfold tp_BL
    have := List.length_filter_le (fun n => decide (M 110 0 n = 5)) (List.range P)
    rw [List.length_range] at this
    exact this
  unfold wbX11_drawBill_27 wbX11_drawBill_50
  rw [ec]
  refine ⟨hp, ?_⟩
  by_cases g1 : nI num ≤ M 101 0 p
  · refine tp_dT g1 (nop (fun pm hpm => ?_))
    unfold wpX12_doDraw wbX12_doDraw_20
    rw [pc]
    exact ⟨pv, tp_dT g1 hpm⟩
  refine tp_dF g1 ?_
  rcases hy with ⟨hcl, hy⟩ | ⟨hcl, hy⟩
  · refine tp_cT hy (tp_roomP (n := 1) (tp_len l1) b3 (by decide) ?_)
    by_cases h4 : P + 1 ≤ 150
    · rw [tp_bt h4]
      refine tp_cF (by decide) ⟨by omega, by omega, fun e he0 he1 hfr => tp_ae (tp_ae ?_)⟩
      have f2 : (tq_cp S 1 e (fun _ => 0)) 2 p 0 = nI p := by rw [tq_cpk (by decide)]; exact w1
      have x15 : (tq_cp S 1 e (fun _ => 0)) 15 0 2 = nI P := by rw [tq_cpk (by decide)]; exact tp_len l1
      have x10 : (tq_cp S 1 e (fun _ => 0)) 1 0 0 = nI d := by rw [tq_cpi (by omega)]; exact hss.1.trans s1
      rw [x15, x10]
      refine tp_binit (f := p) he0 (tp_nae (by decide)) tp_na0 hp f2 (fun t => by rw [tq_cpe]) (by rw [tp_na0]; omega) (by rw [tp_na1]; omega) (fun N1 S1 hn v0 v1 v2 v3 v4 v8 v9 v10 v11 v12 v13 v50 => ?_)
      obtain ⟨n1, n2, n3, n4, n5, n6, n7, n8, n9⟩ := hn
      rw [tp_na0] at n6
      rw [tp_na1] at n7
      have mN : tp_mono N N1 := tp_mono_n1.tr n1
      have ne : ∀ k i : Nat, (k ∈ tq_dyn → N k i = 1) → (k = 1 → i = 0) → S1 k i = S k i := by
        intro k i z1 z2
        have : ¬ (i = e ∧ (k = 1 ∨ k = 7 ∨ k = 50 ∨ k = 51 ∨ k = 52)) := by
          rintro ⟨rfl, y⟩
          rcases y with rfl | y
          · have := z2 rfl; omega
          · have : k ∈ tq_dyn := by rcases y with rfl | rfl | rfl | rfl <;> decide
            exact hfr k this (z1 this)
        rw [n9 k i this]
        refine tq_cp_out (fun y => ?_)
        have := z2 y.1
        omega
      have kst : ∀ k, k ∉ tq_dyn → k ≠ 1 → S1 k = S k := fun k z1 z2 => funext (fun i => ne k i (fun z => absurd z z1) (fun z => absurd z z2))
      have hL1 : tp_L N1 (S1 15) (S1 16) G C 15 16 7 0 P := tp_L_fr l1 (by rw [kst 15 (by decide) (by decide)]) (by rw [kst 15 (by decide) (by decide)]) (fun z => ne 16 _ (fun _ => z) (fun z => absurd z (by decide))) (fun j hj => dyn_m mN (by decide) hj) (fun j hj => dyn_m mN (by decide) hj) (fun _ _ => rfl) rfl
      have hL4 : tp_L N1 (S1 17) (S1 18) G C 17 18 7 0 (tp_BL P (M 110 0)).length := tp_L_fr l4 (by rw [kst 17 (by decide) (by decide)]) (by rw [kst 17 (by decide) (by decide)]) (fun z => ne 18 _ (fun _ => z) (fun z => absurd z (by decide))) (fun j hj => dyn_m mN (by decide) hj) (fun j hj => dyn_m mN (by decide) hj) (fun _ _ => rfl) rfl
      have ex : e ≤ tq_CX := by omega
      have cC := hro.2.2.2.1
      have cD := hro.2.2.2.2.1
      refine ⟨tp_L_aok hL1 (by omega) n2 ex (by omega) (by omega), fun N2 S2 hadd => ?_⟩
      obtain ⟨c1, d1, u1, u2, u3, u4, u5, u6, u7, u8, u9, u10, u11, u12⟩ := tp_L_add hL1 hadd n2 ex (by decide) (by decide) (by decide) (by decide) (by decide)
      have u10' := u10 (by omega) cC
      have r2 : 1 ≤ N2 0 0 := by
        obtain ⟨_, _, _, _, _, _, _, _, q⟩ := hadd
        rcases q with ⟨q, _⟩ | ⟨_, _, _, _, q⟩
        · rw [q]; omega
        · rw [q, tp_na0]; omega
      have at2 : ∀ k : Nat, k ≠ 15 → k ≠ 16 → S2 k = S1 k := fun k z1 z2 => funext (fun i => u3 k i (fun y => z1 y.1) (fun y => z2 y.1))
      have hL5 : tp_L N2 (S2 17) (S2 18) (tp_G G 15 0 P e) (tp_C C 15 0 c1) 17 18 7 0 (tp_BL P (M 110 0)).length := by
        rw [at2 17 (by decide) (by decide), at2 18 (by decide) (by decide)]
        exact tp_L_fr0 hL4 rfl rfl (fun _ => rfl) (fun j hj => dyn_m u2 (by decide) hj) (fun j hj => dyn_m u2 (by decide) hj) (fun _ _ => by simp [tp_G]) (by simp [tp_C])
      have c17 : tp_C C 15 0 c1 17 0 = C 17 0 := by simp [tp_C]
      have n2e : N2 7 e = 1 := dyn_m u2 (by decide) n2
      refine ⟨tp_L_aok hL5 (by omega) n2e ex (by omega) (by omega), fun N3 S3 hadd3 => ?_⟩
      obtain ⟨c2, d2, t1, t2, t3, t4, t5, t6, t7, t8, t9, t10, t11, t12⟩ := tp_L_add hL5 hadd3 n2e ex (by decide) (by decide) (by decide) (by decide) (by decide)
      rw [c17] at t7 t8 t9 t10
      have r3 : 1 ≤ N3 0 0 := by
        obtain ⟨_, _, _, _, _, _, _, _, q⟩ := hadd3
        rcases q with ⟨q, _⟩ | ⟨_, _, _, _, q⟩
        · rw [q]; exact r2
        · rw [q, tp_na0]; omega
      have at3 : ∀ k : Nat, k ≠ 17 → k ≠ 18 → S3 k = S2 k := fun k z1 z2 => funext (fun i => t3 k i (fun y => z1 y.1) (fun y => z2 y.1))
      have m3 : tp_mono N N3 := (mN.tr u2).tr t2
      have fS : ∀ k i, (k ∈ tq_dyn → N k i = 1) → (k = 1 → i = 0) → k ≠ 15 → k ≠ 16 → k ≠ 17 → k ≠ 18 → S3 k i = S k i := fun k i z1 z2 z3 z4 z5 z6 => by
        rw [at3 k z5 z6, at2 k z3 z4]; exact ne k i z1 z2
      have s7e : S3 7 e = S1 7 e := by rw [at3 7 (by decide) (by decide), at2 7 (by decide) (by decide)]
      have s50e : S3 50 e = S1 50 e := by rw [at3 50 (by decide) (by decide), at2 50 (by decide) (by decide)]
      have s2e : S3 2 = S 2 := funext (fun i => fS 2 i (fun y => absurd y (by decide)) (fun y => absurd y (by decide)) (by decide) (by decide) (by decide) (by decide))
      have L1' : tp_L N3 (S3 15) (S3 16) (tp_G (tp_G G 15 0 P e) 17 0 (tp_BL P (M 110 0)).length e) (tp_C (tp_C C 15 0 c1) 17 0 c2) 15 16 7 0 (P + 1) := by
        rw [at3 15 (by decide) (by decide), at3 16 (by decide) (by decide)]
        exact tp_L_fr0 u1 rfl rfl (fun _ => rfl) (fun j hj => dyn_m t2 (by decide) hj) (fun j hj => dyn_m t2 (by decide) hj) (fun _ _ => by simp [tp_G]) (by simp [tp_C])
      have hB := RR_bill (e := e) (num := num) (z := M 101 0 p + nI num) h0 (by omega) hp1 hp hnum rfl hcl m3 fS (dyn_m t2 (by decide) (dyn_m u2 (by decide) n3)) (dyn_m t2 (by decide) (dyn_m u2 (by decide) n4)) (dyn_m t2 (by decide) (dyn_m u2 (by decide) n5)) (by rw [s7e]; exact v0) (by rw [s7e]; exact v1) (by rw [s7e]; exact v2) (by rw [s7e]; exact v3) (by rw [s7e]; exact v4) (by rw [s7e]; exact v8) (by rw [s7e]; exact v9) (by rw [s7e]; exact v10) (by rw [s7e]; exact v11) (by rw [s7e]; exact v12) (by rw [s7e]; exact v13) (fun q hq => by rw [s50e]; exact v50 q hq) L1' t1 u10' (t10 (by omega) cD) u7 t7 (by omega) (by omega) r3
      have e21 : (tq_up S3 2 p 15 (nI (e + 1))) 2 p 1 = M 101 0 p := by rw [tq_upj (by decide), s2e]; exact ec
      refine ⟨ex, tp_ae (tp_ae ?_)⟩
      rw [e21]
      have k7 : ∀ j, tq_up (tq_up S3 2 p 15 (nI (e + 1))) 2 p 1 (M 101 0 p + nI num) 7 e j = S1 7 e j := fun j => by
        rw [tq_upk (by decide), tq_upk (by decide), s7e]
      have k10 : tq_up (tq_up S3 2 p 15 (nI (e + 1))) 2 p 1 (M 101 0 p + nI num) 10 q = S 10 q := by
        rw [tq_upk (by decide), tq_upk (by decide)]; exact fS 10 q (fun _ => hq) (fun z => absurd z (by decide)) (by decide) (by decide) (by decide) (by decide)
      have k20 : tq_up (tq_up S3 2 p 15 (nI (e + 1))) 2 p 1 (M 101 0 p + nI num) 2 p 0 = nI p := by
        rw [tq_upj (by decide), tq_upj (by decide), s2e]; exact w1
      have k28 : tq_up (tq_up S3 2 p 15 (nI (e + 1))) 2 p 1 (M 101 0 p + nI num) 2 p 8 = S 2 p 8 := by
        rw [tq_upj (by decide), tq_upj (by decide), s2e]
      rw [k7 13, k7 0, v13, v0]
      unfold wpX11_enterFor
      rw [k10, k20, q0, q1, q2, q3]
      obtain ⟨S6, M6, g1', g2, g3, g4, g5, g6, g7⟩ := tp_enter (v2 := 4) (v3 := -1) (v4 := nI P) (v5 := nI num) (v6 := nI x) (v7 := nI g) hB hp1 (by omega) heb
      have mk' : ∀ kk, kk ≠ 64 → kk ≠ 101 → (kk < 110 ∨ 113 < kk) → kk ≠ 115 → kk ≠ 116 → tq_up (tq_up (tp_wr M P (nI 5) p (nI 0)) 116 P 0 (nI num)) 101 0 p (M 101 0 p + nI num) kk = M kk := fun kk z1 z2 z3 z4 z5 => by
        rw [tq_upk z2, tq_upk z5]; unfold tp_wr
        rw [tq_cpk z4, tq_upk (by omega), tq_upk (by omega), tq_upk (by omega), tq_upk (by omega), tq_upk z1]
      refine ⟨dyn_m t2 (by decide) n2e, by decide, hp, dyn_m m3 (by decide) hq, g6 _ (k N3 S6 M6 _ V _ A _ _ g1' (by omega) ⟨?_, ?_, ?_, fun n _ => ⟨?_, ?_⟩⟩ (fun pm hpm => ?_))⟩
      · rw [g2 2 (by decide) (by decide)]; exact k28
      · rw [g4 74 (by decide), tq_upk (by decide), tq_upk (by decide)]; unfold tp_wr
        rw [tq_cpk (by decide), tq_upk (by decide), tq_upk (by decide), tq_upk (by decide), tq_upk (by decide), tq_upj (by decide)]
      · rw [g3 172 (by decide) (by decide), mk' 172 (by decide) (by decide) (by decide) (by decide) (by decide)]
      · rw [g3 117 (by decide) (by decide), mk' 117 (by decide) (by decide) (by decide) (by decide) (by decide)]
      · rw [g3 118 (by decide) (by decide), mk' 118 (by decide) (by decide) (by decide) (by decide) (by decide)]
      · unfold wpX12_doDraw wbX12_doDraw_20
        rw [pc]
        refine ⟨pv, tp_dF g1 (tp_cF (fun z => ?_) ⟨P + 1, tp_drawM s3 b3 (fun _ => ?_) (fun z => absurd hcl z) P 0 (by omega) (fun a ha => absurd ha (by omega))⟩)⟩
        · rw [s3] at z
          have := (nI_eq (a := P) (b := 150) (by omega) (by omega)).mp z
          omega
        · refine tp_write (k := nI 5) (to := nI 0) s3 (by omega) hp ⟨vp_in_nI (by omega) (by decide), tp_ae ⟨pv, tp_ae ?_⟩⟩
          rw [pc, nI_clamp (show P < 2 ^ 31 by omega)]
          have e101 : tq_up (tp_wr M P (nI 5) p (nI 0)) 116 P 0 (nI num) 101 0 p = M 101 0 p := by
            rw [tq_upk (by decide)]; unfold tp_wr
            rw [tq_cpk (by decide), tq_upk (by decide), tq_upk (by decide), tq_upk (by decide), tq_upk (by decide), tq_upk (by decide)]
          rw [e101]
          exact g7 _ hpm
    · have k1 : P = 150 := by omega
      rw [tp_bf h4]
      refine tp_cT rfl (nop (fun pm hpm => ?_))
      unfold wpX12_doDraw wbX12_doDraw_20
      rw [pc]
      exact ⟨pv, tp_dF g1 (tp_cT (by rw [s3, k1]; rfl) hpm)⟩
  · refine tp_cF hy (nop (fun pm hpm => ?_))
    unfold wpX12_doDraw wbX12_doDraw_20
    rw [pc]
    refine ⟨pv, tp_dF g1 ?_⟩
    by_cases z : M 64 0 9 = 150
    · exact tp_cT z hpm
    · exact tp_cF z ⟨P + 1, tp_drawM s3 b3 (fun z => absurd z hcl) (fun _ => hpm) P 0 (by omega) (fun a ha => absurd ha (by omega))⟩
theorem ac_draw {c w d pn P Sh V E A t r eb : Nat} {G : Nat → Nat → Nat → Nat} {C : Nat → Nat → Nat} {OL : Nat → List Nat} {N : tq_Nn} {S M : tq_St} {post : tq_Nn → tq_St → Prop} {p q x g num : Nat} (h0 : RR c 8 w d pn P Sh V E A t r eb G C OL N S M) (hp1 : 1 ≤ p) (hp : p < 5) (hnum : num ≤ 9999) (heb : eb + 1 ≤ 100000000) (hq : N 10 q = 1) (q0 : S 10 q 0 = nI x) (q1 : S 10 q 1 = nI g) (q2 : S 10 q 2 = nI 4) (q3 : S 10 q 3 = -1) (q4 : S 10 q 4 = nI num)
    (k : ∀ (N1 : tq_Nn) (S1 M1 : tq_St) (P1 V1 E1 A1 : Nat) (G1 : Nat → Nat → Nat → Nat) (C1 : Nat → Nat → Nat), RR c 8 w d pn P1 Sh V1 E1 A1 t r (eb + 1) G1 C1 OL N1 S1 M1 → P ≤ P1 → aF p P S S1 M M1 → (∀ pm : tq_St → Prop, pm M1 → wpX12_doDraw pm M (nI p) (nI num) (nI x) (nI g)) → post N1 S1) : wpX11_drawBill post N S q p := by
  obtain ⟨hsc, hss, har, hpl, hlg, hsh, hpe, hmo, hpr, hsr, hpa, hkn, hst, hpm, hsi, hab, hsm, hvo, hvm, hbi, hlb, hiv, hod, hol, hoi, hfi, hli, had, hro⟩ := id h0
  have l1 := hli.1
  have hx : tq_CX < 2 ^ 31 - 1 := by unfold tq_CX; decide
  unfold wpX11_drawBill wbX11_drawBill_26
  rw [q4]
  refine ⟨hq, hp, ?_⟩
  rcases hlb p hp1 hp with ⟨y1, y2⟩ | ⟨n, y1, y2, y3, y4, y5⟩
  · rw [y1]
    exact tp_dT (by decide) (ac_draw27 h0 hp1 hp hnum heb hq q0 q1 q2 q3 (Or.inl ⟨fun m hm hk hm1 => absurd hm1 (y2 m hm hk), rfl⟩) k)
  · have gx := (l1.2 n y1).2.2
    have g7 := (l1.2 n y1).2.1
    obtain ⟨pa1, pa2, pa3, pa4, pa5, pa6, pa7, pa8, pa9, pa10, pa11, pa12⟩ := hpa n y1
    obtain ⟨c1, c2, c3⟩ := pa12 y2
    obtain ⟨st, st1, st2⟩ := ((hpm.1 n y1).2.2.2.2.2.2 y2).2
    have cl : tp_cl P p M ↔ ¬ st < 2 := by
      constructor
      · intro z z2
        refine z n y1 y2 y3 ?_
        rw [st2]
        exact nI_lt (b := 2) z2 (by decide)
      · intro z m hm hk hm1
        by_cases e : m = n
        · rw [e, st2]
          exact nI_nlt (b := 2) (by omega) (by omega)
        · exact y5 m hm e hk hm1
    rw [y4, nI_clamp (by omega), Nat.add_sub_cancel]
    refine tp_dF (nI_nlt (b := 1) (by omega) (by omega)) ⟨g7, pa11.mp y2, ?_⟩
    unfold wpX1_isOpen wbX1_isOpen_15 wbX1_isOpen_20
    rw [c1, st2]
    refine ⟨g7, pa11.mp y2, ?_⟩
    have cs : st = 0 ∨ st = 1 ∨ st = 2 ∨ st = 3 := by omega
    rcases cs with rfl | rfl | rfl | rfl
    · exact tp_dT rfl ⟨tp_nb1, tp_dF (by decide) (ac_draw27 h0 hp1 hp hnum heb hq q0 q1 q2 q3 (Or.inr ⟨fun z => cl.mp z (by decide), by decide⟩) k)⟩
    · exact tp_dF (by decide) (tp_cT rfl ⟨tp_nb1, tp_dF (by decide) (ac_draw27 h0 hp1 hp hnum heb hq q0 q1 q2 q3 (Or.inr ⟨fun z => cl.mp z (by decide), by decide⟩) k)⟩)
    · exact tp_dF (by decide) (tp_cF (by decide) ⟨tp_nb0, tp_dT rfl (ac_draw27 h0 hp1 hp hnum heb hq q0 q1 q2 q3 (Or.inl ⟨cl.mpr (by decide), rfl⟩) k)⟩)
    · exact tp_dF (by decide) (tp_cF (by decide) ⟨tp_nb0, tp_dT rfl (ac_draw27 h0 hp1 hp hnum heb hq q0 q1 q2 q3 (Or.inl ⟨cl.mpr (by decide), rfl⟩) k)⟩)
