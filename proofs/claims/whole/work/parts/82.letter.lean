/-! pure: papers that are written: letters -/
/-- behind new, the constructor and add: a paper e, the last of the papers -/
def tp_W (P : Nat) (κ : Int32) (a : Nat) (to day : Int32) (G : Nat → Nat → Nat → Nat) (C : Nat → Nat → Nat) (N : tq_Nn) (S : tq_St) (N2 : tq_Nn) (S2 : tq_St) (e c1 : Nat) : Prop :=
  tp_mono N N2 ∧ N2 7 e = 1 ∧ N2 50 e = 1 ∧ N2 51 e = 1 ∧ N2 52 e = 1 ∧ tp_L N2 (S2 15) (S2 16) (tp_G G 15 0 P e) (tp_C C 15 0 c1) 15 16 7 0 (P + 1)
  ∧ (∀ k i : Nat, (k ∈ tq_dyn → N k i = 1) → (k = 1 → i = 0) → k ≠ 15 → k ≠ 16 → S2 k i = S k i)
  ∧ (S2 7 e 0 = nI P ∧ S2 7 e 1 = κ ∧ S2 7 e 2 = nI a ∧ S2 7 e 3 = to ∧ S2 7 e 4 = day ∧ S2 7 e 8 = 0 ∧ S2 7 e 9 = 0 ∧ S2 7 e 13 = 0) ∧ (∀ q : Nat, q < 5 → S2 50 e q = if q = a then day else -1) ∧ S2 51 e = S 30 a ∧ S2 52 e = (fun _ => 0)
  ∧ C 15 0 ≤ c1 ∧ c1 ≤ 2400 ∧ N2 0 0 + C 15 0 ≤ N 0 0 + 4 + c1 ∧ N2 0 1 + 4 * C 15 0 ≤ N 0 1 + 22 + 4 * c1 ∧ tq_fr N e ∧ 1 ≤ N2 0 0
theorem tp_room {c P V : Nat} {C : Nat → Nat → Nat} {N : tq_Nn} (h : q_ro c P V C N) (hc : c ≤ 512) (hP : P ≤ 150) (hV : V ≤ 99) : N 0 0 + 1000 ≤ tq_CX ∧ N 0 1 + 100000 ≤ tq_CY ∧ tp_CS C ≤ 33600 := by
  obtain ⟨a1, a2, a3, a4, a5, a6, a7, a8, a9⟩ := h
  have b0 := a8 0 (by decide)
  have b1 := a8 1 (by decide)
  have b2 := a8 2 (by decide)
  have b3 := a8 3 (by decide)
  have b4 := a8 4 (by decide)
  have c0 := a9 0 (by decide)
  have c1 := a9 1 (by decide)
  have c2 := a9 2 (by decide)
  have c3 := a9 3 (by decide)
  have c4 := a9 4 (by decide)
  have e : tp_CS C ≤ 33600 := by unfold tp_CS; omega
  unfold tq_CX tq_CY
  exact ⟨by omega, by omega, e⟩
theorem tp_cwrite {c h w d pn P Sh V E A t r eb : Nat} {G : Nat → Nat → Nat → Nat} {C : Nat → Nat → Nat} {OL : Nat → List Nat} {N : tq_Nn} {S M : tq_St} {post : tq_Nn → tq_St → Nat → Prop} {κ to : Int32} {a : Nat} (h0 : RR c h w d pn P Sh V E A t r eb G C OL N S M) (hP : P < 150) (ha : a < 5) (h : ∀ (N2 : tq_Nn) (S2 : tq_St) (e c1 : Nat), tp_W P κ a to (nI d) G C N S N2 S2 e c1 → post N2 S2 e) : wpX11_write post N S κ a to := by
  obtain ⟨hsc, hss, har, hpl, hlg, hsh, hpe, hmo, hpr, hsr, hpa, hkn, hst, hpm, hsi, hab, hsm, hvo, hvm, hbi, hlb, hiv, hod, hol, hoi, hfi, hli, had, hro⟩ := h0
  obtain ⟨s1, s2, s3, s4, s5, s6, s7, s8, s9, b1, b2, b3, b4, b5, b6, b7, b8, b9, e1, e2⟩ := id hsc
  obtain ⟨r0, r1, r2⟩ := tp_room hro e2 b3 b5
  have cC := hro.2.2.2.1
  have l1 := hli.1
  unfold wpX11_write
  refine ⟨by omega, by omega, fun e he0 he1 hfr => tp_ae (tp_ae ?_)⟩
  have f2 : (tq_cp S 1 e (fun _ => 0)) 2 a 0 = nI a := by rw [tq_cpk (by decide)]; exact hpl.1 a ha
  refine tp_pinit he0 (tp_nae (by decide)) tp_na0 ha f2 (fun t => by rw [tq_cpe]) (by rw [tp_na0]; omega) (by rw [tp_na1]; omega) (fun N1 S1 hn q0 q1 q2 q3 q4 q8 q9 q13 q50 q51 q52 => ?_)
  obtain ⟨n1, n2, n3, n4, n5, n6, n7, n8, n9⟩ := hn
  have mN : tp_mono N N1 := tp_mono_n1.tr n1
  have ne : ∀ k i : Nat, (k ∈ tq_dyn → N k i = 1) → (k = 1 → i = 0) → S1 k i = S k i := by
    intro k i z1 z2
    have : ¬ (i = e ∧ (k = 1 ∨ k = 7 ∨ k = 50 ∨ k = 51 ∨ k = 52)) := by
      rintro ⟨rfl, y⟩
      rcases y with rfl | y
      · have := z2 rfl; omega
      · have : k ∈ tq_dyn := by rcases y with rfl | rfl | rfl | rfl <;> decide
        exact hfr k this (z1 this)
    rw [n9 k i this]
    refine tq_cp_out (fun y => ?_)
    have := z2 y.1
    omega
  have k15 : S1 15 = S 15 := funext (fun i => ne 15 i (fun z => absurd z (by decide)) (fun z => absurd z (by decide)))
  have k16 : ∀ i, N 16 i = 1 → S1 16 i = S 16 i := fun i hi => ne 16 i (fun _ => hi) (fun z => absurd z (by decide))
  have hL : tp_L N1 (S1 15) (S1 16) G C 15 16 7 0 P := tp_L_fr l1 (by rw [k15]) (by rw [k15]) (fun z => k16 _ z) (fun j hj => mN 16 j (by decide) (by decide) (by decide) hj) (fun j hj => mN 7 j (by decide) (by decide) (by decide) hj) (fun _ _ => rfl) rfl
  have ex : e ≤ tq_CX := by omega
  rw [tp_na0] at n6
  rw [tp_na1] at n7
  refine ⟨tp_L_aok hL (by omega) n2 ex (by omega) (by omega), fun N2 S2 hadd => ?_⟩
  obtain ⟨c1, d1, g1, g2, g3, g4, g5, g6, g7, g8, g9, g10, g11, g12⟩ := tp_L_add hL hadd n2 ex (by decide) (by decide) (by decide) (by decide) (by decide)
  have at7 : ∀ k : Nat, k ≠ 15 → k ≠ 16 → S2 k = S1 k := fun k z1 z2 => funext (fun i => g3 k i (fun y => z1 y.1) (fun y => z2 y.1))
  refine h N2 S2 e c1 ⟨mN.tr g2, g2 7 e (by decide) (by decide) (by decide) n2, g2 50 e (by decide) (by decide) (by decide) n3, g2 51 e (by decide) (by decide) (by decide) n4, g2 52 e (by decide) (by decide) (by decide) n5, g1, ?_, ?_, ?_, ?_, ?_, g7, g10 (by omega) cC, by omega, by omega, hfr, ?_⟩
  · intro k i z1 z2 z3 z4
    rw [at7 k z3 z4]; exact ne k i z1 z2
  · rw [at7 7 (by decide) (by decide)]
    have x1 : (tq_cp S 1 e (fun _ => 0)) 15 0 2 = nI P := by rw [tq_cpk (by decide)]; exact tp_len l1
    have x2 : (tq_cp S 1 e (fun _ => 0)) 1 0 0 = nI d := by
      rw [tq_cpi (by omega)]; exact hss.1.trans s1
    rw [x1] at q0
    rw [x2] at q4
    exact ⟨q0, q1, q2, q3, q4, q8, q9, q13⟩
  · intro q hq
    have x2 : (tq_cp S 1 e (fun _ => 0)) 1 0 0 = nI d := by
      rw [tq_cpi (by omega)]; exact hss.1.trans s1
    rw [at7 50 (by decide) (by decide), q50 q hq, x2]
  · rw [at7 51 (by decide) (by decide), q51, tq_cpk (by decide)]
  · rw [at7 52 (by decide) (by decide), q52]
  · obtain ⟨_, _, _, _, _, _, _, _, q⟩ := hadd
    rcases q with ⟨q, _⟩ | ⟨_, _, _, _, q⟩
    · rw [q]; omega
    · rw [q, tp_na0]; omega
/-- the relation with a paper more that is neither invoice nor bill -/
theorem RR_addQ {c h w d pn P Sh V E A t r eb : Nat} {G : Nat → Nat → Nat → Nat} {C : Nat → Nat → Nat} {OL : Nat → List Nat} {N : tq_Nn} {S M : tq_St} {N2 : tq_Nn} {S2 M1 : tq_St} {e c1 κ a b : Nat} (h0 : RR c h w d pn P Sh V E A t r eb G C OL N S M) (hP : P < 150) (hW : tp_W P (nI κ) a (nI b) (nI d) G C N S N2 S2 e c1) (ha : a < 5) (hb : b < 5) (hab : a ≠ b) (hκ : κ = 1 ∨ κ = 3 ∨ κ = 6) (hM1 : ∀ k : Nat, k ≠ 116 → M1 k = tp_wr M P (nI κ) a (nI b) k) (h116 : ∀ n : Nat, n ≠ P → M1 116 n = M 116 n) (hst1 : κ = 1 → ∀ s : Nat, s < 4 → S 30 a s = M1 116 P s) : RR c h w d pn (P + 1) Sh V E A t r eb (tp_G G 15 0 P e) (tp_C C 15 0 c1) OL N2 S2 M1 := by
  obtain ⟨w1, w2, w3, w4, w5, w6, w7, ⟨f0, f1, f2, f3, f4, f8, f9, f13⟩, w8, w9, w10, w11, w12, w13, w14, w15, w16⟩ := hW
  have hro := h0.2.2.2.2.2.2.2.2.2.2.2.2.2.2.2.2.2.2.2.2.2.2.2.2.2.2.2.2
  have hli := h0.2.2.2.2.2.2.2.2.2.2.2.2.2.2.2.2.2.2.2.2.2.2.2.2.2.2.1
  have hlb := h0.2.2.2.2.2.2.2.2.2.2.2.2.2.2.2.2.2.2.2.2.1
  have hbi := h0.2.2.2.2.2.2.2.2.2.2.2.2.2.2.2.2.2.2.2.1
  have hab0 := h0.2.2.2.2.2.2.2.2.2.2.2.2.2.2.2.1
  have hsm := h0.2.2.2.2.2.2.2.2.2.2.2.2.2.2.2.2.1
  have hsi := h0.2.2.2.2.2.2.2.2.2.2.2.2.2.2.1
  have hpm := h0.2.2.2.2.2.2.2.2.2.2.2.2.2.1
  have hmo := h0.2.2.2.2.2.2.2.1
  have hpl := h0.2.2.2.1
  have hsc := h0.1
  have hd := hsc.1
  have st2 : ∀ k : Nat, k ∉ tq_dyn → k ≠ 1 → k ≠ 15 → S2 k = S k := fun k z1 z2 z3 => funext (fun i => w7 k i (fun y => absurd y z1) (fun y => absurd y z2) z3 (fun y => z1 (by subst y; decide)))
  have ge : tp_G G 15 0 P e 15 0 P = e := by simp [tp_G]
  have kP : M1 110 0 P = nI κ := by rw [hM1 110 (by decide)]; simp (disch := decide) only [tp_wr, tq_cpk, tq_upk, tq_upe]
  have kn : ∀ n, n ≠ P → M1 110 0 n = M 110 0 n := fun n hn => by rw [hM1 110 (by decide)]; simp (disch := decide) only [tp_wr, tq_cpk, tq_upk]; rw [tq_upj hn, tq_upk (by decide)]
  have p111 : M1 111 0 P = nI a := by rw [hM1 111 (by decide)]; simp (disch := decide) only [tp_wr, tq_cpk, tq_upk, tq_upe]
  have p112 : M1 112 0 P = nI d := by rw [hM1 112 (by decide)]; simp (disch := decide) only [tp_wr, tq_cpk, tq_upk, tq_upe]; exact hd
  have p113 : M1 113 0 P = nI b := by rw [hM1 113 (by decide)]; simp (disch := decide) only [tp_wr, tq_cpk, tq_upk, tq_upe]
  have p114 : M1 114 = M 114 := by rw [hM1 114 (by decide)]; simp (disch := decide) only [tp_wr, tq_cpk, tq_upk]
  have p115 : ∀ q, q < 5 → M1 115 P q = if q = a then nI d else -1 := fun q hq => by rw [hM1 115 (by decide)]; simp only [tp_wr, tq_cpe]; rw [if_pos hq, hd]
  have p120 : M1 120 = M 120 := by rw [hM1 120 (by decide)]; simp (disch := decide) only [tp_wr, tq_cpk, tq_upk]
  have z0 := hpm.2.2 P (Nat.le_refl _) hP
  have k5 : ¬ M1 110 0 P = 5 := by rw [kP]; rcases hκ with rfl | rfl | rfl <;> decide
  have k4 : ¬ M1 110 0 P = 4 := by rw [kP]; rcases hκ with rfl | rfl | rfl <;> decide
  have k2 : ¬ M1 110 0 P = 2 := by rw [kP]; rcases hκ with rfl | rfl | rfl <;> decide
  have eBL : tp_BL (P + 1) (M1 110 0) = tp_BL P (M 110 0) := by
    rw [tp_BL_succ, if_neg k5, List.append_nil, tp_BL_cong (fun n hn => kn n (by omega))]
  have gG : ∀ x y z : Nat, x ≠ 15 → x ≠ 17 → tp_G G 15 0 P e x y z = G x y z := fun x y z h1 _ => by simp [tp_G, h1]
  have gG17 : ∀ y z : Nat, tp_G G 15 0 P e 17 y z = G 17 y z := fun y z => by simp [tp_G]
  have gP : ∀ n, n < P → tp_G G 15 0 P e 15 0 n = G 15 0 n := fun n hn => by simp [tp_G, Nat.ne_of_lt hn]
  refine RR_addP (G2 := tp_G G 15 0 P e) (C2 := tp_C C 15 0 c1) h0 hP w1 (fun k i z1 z2 _ _ _ z5 z6 _ _ _ => w7 k i z1 z2 z5 z6) ?_ ?_ gG gP ?_ w6 ?_ ?_ ?_ ?_ ?_ ?_ ?_ ?_ ?_ ?_ p112 ?_ ?_ ?_ ?_ (fun z => absurd z k2) (fun z => absurd z k4) (fun p hp z => absurd z k2) ?_ ?_ ?_ ?_
  · exact congrFun (congrFun (st2 3 (by decide) (by decide) (by decide)) 0) 1
  · intro p j _ _; rw [st2 2 (by decide) (by decide) (by decide)]
  · intro x y h1 _; simp [tp_C, h1]
  · rw [eBL, st2 17 (by decide) (by decide) (by decide)]
    exact tp_L_fr0 hli.2.2.2.1 rfl rfl (fun z => w7 18 _ (fun _ => z) (fun z => absurd z (by decide)) (by decide) (by decide)) (fun j hj => w1 18 j (by decide) (by decide) (by decide) hj) (fun j hj => w1 7 j (by decide) (by decide) (by decide) hj) (fun j _ => gG17 0 j) (by simp [tp_C])
  · intro k n hk
    rw [eBL] at hk
    have hn : n < P := by
      have := List.mem_of_getElem? hk
      unfold tp_BL at this
      exact List.mem_range.mp (List.mem_filter.mp this).1
    rw [gG17, gP n hn]; exact hbi k n hk
  · intro j z _ _ _ _ _
    rw [hM1 64 (by decide)]
    simp (disch := decide) only [tp_wr, tq_cpk, tq_upk]
    rw [tq_upj z]
  · rw [hM1 64 (by decide)]
    simp (disch := decide) only [tp_wr, tq_cpk, tq_upk, tq_upe]
  · intro k z1 z2 z3 z4
    rw [hM1 k (by omega)]
    simp only [tp_wr]
    rw [tq_cpk (by omega), tq_upk (by omega), tq_upk (by omega), tq_upk (by omega), tq_upk (by omega), tq_upk (by omega)]
  · intro k n z1 z2 z3
    rw [hM1 k (by omega)]
    simp only [tp_wr]
    rw [tq_cpk (by omega), tq_upj z3, tq_upj z3, tq_upj z3, tq_upj z3, tq_upk (by omega)]
  · intro n z
    rw [hM1 117 (by decide)]
    simp (disch := decide) only [tp_wr, tq_cpk, tq_upk]
  · intro k n z1 z2 z3 z4
    by_cases q : k = 116
    · subst q; exact h116 n z4
    · rw [hM1 k q]
      simp only [tp_wr]
      rw [tq_cpi z4, tq_upk (by omega), tq_upk (by omega), tq_upk (by omega), tq_upk (by omega), tq_upk (by omega)]
  · rw [ge]
    refine ⟨w3, w4, w5, f0, f1.trans kP.symm, f2.trans p111.symm, f3.trans p113.symm, f4.trans p112.symm, ?_, ?_, ?_, fun z => absurd z k5⟩
    · rw [f9, p114]; exact z0.1.symm
    · rw [if_neg k2, if_neg (fun z => z.elim k4 k5)]; exact f8
    · exact ⟨fun z => absurd z k5, fun z => absurd f13 z⟩
  · refine ⟨⟨κ, by omega, by omega, kP⟩, ⟨a, ha, p111⟩, ⟨b, hb, p113⟩, ⟨d, Nat.le_refl _, p112⟩, ⟨0, by decide, by rw [p114]; exact z0.1⟩, fun p hp => ?_, fun z => absurd z k5⟩
    rw [p115 p hp]
    by_cases q : p = a
    · rw [if_pos q, tp_ti (by have := hsc.2.2.2.2.2.2.2.2.2.1; omega)]; exact Int.le_refl _
    · rw [if_neg q]
      have : (-1 : Int32).toInt = -1 := by decide
      omega
  · intro p hp; rw [ge, w8 p hp, p115 p hp]
  · intro z s hs
    rw [ge, w9]
    refine hst1 ?_ s hs
    rcases hκ with q | q | q
    · exact q
    · subst q; rw [kP] at z; exact absurd z (by decide)
    · subst q; rw [kP] at z; exact absurd z (by decide)
  · intro s n hs hn
    rw [w7 56 _ (fun _ => (hsi s hs).2.2.1) (fun z => absurd z (by decide)) (by decide) (by decide), p120]
    exact hab0 s n hs hn
  · intro s z1 z2; rw [p120]; exact (hsm.2.2 s z1 z2).2.2.2.2.2 P hP
  · obtain ⟨a1, a2, a3, a4, a5, a6⟩ := hpl
    have m : ∀ k, k = 101 ∨ k = 103 ∨ k = 104 → M1 k = M k := fun k hk => by
      rw [hM1 k (by omega)]
      simp only [tp_wr]
      rw [tq_cpk (by omega), tq_upk (by omega), tq_upk (by omega), tq_upk (by omega), tq_upk (by omega), tq_upk (by omega)]
    unfold q_pl
    rw [st2 2 (by decide) (by decide) (by decide), st2 31 (by decide) (by decide) (by decide), m 101 (by decide), m 103 (by decide), m 104 (by decide)]
    exact ⟨a1, a2, a3, a4, a5, a6⟩
  · have m : ∀ k, k = 101 ∨ k = 128 ∨ k = 105 → M1 k = M k := fun k hk => by
      rw [hM1 k (by omega)]
      simp only [tp_wr]
      rw [tq_cpk (by omega), tq_upk (by omega), tq_upk (by omega), tq_upk (by omega), tq_upk (by omega), tq_upk (by omega)]
    obtain ⟨a1, a2, a3, a4⟩ := hmo
    unfold q_mo
    rw [m 101 (by decide), m 128 (by decide), m 105 (by decide)]
    exact ⟨a1, a2, a3, by omega⟩
  · intro p h1 h2
    rw [st2 2 (by decide) (by decide) (by decide)]
    rcases hlb p h1 h2 with ⟨q1, q2⟩ | ⟨n, q1, q2, q3, q4, q5⟩
    · refine Or.inl ⟨q1, fun n hn hk => ?_⟩
      by_cases e : n = P
      · subst e; exact absurd hk k5
      · rw [kn n e] at hk
        have m : M1 111 0 n = M 111 0 n := by
          rw [hM1 111 (by decide)]
          simp (disch := decide) only [tp_wr, tq_cpk, tq_upk]
          rw [tq_upj e, tq_upk (by decide), tq_upk (by decide)]
        rw [m]; exact q2 n (by omega) hk
    · have m : ∀ n, n ≠ P → M1 111 0 n = M 111 0 n := fun n e => by
        rw [hM1 111 (by decide)]
        simp (disch := decide) only [tp_wr, tq_cpk, tq_upk]
        rw [tq_upj e, tq_upk (by decide), tq_upk (by decide)]
      refine Or.inr ⟨n, by omega, by rw [kn n (by omega)]; exact q2, by rw [m n (by omega)]; exact q3, by rw [gP n q1]; exact q4, fun x hx hxn hk hx1 => ?_⟩
      by_cases e : x = P
      · subst e; exact absurd hk k5
      · rw [kn x e] at hk
        rw [m x e] at hx1
        rw [h116 x e]; exact q5 x (by omega) hxn hk hx1
  · obtain ⟨a1, a2, a3, a4, a5, a6, a7, a8, a9⟩ := hro
    have e1 : tp_CS (tp_C C 15 0 c1) + C 15 0 = tp_CS C + c1 := by
      unfold tp_CS
      simp [tp_C]
      omega
    refine ⟨by omega, by omega, w16, ?_, ?_, ?_, ?_, ?_, ?_⟩
    · simp [tp_C]; exact w12
    · simp [tp_C]; exact a5
    · simp [tp_C]; exact a6
    · simp [tp_C]; exact a7
    · intro p hp; simp [tp_C]; exact a8 p hp
    · intro p hp; simp [tp_C]; exact a9 p hp
theorem tp_roomP {N : tq_Nn} {S : tq_St} {post : tq_St → Int32 → Prop} {P n : Nat} (h : S 15 0 2 = nI P) (hP : P ≤ 150) (hn : n ≤ 1000) (hp : post S (tp_b (P + n ≤ 150))) : wpX11_hasRoomForPapers N post S (nI n) := by
  unfold wpX11_hasRoomForPapers wbX11_hasRoomForPapers_20
  rw [h, nI_add]
  by_cases q : P + n ≤ 150
  · rw [tp_bt q] at hp
    exact tp_dF (nI_nlt (a := 150) q (by decide)) ⟨tp_nb1, hp⟩
  · rw [tp_bf q] at hp
    exact tp_dT (nI_lt (a := 150) (by omega) (by omega)) ⟨tp_nb0, hp⟩
theorem tp_letter48 {M : tq_St} {post : tq_St → Int32 → Prop} {a P : Nat} (ha : a < 5) (hP : P < 150) (h : post (tq_cp M 116 P (fun q => if q < 4 then M 102 a q else M 116 P q)) (nI P)) : ∃ nq, wbX12_letter_48 post nq M (nI a) (nI P) 0 := by
  have h102 : ∀ i, tp_it (fun j (T : tq_St) => tq_up T 116 P j (M 102 a j)) i M 102 = M 102 := fun i => by rw [tp_row M 116 P (M 102 a) i, tq_cpk (by decide)]
  refine ⟨5, tp_loop0 (W := fun m T i => wbX12_letter_48 post m T (nI a) (nI P) (nI i)) (n := 4) (f := fun j (T : tq_St) => tq_up T 116 P j (M 102 a j)) (s0 := M) (fun m => ?_) (fun m i hi hw => ?_)⟩
  · unfold wbX12_letter_48
    refine tp_dT (by decide) ?_
    rw [tp_row M 116 P (M 102 a) 4]; exact h
  · unfold wbX12_letter_48
    refine tp_dF (nI_ge (a := i) (b := 4) hi (by decide)) ⟨vp_in_nI hP (by decide), vp_in_nI ha (by decide), vp_in_nI hi (by decide), tp_ae ?_⟩
    rw [nI_clamp (by omega), nI_clamp (by omega), nI_clamp (by omega), nI_1, h102 i]
    exact hw
theorem sim_letter {c : Nat} {N : tq_Nn} {S M : tq_St} {p0 p1 : Int32} (hR : tp_R c N S M) (hc : c < 512) : wpX11_letter (fun N1 S1 r => wpX12_letter (fun M1 r1 => r = r1 ∧ tp_R (c + 1) N1 S1 M1) M p0 p1) N S p0 p1 := by
  have hT := hR.tick hc
  obtain ⟨d, pn, P, Sh, V, E, A, t, r, G, C, OL, h0⟩ := id hR
  obtain ⟨hsc, hss, har, hpl, hlg, hsh, hpe, hmo, hpr, hsr, hpa, hkn, hst, hpm, hsi, hab, hsm, hvo, hvm, hbi, hlb, hiv, hod, hol, hoi, hfi, hli, had, hro⟩ := id h0
  obtain ⟨s1, s2, s3, s4, s5, s6, s7, s8, s9, b1, b2, b3, b4, b5, b6, b7, b8, b9, e1, e2⟩ := id hsc
  obtain ⟨x1, x2, x3, x4, x5, x6, x7⟩ := id hss
  obtain ⟨y1, y2, y3, y4, y5, y6, y7, y8, y9, y10, y11, y12, y13, y14, y15⟩ := id har
  obtain ⟨w1, w2, w3, w4, w5, w6⟩ := id hpl
  obtain ⟨l1, l2, l3, l4, l5, l6, l7, l8⟩ := id hli
  by_cases h1 : tp_i 0 4 p0
  · obtain ⟨ua, ua3, rfl⟩ := tp_i_lt (m := 5) h1 (by decide)
    have uac : (nI ua).toNatClampNeg = ua := nI_clamp (by omega)
    have uav : vp_in (nI ua) 5 := vp_in_nI ua3 (by decide)
    by_cases h2 : tp_i 0 4 p1
    · obtain ⟨ub, ub3, rfl⟩ := tp_i_lt (m := 5) h2 (by decide)
      simp (disch := decide) only [wpX11_letter, wbX11_letter_14, wpX12_letter, wbX12_letter_14, tp_isFactory, tp_isPlace, tp_isSort, tp_isSheet, tp_isHolder, tp_isPerson, tp_isPaper, tp_isShip, tp_isVoyage, tp_within, tp_in, tp_mPlace, tp_mFactory, tp_mSort, tp_mBuyer, tp_b0, tp_b1, Classical.not_not, tp_nb0, tp_nb1, tp_nb, true_and, Int32.reduceToInt]
      by_cases h3 : nI ua = nI ub
      · repeat' (with_reducible first | refine tp_cT (by first | assumption | decide) ?_ | refine tp_cF (by first | assumption | decide) ?_ | refine tp_dT (by first | assumption | decide) ?_ | refine tp_dF (by first | assumption | decide) ?_ | refine And.intro (by first | assumption | decide) ?_ | refine tp_ae ?_)
        first | exact ⟨rfl, hT⟩ | exact hT
      · have hne : ua ≠ ub := fun z => h3 (by rw [z])
        repeat' (with_reducible first | refine tp_cT (by first | assumption | decide) ?_ | refine tp_cF (by first | assumption | decide) ?_ | refine tp_dT (by first | assumption | decide) ?_ | refine tp_dF (by first | assumption | decide) ?_ | refine And.intro (by first | assumption | decide) ?_ | refine tp_ae ?_)
        refine tp_roomP (n := 1) (tp_len l1) b3 (by decide) ?_
        by_cases h4 : P < 150
        · have k1 : ¬ nI P = 150 := fun z => by have := (nI_eq (b := 150) (by omega) (by decide)).mp z; omega
          rw [tp_bt (show P + 1 ≤ 150 by omega)]
          refine tp_cF (by decide) ⟨uav, ?_⟩
          rw [uac]
          refine tp_cwrite h0 h4 ua3 (fun N2 S2 e c1 hW => ?_)
          have f0 := hW.2.2.2.2.2.2.2.1.1
          refine ⟨hW.2.1, ?_⟩
          repeat' (with_reducible first | refine tp_cT (by first | assumption | decide) ?_ | refine tp_cF (by first | assumption | decide) ?_ | refine tp_dT (by first | assumption | decide) ?_ | refine tp_dF (by first | assumption | decide) ?_ | refine And.intro (by first | assumption | decide) ?_ | refine tp_ae ?_)
          rw [s3]
          refine tp_cF k1 (tp_write s3 h4 ua3 (tp_letter48 ua3 h4 ⟨f0, ?_⟩))
          have q := RR_addQ (κ := 1) (M1 := tq_cp (tp_wr M P (nI 1) ua (nI ub)) 116 P (fun q => if q < 4 then tp_wr M P (nI 1) ua (nI ub) 102 ua q else tp_wr M P (nI 1) ua (nI ub) 116 P q)) h0 h4 hW ua3 ub3 hne (Or.inl rfl) (fun k hk => tq_cpk hk) (fun n hn => by
            rw [tq_cpi hn]
            simp (disch := decide) only [tp_wr, tq_cpk, tq_upk]) (fun _ s hs => by
            rw [tq_cpe]
            simp only [hs, if_true]
            rw [y7]
            simp (disch := decide) only [tp_wr, tq_cpk, tq_upk])
          exact q.R hc rfl rfl rfl
        · have k1 : P = 150 := by omega
          have k2 : M 64 0 9 = 150 := by rw [s3, k1]; rfl
          rw [tp_bf (show ¬ P + 1 ≤ 150 by omega)]
          repeat' (with_reducible first | refine tp_cT (by first | assumption | decide) ?_ | refine tp_cF (by first | assumption | decide) ?_ | refine tp_dT (by first | assumption | decide) ?_ | refine tp_dF (by first | assumption | decide) ?_ | refine And.intro (by first | assumption | decide) ?_ | refine tp_ae ?_)
          first | exact ⟨rfl, hT⟩ | exact hT
    · simp (disch := decide) only [wpX11_letter, wbX11_letter_14, wpX12_letter, wbX12_letter_14, tp_isFactory, tp_isPlace, tp_isSort, tp_isSheet, tp_isHolder, tp_isPerson, tp_isPaper, tp_isShip, tp_isVoyage, tp_within, tp_in, tp_mPlace, tp_mFactory, tp_mSort, tp_mBuyer, tp_b0, tp_b1, Classical.not_not, tp_nb0, tp_nb1, tp_nb, true_and, Int32.reduceToInt]
      repeat' (with_reducible first | refine tp_cT (by first | assumption | decide) ?_ | refine tp_cF (by first | assumption | decide) ?_ | refine tp_dT (by first | assumption | decide) ?_ | refine tp_dF (by first | assumption | decide) ?_ | refine And.intro (by first | assumption | decide) ?_ | refine tp_ae ?_)
      first | exact ⟨rfl, hT⟩ | exact hT
  · simp (disch := decide) only [wpX11_letter, wbX11_letter_14, wpX12_letter, wbX12_letter_14, tp_isFactory, tp_isPlace, tp_isSort, tp_isSheet, tp_isHolder, tp_isPerson, tp_isPaper, tp_isShip, tp_isVoyage, tp_within, tp_in, tp_mPlace, tp_mFactory, tp_mSort, tp_mBuyer, tp_b0, tp_b1, Classical.not_not, tp_nb0, tp_nb1, tp_nb, true_and, Int32.reduceToInt]
    repeat' (with_reducible first | refine tp_cT (by first | assumption | decide) ?_ | refine tp_cF (by first | assumption | decide) ?_ | refine tp_dT (by first | assumption | decide) ?_ | refine tp_dF (by first | assumption | decide) ?_ | refine And.intro (by first | assumption | decide) ?_ | refine tp_ae ?_)
    first | exact ⟨rfl, hT⟩ | exact hT
