/-! pure: what a factory does: sail -/
theorem RR_vinv {c h w d pn P Sh V E A t r eb : Nat} {G : Nat → Nat → Nat → Nat} {C : Nat → Nat → Nat} {OL : Nat → List Nat} {N : tq_Nn} {S M : tq_St} (h0 : RR c h w d pn P Sh V E A t r eb G C OL N S M) {v : Nat} {x : Int32} (hv : v < V) : RR c h w d pn P Sh V E A t r eb G C OL N (tq_up S 9 (G 22 0 v) 10 x) (tq_up M 141 0 v x) := by
  obtain ⟨hsc, hss, har, hpl, hlg, hsh, hpe, hmo, hpr, hsr, hpa, hkn, hst, hpm, hsi, hab, hsm, hvo, hvm, hbi, hlb, hiv, hod, hol, hoi, hfi, hli, had, hro⟩ := h0
  have b5 := hsc.2.2.2.2.2.2.2.2.2.2.2.2.2.1
  have b4 := hsc.2.2.2.2.2.2.2.2.2.2.2.2.1
  have b3 := hsc.2.2.2.2.2.2.2.2.2.2.2.1
  have b2 := hsc.2.2.2.2.2.2.2.2.2.2.1
  refine ⟨?_, ?_, ?_, ?_, ?_, ?_, ?_, ?_, ?_, ?_, ?_, ?_, ?_, ?_, ?_, ?_, ?_, ?_, ?_, ?_, ?_, ?_, ?_, ?_, ?_, ?_, ?_, ?_, ?_⟩
  · simpa (disch := decide) only [q_sc, tq_upk, tq_upj, tq_cpk] using hsc
  · simpa (disch := decide) only [q_ss, tq_upk, tq_upj, tq_cpk] using hss
  · simpa (disch := decide) only [q_ar, tq_upk, tq_upj, tq_cpk] using har
  · simpa (disch := decide) only [q_pl, tq_upk, tq_upj, tq_cpk] using hpl
  · simpa (disch := decide) only [q_lg, tq_upk, tq_upj, tq_cpk] using hlg
  · simpa (disch := decide) only [q_sh, tq_upk, tq_upj, tq_cpk] using hsh
  · simpa (disch := decide) only [q_pe, tq_upk, tq_upj, tq_cpk] using hpe
  · simpa (disch := decide) only [q_mo, tq_upk, tq_upj, tq_cpk] using hmo
  · simpa (disch := decide) only [q_pr, tq_upk, tq_upj, tq_cpk] using hpr
  · simpa (disch := decide) only [q_sr, tq_upk, tq_upj, tq_cpk] using hsr
  · simpa (disch := decide) only [q_pa, q_pb, tq_upk, tq_upj, tq_cpk] using hpa
  · simpa (disch := decide) only [q_kn, tq_upk, tq_upj, tq_cpk] using hkn
  · simpa (disch := decide) only [q_st, tq_upk, tq_upj, tq_cpk] using hst
  · simpa (disch := decide) only [q_pm, q_pn, tq_upk, tq_upj, tq_cpk] using hpm
  · simpa (disch := decide) only [q_si, tq_upk, tq_upj, tq_cpk] using hsi
  · simpa (disch := decide) only [q_ab, tq_upk, tq_upj, tq_cpk] using hab
  · simpa (disch := decide) only [q_sm, tq_upk, tq_upj, tq_cpk] using hsm
  · intro y hy
    obtain ⟨a1, a2, a3, a4, a5, a6, a7, a8, a9, a10, a11, a12, a13, a14, a15⟩ := hvo y hy
    have key : tq_up S 9 (G 22 0 v) 10 x 9 (G 22 0 y) 10 = tq_up M 141 0 v x 141 0 y := by
      by_cases e : y = v
      · subst e; rw [tq_upe, tq_upe]
      · rw [tq_upi (fun z => e (hvo.inj b5 hy hv z)), tq_upj e]; exact a11
    simp (disch := decide) only [tq_upk, tq_upj]
    exact ⟨a1, a2, a3, a4, a5, a6, a7, a8, a9, a10, key, a12, a13, a14, a15⟩
  · simpa (disch := decide) only [q_vm, tq_upk, tq_upj, tq_cpk] using hvm
  · simpa (disch := decide) only [q_bi, tq_upk, tq_upj, tq_cpk] using hbi
  · simpa (disch := decide) only [q_lb, tq_upk, tq_upj, tq_cpk] using hlb
  · simpa (disch := decide) only [q_iv, tq_upk, tq_upj, tq_cpk] using hiv
  · simpa (disch := decide) only [q_od, tq_upk, tq_upj, tq_cpk] using hod
  · simpa (disch := decide) only [q_ol, tq_upk, tq_upj, tq_cpk] using hol
  · simpa (disch := decide) only [q_oi, tq_upk, tq_upj, tq_cpk] using hoi
  · simpa (disch := decide) only [q_fi, tq_upk, tq_upj, tq_cpk] using hfi
  · simpa (disch := decide) only [q_li, tq_upk, tq_upj, tq_cpk] using hli
  · simpa (disch := decide) only [q_ad, tq_upk, tq_upj, tq_cpk] using had
  · simpa (disch := decide) only [q_ro, tq_upk, tq_upj, tq_cpk] using hro
theorem RR_inv {c h w d pn P Sh V E A t r eb : Nat} {G : Nat → Nat → Nat → Nat} {C : Nat → Nat → Nat} {OL : Nat → List Nat} {N : tq_Nn} {S M : tq_St} {N3 : tq_Nn} {S3 : tq_St} {e p s c1 : Nat} {x : Int32} (h0 : RR c h w d pn P Sh V E A t r eb G C OL N S M) (hP : P < 150) (hp1 : 1 ≤ p) (hp : p < 5) (hs : s < Sh)
    (mm : tp_mono N N3) (fS : ∀ k i, (k ∈ tq_dyn → N k i = 1) → (k = 1 → i = 0) → k ≠ 15 → k ≠ 16 → k ≠ 56 → S3 k i = S k i) (f56 : ∀ s' n, s' < Sh → n < 150 → S3 56 (G 19 0 s') n = if s' = s ∧ n = P then 1 else S 56 (G 19 0 s') n)
    (n50 : N3 50 e = 1) (n51 : N3 51 e = 1) (n52 : N3 52 e = 1) (f0 : S3 7 e 0 = nI P) (f1 : S3 7 e 1 = 4) (f2 : S3 7 e 2 = nI p) (f3 : S3 7 e 3 = 0) (f4 : S3 7 e 4 = nI d) (f8 : S3 7 e 8 = x) (f9 : S3 7 e 9 = 1) (f13 : S3 7 e 13 = 0) (f50 : ∀ q, q < 5 → S3 50 e q = if q = p then nI d else -1)
    (L1 : tp_L N3 (S3 15) (S3 16) (tp_G G 15 0 P e) (tp_C C 15 0 c1) 15 16 7 0 (P + 1))
    (hc1 : c1 ≤ 2400) (hc1a : C 15 0 ≤ c1) (r0 : N3 0 0 + C 15 0 ≤ N 0 0 + 4 + c1) (r1 : N3 0 1 + 4 * C 15 0 ≤ N 0 1 + 22 + 4 * c1) (r2 : 1 ≤ N3 0 0) : RR c h w d pn (P + 1) Sh V E A t r eb (tp_G G 15 0 P e) (tp_C C 15 0 c1) OL N3 S3 ((tq_up (tq_up (tq_up (tp_wr M P (nI 4) p (nI 0)) 116 P 0 x) 114 0 P 1) 120 P s 1)) := by
  have hpm := h0.2.2.2.2.2.2.2.2.2.2.2.2.2.1
  have hro := h0.2.2.2.2.2.2.2.2.2.2.2.2.2.2.2.2.2.2.2.2.2.2.2.2.2.2.2.2
  have hli := h0.2.2.2.2.2.2.2.2.2.2.2.2.2.2.2.2.2.2.2.2.2.2.2.2.2.2.1
  have hlb := h0.2.2.2.2.2.2.2.2.2.2.2.2.2.2.2.2.2.2.2.2.1
  have hbi := h0.2.2.2.2.2.2.2.2.2.2.2.2.2.2.2.2.2.2.2.1
  have hab0 := h0.2.2.2.2.2.2.2.2.2.2.2.2.2.2.2.1
  have hsm := h0.2.2.2.2.2.2.2.2.2.2.2.2.2.2.2.2.1
  have hmo := h0.2.2.2.2.2.2.2.1
  have hpl := h0.2.2.2.1
  have hsc := h0.1
  have hd : M 64 0 0 = nI d := hsc.1
  have hd3 := hsc.2.2.2.2.2.2.2.2.2.1
  have b4 := hsc.2.2.2.2.2.2.2.2.2.2.2.2.1
  have fT : ∀ k : Nat, k ∉ tq_dyn → k ≠ 1 → k ≠ 15 → S3 k = S k := fun k z1 z2 z3 => funext (fun i => fS k i (fun y => absurd y z1) (fun y => absurd y z2) z3 (fun y => z1 (by subst y; decide)) (fun y => z1 (by subst y; decide)))
  generalize hW : tq_up (tq_up (tq_up (tp_wr M P (nI 4) p (nI 0)) 116 P 0 x) 114 0 P 1) 120 P s 1 = W
  have wk : ∀ k, k ≠ 64 → (k < 110 ∨ 116 < k) → k ≠ 120 → W k = M k := fun k z1 z2 z3 => by
    rw [← hW, tq_upk z3, tq_upk (by omega), tq_upk (by omega)]; unfold tp_wr
    rw [tq_cpk (by omega), tq_upk (by omega), tq_upk (by omega), tq_upk (by omega), tq_upk (by omega), tq_upk z1]
  have w64 : ∀ j, j ≠ 9 → W 64 0 j = M 64 0 j := fun j z => by
    rw [← hW, tq_upk (by decide), tq_upk (by decide), tq_upk (by decide)]; unfold tp_wr
    rw [tq_cpk (by decide), tq_upk (by decide), tq_upk (by decide), tq_upk (by decide), tq_upk (by decide), tq_upj z]
  have w9 : W 64 0 9 = nI (P + 1) := by rw [← hW]; simp (disch := decide) only [tp_wr, tq_cpk, tq_upk, tq_upe]
  have kP : W 110 0 P = 4 := by rw [← hW]; simp (disch := decide) only [tp_wr, tq_cpk, tq_upk, tq_upe]; rfl
  have kn : ∀ k n, 110 ≤ k → k ≤ 113 → n ≠ P → W k 0 n = M k 0 n := fun k n z1 z2 hn => by
    rw [← hW, tq_upk (by omega), tq_upk (by omega), tq_upk (by omega)]; unfold tp_wr
    have ck : k = 110 ∨ k = 111 ∨ k = 112 ∨ k = 113 := by omega
    rcases ck with rfl | rfl | rfl | rfl
    · rw [tq_cpk (by decide), tq_upk (by decide), tq_upk (by decide), tq_upk (by decide), tq_upj hn, tq_upk (by decide)]
    · rw [tq_cpk (by decide), tq_upk (by decide), tq_upk (by decide), tq_upj hn, tq_upk (by decide), tq_upk (by decide)]
    · rw [tq_cpk (by decide), tq_upk (by decide), tq_upj hn, tq_upk (by decide), tq_upk (by decide), tq_upk (by decide)]
    · rw [tq_cpk (by decide), tq_upj hn, tq_upk (by decide), tq_upk (by decide), tq_upk (by decide), tq_upk (by decide)]
  have p111 : W 111 0 P = nI p := by rw [← hW]; simp (disch := decide) only [tp_wr, tq_cpk, tq_upk, tq_upe]
  have p112 : W 112 0 P = nI d := by rw [← hW]; simp (disch := decide) only [tp_wr, tq_cpk, tq_upk, tq_upe]; exact hd
  have p113 : W 113 0 P = nI 0 := by rw [← hW]; simp (disch := decide) only [tp_wr, tq_cpk, tq_upk, tq_upe]
  have p114 : W 114 0 P = 1 := by rw [← hW, tq_upk (by decide), tq_upe]
  have p114n : ∀ n, n ≠ P → W 114 0 n = M 114 0 n := fun n hn => by
    rw [← hW, tq_upk (by decide), tq_upj hn, tq_upk (by decide)]; unfold tp_wr
    rw [tq_cpk (by decide), tq_upk (by decide), tq_upk (by decide), tq_upk (by decide), tq_upk (by decide), tq_upk (by decide)]
  have p115 : ∀ q, q < 5 → W 115 P q = if q = p then nI d else -1 := fun q hq => by
    rw [← hW, tq_upk (by decide), tq_upk (by decide), tq_upk (by decide)]; simp only [tp_wr, tq_cpe]; rw [if_pos hq, hd]
  have p115n : ∀ i, i ≠ P → W 115 i = M 115 i := fun i hi => by
    rw [← hW, tq_upk (by decide), tq_upk (by decide), tq_upk (by decide)]; unfold tp_wr
    rw [tq_cpi hi, tq_upk (by decide), tq_upk (by decide), tq_upk (by decide), tq_upk (by decide), tq_upk (by decide)]
  have p116 : W 116 P 0 = x := by rw [← hW, tq_upk (by decide), tq_upk (by decide), tq_upe]
  have p116n : ∀ i, i ≠ P → W 116 i = M 116 i := fun i hi => by
    rw [← hW, tq_upk (by decide), tq_upk (by decide), tq_upi hi]; unfold tp_wr
    rw [tq_cpk (by decide), tq_upk (by decide), tq_upk (by decide), tq_upk (by decide), tq_upk (by decide), tq_upk (by decide)]
  have m120 : tq_up (tq_up (tp_wr M P (nI 4) p (nI 0)) 116 P 0 x) 114 0 P 1 120 = M 120 := by
    rw [tq_upk (by decide), tq_upk (by decide)]; unfold tp_wr
    rw [tq_cpk (by decide), tq_upk (by decide), tq_upk (by decide), tq_upk (by decide), tq_upk (by decide), tq_upk (by decide)]
  have p120 : W 120 P s = 1 := by rw [← hW, tq_upe]
  have p120s : ∀ s', s' ≠ s → W 120 P s' = M 120 P s' := fun s' h => by rw [← hW, tq_upj h, m120]
  have p120n : ∀ n, n ≠ P → W 120 n = M 120 n := fun n h => by rw [← hW, tq_upi h, m120]
  clear hW
  have z0 := hpm.2.2 P (Nat.le_refl _) hP
  have k2 : ¬ W 110 0 P = 2 := by rw [kP]; decide
  have k5 : ¬ W 110 0 P = 5 := by rw [kP]; decide
  have k1 : ¬ W 110 0 P = 1 := by rw [kP]; decide
  have eBL : tp_BL (P + 1) (W 110 0) = tp_BL P (M 110 0) := by
    rw [tp_BL_succ, if_neg k5, List.append_nil, tp_BL_cong (fun n hn => kn 110 n (by decide) (by decide) (by omega))]
  have ge : tp_G G 15 0 P e 15 0 P = e := by simp [tp_G]
  have gG : ∀ x y z : Nat, x ≠ 15 → x ≠ 17 → tp_G G 15 0 P e x y z = G x y z := fun x y z h1 _ => by simp [tp_G, h1]
  have gG17 : ∀ y z : Nat, tp_G G 15 0 P e 17 y z = G 17 y z := fun y z => by simp [tp_G]
  have gP : ∀ n, n < P → tp_G G 15 0 P e 15 0 n = G 15 0 n := fun n hn => by simp [tp_G, Nat.ne_of_lt hn]
  refine RR_addP (G2 := tp_G G 15 0 P e) (C2 := tp_C C 15 0 c1) h0 hP mm (fun k i z1 z2 _ _ _ z6 z7 _ _ z8 => fS k i z1 z2 z6 z7 z8) ?_ ?_ gG gP ?_ L1 ?_ ?_ ?_ w9 ?_ ?_ ?_ ?_ ?_ ?_ p112 ?_ (fun z => absurd z k1) ?_ ?_ (fun z => absurd z k2) (fun _ => ?_) (fun _ _ z => absurd z k2) ?_ ?_ ?_ ?_
  · rw [fT 3 (by decide) (by decide) (by decide)]
  · intro p j _ _; rw [fT 2 (by decide) (by decide) (by decide)]
  · intro x y h1 _; simp [tp_C, h1]
  · rw [eBL, fT 17 (by decide) (by decide) (by decide)]
    exact tp_L_fr0 hli.2.2.2.1 rfl rfl (fun z => fS 18 _ (fun _ => z) (fun z => absurd z (by decide)) (by decide) (by decide) (by decide)) (fun j hj => dyn_m mm (by decide) hj) (fun j hj => dyn_m mm (by decide) hj) (fun j _ => gG17 0 j) (by simp [tp_C])
  · intro k n hk
    rw [eBL] at hk
    have hn : n < P := by
      have := List.mem_of_getElem? hk
      unfold tp_BL at this
      exact List.mem_range.mp (List.mem_filter.mp this).1
    rw [gG17, gP n hn]; exact hbi k n hk
  · intro j z1 _ _ _ _ _; exact w64 j z1
  · intro k z1 _ z3 _; exact wk k z1 (by omega) (by omega)
  · intro k n z1 z2 z3
    by_cases q : k = 114
    · subst q; exact p114n n z3
    · exact kn k n z1 (by omega) z3
  · intro n z; rw [wk 117 (by decide) (by decide) (by decide)]
  · intro k n z1 z2 z3 z4
    have ck : k = 115 ∨ k = 116 ∨ k = 118 ∨ k = 119 ∨ k = 120 := by omega
    rcases ck with rfl | rfl | rfl | rfl | rfl
    · exact p115n n z4
    · exact p116n n z4
    · rw [wk 118 (by decide) (by decide) (by decide)]
    · rw [wk 119 (by decide) (by decide) (by decide)]
    · exact p120n n z4
  · rw [ge]
    unfold q_pb
    rw [f0, f1, f2, f3, f4, f9, f8, f13]
    refine ⟨n50, n51, n52, rfl, kP.symm, p111.symm, p113.symm, p112.symm, p114.symm, ?_, ?_, fun z => absurd z k5⟩
    · rw [if_neg k2, if_pos (Or.inl kP)]; exact p116.symm
    · exact ⟨fun z => absurd z k5, fun z => absurd rfl z⟩
  · refine ⟨⟨4, by decide, by decide, kP⟩, ⟨p, hp, p111⟩, ⟨0, by decide, p113⟩, ⟨d, Nat.le_refl _, p112⟩, ⟨1, by decide, p114⟩, fun q hq => ?_, fun z => absurd z k5⟩
    rw [p115 q hq]
    by_cases q2 : q = p
    · rw [if_pos q2, tp_ti (by omega)]; exact Int.le_refl _
    · rw [if_neg q2]
      have : (-1 : Int32).toInt = -1 := by decide
      omega
  · intro q hq; rw [ge, f50 q hq, p115 q hq]
  · intro s' n hs' hn
    rw [f56 s' n hs' hn]
    by_cases q : n = P
    · subst q
      by_cases q2 : s' = s
      · rw [if_pos ⟨q2, rfl⟩, q2, p120]
      · rw [if_neg (fun z => q2 z.1), p120s s' q2]; exact hab0 s' n hs' hn
    · rw [if_neg (fun z => q z.2), p120n n q]; exact hab0 s' n hs' hn
  · intro s' z1 z2; rw [p120s s' (by omega)]; exact (hsm.2.2 s' z1 z2).2.2.2.2.2 P hP
  · exact ⟨by rw [p115 0 (by decide), if_neg (by omega)]; decide, p113⟩
  · obtain ⟨a1, a2, a3, a4, a5, a6⟩ := hpl
    unfold q_pl
    rw [fT 2 (by decide) (by decide) (by decide), fT 31 (by decide) (by decide) (by decide), wk 101 (by decide) (by decide) (by decide), wk 103 (by decide) (by decide) (by decide), wk 104 (by decide) (by decide) (by decide)]
    exact ⟨a1, a2, a3, a4, a5, a6⟩
  · obtain ⟨a1, a2, a3, a4⟩ := hmo
    unfold q_mo
    rw [wk 101 (by decide) (by decide) (by decide), wk 128 (by decide) (by decide) (by decide), wk 105 (by decide) (by decide) (by decide)]
    exact ⟨a1, a2, a3, by omega⟩
  · intro q h1 h2
    rw [fT 2 (by decide) (by decide) (by decide)]
    rcases hlb q h1 h2 with ⟨y1, y2⟩ | ⟨n, y1, y2, y3, y4, y5⟩
    · refine Or.inl ⟨y1, fun n hn hk => ?_⟩
      by_cases e : n = P
      · rw [e] at hk; exact absurd hk k5
      · rw [kn 110 n (by decide) (by decide) e] at hk
        rw [kn 111 n (by decide) (by decide) e]; exact y2 n (by omega) hk
    · refine Or.inr ⟨n, by omega, by rw [kn 110 n (by decide) (by decide) (by omega)]; exact y2, by rw [kn 111 n (by decide) (by decide) (by omega)]; exact y3, by rw [gP n y1]; exact y4, fun m hm hmn hk hm1 => ?_⟩
      by_cases e : m = P
      · rw [e] at hk; exact absurd hk k5
      · rw [kn 110 m (by decide) (by decide) e] at hk
        rw [kn 111 m (by decide) (by decide) e] at hm1
        rw [p116n m e]; exact y5 m (by omega) hmn hk hm1
  · obtain ⟨a1, a2, a3, a4, a5, a6, a7, a8, a9⟩ := hro
    have e1 : tp_CS (tp_C C 15 0 c1) + C 15 0 = tp_CS C + c1 := by
      unfold tp_CS
      simp [tp_C]
      omega
    refine ⟨by omega, by omega, r2, ?_, ?_, ?_, ?_, ?_, ?_⟩
    · simp [tp_C]; exact hc1
    · simp [tp_C]; exact a5
    · simp [tp_C]; exact a6
    · simp [tp_C]; exact a7
    · intro p hp; simp [tp_C]; exact a8 p hp
    · intro p hp; simp [tp_C]; exact a9 p hp
theorem tp_isub (a b c : Int32) : a - b - c = a - (b + c) := by
  rw [Int32.sub_eq_add_neg, Int32.sub_eq_add_neg, Int32.sub_eq_add_neg, Int32.neg_add, Int32.sub_eq_add_neg, Int32.add_assoc]
theorem tp_beyS {N : tq_Nn} {S M : tq_St} {post : tq_St → Int32 → Prop} {pn : Nat} {f X : Int32} (hp : S 1 0 2 = nI pn) (hpn : pn ≤ 20) (e13 : S 13 = M 107) (e14 : S 14 = M 108) (h : post S (if X - bx_sum (tp_rig M f) pn ≤ 0 then 0 else X - bx_sum (tp_rig M f) pn)) : ∀ (m i : Nat), i + m = pn → wbX11_beyondRights_11 N post (m + 1) S f (X - bx_sum (tp_rig M f) i) (nI i)
  | 0, i, hi => by
    have hi2 : i = pn := by omega
    subst hi2
    unfold wbX11_beyondRights_11
    rw [hp]
    refine tp_dT (nI_le (by omega) (by omega)) ?_
    generalize X - bx_sum (tp_rig M f) i = Y at h ⊢
    have e : (if Y < 0 then 0 else Y) = (if Y ≤ 0 then 0 else Y) := by
      by_cases q : Y < 0
      · rw [if_pos q, if_pos (by rw [tp_le]; rw [tp_lt] at q; omega)]
      · rw [if_neg q]
        by_cases q2 : Y ≤ 0
        · rw [if_pos q2, tp_eq]
          rw [tp_le] at q2
          rw [tp_lt] at q
          omega
        · rw [if_neg q2]
    rw [e]; exact h
  | m + 1, i, hi => by
    unfold wbX11_beyondRights_11 wbX11_beyondRights_43
    rw [hp, e13, e14, nI_clamp (show i < 2 ^ 31 by omega), nI_1]
    refine tp_dF (nI_ge (by omega) (by omega)) ⟨vp_in_nI (by omega) (by decide), ?_⟩
    have ih := tp_beyS (N := N) hp hpn e13 e14 h m (i + 1) (by omega)
    have es : bx_sum (tp_rig M f) (i + 1) = bx_sum (tp_rig M f) i + tp_rig M f i := rfl
    rw [es, ← tp_isub] at ih
    unfold tp_rig at ih
    by_cases q : M 107 0 i = f
    · rw [if_pos q] at ih
      exact tp_cT q ih
    · rw [if_neg q, Int32.sub_zero] at ih
      exact tp_cF q ih
