/-! pure: a factory's day -/
theorem RR_cool1 {c h w d pn P Sh V E A t r eb : Nat} {G : Nat → Nat → Nat → Nat} {C : Nat → Nat → Nat} {OL : Nat → List Nat} {N : tq_Nn} {S M : tq_St} (h0 : RR c h w d pn P Sh V E A t r eb G C OL N S M) {p s : Nat} {v : Int32} (hp : p < 5) (hs : s < 4) (hv0 : 0 ≤ v.toInt) (hv : v.toInt ≤ (M 105 p s).toInt) : RR c h w d pn P Sh V E A t r eb G C OL N (tq_up S 32 p s v) (tq_up M 105 p s v) := by
  obtain ⟨hsc, hss, har, hpl, hlg, hsh, hpe, hmo, hpr, hsr, hpa, hkn, hst, hpm, hsi, hab, hsm, hvo, hvm, hbi, hlb, hiv, hod, hol, hoi, hfi, hli, had, hro⟩ := h0
  refine ⟨?_, ?_, ?_, ?_, ?_, ?_, ?_, ?_, ?_, ?_, ?_, ?_, ?_, ?_, ?_, ?_, ?_, ?_, ?_, ?_, ?_, ?_, ?_, ?_, ?_, ?_, ?_, ?_, ?_⟩
  · simpa (disch := decide) only [q_sc, tq_upk, tq_upj, tq_cpk] using hsc
  · simpa (disch := decide) only [q_ss, tq_upk, tq_upj, tq_cpk] using hss
  · obtain ⟨y1, y2, y3, y4, y5, y6, y7, y8, y9, y10, y11, y12, y13, y14, y15⟩ := har
    refine ⟨?_, ?_, ?_, ?_, ?_, ?_, ?_, ?_, ?_, ?_, ?_, ?_, ?_, ?_, ?_⟩
    · simpa (disch := decide) only [tq_upk, tq_upj, tq_cpk] using y1
    · simpa (disch := decide) only [tq_upk, tq_upj, tq_cpk] using y2
    · simpa (disch := decide) only [tq_upk, tq_upj, tq_cpk] using y3
    · simpa (disch := decide) only [tq_upk, tq_upj, tq_cpk] using y4
    · simpa (disch := decide) only [tq_upk, tq_upj, tq_cpk] using y5
    · simpa (disch := decide) only [tq_upk, tq_upj, tq_cpk] using y6
    · simpa (disch := decide) only [tq_upk, tq_upj, tq_cpk] using y7
    · first | exact tp_up2 y8 | (simp (disch := decide) only [tq_upk, tq_cpk]; exact tp_up2 y8)
    · simpa (disch := decide) only [tq_upk, tq_upj, tq_cpk] using y9
    · simpa (disch := decide) only [tq_upk, tq_upj, tq_cpk] using y10
    · simpa (disch := decide) only [tq_upk, tq_upj, tq_cpk] using y11
    · simpa (disch := decide) only [tq_upk, tq_upj, tq_cpk] using y12
    · simpa (disch := decide) only [tq_upk, tq_upj, tq_cpk] using y13
    · simpa (disch := decide) only [tq_upk, tq_upj, tq_cpk] using y14
    · simpa (disch := decide) only [tq_upk, tq_upj, tq_cpk] using y15
  · simpa (disch := decide) only [q_pl, tq_upk, tq_upj, tq_cpk] using hpl
  · simpa (disch := decide) only [q_lg, tq_upk, tq_upj, tq_cpk] using hlg
  · simpa (disch := decide) only [q_sh, tq_upk, tq_upj, tq_cpk] using hsh
  · simpa (disch := decide) only [q_pe, tq_upk, tq_upj, tq_cpk] using hpe
  · obtain ⟨a1, a2, a3, a4⟩ := hmo
    refine ⟨?_, ?_, ?_, ?_⟩
    · simpa (disch := decide) only [tq_upk] using a1
    · simpa (disch := decide) only [tq_upk] using a2
    · intro q x h1 h2
      by_cases e : q = p
      · subst e
        by_cases e2 : x = s
        · subst e2; rw [tq_upe]; exact hv0
        · rw [tq_upj e2]; exact a3 q x h1 h2
      · rw [tq_upi e]; exact a3 q x h1 h2
    · simp (disch := decide) only [tq_upk]
      have k3 := tp_sm_upd (n := 4) (q := s) (f := fun x => (M 105 p x).toInt) (g := fun x => (tq_up M 105 p s v 105 p x).toInt) hs (fun k _ hk => by show (tq_up M 105 p s v 105 p k).toInt = _; rw [tq_upj hk])
      have k4 : (tq_up M 105 p s v 105 p s).toInt = v.toInt := by rw [tq_upe]
      have k5 := tp_sm_upd (n := 5) (q := p) (f := fun q => tp_sm (fun x => (M 105 q x).toInt) 4) (g := fun q => tp_sm (fun x => (tq_up M 105 p s v 105 q x).toInt) 4) hp (fun k _ hk => by show tp_sm (fun x => (tq_up M 105 p s v 105 k x).toInt) 4 = _; rw [tq_upi hk])
      omega
  · simpa (disch := decide) only [q_pr, tq_upk, tq_upj, tq_cpk] using hpr
  · simpa (disch := decide) only [q_sr, tq_upk, tq_upj, tq_cpk] using hsr
  · simpa (disch := decide) only [q_pa, q_pb, tq_upk, tq_upj, tq_cpk] using hpa
  · simpa (disch := decide) only [q_kn, tq_upk, tq_upj, tq_cpk] using hkn
  · simpa (disch := decide) only [q_st, tq_upk, tq_upj, tq_cpk] using hst
  · simpa (disch := decide) only [q_pm, q_pn, tq_upk, tq_upj, tq_cpk] using hpm
  · simpa (disch := decide) only [q_si, tq_upk, tq_upj, tq_cpk] using hsi
  · simpa (disch := decide) only [q_ab, tq_upk, tq_upj, tq_cpk] using hab
  · simpa (disch := decide) only [q_sm, tq_upk, tq_upj, tq_cpk] using hsm
  · simpa (disch := decide) only [q_vo, tq_upk, tq_upj, tq_cpk] using hvo
  · simpa (disch := decide) only [q_vm, tq_upk, tq_upj, tq_cpk] using hvm
  · simpa (disch := decide) only [q_bi, tq_upk, tq_upj, tq_cpk] using hbi
  · simpa (disch := decide) only [q_lb, tq_upk, tq_upj, tq_cpk] using hlb
  · simpa (disch := decide) only [q_iv, tq_upk, tq_upj, tq_cpk] using hiv
  · simpa (disch := decide) only [q_od, tq_upk, tq_upj, tq_cpk] using hod
  · simpa (disch := decide) only [q_ol, tq_upk, tq_upj, tq_cpk] using hol
  · simpa (disch := decide) only [q_oi, tq_upk, tq_upj, tq_cpk] using hoi
  · simpa (disch := decide) only [q_fi, tq_upk, tq_upj, tq_cpk] using hfi
  · simpa (disch := decide) only [q_li, tq_upk, tq_upj, tq_cpk] using hli
  · simpa (disch := decide) only [q_ad, tq_upk, tq_upj, tq_cpk] using had
  · simpa (disch := decide) only [q_ro, tq_upk, tq_upj, tq_cpk] using hro
def cv (M : tq_St) (p s : Nat) : Int32 := if M 105 p s - 5 < 0 then 0 else M 105 p s - 5
theorem cv_b {x : Int32} (h0 : 0 ≤ x.toInt) (h1 : x.toInt ≤ 564699850) : 0 ≤ (if x - 5 < 0 then 0 else x - 5 : Int32).toInt ∧ (if x - 5 < 0 then 0 else x - 5 : Int32).toInt ≤ x.toInt ∧ (if 0 < x - 5 then x - 5 else 0) = (if x - 5 < 0 then 0 else x - 5) := by
  have t5 : (5 : Int32).toInt = 5 := by decide
  have t0 : (0 : Int32).toInt = 0 := by decide
  have e : (x - 5).toInt = x.toInt - 5 := by rw [tp_sub (by omega) (by omega), t5]
  by_cases q : x - 5 < 0
  · rw [if_pos q]
    refine ⟨by omega, by omega, ?_⟩
    rw [if_neg (fun z => by rw [tp_lt] at z q; omega)]
  · rw [if_neg q]
    rw [tp_lt] at q
    refine ⟨by omega, by omega, ?_⟩
    by_cases q2 : 0 < x - 5
    · rw [if_pos q2]
    · rw [if_neg q2, tp_eq]
      rw [tp_lt] at q2
      omega
theorem cl_o {T : tq_St} {k p : Nat} {g : Nat → Int32} : ∀ (i s : Nat), i ≤ s → tp_it (fun s T => tq_up T k p s (g s)) i T k p s = T k p s
  | 0, _, _ => rfl
  | i + 1, s, h => by
    show tq_up (tp_it (fun s T => tq_up T k p s (g s)) i T) k p i (g i) k p s = _
    rw [tq_upj (by omega)]
    exact cl_o i s (by omega)
theorem cl_k {T : tq_St} {k p k2 : Nat} {g : Nat → Int32} (h : k2 ≠ k) : ∀ i : Nat, tp_it (fun s T => tq_up T k p s (g s)) i T k2 = T k2
  | 0 => rfl
  | i + 1 => by
    show tq_up (tp_it (fun s T => tq_up T k p s (g s)) i T) k p i (g i) k2 = _
    rw [tq_upk h]
    exact cl_k h i
theorem tp_coolS {N : tq_Nn} {S M : tq_St} {post : tq_St → Prop} {p : Nat} (hp : p < 5) (e32 : S 32 = M 105) (h : post (tp_it (fun s T => tq_up T 32 p s (cv M p s)) 4 S)) : wpX5_coolDown N post S p := by
  refine ⟨5, tp_loop0 (W := fun m T i => wbX5_coolDown_2 N post m T p (nI i)) (n := 4) (f := fun s T => tq_up T 32 p s (cv M p s)) (s0 := S) (fun m => ?_) (fun m i hi hw => ?_)⟩
  · unfold wbX5_coolDown_2
    exact tp_dT (show nI 4 ≤ nI 4 by decide) h
  · unfold wbX5_coolDown_2
    rw [nI_clamp (show i < 2 ^ 31 by omega), cl_o i i (Nat.le_refl _), e32, nI_1]
    exact tp_dF (show ¬ nI 4 ≤ nI i from nI_ge hi (by decide)) ⟨hp, vp_in_nI hi (by decide), tp_ae hw⟩
theorem tp_coolM {M : tq_St} {pm : tq_St → Prop} {p : Nat} (hp : p < 5) (hb : ∀ s, s < 4 → 0 ≤ (M 105 p s).toInt ∧ (M 105 p s).toInt ≤ 564699850) (h : wpX12_gather (fun M3 r4 => ∀ M5, M5 = tq_up M3 64 0 74 0 → (∃ nq, wbX12_factoryDay_53 pm nq M5 (nI p) r4 0)) (tp_it (fun s T => tq_up T 105 p s (cv M p s)) 4 M) (nI p)) : ∃ nq, wbX12_factoryDay_7 pm nq M (nI p) 0 := by
  refine ⟨5, tp_loop0 (W := fun m T i => wbX12_factoryDay_7 pm m T (nI p) (nI i)) (n := 4) (f := fun s T => tq_up T 105 p s (cv M p s)) (s0 := M) (fun m => ?_) (fun m i hi hw => ?_)⟩
  · unfold wbX12_factoryDay_7
    exact tp_dT (show nI 4 ≤ nI 4 by decide) h
  · unfold wbX12_factoryDay_7
    have e := (cv_b (hb i hi).1 (hb i hi).2).2.2
    rw [nI_clamp (show i < 2 ^ 31 by omega), nI_clamp (show p < 2 ^ 31 by omega), cl_o i i (Nat.le_refl _), e, nI_1]
    exact tp_dF (show ¬ nI 4 ≤ nI i from nI_ge hi (by decide)) ⟨vp_in_nI hp (by decide), vp_in_nI hi (by decide), tp_ae hw⟩
theorem RR_cool {c h w d pn P Sh V E A t r eb : Nat} {G : Nat → Nat → Nat → Nat} {C : Nat → Nat → Nat} {OL : Nat → List Nat} {N : tq_Nn} {S M : tq_St} {p : Nat} (h0 : RR c h w d pn P Sh V E A t r eb G C OL N S M) (hp : p < 5) : ∀ i : Nat, i ≤ 4 → RR c h w d pn P Sh V E A t r eb G C OL N ((tp_it (fun s T => tq_up T 32 p s (cv M p s)) i S)) ((tp_it (fun s T => tq_up T 105 p s (cv M p s)) i M))
  | 0, _ => h0
  | i + 1, hi => by
    have ih := RR_cool h0 hp i (by omega)
    have mo := (tp_mo h0.2.2.2.2.2.2.2.1 h0.1.2.2.2.2.2.2.2.2.2.2.2.2.2.2.2.2.2.2.2 h0.1.2.2.2.2.2.2.2.2.2.2.2.1).2.2.1 p i hp (by omega)
    obtain ⟨c1, c2, _⟩ := cv_b mo.1 mo.2
    exact RR_cool1 (v := cv M p i) ih hp (by omega) c1 (by rw [cl_o i i (Nat.le_refl _)]; exact c2)
theorem wk_at {c d pn P Sh V E A t r eb : Nat} {G : Nat → Nat → Nat → Nat} {C : Nat → Nat → Nat} {OL : Nat → List Nat} {N : tq_Nn} {S M : tq_St} {post : tq_Nn → tq_St → Prop} {p : Nat} (h0 : RR c 8 p d pn P Sh V E A t r eb G C OL N S M) (hp1 : 1 ≤ p) (hp : p < 5) (heb : eb + 900 ≤ 100000000)
    (k : ∀ (N1 : tq_Nn) (S1 M1 : tq_St) (P1 V1 E1 A1 : Nat) (G1 : Nat → Nat → Nat → Nat) (C1 : Nat → Nat → Nat), RR c 8 (p + 1) d pn P1 Sh V1 E1 A1 t r (eb + 900) G1 C1 OL N1 S1 M1 → (∀ pm : tq_St → Prop, pm M1 → wpX12_factoryDay pm M (nI p)) → post N1 S1) : wpX11_workAt post N S p := by
  have s1 := h0.1.1
  have x1 := h0.2.1.1
  have s7 := h0.1.2.2.2.2.2.2.1
  have b8 := h0.1.2.2.2.2.2.2.2.2.2.2.2.2.2.2.2.2.1
  have had := h0.2.2.2.2.2.2.2.2.2.2.2.2.2.2.2.2.2.2.2.2.2.2.2.2.2.2.2.1
  obtain ⟨hu, h1⟩ := RR_rec h0 hp1 hp
  have hY : ∀ a, a < A → ∃ s : Nat, s < 4 ∧ M 147 0 a = nI s := fun a ha => (had.1 a ha).2.1
  generalize hM1 : tp_it (fM1 M p) A M = M1 at h1
  generalize hS1 : tp_it (fS1 S p d) 4 S = S1 at h1
  have h2 := RR_cool h1 hp 4 (Nat.le_refl _)
  have e32 : S1 32 = M1 105 := h1.2.2.1.2.2.2.2.2.2.2.1
  have hb : ∀ s, s < 4 → 0 ≤ (M1 105 p s).toInt ∧ (M1 105 p s).toInt ≤ 564699850 := fun s hs => (tp_mo h1.2.2.2.2.2.2.2.1 h1.1.2.2.2.2.2.2.2.2.2.2.2.2.2.2.2.2.2.2.2 h1.1.2.2.2.2.2.2.2.2.2.2.2.1).2.2.1 p s hp hs
  generalize hM2 : tp_it (fun s T => tq_up T 105 p s (cv M1 p s)) 4 M1 = M2 at h2
  generalize hS2 : tp_it (fun s T => tq_up T 32 p s (cv M1 p s)) 4 S1 = S2 at h2
  have hh : wpX12_gather (fun M3 r => (∀ k, k ≠ 172 → M3 k = M2 k) ∧ (∀ j x g : Nat, (tp_FL (M2 117 0) (M2 118) (OL p))[j]? = some (x, g) → M3 172 0 j = nI (10 * x + g)) ∧ (tp_FL (M2 117 0) (M2 118) (OL p)).length ≤ 900 ∧ r = nI (tp_FL (M2 117 0) (M2 118) (OL p)).length) M2 (nI p) := tp_gatherM (h2.GM hp) (fun M3 a1 a2 a3 => ⟨a1, a2, a3, rfl⟩)
  obtain ⟨M3, r3, ⟨g1, g2, g3, g4⟩, kk⟩ := dt_pX12_gather _ hh
  clear hh
  subst g4
  have h3 := RR_keep0 (p := p) (v := 0) h2
  have h4 := h3.mf (M1 := tq_up M3 64 0 74 0) (fun j _ _ _ _ j5 => by rw [tq_upj j5, g1 64 (by decide)]) (fun k k1 _ _ _ _ _ k7 _ _ => by rw [tq_upk k1]; exact g1 k k7) (fun n _ => by rw [tq_upk (by decide), g1 117 (by decide)]) (fun n _ => by rw [tq_upk (by decide), g1 118 (by decide)]) (fun n _ => by rw [tq_upk (by decide), g1 119 (by decide)])
  unfold wpX11_workAt
  rw [x1, s1]
  refine ⟨hp, tp_recS hp ?_⟩
  rw [hS1]
  refine tp_coolS hp e32 ?_
  rw [hS2]
  refine tp_ae ⟨(tp_FL (M2 117 0) (M2 118) (OL p)).length + 1, wk_loop (L := tp_FL (M2 117 0) (M2 118) (OL p)) hp1 hp (Nat.lt_succ_self p) g3 (tp_FL (M2 117 0) (M2 118) (OL p)).length 0 P V E A eb 0 G C N _ _ (by omega) h4 (by omega) (by decide) tq_upe tq_upe ?_ (fun j x g hj => by rw [tq_upk (by decide)]; exact g2 j x g hj) (fun N5 S5 M5 P5 V5 E5 A5 G5 C5 h5 kk5 => ?_)⟩
  · rw [tq_upk (by decide), tq_upk (by decide), g1 117 (by decide), g1 118 (by decide)]
  · refine k N5 S5 M5 P5 V5 E5 A5 G5 C5 (h5.wk (Nat.le_refl _) h5.1.2.2.2.2.2.2.2.2.2.2.2.2.2.2.2.2.2.2.2 (by omega) heb) (fun pm hpm => ?_)
    unfold wpX12_factoryDay
    refine tp_recM hp s7 b8 hY hu ?_
    rw [hM1]
    refine tp_coolM hp hb ?_
    rw [hM2]
    exact kk _ (tp_ae ⟨_, kk5 pm hpm⟩)
