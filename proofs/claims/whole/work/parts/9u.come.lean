/-! pure: advances come in -/
def o2 (S : tq_St) (a b : Nat) (X Y : Nat → Nat → Int32) : tq_St := fun k => if k = a then X else if k = b then Y else S k
theorem o2k {S : tq_St} {a b k : Nat} {X Y : Nat → Nat → Int32} (h1 : k ≠ a) (h2 : k ≠ b) : o2 S a b X Y k = S k := by
  unfold o2
  rw [if_neg h1, if_neg h2]
theorem o2_eq {S T : tq_St} {a b : Nat} (h : ∀ k, k ≠ a → k ≠ b → T k = S k) : o2 S a b (T a) (T b) = T := by
  funext k
  unfold o2
  by_cases q : k = a
  · rw [if_pos q, q]
  · rw [if_neg q]
    by_cases q2 : k = b
    · rw [if_pos q2, q2]
    · rw [if_neg q2]; exact (h k q q2).symm
theorem RR_o2 {c h w d pn P Sh V E A t r eb : Nat} {G : Nat → Nat → Nat → Nat} {C : Nat → Nat → Nat} {OL : Nat → List Nat} {N : tq_Nn} {S M : tq_St} (h0 : RR c h w d pn P Sh V E A t r eb G C OL N S M) {w1 : Nat} {X Y Z : Nat → Nat → Int32} (had1 : q_ad d w1 A (o2 S 30 35 X Y) (o2 M 102 150 X Z)) : RR c h w1 d pn P Sh V E A t r eb G C OL N (o2 S 30 35 X Y) (o2 M 102 150 X Z) := by
  obtain ⟨hsc, hss, har, hpl, hlg, hsh, hpe, hmo, hpr, hsr, hpa, hkn, hst, hpm, hsi, hab, hsm, hvo, hvm, hbi, hlb, hiv, hod, hol, hoi, hfi, hli, had, hro⟩ := h0
  refine ⟨?_, ?_, ?_, ?_, ?_, ?_, ?_, ?_, ?_, ?_, ?_, ?_, ?_, ?_, ?_, ?_, ?_, ?_, ?_, ?_, ?_, ?_, ?_, ?_, ?_, ?_, ?_, ?_, ?_⟩
  · simpa (disch := decide) only [q_sc, tq_upk, tq_upj, tq_cpk, o2k] using hsc
  · simpa (disch := decide) only [q_ss, tq_upk, tq_upj, tq_cpk, o2k] using hss
  · obtain ⟨y1, y2, y3, y4, y5, y6, y7, y8, y9, y10, y11, y12, y13, y14, y15⟩ := har
    refine ⟨?_, ?_, ?_, ?_, ?_, ?_, rfl, ?_, ?_, ?_, ?_, ?_, ?_, ?_, ?_⟩
    · rw [o2k (by decide) (by decide), o2k (by decide) (by decide)]; exact y1
    · rw [o2k (by decide) (by decide), o2k (by decide) (by decide)]; exact y2
    · rw [o2k (by decide) (by decide), o2k (by decide) (by decide)]; exact y3
    · rw [o2k (by decide) (by decide), o2k (by decide) (by decide)]; exact y4
    · rw [o2k (by decide) (by decide), o2k (by decide) (by decide)]; exact y5
    · rw [o2k (by decide) (by decide), o2k (by decide) (by decide)]; exact y6
    · rw [o2k (by decide) (by decide), o2k (by decide) (by decide)]; exact y8
    · rw [o2k (by decide) (by decide), o2k (by decide) (by decide)]; exact y9
    · rw [o2k (by decide) (by decide), o2k (by decide) (by decide)]; exact y10
    · rw [o2k (by decide) (by decide), o2k (by decide) (by decide)]; exact y11
    · rw [o2k (by decide) (by decide), o2k (by decide) (by decide)]; exact y12
    · rw [o2k (by decide) (by decide), o2k (by decide) (by decide)]; exact y13
    · rw [o2k (by decide) (by decide), o2k (by decide) (by decide)]; exact y14
    · rw [o2k (by decide) (by decide), o2k (by decide) (by decide)]; exact y15
  · simpa (disch := decide) only [q_pl, tq_upk, tq_upj, tq_cpk, o2k] using hpl
  · simpa (disch := decide) only [q_lg, tq_upk, tq_upj, tq_cpk, o2k] using hlg
  · simpa (disch := decide) only [q_sh, tq_upk, tq_upj, tq_cpk, o2k] using hsh
  · simpa (disch := decide) only [q_pe, tq_upk, tq_upj, tq_cpk, o2k] using hpe
  · simpa (disch := decide) only [q_mo, tq_upk, tq_upj, tq_cpk, o2k] using hmo
  · simpa (disch := decide) only [q_pr, tq_upk, tq_upj, tq_cpk, o2k] using hpr
  · simpa (disch := decide) only [q_sr, tq_upk, tq_upj, tq_cpk, o2k] using hsr
  · simpa (disch := decide) only [q_pa, q_pb, tq_upk, tq_upj, tq_cpk, o2k] using hpa
  · simpa (disch := decide) only [q_kn, tq_upk, tq_upj, tq_cpk, o2k] using hkn
  · simpa (disch := decide) only [q_st, tq_upk, tq_upj, tq_cpk, o2k] using hst
  · simpa (disch := decide) only [q_pm, q_pn, tq_upk, tq_upj, tq_cpk, o2k] using hpm
  · simpa (disch := decide) only [q_si, tq_upk, tq_upj, tq_cpk, o2k] using hsi
  · simpa (disch := decide) only [q_ab, tq_upk, tq_upj, tq_cpk, o2k] using hab
  · simpa (disch := decide) only [q_sm, tq_upk, tq_upj, tq_cpk, o2k] using hsm
  · simpa (disch := decide) only [q_vo, tq_upk, tq_upj, tq_cpk, o2k] using hvo
  · simpa (disch := decide) only [q_vm, tq_upk, tq_upj, tq_cpk, o2k] using hvm
  · simpa (disch := decide) only [q_bi, tq_upk, tq_upj, tq_cpk, o2k] using hbi
  · simpa (disch := decide) only [q_lb, tq_upk, tq_upj, tq_cpk, o2k] using hlb
  · simpa (disch := decide) only [q_iv, tq_upk, tq_upj, tq_cpk, o2k] using hiv
  · simpa (disch := decide) only [q_od, tq_upk, tq_upj, tq_cpk, o2k] using hod
  · simpa (disch := decide) only [q_ol, tq_upk, tq_upj, tq_cpk, o2k] using hol
  · simpa (disch := decide) only [q_oi, tq_upk, tq_upj, tq_cpk, o2k] using hoi
  · simpa (disch := decide) only [q_fi, tq_upk, tq_upj, tq_cpk, o2k] using hfi
  · simpa (disch := decide) only [q_li, tq_upk, tq_upj, tq_cpk, o2k] using hli
  · exact had1
  · simpa (disch := decide) only [q_ro, tq_upk, tq_upj, tq_cpk, o2k] using hro
section
variable {N : tq_Nn} {S M : tq_St} {p d A : Nat}
def rS (S : tq_St) (p d s : Nat) : Prop := ¬ S 35 p s ≤ 0 ∧ ¬ (nI d - S 33 p s) ≤ 0 ∧ (nI d - S 33 p s) - (nI d - S 33 p s) / 10 * 10 = 0
def gS (S : tq_St) (p d s : Nat) : Int32 := if 50 ≤ nI d - S 33 p s then S 35 p s else S 34 p s / 5
noncomputable def fS1 (S : tq_St) (p d s : Nat) (T : tq_St) : tq_St := @ite _ (rS S p d s) (Classical.propDecidable _) (tq_up (tq_up T 35 p s (S 35 p s - gS S p d s)) 30 p s (S 30 p s + (gS S p d s - gS S p d s * S 2 p 5 / 100))) T
theorem fS_k : ∀ (i k : Nat), k ≠ 30 → k ≠ 35 → tp_it (fS1 S p d) i S k = S k
  | 0, _, _, _ => rfl
  | i + 1, k, h1, h2 => by
    rw [← fS_k i k h1 h2]
    show fS1 S p d i (tp_it (fS1 S p d) i S) k = _
    unfold fS1
    by_cases q : rS S p d i
    · rw [if_pos q, tq_upk h1, tq_upk h2]
    · rw [if_neg q]
theorem fS_o : ∀ (i k q s : Nat), k = 30 ∨ k = 35 → (q ≠ p ∨ i ≤ s) → tp_it (fS1 S p d) i S k q s = S k q s
  | 0, _, _, _, _, _ => rfl
  | i + 1, k, q, s, h1, h2 => by
    rw [← fS_o i k q s h1 (by omega)]
    show fS1 S p d i (tp_it (fS1 S p d) i S) k q s = _
    unfold fS1
    by_cases z : rS S p d i
    · rw [if_pos z]
      have no : ¬ (q = p ∧ s = i) := by omega
      simp only [tq_up]
      rw [if_neg (fun w => no ⟨w.2.1, w.2.2⟩), if_neg (fun w => no ⟨w.2.1, w.2.2⟩)]
    · rw [if_neg z]
theorem fS_v : ∀ (i s : Nat), s < i → (rS S p d s → tp_it (fS1 S p d) i S 35 p s = S 35 p s - gS S p d s ∧ tp_it (fS1 S p d) i S 30 p s = S 30 p s + (gS S p d s - gS S p d s * S 2 p 5 / 100)) ∧ (¬ rS S p d s → tp_it (fS1 S p d) i S 35 p s = S 35 p s ∧ tp_it (fS1 S p d) i S 30 p s = S 30 p s)
  | 0, s, hs => absurd hs (by omega)
  | i + 1, s, hs => by
    have e : tp_it (fS1 S p d) (i + 1) S = fS1 S p d i (tp_it (fS1 S p d) i S) := rfl
    rw [e]
    by_cases q : s = i
    · subst q
      unfold fS1
      refine ⟨fun z => ?_, fun z => ?_⟩
      · rw [if_pos z]
        exact ⟨by rw [tq_upk (by decide), tq_upe], by rw [tq_upe]⟩
      · rw [if_neg z]
        exact ⟨fS_o s 35 p s (by decide) (by omega), fS_o s 30 p s (by decide) (by omega)⟩
    · have ih := fS_v i s (by omega)
      have k1 : ∀ k, k = 30 ∨ k = 35 → fS1 S p d i (tp_it (fS1 S p d) i S) k p s = tp_it (fS1 S p d) i S k p s := fun k hk => by
        unfold fS1
        by_cases z : rS S p d i
        · rw [if_pos z]
          simp only [tq_up]
          rw [if_neg (fun w => q w.2.2), if_neg (fun w => q w.2.2)]
        · rw [if_neg z]
      rw [k1 35 (by decide), k1 30 (by decide)]
      exact ih
theorem tp_recS {post : tq_St → Prop} (hp : p < 5) (h : post (tp_it (fS1 S p d) 4 S)) : wpX5_receiveAdvances N post S p (nI d) := by
  refine ⟨5, tp_loop0 (W := fun m T i => wbX5_receiveAdvances_2 N post m T p (nI d) (nI i)) (n := 4) (f := fS1 S p d) (s0 := S) (fun m => ?_) (fun m i hi hw => ?_)⟩
  · unfold wbX5_receiveAdvances_2
    exact tp_dT (show nI 4 ≤ nI 4 by decide) h
  · unfold wbX5_receiveAdvances_2 wbX5_receiveAdvances_59 wbX5_receiveAdvances_94
    have k33 : tp_it (fS1 S p d) i S 33 = S 33 := fS_k i 33 (by decide) (by decide)
    have k34 : tp_it (fS1 S p d) i S 34 = S 34 := fS_k i 34 (by decide) (by decide)
    have k2 : tp_it (fS1 S p d) i S 2 = S 2 := fS_k i 2 (by decide) (by decide)
    have k35 : tp_it (fS1 S p d) i S 35 p i = S 35 p i := fS_o i 35 p i (by decide) (by omega)
    have k30 : tp_it (fS1 S p d) i S 30 p i = S 30 p i := fS_o i 30 p i (by decide) (by omega)
    have e : tp_it (fS1 S p d) (i + 1) S = fS1 S p d i (tp_it (fS1 S p d) i S) := rfl
    rw [e] at hw
    unfold fS1 at hw
    rw [nI_clamp (show i < 2 ^ 31 by omega), k33, k34, k35, nI_1]
    refine tp_dF (show ¬ nI 4 ≤ nI i from nI_ge hi (by decide)) ⟨hp, vp_in_nI hi (by decide), ?_⟩
    by_cases q1 : S 35 p i ≤ 0
    · rw [if_neg (fun z => z.1 q1)] at hw
      exact tp_dT q1 hw
    refine tp_dF q1 ?_
    by_cases q2 : nI d - S 33 p i ≤ 0
    · rw [if_neg (fun z => z.2.1 q2)] at hw
      exact tp_dT q2 hw
    refine tp_dF q2 ?_
    by_cases q3 : (nI d - S 33 p i) - (nI d - S 33 p i) / 10 * 10 = 0
    · rw [if_pos ⟨q1, q2, q3⟩] at hw
      refine tp_cT q3 ?_
      unfold gS at hw
      by_cases q4 : 50 ≤ nI d - S 33 p i
      · rw [if_pos q4] at hw
        refine tp_dT q4 ⟨hp, vp_in_nI hi (by decide), tp_ae (tp_ae ?_)⟩
        rw [tq_upk (show 30 ≠ 35 by decide), tq_upk (show 2 ≠ 35 by decide), k30, k2]
        exact hw
      · rw [if_neg q4] at hw
        refine tp_dF q4 ⟨hp, vp_in_nI hi (by decide), tp_ae (tp_ae ?_)⟩
        rw [tq_upk (show 30 ≠ 35 by decide), tq_upk (show 2 ≠ 35 by decide), k30, k2]
        exact hw
    · rw [if_neg (fun z => q3 z.2.2)] at hw
      exact tp_cF q3 hw
def rM (M : tq_St) (p a : Nat) : Prop := M 146 0 a = nI p ∧ ¬ M 150 0 a = 5 ∧ ¬ M 64 0 0 = M 149 0 a ∧ (M 64 0 0 - M 149 0 a) - (M 64 0 0 - M 149 0 a) / 10 * 10 = 0
def gM (M : tq_St) (a : Nat) : Int32 := if M 150 0 a = 4 then M 148 0 a - M 150 0 a * (M 148 0 a / 5) else M 148 0 a / 5
noncomputable def fM1 (M : tq_St) (p a : Nat) (T : tq_St) : tq_St := @ite _ (rM M p a) (Classical.propDecidable _) (tq_up (tq_up T 150 0 a (M 150 0 a + 1)) 102 p (M 147 0 a).toNatClampNeg (M 102 p (M 147 0 a).toNatClampNeg + (gM M a - gM M a * M 103 p 2 / 100))) T
theorem fM_k : ∀ (i k : Nat), k ≠ 102 → k ≠ 150 → tp_it (fM1 M p) i M k = M k
  | 0, _, _, _ => rfl
  | i + 1, k, h1, h2 => by
    rw [← fM_k i k h1 h2]
    show fM1 M p i (tp_it (fM1 M p) i M) k = _
    unfold fM1
    by_cases q : rM M p i
    · rw [if_pos q, tq_upk h1, tq_upk h2]
    · rw [if_neg q]
theorem fM_150 : ∀ (i a : Nat), tp_it (fM1 M p) i M 150 0 a = @ite _ (a < i ∧ rM M p a) (Classical.propDecidable _) (M 150 0 a + 1) (M 150 0 a)
  | 0, a => by rw [if_neg (fun z => absurd z.1 (by omega))]; rfl
  | i + 1, a => by
    have ih := fM_150 i a
    show fM1 M p i (tp_it (fM1 M p) i M) 150 0 a = _
    generalize tp_it (fM1 M p) i M = T at ih ⊢
    unfold fM1
    by_cases e : a = i
    · subst e
      by_cases q : rM M p a
      · rw [if_pos q, if_pos ⟨by omega, q⟩, tq_upk (by decide), tq_upe]
      · rw [if_neg q, if_neg (fun z => q z.2), ih, if_neg (fun z => q z.2)]
    · have e2 : (a < i + 1 ∧ rM M p a) ↔ (a < i ∧ rM M p a) := ⟨fun z => ⟨by omega, z.2⟩, fun z => ⟨by omega, z.2⟩⟩
      by_cases q : rM M p i
      · rw [if_pos q, tq_upk (by decide), tq_upj e, ih]
        by_cases z : a < i ∧ rM M p a
        · rw [if_pos z, if_pos (e2.mpr z)]
        · rw [if_neg z, if_neg (fun w => z (e2.mp w))]
      · rw [if_neg q, ih]
        by_cases z : a < i ∧ rM M p a
        · rw [if_pos z, if_pos (e2.mpr z)]
        · rw [if_neg z, if_neg (fun w => z (e2.mp w))]
theorem fM_102 (hu : ∀ a b, a < A → b < A → rM M p a → rM M p b → (M 147 0 a).toNatClampNeg = (M 147 0 b).toNatClampNeg → a = b) : ∀ (i q s : Nat), i ≤ A → (q ≠ p → tp_it (fM1 M p) i M 102 q s = M 102 q s) ∧ ((∀ a, a < i → rM M p a → (M 147 0 a).toNatClampNeg ≠ s) → tp_it (fM1 M p) i M 102 p s = M 102 p s) ∧ (∀ a, a < i → rM M p a → (M 147 0 a).toNatClampNeg = s → tp_it (fM1 M p) i M 102 p s = M 102 p s + (gM M a - gM M a * M 103 p 2 / 100))
  | 0, q, s, _ => ⟨fun _ => rfl, fun _ => rfl, fun a ha => absurd ha (by omega)⟩
  | i + 1, q, s, hi => by
    obtain ⟨h1, h2, h3⟩ := fM_102 hu i q s (by omega)
    have e : tp_it (fM1 M p) (i + 1) M = fM1 M p i (tp_it (fM1 M p) i M) := rfl
    rw [e]
    unfold fM1
    by_cases z : rM M p i
    · rw [if_pos z]
      refine ⟨fun hq => ?_, fun hs => ?_, fun a ha hr hs => ?_⟩
      · rw [tq_upi hq, tq_upk (by decide)]; exact h1 hq
      · rw [tq_upj (fun w => hs i (by omega) z w.symm), tq_upk (by decide)]
        exact h2 (fun a ha hr => hs a (by omega) hr)
      · by_cases ea : a = i
        · subst ea
          rw [← hs, tq_upe]
        · have hne : s ≠ (M 147 0 i).toNatClampNeg := fun w => ea (hu a i (by omega) (by omega) hr z (hs.trans w))
          rw [tq_upj hne, tq_upk (by decide)]
          exact h3 a (by omega) hr hs
    · rw [if_neg z]
      refine ⟨h1, fun hs => h2 (fun a ha hr => hs a (by omega) hr), fun a ha hr hs => ?_⟩
      have : a ≠ i := fun w => z (by rw [← w]; exact hr)
      exact h3 a (by omega) hr hs
theorem tp_recM {post : tq_St → Prop} (hp : p < 5) (hA : M 64 0 45 = nI A) (hA2 : A ≤ 17) (hY : ∀ a, a < A → ∃ s : Nat, s < 4 ∧ M 147 0 a = nI s) (hu : ∀ a b, a < A → b < A → rM M p a → rM M p b → (M 147 0 a).toNatClampNeg = (M 147 0 b).toNatClampNeg → a = b) (h : post (tp_it (fM1 M p) A M)) : wpX12_advancesCome post M (nI p) := by
  refine ⟨A + 1, tp_loop0 (W := fun m T i => wbX12_advancesCome_2 post m T (nI p) (nI i)) (n := A) (f := fM1 M p) (s0 := M) (fun m => ?_) (fun m i hi hw => ?_)⟩
  · unfold wbX12_advancesCome_2
    rw [fM_k A 64 (by decide) (by decide), hA]
    exact tp_dT (nI_le (Nat.le_refl _) (by omega)) h
  · unfold wbX12_advancesCome_2 wbX12_advancesCome_89 wbX12_advancesCome_131 wpX12_leftOf
    have kk : ∀ k, k ≠ 102 → k ≠ 150 → tp_it (fM1 M p) i M k = M k := fun k h1 h2 => fM_k i k h1 h2
    have k150 : tp_it (fM1 M p) i M 150 0 i = M 150 0 i := by rw [fM_150, if_neg (fun z => absurd z.1 (by omega))]
    have e : tp_it (fM1 M p) (i + 1) M = fM1 M p i (tp_it (fM1 M p) i M) := rfl
    rw [e] at hw
    unfold fM1 at hw
    obtain ⟨s, s1, s2⟩ := hY i hi
    have sc : (nI s).toNatClampNeg = s := nI_clamp (by omega)
    have pc : (nI p).toNatClampNeg = p := nI_clamp (by omega)
    have iv : vp_in (nI i) 64 := vp_in_nI (by omega) (by decide)
    rw [nI_clamp (show i < 2 ^ 31 by omega), kk 64 (by decide) (by decide), kk 146 (by decide) (by decide), kk 148 (by decide) (by decide), kk 149 (by decide) (by decide), k150, hA, pc, nI_1]
    refine tp_dF (nI_ge hi (by omega)) ⟨iv, ?_⟩
    by_cases q1 : M 146 0 i = nI p
    · refine tp_cT q1 ?_
      by_cases q2 : M 150 0 i = 5
      · rw [if_neg (fun z => z.2.1 q2)] at hw
        exact tp_dT q2 hw
      refine tp_dF q2 ?_
      by_cases q3 : M 64 0 0 = M 149 0 i
      · rw [if_neg (fun z => z.2.2.1 q3)] at hw
        exact tp_dT q3 hw
      refine tp_dF q3 ?_
      by_cases q4 : (M 64 0 0 - M 149 0 i) - (M 64 0 0 - M 149 0 i) / 10 * 10 = 0
      · rw [if_pos ⟨q1, q2, q3, q4⟩] at hw
        refine tp_dT q4 ?_
        have k102 : tp_it (fM1 M p) i M 102 p s = M 102 p s := (fM_102 hu i p s (by omega)).2.1 (fun a ha hr hs => absurd (hu a i (by omega) hi hr ⟨q1, q2, q3, q4⟩ (by rw [hs, s2, sc])) (by omega))
        have hgo : ∀ y0 : Int32, y0 = gM M i → ∀ M11, M11 = tq_up (tp_it (fM1 M p) i M) 150 0 i (M 150 0 i + 1) → vp_in (nI p) 5 ∧ vp_in (M11 147 0 i) 4 ∧ (∀ M14, M14 = tq_up M11 102 p ((M11 147 0 i).toNatClampNeg) ((M11 102 p ((M11 147 0 i).toNatClampNeg)) + (y0 - ((y0 * (M11 103 p 2)) / 100))) → wbX12_advancesCome_2 post m M14 (nI p) (nI (i + 1))) := by
          rintro y0 rfl M11 rfl
          have j147 : tq_up (tp_it (fM1 M p) i M) 150 0 i (M 150 0 i + 1) 147 0 i = nI s := by rw [tq_upk (by decide), kk 147 (by decide) (by decide)]; exact s2
          rw [j147, sc, tq_upk (show 102 ≠ 150 by decide), tq_upk (show 103 ≠ 150 by decide), k102, kk 103 (by decide) (by decide)]
          rw [s2, sc] at hw
          exact ⟨vp_in_nI hp (by decide), vp_in_nI s1 (by decide), tp_ae hw⟩
        by_cases q5 : M 150 0 i = 4
        · refine tp_cT q5 ⟨iv, iv, ?_⟩
          rw [k150]
          exact hgo _ (by unfold gM; rw [if_pos q5])
        · refine tp_cF q5 ⟨iv, ?_⟩
          exact hgo _ (by unfold gM; rw [if_neg q5])
      · rw [if_neg (fun z => q4 z.2.2.2)] at hw
        exact tp_dF q4 hw
    · rw [if_neg (fun z => q1 z.1)] at hw
      exact tp_cF q1 hw
end
