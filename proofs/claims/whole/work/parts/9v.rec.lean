/-! pure: advances come in, the relation -/
theorem tp_rem10 {d oo : Nat} (h : oo ≤ d) (hd : d ≤ 2999) : (nI d - nI oo) - (nI d - nI oo) / 10 * 10 = nI ((d - oo) % 10) := by
  rw [pk_sub h]
  exact pk_rem (d := 10) (by omega) (by decide) (by decide)
/-- the open advance of a sort -/
theorem tp_open {d A p s a : Nat} {S M : tq_St} (had : q_ad d p A S M) (hp1 : 1 ≤ p) (hp : p < 5) (hs : s < 4) (ho : tp_opn A p s (M 146 0) (M 147 0) (M 150 0) a) : ∃ b oo t : Nat, M 148 0 a = nI b ∧ M 149 0 a = nI oo ∧ M 150 0 a = nI t ∧ 1 ≤ b ∧ b ≤ 9999 ∧ t < 5 ∧ S 33 p s = nI oo ∧ S 34 p s = nI b ∧ S 35 p s = nI (b - t * (b / 5)) ∧ oo < d ∧ t = (d - 1 - oo) / 10 := by
  rcases had.2.2 p s hp1 hp hs with ⟨_, z2⟩ | ⟨a', b, oo, t, z1, z2, z3, z4, z5, z6, z7, z8, z9, z10, z11, z12, z13⟩
  · exact absurd ho (z2 a)
  · have := had.2.1 p s a a' hp hs ho z1
    subst this
    obtain ⟨y1, y2⟩ := z13 (Nat.le_refl _)
    exact ⟨b, oo, t, z2, z3, z4, z5, z6, z8, z9, z10, z11, y1, y2⟩
theorem tp_left {b t : Nat} (hb : 1 ≤ b) (ht : t < 5) : 1 ≤ b - t * (b / 5) := by
  have : t * (b / 5) ≤ 4 * (b / 5) := Nat.mul_le_mul_right _ (by omega)
  omega
theorem tp_rM_open {d A p a : Nat} {S M : tq_St} (had : q_ad d p A S M) (ha : a < A) (hr : rM M p a) : ∃ s : Nat, s < 4 ∧ M 147 0 a = nI s ∧ tp_opn A p s (M 146 0) (M 147 0) (M 150 0) a := by
  obtain ⟨_, ⟨s, s1, s2⟩, _, _, t, t1, t2⟩ := had.1 a ha
  refine ⟨s, s1, s2, ha, hr.1, s2, ?_⟩
  rw [t2]
  have : t ≠ 5 := fun z => hr.2.1 (by rw [t2, z]; rfl)
  exact nI_lt (b := 5) (by omega) (by decide)
/-- due in both, or in none; and as many -/
theorem tp_due {d A p s a : Nat} {S M : tq_St} (had : q_ad d p A S M) (hd : M 64 0 0 = nI d) (hd2 : d ≤ 2999) (hp1 : 1 ≤ p) (hp : p < 5) (hs : s < 4) (ho : tp_opn A p s (M 146 0) (M 147 0) (M 150 0) a) : (rM M p a ↔ rS S p d s) ∧ (rM M p a → gM M a = gS S p d s) ∧ ∃ b oo t : Nat, M 148 0 a = nI b ∧ M 149 0 a = nI oo ∧ M 150 0 a = nI t ∧ 1 ≤ b ∧ b ≤ 9999 ∧ t < 5 ∧ S 33 p s = nI oo ∧ S 34 p s = nI b ∧ S 35 p s = nI (b - t * (b / 5)) ∧ oo < d ∧ t = (d - 1 - oo) / 10 ∧ (rM M p a ↔ (d - oo) % 10 = 0) ∧ (rM M p a → gS S p d s = nI (if t = 4 then b - 4 * (b / 5) else b / 5)) := by
  obtain ⟨b, oo, t, z1, z2, z3, z4, z5, z6, z7, z8, z9, z10, z11⟩ := tp_open had hp1 hp hs ho
  have lf := tp_left z4 z6
  have r0 := tp_rem10 (d := d) (oo := oo) (by omega) hd2
  have i0 : nI ((d - oo) % 10) = 0 ↔ (d - oo) % 10 = 0 := nI_eq (b := 0) (by omega) (by omega)
  have cM : rM M p a ↔ (d - oo) % 10 = 0 := by
    unfold rM
    rw [hd, z2, z3, r0, i0]
    refine ⟨fun z => z.2.2.2, fun z => ⟨ho.2.1, fun w => ?_, fun w => ?_, z⟩⟩
    · have := (nI_eq (a := t) (b := 5) (by omega) (by omega)).mp w
      omega
    · have := (nI_eq (a := d) (b := oo) (by omega) (by omega)).mp w
      omega
  have cS : rS S p d s ↔ (d - oo) % 10 = 0 := by
    unfold rS
    rw [z7, z9, r0, i0]
    refine ⟨fun z => z.2.2, fun z => ⟨nI_ge (a := 0) (by omega) (by omega), ?_, z⟩⟩
    rw [pk_sub (by omega)]
    exact nI_ge (a := 0) (by omega) (by omega)
  have gs : rM M p a → gS S p d s = nI (if t = 4 then b - 4 * (b / 5) else b / 5) := by
    intro z
    have z2 := cM.mp z
    unfold gS
    rw [z7, z8, z9, pk_sub (by omega)]
    have d5 : nI b / 5 = nI (b / 5) := pk_div (d := 5) (by omega) (by decide) (by decide)
    by_cases q : t = 4
    · have y : (50 : Int32) ≤ nI (d - oo) := nI_le (a := 50) (by omega) (by omega)
      rw [if_pos q, if_pos y, q]
    · have y : ¬ (50 : Int32) ≤ nI (d - oo) := nI_ge (b := 50) (by omega) (by omega)
      rw [if_neg q, if_neg y, d5]
  refine ⟨cM.trans cS.symm, fun z => ?_, b, oo, t, z1, z2, z3, z4, z5, z6, z7, z8, z9, z10, z11, cM, gs⟩
  rw [gs z]
  unfold gM
  have d5 : nI b / 5 = nI (b / 5) := pk_div (d := 5) (by omega) (by decide) (by decide)
  rw [z1, z3, d5, pk_mul]
  by_cases q : t = 4
  · rw [if_pos (by rw [q]; rfl), if_pos q, q, pk_sub (by omega)]
  · have y : ¬ nI t = (4 : Int32) := fun w => q ((nI_eq (a := t) (b := 4) (by omega) (by omega)).mp w)
    rw [if_neg y, if_neg q]
theorem RR_rec {c h d pn P Sh V E A t r eb : Nat} {G : Nat → Nat → Nat → Nat} {C : Nat → Nat → Nat} {OL : Nat → List Nat} {N : tq_Nn} {S M : tq_St} {p : Nat} (h0 : RR c h p d pn P Sh V E A t r eb G C OL N S M) (hp1 : 1 ≤ p) (hp : p < 5) : (∀ a b, a < A → b < A → rM M p a → rM M p b → (M 147 0 a).toNatClampNeg = (M 147 0 b).toNatClampNeg → a = b) ∧ RR c h (p + 1) d pn P Sh V E A t r eb G C OL N ((tp_it (fS1 S p d) 4 S)) ((tp_it (fM1 M p) A M)) := by
  obtain ⟨hsc, hss, har, hpl, hlg, hsh, hpe, hmo, hpr, hsr, hpa, hkn, hst, hpm, hsi, hab, hsm, hvo, hvm, hbi, hlb, hiv, hod, hol, hoi, hfi, hli, had, hro⟩ := id h0
  obtain ⟨s1, s2, s3, s4, s5, s6, s7, s8, s9, b1, b2, b3, b4, b5, b6, b7, b8, b9, e1, e2⟩ := id hsc
  have hu : ∀ a b, a < A → b < A → rM M p a → rM M p b → (M 147 0 a).toNatClampNeg = (M 147 0 b).toNatClampNeg → a = b := by
    intro a b ha hb ra rb e
    obtain ⟨s, u1, u2, u3⟩ := tp_rM_open had ha ra
    obtain ⟨s', v1, v2, v3⟩ := tp_rM_open had hb rb
    rw [u2, v2, nI_clamp (by omega), nI_clamp (by omega)] at e
    subst e
    exact had.2.1 p s a b hp u1 u3 v3
  refine ⟨hu, ?_⟩
  have e30 : S 30 = M 102 := har.2.2.2.2.2.2.1
  have e25 : S 2 p 5 = M 103 p 2 := hpl.2.2.2.2.1 p hp1 hp
  -- the stocks are the same
  have eX : tp_it (fM1 M p) A M 102 = tp_it (fS1 S p d) 4 S 30 := by
    funext q s
    obtain ⟨m1, m2, m3⟩ := fM_102 hu A q s (Nat.le_refl _)
    by_cases hq : q = p
    · subst hq
      by_cases hs : s < 4
      · obtain ⟨v1, v2⟩ := fS_v (S := S) (p := q) (d := d) 4 s hs
        by_cases hr : rS S q d s
        · have : ∃ a, tp_opn A q s (M 146 0) (M 147 0) (M 150 0) a := by
            rcases had.2.2 q s hp1 hp hs with ⟨z1, _⟩ | ⟨a, _, _, _, z1, _⟩
            · exact absurd (by rw [z1]; decide) hr.1
            · exact ⟨a, z1⟩
          obtain ⟨a, ho⟩ := this
          obtain ⟨d1, d2, _⟩ := tp_due had s1 b1 hp1 hp hs ho
          have ra := d1.mpr hr
          rw [(v1 hr).2, m3 a ho.1 ra (by rw [ho.2.2.1]; exact nI_clamp (by omega)), d2 ra, e30, e25]
        · rw [(v2 hr).2, e30]
          refine m2 (fun a ha ra hs2 => ?_)
          obtain ⟨s', u1, u2, u3⟩ := tp_rM_open had ha ra
          rw [u2, nI_clamp (by omega)] at hs2
          subst hs2
          exact hr ((tp_due had s1 b1 hp1 hp hs u3).1.mp ra)
      · rw [fS_o 4 30 q s (by decide) (by omega), e30]
        refine m2 (fun a ha ra hs2 => ?_)
        obtain ⟨s', u1, u2, u3⟩ := tp_rM_open had ha ra
        rw [u2, nI_clamp (by omega)] at hs2
        omega
    · rw [fS_o 4 30 q s (by decide) (Or.inl hq), m1 hq, e30]
  have mk : ∀ k, k ≠ 102 → k ≠ 150 → tp_it (fM1 M p) A M k = M k := fun k h1 h2 => fM_k A k h1 h2
  have sk' : ∀ k, k ≠ 30 → k ≠ 35 → tp_it (fS1 S p d) 4 S k = S k := fun k h1 h2 => fS_k 4 k h1 h2
  have m150 : ∀ a, a < A → (rM M p a → tp_it (fM1 M p) A M 150 0 a = M 150 0 a + 1) ∧ (¬ rM M p a → tp_it (fM1 M p) A M 150 0 a = M 150 0 a) := fun a ha => by
    refine ⟨fun z => ?_, fun z => ?_⟩
    · rw [fM_150, if_pos ⟨ha, z⟩]
    · rw [fM_150, if_neg (fun w => z w.2)]
  have had1 : q_ad d (p + 1) A (tp_it (fS1 S p d) 4 S) (tp_it (fM1 M p) A M) := by
    have opo : ∀ p' s' a, tp_opn A p' s' (tp_it (fM1 M p) A M 146 0) (tp_it (fM1 M p) A M 147 0) (tp_it (fM1 M p) A M 150 0) a → tp_opn A p' s' (M 146 0) (M 147 0) (M 150 0) a := by
      rintro p' s' a ⟨z1, z2, z3, z4⟩
      rw [mk 146 (by decide) (by decide)] at z2
      rw [mk 147 (by decide) (by decide)] at z3
      refine ⟨z1, z2, z3, ?_⟩
      by_cases q : rM M p a
      · obtain ⟨s, _, _, u⟩ := tp_rM_open had z1 q
        exact u.2.2.2
      · rw [(m150 a z1).2 q] at z4; exact z4
    refine ⟨fun a ha => ?_, fun p' s' a a' hp' hs' z1 z2 => had.2.1 p' s' a a' hp' hs' (opo p' s' a z1) (opo p' s' a' z2), fun p' s' h1 h2 h3 => ?_⟩
    · obtain ⟨y1, y2, y3, y4, t, t1, t2⟩ := had.1 a ha
      rw [mk 146 (by decide) (by decide), mk 147 (by decide) (by decide), mk 148 (by decide) (by decide), mk 149 (by decide) (by decide)]
      refine ⟨y1, y2, y3, y4, ?_⟩
      by_cases q : rM M p a
      · have : t ≠ 5 := fun z => q.2.1 (by rw [t2, z]; rfl)
        exact ⟨t + 1, by omega, by rw [(m150 a ha).1 q, t2, nI_1]⟩
      · exact ⟨t, t1, by rw [(m150 a ha).2 q]; exact t2⟩
    · rw [sk' 33 (by decide) (by decide), sk' 34 (by decide) (by decide), mk 146 (by decide) (by decide), mk 147 (by decide) (by decide), mk 148 (by decide) (by decide), mk 149 (by decide) (by decide)]
      have opo2 : ∀ a, tp_opn A p' s' (M 146 0) (M 147 0) (tp_it (fM1 M p) A M 150 0) a → tp_opn A p' s' (M 146 0) (M 147 0) (M 150 0) a := fun a z => opo p' s' a (by rw [mk 146 (by decide) (by decide), mk 147 (by decide) (by decide)]; exact z)
      by_cases hq : p' = p
      · subst hq
        obtain ⟨v1, v2⟩ := fS_v (S := S) (p := p') (d := d) 4 s' h3
        rcases had.2.2 p' s' h1 h2 h3 with ⟨z1, z2⟩ | ⟨a, b, oo, t, z1, _⟩
        · have nr : ¬ rS S p' d s' := fun z => z.1 (by rw [z1]; decide)
          exact Or.inl ⟨by rw [(v2 nr).1]; exact z1, fun a ha => z2 a (opo2 a ha)⟩
        · obtain ⟨d1, d2, b', oo', t', y1, y2, y3, y4, y5, y6, y7, y8, y9, y10, y11, y12, y13⟩ := tp_due had s1 b1 h1 h2 h3 z1
          by_cases q : rM M p' a
          · have dv := y12.mp q
            have rs := d1.mp q
            rw [(v1 rs).1, y13 q, y9]
            by_cases q4 : t' = 4
            · rw [if_pos q4, q4, pk_sub (Nat.le_refl _), Nat.sub_self]
              refine Or.inl ⟨rfl, fun a' ha' => ?_⟩
              have o := opo2 a' ha'
              have : a' = a := had.2.1 p' s' a' a h2 h3 o z1
              subst this
              have := ha'.2.2.2
              rw [(m150 a' ha'.1).1 q, y3, q4] at this
              exact absurd this (by decide)
            · rw [if_neg q4]
              have tb : t' * (b' / 5) ≤ 3 * (b' / 5) := Nat.mul_le_mul_right _ (by omega)
              have e5 : (t' + 1) * (b' / 5) = t' * (b' / 5) + b' / 5 := by rw [Nat.add_mul, Nat.one_mul]
              refine Or.inr ⟨a, b', oo', t' + 1, ⟨z1.1, z1.2.1, z1.2.2.1, ?_⟩, y1, y2, ?_, y4, y5, by omega, by omega, y7, y8, ?_, fun _ => by omega, fun z => absurd z (by omega)⟩
              · rw [(m150 a z1.1).1 q, y3, nI_1]; exact nI_lt (b := 5) (by omega) (by decide)
              · rw [(m150 a z1.1).1 q, y3, nI_1]
              · rw [pk_sub (by omega), e5]; congr 1; omega
          · have dv : ¬ (d - oo') % 10 = 0 := fun z => q (y12.mpr z)
            have nr : ¬ rS S p' d s' := fun z => q (d1.mpr z)
            rw [(v2 nr).1]
            refine Or.inr ⟨a, b', oo', t', ⟨z1.1, z1.2.1, z1.2.2.1, ?_⟩, y1, y2, ?_, y4, y5, by omega, y6, y7, y8, y9, fun _ => by omega, fun z => absurd z (by omega)⟩
            · rw [(m150 a z1.1).2 q]; exact z1.2.2.2
            · rw [(m150 a z1.1).2 q]; exact y3
      · rw [fS_o 4 35 p' s' (by decide) (Or.inl hq)]
        rcases had.2.2 p' s' h1 h2 h3 with ⟨z1, z2⟩ | ⟨a, b, oo, t, z1, z2, z3, z4, z5, z6, z7, z8, z9, z10, z11, z12, z13⟩
        · exact Or.inl ⟨z1, fun a ha => z2 a (opo2 a ha)⟩
        · have nr : ¬ rM M p a := fun z => by
            have := z.1
            rw [z1.2.1] at this
            exact hq ((nI_eq (by omega) (by omega)).mp this)
          refine Or.inr ⟨a, b, oo, t, ⟨z1.1, z1.2.1, z1.2.2.1, ?_⟩, z2, z3, ?_, z5, z6, z7, z8, z9, z10, z11, fun z => z12 (by omega), fun z => z13 (by omega)⟩
          · rw [(m150 a z1.1).2 nr]; exact z1.2.2.2
          · rw [(m150 a z1.1).2 nr]; exact z4
  have eS := o2_eq (S := S) (T := tp_it (fS1 S p d) 4 S) (a := 30) (b := 35) (fun k h1 h2 => sk' k h1 h2)
  have eM := o2_eq (S := M) (T := tp_it (fM1 M p) A M) (a := 102) (b := 150) (fun k h1 h2 => mk k h1 h2)
  rw [eX] at eM
  have hf := RR_o2 (w1 := p + 1) (X := tp_it (fS1 S p d) 4 S 30) (Y := tp_it (fS1 S p d) 4 S 35) (Z := tp_it (fM1 M p) A M 150) h0 (by rw [eS, eM]; exact had1)
  rw [eS, eM] at hf
  exact hf
