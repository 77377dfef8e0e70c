/-! pure: an order that the first store reads -/
theorem pac_b {h : Nat → Int32} {x : Nat} : (pac h x).1 ≤ 5 := by
  unfold pac
  by_cases z0 : h x = 98
  · rw [if_pos z0]; exact (by decide : 0 ≤ 5)
  rw [if_neg z0]
  by_cases z1 : h x = 97
  · rw [if_pos z1]; exact (by decide : 1 ≤ 5)
  rw [if_neg z1]
  by_cases z2 : h x = 108
  · rw [if_pos z2]; exact (by decide : 2 ≤ 5)
  rw [if_neg z2]
  by_cases z3 : h x = 115
  · rw [if_pos z3]; exact (by decide : 3 ≤ 5)
  rw [if_neg z3]
  by_cases z4 : h x = 100
  · rw [if_pos z4]; exact (by decide : 4 ≤ 5)
  rw [if_neg z4]; exact (by decide : 5 ≤ 5)
section
variable {Z : tq_Nn} {Sz : tq_St} {n e t : Nat} {tp : Nat → Int32} {R7 R50 R51 : Nat → Int32} {G0 : Nat → Nat → Nat → Nat} {C0 : Nat → Nat → Nat}
theorem pa22D {post : tq_Nn → tq_St → Prop} {N : tq_Nn} {S : tq_St} {y x2 x3 : Int32} {f : Nat} (hf : f ≤ 120) (n7 : N 7 e = 1) (r0 : N 0 0 + 2 ≤ tq_CX) (r1 : N 0 1 + 10 ≤ tq_CY) (kb : ∀ N1 S1, gF N N1 S S1 10 74 → post N1 (sk S1 y (nI f))) : wbX6_readParagraph_22 post N (sk S y (nI f)) e x2 x3 := by
  unfold wbX6_readParagraph_22
  exact soD hf (exD (by decide) hf (pa34D hf n7 r0 r1 kb))
theorem paS {post : tq_Nn → tq_St → Prop} {N : tq_Nn} {S : tq_St} {G : Nat → Nat → Nat → Nat} {C : Nat → Nat → Nat} {l : List pP} {x : Nat} (r0 : Z 0 0 + 150 ≤ tq_CX) (r1 : Z 0 1 + 8000 ≤ tq_CY) (h1 : Sz 3 0 1 = nI t) (h41 : Sz 41 0 = tp) (ht : t ≤ 120) (hl : l.length < 6) (hx : x ≤ t) (h : orI Z Sz n e R7 R50 R51 G0 C0 N S G C l)
    (ka : ∀ N1 S1 G1 C1 y p, ppa (ph tp t) x = .ok (y, p) → y ≤ t → orI Z Sz n e R7 R50 R51 G0 C0 N1 S1 G1 C1 (l ++ [p]) → post N1 (sk S1 (nI y) (-1)))
    (kb : ∀ N1 S1 f, ppa (ph tp t) x = .error f → f ≤ t → gF N N1 S S1 10 74 → post N1 (sk S1 (nI f) (nI f))) : wpX6_readParagraph post N (sk S (nI x) (-1)) e (nI l.length) := by
  obtain ⟨⟨g, ⟨n7, n50, n51, n52⟩, ⟨e7, e50, e51⟩, hn, hz⟩, hrest⟩ := id h
  have g4 := g.2.2.2.1
  have g5 := g.2.2.2.2
  have s1 : S 3 0 1 = nI t := g.2.2.1.trans h1
  have s41 : S 41 0 = tp := (g.2.1 41 0 (fun z => absurd z (by decide)) (fun z => absurd z (by decide)) (by decide)).trans h41
  have pb := pac_b (h := ph tp t) (x := x)
  have kb0 : ∀ f, phd (ph tp t) x = .error f → f ≤ t → ∀ N1 S1, gF N N1 S S1 10 74 → post N1 (sk S1 (nI f) (nI f)) := by
    intro f ef hf N1 S1 hg
    refine kb N1 S1 f ?_ hf hg
    unfold ppa
    rw [ef]
  unfold wpX6_readParagraph
  refine acS s1 s41 ht hx (fun y ey hy => ?_) (fun f r ef hf => ?_)
  · by_cases q : (pac (ph tp t) x).1 < 3
    · have K : wbX6_readParagraph_22 post N (sk S (nI y) (-1)) e (nI l.length) (nI (acd (pac (ph tp t) x).1)) := by
        unfold wbX6_readParagraph_22
        refine soS s1 s41 ht hy (fun y2 s e2 hy2 hs => ?_) (fun e2 => ?_)
        · refine exS (tp := tp) s1 s41 ht (by decide) hy2 (fun y3 e3 hy3 => ?_) (fun f e3 hf => ?_)
          · refine pa34 r0 r1 h1 h41 ht hl hy3 h ?_ ka kb
            unfold phd
            rw [ey]
            simp only
            rw [if_pos q, e2]
            simp only
            rw [e3]
            simp only
            cases pnu (ph tp t) y3 <;> rfl
          · refine pa34D (by omega) n7 (by omega) (by omega) (kb0 f ?_ hf)
            unfold phd
            rw [ey]
            simp only
            rw [if_pos q, e2]
            simp only
            rw [e3]
        · refine exD (by decide) (by omega) (pa34D (by omega) n7 (by omega) (by omega) (kb0 y ?_ hy))
          unfold phd
          rw [ey]
          simp only
          rw [if_pos q, e2]
      have ce : (pac (ph tp t) x).1 = 0 ∨ (pac (ph tp t) x).1 = 1 ∨ (pac (ph tp t) x).1 = 2 := by omega
      rcases ce with c | c | c
      · rw [c] at K ⊢
        exact tp_dT rfl K
      · rw [c] at K ⊢
        exact tp_dF (by decide) (tp_dT rfl K)
      · rw [c] at K ⊢
        exact tp_dF (by decide) (tp_dF (by decide) (tp_cT rfl K))
    · have K : wbX6_readParagraph_34 post N (sk S (nI y) (-1)) e (nI l.length) (nI (acd (pac (ph tp t) x).1)) (-1) := by
        refine pa34 r0 r1 h1 h41 ht hl hy h ?_ ka kb
        unfold phd
        rw [ey]
        simp only
        rw [if_neg q]
        cases pnu (ph tp t) y <;> rfl
      have ce : (pac (ph tp t) x).1 = 3 ∨ (pac (ph tp t) x).1 = 4 ∨ (pac (ph tp t) x).1 = 5 := by omega
      rcases ce with c | c | c
      · rw [c] at K ⊢
        exact tp_dF (by decide) (tp_dF (by decide) (tp_cF (by decide) K))
      · rw [c] at K ⊢
        exact tp_dF (by decide) (tp_dF (by decide) (tp_cF (by decide) K))
      · rw [c] at K ⊢
        exact tp_dF (by decide) (tp_dF (by decide) (tp_cF (by decide) K))
  · have k0 := kb0 f (by
      unfold phd
      rw [ef]) hf
    by_cases c0 : r = 0
    · exact tp_dT c0 (pa22D (by omega) n7 (by omega) (by omega) k0)
    · refine tp_dF c0 ?_
      by_cases c1 : r = 1
      · exact tp_dT c1 (pa22D (by omega) n7 (by omega) (by omega) k0)
      · refine tp_dF c1 ?_
        by_cases c2 : r = 2
        · exact tp_cT c2 (pa22D (by omega) n7 (by omega) (by omega) k0)
        · exact tp_cF c2 (pa34D (by omega) n7 (by omega) (by omega) k0)
theorem ri62 {post : tq_Nn → tq_St → Int32 → Prop} {N : tq_Nn} {S : tq_St} {y f : Int32} (h : post N (tq_up (sk S y f) 3 0 1 0) f) : wbX6_readInto_62 post N (sk S y f) := by
  unfold wbX6_readInto_62
  refine tp_ae ?_
  rw [tq_upj (by decide), sk_g3]
  exact h
theorem ri47S {post : tq_Nn → tq_St → Int32 → Prop} {N : tq_Nn} {S : tq_St} {y : Nat} (h1 : S 3 0 1 = nI t) (ht : t ≤ 120) (hy : y ≤ t) (ka : y = t → post N (tq_up (sk S (nI y) (-1)) 3 0 1 0) (-1)) (kb : y < t → post N (tq_up (sk S (nI y) (nI y)) 3 0 1 0) (nI y)) : wbX6_readInto_47 post N (sk S (nI y) (-1)) := by
  unfold wbX6_readInto_47
  rw [sk_g1, sk_g2, h1]
  by_cases q : y = t
  · exact tp_dT (nI_le (by omega) (by omega)) (ri62 (ka q))
  · exact tp_dF (nI_ge (by omega) (by omega)) (flS (ri62 (kb (by omega))))
theorem ri47D {post : tq_Nn → tq_St → Int32 → Prop} {N : tq_Nn} {S : tq_St} {y : Int32} {f : Nat} (hf : f ≤ 120) (kb : post N (tq_up (sk S y (nI f)) 3 0 1 0) (nI f)) : wbX6_readInto_47 post N (sk S y (nI f)) := by
  unfold wbX6_readInto_47
  by_cases q : sk S y (nI f) 3 0 1 ≤ sk S y (nI f) 3 0 2
  · exact tp_dT q (ri62 kb)
  · exact tp_dF q (flD hf (ri62 kb))
theorem orS12 {post : tq_Nn → tq_St → Int32 → Prop} (r0 : Z 0 0 + 150 ≤ tq_CX) (r1 : Z 0 1 + 8000 ≤ tq_CY) (h1 : Sz 3 0 1 = nI t) (h41 : Sz 41 0 = tp) (ht : t ≤ 120) : ∀ (m x : Nat) (N : tq_Nn) (S : tq_St) (G : Nat → Nat → Nat → Nat) (C : Nat → Nat → Nat) (l : List pP), l.length + m = 6 → 1 ≤ m → x ≤ t → orI Z Sz n e R7 R50 R51 G0 C0 N S G C l →
    (∀ N1 S1 G1 C1 y l', por (ph tp t) t m x = .ok l' → orI Z Sz n e R7 R50 R51 G0 C0 N1 S1 G1 C1 (l ++ l') → post N1 (tq_up (sk S1 y (-1)) 3 0 1 0) (-1)) →
    (∀ N1 S1 f y, por (ph tp t) t m x = .error f → f ≤ t → gF Z N1 Sz S1 70 526 → post N1 (tq_up (sk S1 y (nI f)) 3 0 1 0) (nI f)) → wbX6_readInto_12 post m N (sk S (nI x) (-1)) e (nI l.length)
  | 0, x, N, S, G, C, l, hk, hm, hx, hI, ka, kb => absurd hm (by decide)
  | m + 1, x, N, S, G, C, l, hk, hm, hx, hI, ka, kb => by
    unfold wbX6_readInto_12
    unfold por at ka kb
    refine tp_dF (show ¬ nI 6 ≤ nI l.length from nI_ge (by omega) (by decide)) (paS r0 r1 h1 h41 ht (by omega) hx hI (fun N1 S1 G1 C1 y p ep hy h1I => ?_) (fun N1 S1 f ep hf hg => ?_))
    · rw [ep] at ka kb
      simp only at ka kb
      have u1 : S1 3 0 1 = nI t := h1I.1.1.2.2.1.trans h1
      have u41 : S1 41 0 = tp := (h1I.1.1.2.1 41 0 (fun z => absurd z (by decide)) (fun z => absurd z (by decide)) (by decide)).trans h41
      have len : (l ++ [p]).length = l.length + 1 := by simp
      have gg := h1I.1.1
      rw [len] at gg
      have fin : (¬ (m ≠ 0 ∧ ph tp t y = 59)) → wbX6_readInto_47 post N1 (sk S1 (nI y) (-1)) := by
        intro z
        refine ri47S u1 ht hy (fun e1 => ?_) (fun e1 => ?_)
        · rw [if_pos e1] at ka
          exact ka N1 S1 G1 C1 _ [p] rfl h1I
        · rw [if_neg (by omega), if_neg z] at kb
          exact kb N1 S1 y _ rfl hy (gg.wk (by omega) (by omega))
      by_cases q : m = 0
      · have : l.length = 5 := by omega
        exact tp_dT (by rw [this]; rfl) (fin (fun z => z.1 q))
      · refine tp_dF (fun z => by
          have := (nI_eq (a := l.length) (b := 5) (by omega) (by omega)).mp z
          omega) (tkS u1 u41 ht hy (by decide) (fun z zx => ?_) (fun z => ?_))
        · rw [if_neg (by omega), if_pos ⟨q, z⟩] at ka kb
          refine tp_cF (by decide) ?_
          rw [nI_1, ← len]
          refine orS12 r0 r1 h1 h41 ht m (y + 1) N1 S1 G1 C1 (l ++ [p]) (by rw [len]; omega) (by omega) (by omega) h1I (fun N9 S9 G9 C9 y9 l9 e9 h9 => ?_) (fun N9 S9 f y9 e9 hf h9 => ?_)
          · rw [e9] at ka
            rw [List.append_assoc] at h9
            exact ka N9 S9 G9 C9 y9 (p :: l9) rfl h9
          · rw [e9] at kb
            exact kb N9 S9 f y9 rfl hf h9
        · exact tp_cT rfl (fin (fun w => z w.2))
    · rw [ep] at kb
      have k0 : wbX6_readInto_47 post N1 (sk S1 (nI f) (nI f)) := ri47D (by omega) (kb N1 S1 f _ rfl hf ((hI.1.1.tr hg).wk (by omega) (by omega)))
      by_cases q : nI l.length = 5
      · exact tp_dT q k0
      · exact tp_dF q (tkD (by omega) (tp_cT rfl k0))
theorem orS {post : tq_Nn → tq_St → Int32 → Prop} {N : tq_Nn} {S : tq_St} {G : Nat → Nat → Nat → Nat} {C : Nat → Nat → Nat} (r0 : Z 0 0 + 150 ≤ tq_CX) (r1 : Z 0 1 + 8000 ≤ tq_CY) (h1 : Sz 3 0 1 = nI t) (h41 : Sz 41 0 = tp) (ht : t ≤ 120) (h : orI Z Sz n e R7 R50 R51 G0 C0 N S G C [])
    (ka : ∀ N1 S1 G1 C1 y l, por (ph tp t) t 6 0 = .ok l → orI Z Sz n e R7 R50 R51 G0 C0 N1 S1 G1 C1 l → post N1 (tq_up (sk S1 y (-1)) 3 0 1 0) (-1))
    (kb : ∀ N1 S1 f y, por (ph tp t) t 6 0 = .error f → f ≤ t → gF Z N1 Sz S1 70 526 → post N1 (tq_up (sk S1 y (nI f)) 3 0 1 0) (nI f)) : wpX6_readInto post N S e := by
  unfold wpX6_readInto
  refine tp_ae (tp_ae ⟨6, ?_⟩)
  show wbX6_readInto_12 post 6 N (sk S (nI 0) (-1)) e (nI 0)
  exact orS12 r0 r1 h1 h41 ht 6 0 N S G C [] (by decide) (by decide) (by omega) h (fun N1 S1 G1 C1 y l el hl => ka N1 S1 G1 C1 y l el hl) kb
end
/-! what a text that is read keeps to -/
def okT (r : pT) : Prop := (r.1 = 0 ∨ r.1 = 1) ∧ r.2.1 ≤ 4 ∧ (r.2.1 < 2 → ∃ s : Nat, s < 4 ∧ r.2.2.1 = nI s) ∧ (∃ x : Nat, 60 ≤ x ∧ x ≤ 62 ∧ r.2.2.2.1 = nI x) ∧ (r.2.2.2.2.2 = 0 ∨ r.2.2.2.2.2 = 1)
def okP (p : pP) : Prop := p.1 ≤ 5 ∧ (p.1 < 3 → ∃ s : Nat, s < 4 ∧ p.2.1 = nI s) ∧ (3 ≤ p.1 → p.2.1 = -1) ∧ (∃ x : Nat, x ≤ 9999 ∧ p.2.2.1 = nI x) ∧ p.2.2.2.length ≤ 4 ∧ ∀ r, r ∈ p.2.2.2 → okT r
section
variable {h : Nat → Int32}
theorem pso_s {x y s : Nat} (e : pso h x = .ok (y, s)) : s < 4 := by
  rcases pso_r (h := h) (x := x) with ⟨s1, a1, a2, a3⟩ | ⟨a1, a2⟩
  · rw [a3] at e
    have := Except.ok.inj e
    cases this
    exact a1
  · rw [a2] at e; cases e
theorem pte_ok {o : Int32} {x y : Nat} {r : pT} (ho : bl o) (e : pte h o x = .ok (y, r)) : okT r := by
  unfold pte at e
  cases h1 : (pne h x).2 with
  | error f => rw [h1] at e; cases e
  | ok y1 =>
    rw [h1] at e
    simp only at e
    cases h2 : (pfi h y1).2 with
    | error f => rw [h2] at e; cases e
    | ok z =>
      rw [h2] at e
      simp only at e
      cases h3 : psf h (pfi h y1).1 z with
      | error f => rw [h3] at e; cases e
      | ok us =>
        obtain ⟨u, s⟩ := us
        rw [h3] at e
        simp only at e
        cases h4 : psn h u with
        | error f => rw [h4] at e; cases e
        | ok qcn =>
          obtain ⟨q, c, n⟩ := qcn
          rw [h4] at e
          have := Except.ok.inj e
          cases this
          refine ⟨?_, pfi_b, fun hf => ?_, ?_, ho⟩
          · unfold pne
            by_cases z0 : h x = 110
            · rw [if_pos z0]; exact Or.inr rfl
            · rw [if_neg z0]; exact Or.inl rfl
          · unfold psf at h3
            rw [if_pos hf] at h3
            cases h5 : pso h z with
            | error f => rw [h5] at h3; cases h3
            | ok us2 =>
              obtain ⟨u2, s2⟩ := us2
              rw [h5] at h3
              have := Except.ok.inj h3
              cases this
              exact ⟨s2, pso_s h5, rfl⟩
          · unfold psn at h4
            by_cases z0 : h u = 60 ∨ h u = 61 ∨ h u = 62
            · rw [if_pos z0] at h4
              cases h5 : pnu h (u + 1) with
              | error f => rw [h5] at h4; cases h4
              | ok qn =>
                obtain ⟨q2, n2⟩ := qn
                rw [h5] at h4
                have := Except.ok.inj h4
                cases this
                rcases z0 with z | z | z
                · exact ⟨60, by decide, by decide, z⟩
                · exact ⟨61, by decide, by decide, z⟩
                · exact ⟨62, by decide, by decide, z⟩
            · rw [if_neg z0] at h4; cases h4
theorem pts_ok : ∀ (m : Nat) (o : Int32) (x y : Nat) (l : List pT), bl o → pts h m o x = .ok (y, l) → ∀ r, r ∈ l → okT r
  | 0, o, x, y, l, ho, e => by
    have := Except.ok.inj e
    cases this
    intro r hr
    cases hr
  | m + 1, o, x, y, l, ho, e => by
    unfold pts at e
    cases ht : pte h o x with
    | error f => rw [ht] at e; cases e
    | ok yr =>
      obtain ⟨y1, r⟩ := yr
      have kr := pte_ok ho ht
      rw [ht] at e
      simp only at e
      by_cases q : m = 0 ∨ ¬ h y1 = 32
      · rw [if_pos q] at e
        have := Except.ok.inj e
        cases this
        intro r' hr
        rw [List.mem_singleton] at hr
        rw [hr]; exact kr
      · rw [if_neg q] at e
        by_cases q2 : h (y1 + 1) = 111
        · rw [if_pos q2] at e
          cases hw : pw h (ws 8) (y1 + 2) with
          | error f => rw [hw] at e; cases e
          | ok z =>
            rw [hw] at e
            simp only at e
            cases hp : pts h m 1 z with
            | error f => rw [hp] at e; cases e
            | ok ul =>
              obtain ⟨u, l2⟩ := ul
              rw [hp] at e
              have := Except.ok.inj e
              cases this
              intro r' hr
              rcases List.mem_cons.mp hr with z1 | z1
              · rw [z1]; exact kr
              · exact pts_ok m 1 z _ l2 (Or.inr rfl) hp r' z1
        · rw [if_neg q2] at e
          cases hw : pw h (ws 9) (y1 + 1) with
          | error f => rw [hw] at e; cases e
          | ok z =>
            rw [hw] at e
            simp only at e
            cases hp : pts h m 0 z with
            | error f => rw [hp] at e; cases e
            | ok ul =>
              obtain ⟨u, l2⟩ := ul
              rw [hp] at e
              have := Except.ok.inj e
              cases this
              intro r' hr
              rcases List.mem_cons.mp hr with z1 | z1
              · rw [z1]; exact kr
              · exact pts_ok m 0 z _ l2 (Or.inl rfl) hp r' z1
theorem phd_ok {x y a : Nat} {s v : Int32} (e : phd h x = .ok (y, a, s, v)) : a ≤ 5 ∧ (a < 3 → ∃ k : Nat, k < 4 ∧ s = nI k) ∧ (3 ≤ a → s = -1) ∧ ∃ k : Nat, k ≤ 9999 ∧ v = nI k := by
  have pb := pac_b (h := h) (x := x)
  unfold phd at e
  cases h1 : (pac h x).2 with
  | error f => rw [h1] at e; cases e
  | ok y1 =>
    rw [h1] at e
    simp only at e
    by_cases q : (pac h x).1 < 3
    · rw [if_pos q] at e
      cases h2 : pso h y1 with
      | error f => rw [h2] at e; cases e
      | ok zs =>
        obtain ⟨z, s1⟩ := zs
        rw [h2] at e
        simp only at e
        cases h3 : pw h (ws 0) z with
        | error f => rw [h3] at e; cases e
        | ok u =>
          rw [h3] at e
          simp only at e
          cases h4 : pnu h u with
          | error f => rw [h4] at e; cases e
          | ok un =>
            obtain ⟨u2, n⟩ := un
            rw [h4] at e
            have := Except.ok.inj e
            cases this
            exact ⟨pb, fun _ => ⟨s1, pso_s h2, rfl⟩, fun z => absurd z (by omega), pnu_b h4⟩
    · rw [if_neg q] at e
      cases h4 : pnu h y1 with
      | error f => rw [h4] at e; cases e
      | ok un =>
        obtain ⟨u2, n⟩ := un
        rw [h4] at e
        have := Except.ok.inj e
        cases this
        exact ⟨pb, fun z => absurd z q, fun _ => rfl, pnu_b h4⟩
theorem ppa_ok {x y : Nat} {p : pP} (e : ppa h x = .ok (y, p)) : okP p := by
  have pl := ppa_len e
  unfold ppa at e
  cases hd : phd h x with
  | error f => rw [hd] at e; cases e
  | ok ya =>
    obtain ⟨y1, a, s, n⟩ := ya
    obtain ⟨k1, k2, k3, k4⟩ := phd_ok hd
    rw [hd] at e
    simp only at e
    by_cases q : h y1 = 32
    · rw [if_pos q] at e
      cases hw : pw h (ws 1) (y1 + 1) with
      | error f => rw [hw] at e; cases e
      | ok z =>
        rw [hw] at e
        simp only at e
        cases hp : pts h 4 0 z with
        | error f => rw [hp] at e; cases e
        | ok ul =>
          obtain ⟨u, l2⟩ := ul
          rw [hp] at e
          have := Except.ok.inj e
          cases this
          exact ⟨k1, k2, k3, k4, pl, pts_ok 4 0 z _ l2 (Or.inl rfl) hp⟩
    · rw [if_neg q] at e
      have := Except.ok.inj e
      cases this
      exact ⟨k1, k2, k3, k4, pl, fun r hr => by cases hr⟩
theorem por_ok {t : Nat} : ∀ (m x : Nat) (l : List pP), por h t m x = .ok l → 1 ≤ l.length ∧ l.length ≤ m ∧ ∀ p, p ∈ l → okP p
  | 0, x, l, e => by cases e
  | m + 1, x, l, e => by
    unfold por at e
    cases hp : ppa h x with
    | error f => rw [hp] at e; cases e
    | ok yp =>
      obtain ⟨y, p⟩ := yp
      have kp := ppa_ok hp
      rw [hp] at e
      simp only at e
      by_cases q : y = t
      · rw [if_pos q] at e
        have := Except.ok.inj e
        cases this
        refine ⟨Nat.le_refl _, by simp, fun p' hp' => ?_⟩
        rw [List.mem_singleton] at hp'
        rw [hp']; exact kp
      · rw [if_neg q] at e
        by_cases q2 : m ≠ 0 ∧ h y = 59
        · rw [if_pos q2] at e
          cases hr : por h t m (y + 1) with
          | error f => rw [hr] at e; cases e
          | ok l2 =>
            rw [hr] at e
            have := Except.ok.inj e
            cases this
            obtain ⟨a1, a2, a3⟩ := por_ok m (y + 1) l2 hr
            refine ⟨by simp, by simp; exact a2, fun p' hp' => ?_⟩
            rcases List.mem_cons.mp hp' with z1 | z1
            · rw [z1]; exact kp
            · exact a3 p' z1
        · rw [if_neg q2] at e; cases e
end
