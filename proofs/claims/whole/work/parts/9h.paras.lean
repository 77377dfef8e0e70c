/-! pure: paragraphs that the first store reads -/
/-- behind a Paragraph's constructor -/
def nP (N : tq_Nn) (S : tq_St) (N1 : tq_Nn) (S1 : tq_St) (q : Nat) (p1 p2 p3 p4 p5 : Int32) : Prop :=
  (tp_mono N N1 ∧ N1 10 q = 1 ∧ N1 59 q = 1 ∧ tq_fr N q ∧ 1 ≤ q ∧ q ≤ N 0 0 ∧ N1 0 0 = q + 2 ∧ N1 0 1 = N 0 1 + 10 ∧ (∀ k i : Nat, ¬ (i = q ∧ (k = 1 ∨ k = 10 ∨ k = 59)) → S1 k i = S k i))
  ∧ S1 10 q 0 = p1 ∧ S1 10 q 1 = p2 ∧ S1 10 q 2 = p3 ∧ S1 10 q 3 = p4 ∧ S1 10 q 4 = p5 ∧ S1 10 q 5 = (p3 * 4) + (if p4 < 0 then 0 else p4) ∧ S1 59 q = (fun _ => 0)
theorem p4i {post : tq_Nn → tq_St → Prop} {N : tq_Nn} {S : tq_St} {q : Nat} {y f p1 p2 p3 p4 p5 : Int32} (h1 : ¬ q < 1) (hq : q ≤ N 0 0) (hf : tq_fr N q) (r0 : q + 2 ≤ tq_CX) (r1 : N 0 1 + 10 ≤ tq_CY) (h : ∀ N1 S1, nP N S N1 S1 q p1 p2 p3 p4 p5 → post N1 (sk S1 y f)) : wpX4_init post (tq_na N (q + 1) 1 q 5 7) (sk (tq_cp S 1 q (fun _ => 0)) y f) q p1 p2 p3 p4 p5 := by
  unfold wpX4_init
  refine ⟨h1, tp_nae (by decide), tp_na0, by rw [tp_na0]; omega, by rw [tp_na1]; omega, tp_ae (tp_ae (tp_ae (tp_ae (tp_ae (tp_ae (tp_ae (tp_ae (tp_ae ?_))))))))⟩
  rw [sk_cp (by decide), sk_up (by decide), sk_up (by decide), sk_up (by decide), sk_up (by decide), sk_up (by decide), sk_up (by decide), sk_up (by decide), sk_cp (by decide), sk_k (show 1 ≠ 3 by decide), tp_na0]
  refine ⟨?_, h _ _ ⟨⟨(tp_mono_n1.tr tp_mono_na).tr tp_mono_pr, tp_pre (by decide), ?_, hf, by omega, hq, ?_, ?_, fun k i z => ?_⟩, ?_, ?_, ?_, ?_, ?_, ?_, ?_⟩⟩
  · simp (disch := decide) only [tq_upe, tq_upj]
    decide
  · rw [tp_prk (by decide) (by decide), tp_nae (by decide)]
  · rw [tp_prk (by decide) (by decide), tp_na0]
  · rw [tp_prk (by decide) (by decide), tp_na1, tp_na1]
  · have q1 : ¬ (k = 1 ∧ i = q) := fun z2 => z ⟨z2.2, Or.inl z2.1⟩
    have q10 : ¬ (k = 10 ∧ i = q) := fun z2 => z ⟨z2.2, Or.inr (Or.inl z2.1)⟩
    have q59 : ¬ (k = 59 ∧ i = q) := fun z2 => z ⟨z2.2, Or.inr (Or.inr z2.1)⟩
    simp only [tq_cp_out q10, tq_cp_out q59, tq_cp_out q1, tq_up_out q1]
  · simp (disch := decide) only [tq_cpe, tq_upe, tq_upj]
  · simp (disch := decide) only [tq_cpe, tq_upe, tq_upj]
  · simp (disch := decide) only [tq_cpe, tq_upe, tq_upj]
  · simp (disch := decide) only [tq_cpe, tq_upe, tq_upj]
  · simp (disch := decide) only [tq_cpe, tq_upe, tq_upj]
  · simp (disch := decide) only [tq_cpe, tq_upe, tq_upj]
  · rw [tq_cpk (by decide), tq_upk (by decide), tq_upk (by decide), tq_upk (by decide), tq_upk (by decide), tq_upk (by decide), tq_upk (by decide), tq_upk (by decide), tq_cpe]
theorem gF_P {N N1 : tq_Nn} {S S1 : tq_St} {q : Nat} {p1 p2 p3 p4 p5 : Int32} (h : nP N S N1 S1 q p1 p2 p3 p4 p5) : gF N N1 S S1 2 10 := by
  obtain ⟨⟨a1, a2, a3, a4, a5, a6, a7, a8, a9⟩, _⟩ := h
  refine ⟨a1, fun k i z1 z2 z3 => a9 k i ?_, ?_, by omega, by omega⟩
  · rintro ⟨rfl, y⟩
    rcases y with rfl | rfl | rfl
    · have := z2 rfl; omega
    · exact a4 10 (by decide) (z1 (by decide))
    · exact a4 59 (by decide) (z1 (by decide))
  · rw [a9 3 0 (fun z => by rcases z.2 with y | y | y <;> exact absurd y (by decide))]
def clP (n k q : Nat) (p : pP) (N : tq_Nn) (G : Nat → Nat → Nat → Nat) (C : Nat → Nat → Nat) (S : tq_St) : Prop :=
  N 10 q = 1 ∧ N 59 q = 1 ∧ S 10 q 0 = nI n ∧ S 10 q 1 = nI k ∧ S 10 q 2 = nI (acd p.1) ∧ S 10 q 3 = p.2.1 ∧ S 10 q 4 = p.2.2.1 ∧ S 10 q 5 = nI (acd p.1) * 4 + (if p.2.1 < 0 then 0 else p.2.1)
  ∧ tp_L N (S 59) (S 60) G C 59 60 11 q p.2.2.2.length ∧ ∀ j r, p.2.2.2[j]? = some r → clT S (G 59 q j) r
theorem clP_fr {n k q : Nat} {p : pP} {N N1 : tq_Nn} {G G1 : Nat → Nat → Nat → Nat} {C C1 : Nat → Nat → Nat} {S S1 : tq_St} (h : clP n k q p N G C S) (m : tp_mono N N1) (f : ∀ k i, k = 10 ∨ k = 11 ∨ k = 59 ∨ k = 60 → N k i = 1 → S1 k i = S k i) (hG : ∀ x, G1 59 q x = G 59 q x) (hC : C1 59 q = C 59 q) : clP n k q p N1 G1 C1 S1 := by
  obtain ⟨a1, a2, a3, a4, a5, a6, a7, a8, a9, a10⟩ := h
  have f10 := f 10 q (by decide) a1
  have f59 := f 59 q (by decide) a2
  unfold clP
  rw [f10]
  refine ⟨dyn_m m (by decide) a1, dyn_m m (by decide) a2, a3, a4, a5, a6, a7, a8, ?_, fun j r hr => ?_⟩
  · exact tp_L_fr0 a9 (by rw [f59]) (by rw [f59]) (fun z => f 60 _ (by decide) z) (fun j hj => dyn_m m (by decide) hj) (fun j hj => dyn_m m (by decide) hj) (fun j _ => hG j) hC
  · rw [hG j]
    have hj : j < p.2.2.2.length := by
      rw [List.getElem?_eq_some_iff] at hr
      exact hr.1
    exact clT_c (a10 j r hr) (f 11 _ (by decide) (a9.2 j hj).2.1)
/-- an order's paragraphs, so far -/
def orI (Z : tq_Nn) (Sz : tq_St) (n e : Nat) (R7 R50 R51 : Nat → Int32) (G0 : Nat → Nat → Nat → Nat) (C0 : Nat → Nat → Nat) (N : tq_Nn) (S : tq_St) (G : Nat → Nat → Nat → Nat) (C : Nat → Nat → Nat) (l : List pP) : Prop :=
  (gF Z N Sz S (4 + 11 * l.length) (22 + 84 * l.length) ∧ (N 7 e = 1 ∧ N 50 e = 1 ∧ N 51 e = 1 ∧ N 52 e = 1) ∧ (S 7 e = R7 ∧ S 50 e = R50 ∧ S 51 e = R51) ∧ R7 0 = nI n ∧ ¬ Z 52 e = 1)
  ∧ tp_L N (S 52) (S 53) G C 52 53 10 e l.length ∧ (C 52 e = 0 ∨ C 52 e = 10) ∧ (0 < S 52 e 1 → ¬ Z 53 (S 52 e 1).toNatClampNeg = 1) ∧ (∀ j p, l[j]? = some p → clP n j (G 52 e j) p N G C S)
  ∧ (∀ x y z, ¬ (x = 52 ∧ y = e) → (x = 59 → Z 59 y = 1) → G x y z = G0 x y z) ∧ (∀ x y, ¬ (x = 52 ∧ y = e) → (x = 59 → Z 59 y = 1) → C x y = C0 x y)
section
variable {Z : tq_Nn} {Sz : tq_St} {n e t : Nat} {tp : Nat → Int32} {R7 R50 R51 : Nat → Int32} {G0 : Nat → Nat → Nat → Nat} {C0 : Nat → Nat → Nat} {post : tq_Nn → tq_St → Prop}
theorem pa76D {N1 : tq_Nn} {S1 : tq_St} {y : Int32} {f q : Nat} (hf : f ≤ 120) (k : post N1 (sk S1 y (nI f))) : wbX6_readParagraph_76 post N1 (sk S1 y (nI f)) e q := by
  unfold wbX6_readParagraph_76 wbX6_readParagraph_93
  rw [sk_g3]
  exact tp_dT (nI_pos' (by omega)) k
/-- the paragraph goes into the order -/
theorem pa76 {N N1 : tq_Nn} {S S1 : tq_St} {G G1 : Nat → Nat → Nat → Nat} {C C1 : Nat → Nat → Nat} {l : List pP} {q : Nat} {y : Int32} {p : pP} (r0 : Z 0 0 + 150 ≤ tq_CX) (r1 : Z 0 1 + 8000 ≤ tq_CY) (hl : l.length < 6) (h : orI Z Sz n e R7 R50 R51 G0 C0 N S G C l) (g1 : gF N N1 S S1 10 74) (hfr : tq_fr N q) (hq : q ≤ N 0 0) (hP : clP n l.length q p N1 G1 C1 S1) (hG : ∀ x y z, ¬ (x = 59 ∧ y = q) → G1 x y z = G x y z) (hC : ∀ x y, ¬ (x = 59 ∧ y = q) → C1 x y = C x y) (k : ∀ N7 S8 G8 C8, orI Z Sz n e R7 R50 R51 G0 C0 N7 S8 G8 C8 (l ++ [p]) → post N7 (sk S8 y (-1))) : wbX6_readParagraph_76 post N1 (sk S1 y (-1)) e q := by
  obtain ⟨⟨g, ⟨n7, n50, n51, n52⟩, ⟨e7, e50, e51⟩, hn, hz⟩, hL, hCC, hd, hPP, hG0, hC0⟩ := h
  have zq : ¬ Z 59 q = 1 := fun z => hfr 59 (by decide) (dyn_m g.1 (by decide) z)
  have gz := g.tr g1
  have g4 := gz.2.2.2.1
  have g5 := gz.2.2.2.2
  have g4' := g.2.2.2.1
  have m52 : ∀ i, N 52 i = 1 → S1 52 i = S 52 i := fun i hi => g1.2.1 52 i (fun _ => hi) (fun z => absurd z (by decide)) (by decide)
  have f52 := m52 e n52
  have hL1 : tp_L N1 (sk S1 y (-1) 52) (sk S1 y (-1) 53) G1 C1 52 53 10 e l.length := by
    rw [sk_k (by decide), sk_k (by decide)]
    exact tp_L_fr0 hL (by rw [f52]) (by rw [f52]) (fun z => g1.2.1 53 _ (fun _ => z) (fun z => absurd z (by decide)) (by decide)) (fun j hj => dyn_m g1.1 (by decide) hj) (fun j hj => dyn_m g1.1 (by decide) hj) (fun j _ => hG 52 e j (fun z => absurd z.1 (by decide))) (hC 52 e (fun z => absurd z.1 (by decide)))
  have c52 : C1 52 e = 0 ∨ C1 52 e = 10 := by rw [hC 52 e (fun z => absurd z.1 (by decide))]; exact hCC
  unfold wbX6_readParagraph_76 wbX6_readParagraph_93
  rw [sk_g3]
  refine tp_dF (by decide) ⟨dyn_m g1.1 (by decide) n7, dyn_m g1.1 (by decide) n52, tp_L_aok hL1 (by omega) hP.1 (by omega) (by omega) (by omega), fun N7 S8 ha => ?_⟩
  obtain ⟨d, c1, c2, c3, c4, c5, c6, c7⟩ := ad10 hL1 (by omega) c52 ha hP.1 (by omega) (by decide) (by decide) (by decide) (by decide) (by decide)
  have s52 : sk S1 y (-1) 52 e = S 52 e := by rw [sk_k (by decide)]; exact f52
  obtain ⟨gB, zd⟩ := gF_add (gz.sk (y := y) (f := -1)) (by decide) (by decide) hz (by rw [s52]; exact hd) c2 c3 c4 c5 c6
  have i3 : S8 3 0 = sk S1 y (-1) 3 0 := c3 3 0 (fun z => absurd z.1 (by decide)) (fun z => absurd z.1 (by decide))
  have kk : ∀ k' i', k' ≠ 3 → k' ≠ 52 → k' ≠ 53 → S8 k' i' = S1 k' i' := fun k' i' z3 z1 z2 => by
    rw [c3 k' i' (fun z => z1 z.1) (fun z => z2 z.1), sk_k z3]
  have es : sk S8 y (-1) = S8 := sk_id (by rw [i3, sk_g2]) (by rw [i3, sk_g3])
  have len : (l ++ [p]).length = l.length + 1 := by simp
  have mm := g1.1.tr c2
  have k7 : ∀ k' , k' = 7 ∨ k' = 50 ∨ k' = 51 → N k' e = 1 → S8 k' e = S k' e := fun k' hk hn => by
    rw [kk k' e (by omega) (by omega) (by omega)]
    exact g1.2.1 k' e (fun _ => hn) (by omega) (by omega)
  rw [← es]
  refine k N7 S8 (tp_G G1 52 e l.length q) (tp_C C1 52 e 10) ⟨⟨?_, ⟨dyn_m mm (by decide) n7, dyn_m mm (by decide) n50, dyn_m mm (by decide) n51, dyn_m mm (by decide) n52⟩, ⟨(k7 7 (by decide) n7).trans e7, (k7 50 (by decide) n50).trans e50, (k7 51 (by decide) n51).trans e51⟩, hn, hz⟩, by rw [len]; exact c1, Or.inr (by simp [tp_C]), fun _ => by rw [c7]; exact zd, fun j x hx => ?_, fun x y' z h1 h2 => ?_, fun x y' h1 h2 => ?_⟩
  · rw [len]; exact gB.wk (by omega) (by omega)
  · by_cases hj : j < l.length
    · rw [List.getElem?_append_left hj] at hx
      have ej : tp_G G1 52 e l.length q 52 e j = G 52 e j := by
        have : ¬ j = l.length := by omega
        simp [tp_G, this]
        exact hG 52 e j (fun z => absurd z.1 (by decide))
      rw [ej]
      have old := hPP j x hx
      have hne : G 52 e j ≠ q := fun z => hfr 10 (by decide) (by rw [← z]; exact old.1)
      refine clP_fr old mm (fun k' i' hk' hn' => ?_) (fun x => ?_) ?_
      · rw [kk k' i' (by omega) (by omega) (by omega)]
        exact g1.2.1 k' i' (fun _ => hn') (by omega) (by omega)
      · simp [tp_G]
        exact hG 59 _ x (fun z => hne z.2)
      · simp [tp_C]
        exact hC 59 _ (fun z => hne z.2)
    · have hj2 : j = l.length := by
        rw [List.getElem?_eq_some_iff] at hx
        obtain ⟨h1, _⟩ := hx
        rw [len] at h1; omega
      subst hj2
      have : p = x := by simpa using hx
      subst this
      have ej : tp_G G1 52 e l.length q 52 e l.length = q := by simp [tp_G]
      rw [ej]
      exact clP_fr hP c2 (fun k' i' hk' hn' => kk k' i' (by omega) (by omega) (by omega)) (fun x => by simp [tp_G]) (by simp [tp_C])
  · rw [← hG0 x y' z h1 h2, ← hG x y' z (fun w => zq (by rw [← w.2]; exact h2 w.1))]
    unfold tp_G
    rw [if_neg (fun w => h1 ⟨w.1, w.2.1⟩)]
  · rw [← hC0 x y' h1 h2, ← hC x y' (fun w => zq (by rw [← w.2]; exact h2 w.1))]
    unfold tp_C
    rw [if_neg h1]
theorem pa34D {N : tq_Nn} {S : tq_St} {y x2 x3 x4 : Int32} {f : Nat} (hf : f ≤ 120) (n7 : N 7 e = 1) (r0 : N 0 0 + 2 ≤ tq_CX) (r1 : N 0 1 + 10 ≤ tq_CY) (kb : ∀ N1 S1, gF N N1 S S1 10 74 → post N1 (sk S1 y (nI f))) : wbX6_readParagraph_34 post N (sk S y (nI f)) e x2 x3 x4 := by
  unfold wbX6_readParagraph_34
  refine ⟨by omega, by omega, fun q q1 q2 q3 => tp_ae (tp_ae ⟨?_, ?_⟩)⟩
  · rw [tp_nak (by decide) (by decide)]; exact n7
  · rw [sk_cp (by decide)]
    refine nuD hf (p4i q1 q2 q3 (by omega) (by omega) (fun N1 S1 hP => ?_))
    exact tkD hf (tp_dT rfl (pa76D hf (kb N1 S1 ((gF_P hP).wk (by decide) (by decide)))))
theorem pa34 {N : tq_Nn} {S : tq_St} {G : Nat → Nat → Nat → Nat} {C : Nat → Nat → Nat} {l : List pP} {x x0 a : Nat} {s : Int32} (r0 : Z 0 0 + 150 ≤ tq_CX) (r1 : Z 0 1 + 8000 ≤ tq_CY) (h1 : Sz 3 0 1 = nI t) (h41 : Sz 41 0 = tp) (ht : t ≤ 120) (hl : l.length < 6) (hx : x ≤ t) (h : orI Z Sz n e R7 R50 R51 G0 C0 N S G C l)
    (eh : phd (ph tp t) x0 = match pnu (ph tp t) x with
      | .error f => .error f
      | .ok (u, v) => .ok (u, a, s, v))
    (ka : ∀ N1 S1 G1 C1 y p, ppa (ph tp t) x0 = .ok (y, p) → y ≤ t → orI Z Sz n e R7 R50 R51 G0 C0 N1 S1 G1 C1 (l ++ [p]) → post N1 (sk S1 (nI y) (-1)))
    (kb : ∀ N1 S1 f, ppa (ph tp t) x0 = .error f → f ≤ t → gF N N1 S S1 10 74 → post N1 (sk S1 (nI f) (nI f))) : wbX6_readParagraph_34 post N (sk S (nI x) (-1)) e (nI l.length) (nI (acd a)) s := by
  obtain ⟨⟨g, ⟨n7, n50, n51, n52⟩, ⟨e7, e50, e51⟩, hn, hz⟩, hrest⟩ := id h
  have g4 := g.2.2.2.1
  have g5 := g.2.2.2.2
  have s1 : S 3 0 1 = nI t := g.2.2.1.trans h1
  have s41 : S 41 0 = tp := (g.2.1 41 0 (fun z => absurd z (by decide)) (fun z => absurd z (by decide)) (by decide)).trans h41
  unfold ppa at ka kb
  unfold wbX6_readParagraph_34
  refine ⟨by omega, by omega, fun q q1 q2 q3 => tp_ae (tp_ae ⟨?_, ?_⟩)⟩
  · rw [tp_nak (by decide) (by decide)]; exact n7
  · have s70 : (tq_cp (sk S (nI x) (-1)) 1 q (fun _ => 0)) 7 e 0 = nI n := by
      rw [tq_cpk (by decide), sk_k (by decide), e7]; exact hn
    rw [s70, sk_cp (by decide)]
    refine nuS (tp := tp) (t := t) (by rw [tq_cpk (by decide)]; exact s1) (by rw [tq_cpk (by decide)]; exact s41) ht hx (fun y v ev hy => ?_) (fun ev => ?_)
    · rw [ev] at eh
      simp only at eh
      rw [eh] at ka kb
      simp only at ka kb
      refine p4i q1 q2 q3 (by omega) (by omega) (fun N1 S1 hP => ?_)
      have gP := gF_P hP
      obtain ⟨⟨a1, a2, a3, a4, a5, a6, a7, a8, a9⟩, v0, v1, v2, v3, v4, v5, v59⟩ := hP
      have u1 : S1 3 0 1 = nI t := gP.2.2.1.trans s1
      have u41 : S1 41 0 = tp := (gP.2.1 41 0 (fun z => absurd z (by decide)) (fun z => absurd z (by decide)) (by decide)).trans s41
      have L0 : tp_L N1 (S1 59) (S1 60) G (tp_C C 59 q 0) 59 60 11 q 0 := by
        refine ⟨⟨?_, Nat.zero_le _, ?_, Or.inl ⟨?_, ?_⟩⟩, fun j hj => absurd hj (by omega)⟩
        · rw [v59]; rfl
        · simp [tp_C]
        · rw [v59]
        · simp [tp_C]
      have ghC : ∀ x y, ¬ (x = 59 ∧ y = q) → tp_C C 59 q 0 x y = C x y := fun x y hn => by
        unfold tp_C; rw [if_neg hn]
      have hP0 : ∀ (p : pP), p = (a, s, v, []) → clP n l.length q p N1 G (tp_C C 59 q 0) S1 := by
        rintro p rfl
        exact ⟨a2, a3, v0, v1, v2, v3, v4, v5, L0, fun j r hr => by simp at hr⟩
      refine tkS (tp := tp) u1 u41 ht hy (by decide) (fun z zx => ?_) (fun z => ?_)
      · rw [if_pos z] at ka kb
        refine tp_dF (by decide) (exS (tp := tp) u1 u41 ht (by decide) (by omega) (fun y2 e2 hy2 => ?_) (fun f e2 hf => ?_))
        · rw [e2] at ka kb
          simp only at ka kb
          have I0 : rtI N S q (S1 10 q) G (tp_C C 59 q 0) N1 S1 G (tp_C C 59 q 0) [] := ⟨⟨gP, a2, a3, rfl, a4 59 (by decide)⟩, L0, Or.inl (by simp [tp_C]), fun z => by rw [v59] at z; exact absurd z (by decide), fun j r hr => by simp at hr, fun _ _ _ _ => rfl, fun _ _ _ => rfl⟩
          refine ⟨4, rtS (t := t) (by omega) (by omega) s1 s41 ht 4 0 y2 N1 S1 G (tp_C C 59 q 0) [] (by decide) (by decide) (Or.inl rfl) hy2 I0 (fun N9 S9 G9 C9 y9 l9 e9 hy9 h9 => ?_) (fun N9 S9 f e9 hf h9 => ?_)⟩
          · rw [e9] at ka
            rw [List.nil_append] at h9
            obtain ⟨⟨i1, i2, i3, i4, i5⟩, i6, i7, i8, i9, i10, i11⟩ := h9
            have pl := pts_len 4 0 y2 y9 l9 e9
            refine pa76 (p := (a, s, v, l9)) r0 r1 hl h (i1.wk (by omega) (by omega)) q3 q2 ?_ i10 (fun x y hn => (i11 x y hn).trans (ghC x y hn)) (fun N7 S8 G8 C8 h8 => ka N7 S8 G8 C8 y9 _ rfl hy9 h8)
            refine ⟨i2, i3, ?_, ?_, ?_, ?_, ?_, ?_, i6, i9⟩
            · rw [i4]; exact v0
            · rw [i4]; exact v1
            · rw [i4]; exact v2
            · rw [i4]; exact v3
            · rw [i4]; exact v4
            · rw [i4]; exact v5
          · rw [e9] at kb
            exact pa76D (by omega) (kb N9 S9 f rfl hf h9)
        · rw [e2] at kb
          have I0 : rtI N S q (S1 10 q) G (tp_C C 59 q 0) N1 S1 G (tp_C C 59 q 0) [] := ⟨⟨gP, a2, a3, rfl, a4 59 (by decide)⟩, L0, Or.inl (by simp [tp_C]), fun z => by rw [v59] at z; exact absurd z (by decide), fun j r hr => by simp at hr, fun _ _ _ _ => rfl, fun _ _ _ => rfl⟩
          refine ⟨1, rtD (l := []) (by omega) (by omega) (by omega) (Or.inl rfl) (by decide) I0 (fun N9 S9 h9 => ?_)⟩
          exact pa76D (by omega) (kb N9 S9 f rfl hf h9)
      · rw [if_neg z] at ka
        refine tp_dT rfl (pa76 (p := (a, s, v, [])) r0 r1 hl h (gP.wk (by decide) (by decide)) q3 q2 (hP0 _ rfl) (fun _ _ _ _ => rfl) ghC (fun N7 S8 G8 C8 h8 => ka N7 S8 G8 C8 y _ rfl hy h8))
    · rw [ev] at eh
      simp only at eh
      rw [eh] at kb
      refine p4i q1 q2 q3 (by omega) (by omega) (fun N1 S1 hP => ?_)
      exact tkD (by omega) (tp_dT rfl (pa76D (by omega) (kb N1 S1 x rfl hx ((gF_P hP).wk (by decide) (by decide)))))
end
