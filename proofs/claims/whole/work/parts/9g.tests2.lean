/-! pure: what is new only -/
def gF (N N1 : tq_Nn) (S S1 : tq_St) (a b : Nat) : Prop := tp_mono N N1 ∧ (∀ k i : Nat, (k ∈ tq_dyn → N k i = 1) → (k = 1 → i = 0) → k ≠ 3 → S1 k i = S k i) ∧ S1 3 0 1 = S 3 0 1 ∧ N1 0 0 ≤ N 0 0 + a ∧ (N1 0 1 ≤ N 0 1 + b ∧ (1 ≤ N 0 0 → 1 ≤ N1 0 0))
theorem dyn_m {N N1 : tq_Nn} (h : tp_mono N N1) {k i : Nat} (hk : k ∈ tq_dyn) (hn : N k i = 1) : N1 k i = 1 := h k i (fun z => absurd hk (by subst z; decide)) (fun z => absurd hk (by subst z; decide)) (fun z => absurd hk (by subst z; decide)) hn
theorem gF.rf {N : tq_Nn} {S : tq_St} : gF N N S S 0 0 := ⟨tp_mono.rf, fun _ _ _ _ _ => rfl, rfl, Nat.le_refl _, Nat.le_refl _, id⟩
theorem gF.tr {N N1 N2 : tq_Nn} {S S1 S2 : tq_St} {a b c d : Nat} (h : gF N N1 S S1 a b) (h2 : gF N1 N2 S1 S2 c d) : gF N N2 S S2 (a + c) (b + d) := by
  obtain ⟨a1, a2, a3, a4, a5⟩ := h
  obtain ⟨b1, b2, b3, b4, b5⟩ := h2
  exact ⟨a1.tr b1, fun k i z1 z2 z3 => (b2 k i (fun y => dyn_m a1 y (z1 y)) z2 z3).trans (a2 k i z1 z2 z3), b3.trans a3, by omega, by omega⟩
theorem gF.wk {N N1 : tq_Nn} {S S1 : tq_St} {a b c d : Nat} (h : gF N N1 S S1 a b) (h1 : a ≤ c) (h2 : b ≤ d) : gF N N1 S S1 c d := by
  obtain ⟨a1, a2, a3, a4, a5⟩ := h
  exact ⟨a1, a2, a3, by omega, by omega⟩
theorem gF.sk {N N1 : tq_Nn} {S S1 : tq_St} {a b : Nat} {y f : Int32} (h : gF N N1 S S1 a b) : gF N N1 S (sk S1 y f) a b := by
  obtain ⟨a1, a2, a3, a4, a5⟩ := h
  exact ⟨a1, fun k i z1 z2 z3 => by rw [sk_k z3]; exact a2 k i z1 z2 z3, by rw [sk_g1]; exact a3, a4, a5⟩
theorem gF_T {N N1 : tq_Nn} {S S1 : tq_St} {q : Nat} {p1 p2 p3 p4 p5 p6 : Int32} (h : nT N S N1 S1 q p1 p2 p3 p4 p5 p6) : gF N N1 S S1 1 6 := by
  obtain ⟨⟨a1, a2, a3, a4, a5, a6, a7, a8⟩, _⟩ := h
  refine ⟨a1, fun k i z1 z2 z3 => a8 k i ?_, ?_, by omega, by omega⟩
  · rintro ⟨rfl, y⟩
    rcases y with rfl | rfl
    · have := z2 rfl; omega
    · exact a3 11 (by decide) (z1 (by decide))
  · rw [a8 3 0 (fun z => by rcases z.2 with y | y <;> exact absurd y (by decide))]
theorem ad10 {N N1 : tq_Nn} {S S1 : tq_St} {G : Nat → Nat → Nat → Nat} {C : Nat → Nat → Nat} {kl kd ek i n v : Nat} (h : tp_L N (S kl) (S kd) G C kl kd ek i n) (hn : n < 10) (hC : C kl i = 0 ∨ C kl i = 10) (ha : tq_added N S kl kd i v N1 S1) (hv : N ek v = 1) (hv2 : v ≤ tq_CX) (hdy : kd ∈ tq_dyn) (hd0 : kd ≠ 0) (he0 : ek ≠ 0) (he1 : ek ≠ 1) (he2 : ek ≠ 12) :
    ∃ d : Nat, tp_L N1 (S1 kl) (S1 kd) (tp_G G kl i n v) (tp_C C kl i 10) kl kd ek i (n + 1) ∧ tp_mono N N1 ∧ (∀ k' i' : Nat, ¬ (k' = kl ∧ i' = i) → ¬ (k' = kd ∧ i' = d) → S1 k' i' = S k' i') ∧ (N kd d = 1 → (S kl i 1).toNatClampNeg = d ∧ 0 < S kl i 1) ∧ N1 0 0 ≤ N 0 0 + 1 ∧ (N1 0 1 ≤ N 0 1 + 10 ∧ (1 ≤ N 0 0 → 1 ≤ N1 0 0)) ∧ (S1 kl i 1).toNatClampNeg = d := by
  obtain ⟨c1, d, g1, g2, g3, g4, g5, g6, g7, g8, g9, g10, g11, g12⟩ := tp_L_add h ha hv hv2 hdy hd0 he0 he1 he2
  obtain ⟨n', c, c2, b1, b2, b3, b4, b5, b6⟩ := ha
  obtain ⟨e1, e2⟩ := tp_lst_inj h.1 b1
  subst e1
  have e3 : tp_C C kl i c1 kl i = c1 := by simp [tp_C]
  have e4 := (tp_lst_inj b2 g1.1).2
  rw [e3] at e4
  have e5 : c1 = 10 ∧ N1 0 0 ≤ N 0 0 + 1 ∧ (N1 0 1 ≤ N 0 1 + 10 ∧ (1 ≤ N 0 0 → 1 ≤ N1 0 0)) := by
    rcases b6 with ⟨r1, r2, r3, r4⟩ | ⟨r1, r2, r3, r4, r5⟩
    · rw [r1]
      exact ⟨by omega, by omega, by omega⟩
    · have c0 : c = 0 := by omega
      have k10 : tq_cap 0 = 10 := by decide
      rw [c0, k10] at r2
      rw [r5, tp_na0, tp_na1]
      exact ⟨by omega, by omega, by omega⟩
  obtain ⟨e6, e7, e8⟩ := e5
  subst e6
  exact ⟨d, g1, g2, g3, g4, e7, e8, g11⟩
theorem gF_add {Z N N1 : tq_Nn} {Sz S S1 : tq_St} {a b kl kd i d : Nat} (g : gF Z N Sz S a b) (hl : kl ∈ tq_dyn) (hk : kd ∈ tq_dyn) (hz : ¬ Z kl i = 1) (hd : 0 < S kl i 1 → ¬ Z kd (S kl i 1).toNatClampNeg = 1) (m : tp_mono N N1) (f : ∀ k' i' : Nat, ¬ (k' = kl ∧ i' = i) → ¬ (k' = kd ∧ i' = d) → S1 k' i' = S k' i') (o : N kd d = 1 → (S kl i 1).toNatClampNeg = d ∧ 0 < S kl i 1) (r0 : N1 0 0 ≤ N 0 0 + 1) (r1 : N1 0 1 ≤ N 0 1 + 10 ∧ (1 ≤ N 0 0 → 1 ≤ N1 0 0)) : gF Z N1 Sz S1 (a + 1) (b + 10) ∧ ¬ Z kd d = 1 := by
  obtain ⟨a1, a2, a3, a4, a5⟩ := g
  have zd : ¬ Z kd d = 1 := fun z => by
    obtain ⟨y1, y2⟩ := o (dyn_m a1 hk z)
    rw [← y1] at z
    exact hd y2 z
  refine ⟨⟨a1.tr m, fun k i' z1 z2 z3 => ?_, ?_, by omega, by omega⟩, zd⟩
  · rw [f k i' (fun y => hz (by rw [← y.1, ← y.2]; exact z1 (by rw [y.1]; exact hl))) (fun y => zd (by rw [← y.1, ← y.2]; exact z1 (by rw [y.1]; exact hk)))]
    exact a2 k i' z1 z2 z3
  · rw [f 3 0 (fun y => absurd hl (by rw [← y.1]; decide)) (fun y => absurd hk (by rw [← y.1]; decide))]
    exact a3
def clT (S : tq_St) (q : Nat) (r : pT) : Prop := S 11 q 0 = r.2.2.2.2.2 ∧ S 11 q 1 = r.1 ∧ S 11 q 2 = nI r.2.1 ∧ S 11 q 3 = r.2.2.1 ∧ S 11 q 4 = r.2.2.2.1 - 61 ∧ S 11 q 5 = r.2.2.2.2.1
theorem clT_c {S S1 : tq_St} {q : Nat} {r : pT} (h : clT S q r) (e : S1 11 q = S 11 q) : clT S1 q r := by
  unfold clT at h ⊢
  rw [e]; exact h
/-- a test more -/
theorem rtAdd {Z N N1 : tq_Nn} {Sz S S1 : tq_St} {G : Nat → Nat → Nat → Nat} {C : Nat → Nat → Nat} {a b q k r : Nat} {y f p1 p2 p3 p4 p5 p6 : Int32} (g : gF Z N Sz S a b) (n59 : N 59 q = 1) (hL : tp_L N (S 59) (S 60) G C 59 60 11 q k) (hk : k < 10) (hC : C 59 q = 0 ∨ C 59 q = 10) (hd : 0 < S 59 q 1 → ¬ Z 60 (S 59 q 1).toNatClampNeg = 1) (hz : ¬ Z 59 q = 1) (hT : nT N S N1 S1 r p1 p2 p3 p4 p5 p6) (r0 : N 0 0 + 2 ≤ tq_CX) (r1 : N 0 1 + 4100 ≤ tq_CY) :
    N1 59 q = 1 ∧ tq_aok N1 (sk S1 y f) 59 60 11 q r ∧ ∀ N7 S8, tq_added N1 (sk S1 y f) 59 60 q r N7 S8 → sk S8 y f = S8 ∧ gF Z N7 Sz S8 (a + 2) (b + 16) ∧ tp_L N7 (S8 59) (S8 60) (tp_G G 59 q k r) (tp_C C 59 q 10) 59 60 11 q (k + 1) ∧ (¬ Z 60 (S8 59 q 1).toNatClampNeg = 1) ∧ (∀ k' i', k' ≠ 3 → k' ≠ 59 → k' ≠ 60 → ¬ (i' = r ∧ (k' = 1 ∨ k' = 11)) → S8 k' i' = S k' i') ∧ (S8 11 r 0 = p1 ∧ S8 11 r 1 = p2 ∧ S8 11 r 2 = p3 ∧ S8 11 r 3 = p4 ∧ S8 11 r 4 = p5 ∧ S8 11 r 5 = p6) ∧ tp_mono N N7 := by
  have gT := gF_T hT
  obtain ⟨⟨a1, a2, a3, a4, a5, a6, a7, a8⟩, v1, v2, v3, v4, v5, v6⟩ := hT
  have f8 : ∀ k, k ≠ 1 → k ≠ 11 → S1 k = S k := fun k z1 z2 => funext (fun i => a8 k i (fun z => z.2.elim z1 z2))
  have hL1 : tp_L N1 (sk S1 y f 59) (sk S1 y f 60) G C 59 60 11 q k := by
    rw [sk_k (by decide), sk_k (by decide), f8 59 (by decide) (by decide), f8 60 (by decide) (by decide)]
    exact tp_L_fr0 hL rfl rfl (fun _ => rfl) (fun j hj => a1 60 j (by decide) (by decide) (by decide) hj) (fun j hj => a1 11 j (by decide) (by decide) (by decide) hj) (fun _ _ => rfl) rfl
  refine ⟨a1 59 q (by decide) (by decide) (by decide) n59, tp_L_aok hL1 (by omega) a2 (by omega) (by omega) (by omega), fun N7 S8 ha => ?_⟩
  obtain ⟨d, g1, g2, g3, g4, g5, g6, g7⟩ := ad10 hL1 hk hC ha a2 (by omega) (by decide) (by decide) (by decide) (by decide) (by decide)
  have gA := (g.tr gT).sk (y := y) (f := f)
  have s59 : sk S1 y f 59 = S 59 := by rw [sk_k (by decide), f8 59 (by decide) (by decide)]
  obtain ⟨gB, zd⟩ := gF_add gA (by decide) (by decide) hz (by rw [s59]; exact hd) g2 g3 g4 g5 g6
  have i3 : S8 3 0 = sk S1 y f 3 0 := g3 3 0 (fun z => absurd z.1 (by decide)) (fun z => absurd z.1 (by decide))
  have k11 : ∀ k' i', k' ≠ 3 → k' ≠ 59 → k' ≠ 60 → S8 k' i' = S1 k' i' := fun k' i' z3 z1 z2 => by
    rw [g3 k' i' (fun z => z1 z.1) (fun z => z2 z.1), sk_k z3]
  refine ⟨sk_id (by rw [i3, sk_g2]) (by rw [i3, sk_g3]), gB, g1, by rw [g7]; exact zd, fun k' i' z3 z1 z2 z => by rw [k11 k' i' z3 z1 z2]; exact a8 k' i' z, ?_, a1.tr g2⟩
  rw [k11 11 r (by decide) (by decide) (by decide)]
  exact ⟨v1, v2, v3, v4, v5, v6⟩
/-- a paragraph's tests, so far -/
def rtI (Z : tq_Nn) (Sz : tq_St) (q : Nat) (R : Nat → Int32) (G0 : Nat → Nat → Nat → Nat) (C0 : Nat → Nat → Nat) (N : tq_Nn) (S : tq_St) (G : Nat → Nat → Nat → Nat) (C : Nat → Nat → Nat) (l : List pT) : Prop :=
  (gF Z N Sz S (2 + 2 * l.length) (10 + 16 * l.length) ∧ N 10 q = 1 ∧ N 59 q = 1 ∧ S 10 q = R ∧ ¬ Z 59 q = 1)
  ∧ tp_L N (S 59) (S 60) G C 59 60 11 q l.length ∧ (C 59 q = 0 ∨ C 59 q = 10) ∧ (0 < S 59 q 1 → ¬ Z 60 (S 59 q 1).toNatClampNeg = 1) ∧ (∀ j r, l[j]? = some r → clT S (G 59 q j) r)
  ∧ (∀ x y z, ¬ (x = 59 ∧ y = q) → G x y z = G0 x y z) ∧ (∀ x y, ¬ (x = 59 ∧ y = q) → C x y = C0 x y)
theorem rtI_add {Z N N1 : tq_Nn} {Sz S S1 : tq_St} {q r : Nat} {R : Nat → Int32} {G0 G : Nat → Nat → Nat → Nat} {C0 C : Nat → Nat → Nat} {l : List pT} {y f p1 p2 p3 p4 p5 p6 : Int32} (h : rtI Z Sz q R G0 C0 N S G C l) (hl : l.length < 4) (r0 : Z 0 0 + 50 ≤ tq_CX) (r1 : Z 0 1 + 5000 ≤ tq_CY) (hT : nT N S N1 S1 r p1 p2 p3 p4 p5 p6) :
    N1 59 q = 1 ∧ tq_aok N1 (sk S1 y f) 59 60 11 q r ∧ ∀ N7 S8, tq_added N1 (sk S1 y f) 59 60 q r N7 S8 → sk S8 y f = S8 ∧ gF Z N7 Sz S8 10 74 ∧ ∀ r' : pT, p1 = r'.2.2.2.2.2 → p2 = r'.1 → p3 = nI r'.2.1 → p4 = r'.2.2.1 → p5 = r'.2.2.2.1 - 61 → p6 = r'.2.2.2.2.1 → rtI Z Sz q R G0 C0 N7 S8 (tp_G G 59 q l.length r) (tp_C C 59 q 10) (l ++ [r']) := by
  obtain ⟨⟨g, n10, n59, hR, hz⟩, hL, hC, hd, hT0, hG, hCC⟩ := h
  have fr := hT.1.2.2.1
  have g4 := g.2.2.2.1
  have g5 := g.2.2.2.2
  obtain ⟨b1, b2, b3⟩ := rtAdd (y := y) (f := f) g n59 hL (by omega) hC hd hz hT (by omega) (by omega)
  refine ⟨b1, b2, fun N7 S8 ha => ?_⟩
  obtain ⟨c1, c2, c3, c4, c5, c6, c7⟩ := b3 N7 S8 ha
  refine ⟨c1, c2.wk (by omega) (by omega), fun r' e1 e2 e3 e4 e5 e6 => ?_⟩
  have len : (l ++ [r']).length = l.length + 1 := by simp
  refine ⟨⟨by rw [len]; exact c2.wk (by omega) (by omega), dyn_m c7 (by decide) n10, dyn_m c7 (by decide) n59, ?_, hz⟩, by rw [len]; exact c3, Or.inr (by simp [tp_C]), fun _ => c4, fun j x hx => ?_, fun x y' z hn => ?_, fun x y' hn => ?_⟩
  · rw [c5 10 q (by decide) (by decide) (by decide) (fun z => by rcases z.2 with y | y <;> exact absurd y (by decide))]; exact hR
  · by_cases hj : j < l.length
    · rw [List.getElem?_append_left hj] at hx
      have e : tp_G G 59 q l.length r 59 q j = G 59 q j := by simp [tp_G, Nat.ne_of_lt hj]
      rw [e]
      refine clT_c (hT0 j x hx) (c5 11 _ (by decide) (by decide) (by decide) (fun z => ?_))
      have := (hL.2 j hj).2.1
      rw [z.1] at this
      exact fr 11 (by decide) this
    · have hj2 : j = l.length := by
        rw [List.getElem?_eq_some_iff] at hx
        obtain ⟨h1, _⟩ := hx
        rw [len] at h1; omega
      subst hj2
      have : r' = x := by simpa using hx
      subst this
      have e : tp_G G 59 q l.length r 59 q l.length = r := by simp [tp_G]
      rw [e]
      obtain ⟨d1, d2, d3, d4, d5, d6⟩ := c6
      exact ⟨d1.trans e1, d2.trans e2, d3.trans e3, d4.trans e4, d5.trans e5, d6.trans e6⟩
  · rw [← hG x y' z hn]
    unfold tp_G
    rw [if_neg (fun z => hn ⟨z.1, z.2.1⟩)]
  · rw [← hCC x y' hn]
    unfold tp_C
    rw [if_neg hn]
section
variable {Z : tq_Nn} {Sz : tq_St} {q t : Nat} {tp : Nat → Int32} {R : Nat → Int32} {G0 : Nat → Nat → Nat → Nat} {C0 : Nat → Nat → Nat} {post : tq_Nn → tq_St → Prop}
theorem rtD {N : tq_Nn} {S : tq_St} {G : Nat → Nat → Nat → Nat} {C : Nat → Nat → Nat} {l : List pT} {m f : Nat} {y o : Int32} (r0 : Z 0 0 + 50 ≤ tq_CX) (r1 : Z 0 1 + 5000 ≤ tq_CY) (hf : f ≤ 120) (ho : bl o) (hl : l.length < 4) (h : rtI Z Sz q R G0 C0 N S G C l) (kb : ∀ N1 S1, gF Z N1 Sz S1 10 74 → post N1 (sk S1 y (nI f))) : wbX6_readTests_4 post (m + 1) N (sk S y (nI f)) q o (nI l.length) := by
  have g4 := h.1.1.2.2.2.1
  have g5 := h.1.1.2.2.2.2
  unfold wbX6_readTests_4 wbX6_readTests_67 wbX6_readTests_58
  refine tp_dF (show ¬ nI 4 ≤ nI l.length from nI_ge hl (by decide)) ⟨h.1.2.1, teD hf ho (by omega) (by omega) (fun N1 S1 r p1 p2 p3 p4 p5 p6 hT => ?_)⟩
  obtain ⟨b1, b2, b3⟩ := rtI_add (y := y) (f := nI f) h hl r0 r1 hT
  refine ⟨b1, b2, fun N7 S8 ha => ?_⟩
  obtain ⟨c1, c2, c3⟩ := b3 N7 S8 ha
  have k := kb N7 S8 c2
  rw [c1] at k
  by_cases q3 : nI l.length = 3
  · exact tp_dT q3 k
  · refine tp_dF q3 ?_
    rw [← c1]
    rw [← c1] at k
    exact tkD hf (tp_cT rfl k)
theorem rtS (r0 : Z 0 0 + 50 ≤ tq_CX) (r1 : Z 0 1 + 5000 ≤ tq_CY) (h1 : Sz 3 0 1 = nI t) (h41 : Sz 41 0 = tp) (ht : t ≤ 120) : ∀ (m : Nat) (o : Int32) (x : Nat) (N : tq_Nn) (S : tq_St) (G : Nat → Nat → Nat → Nat) (C : Nat → Nat → Nat) (l : List pT), l.length + m = 4 → 1 ≤ m → bl o → x ≤ t → rtI Z Sz q R G0 C0 N S G C l →
    (∀ N1 S1 G1 C1 y l', pts (ph tp t) m o x = .ok (y, l') → y ≤ t → rtI Z Sz q R G0 C0 N1 S1 G1 C1 (l ++ l') → post N1 (sk S1 (nI y) (-1))) →
    (∀ N1 S1 f, pts (ph tp t) m o x = .error f → f ≤ t → gF Z N1 Sz S1 10 74 → post N1 (sk S1 (nI f) (nI f))) → wbX6_readTests_4 post m N (sk S (nI x) (-1)) q o (nI l.length)
  | 0, o, x, N, S, G, C, l, hk, hm, ho, hx, hI, ka, kb => absurd hm (by decide)
  | m + 1, o, x, N, S, G, C, l, hk, hm, ho, hx, hI, ka, kb => by
    have g4 := hI.1.1.2.2.2.1
    have g5 := hI.1.1.2.2.2.2
    have s1 : S 3 0 1 = nI t := hI.1.1.2.2.1.trans h1
    have s41 : S 41 0 = tp := (hI.1.1.2.1 41 0 (fun z => absurd z (by decide)) (fun z => absurd z (by decide)) (by decide)).trans h41
    unfold wbX6_readTests_4 wbX6_readTests_67 wbX6_readTests_58
    unfold pts at ka kb
    refine tp_dF (show ¬ nI 4 ≤ nI l.length from nI_ge (by omega) (by decide)) ⟨hI.1.2.1, teS s1 s41 ht hx ho (by omega) (by omega) (fun N1 S1 r y rr e hy hT => ?_) (fun N1 S1 r p1 p2 p3 p4 p5 p6 f e hf hT => ?_)⟩
    · rw [e] at ka kb
      simp only at ka kb
      obtain ⟨b1, b2, b3⟩ := rtI_add (y := nI y) (f := -1) hI (by omega) r0 r1 hT
      refine ⟨b1, b2, fun N7 S8 ha => ?_⟩
      obtain ⟨c1, c2, c3⟩ := b3 N7 S8 ha
      have c4 := c3 rr rfl rfl rfl rfl rfl rfl
      have u1 : S8 3 0 1 = nI t := c2.2.2.1.trans h1
      have u41 : S8 41 0 = tp := (c2.2.1 41 0 (fun z => absurd z (by decide)) (fun z => absurd z (by decide)) (by decide)).trans h41
      have len : (l ++ [rr]).length = l.length + 1 := by simp
      by_cases q3 : m = 0
      · have q4 : l.length = 3 := by omega
        rw [if_pos (Or.inl q3)] at ka
        have := ka N7 S8 _ _ y [rr] rfl hy c4
        rw [c1] at this
        exact tp_dT (by rw [q4]; rfl) this
      · refine tp_dF (fun z => by
          have := (nI_eq (a := l.length) (b := 3) (by omega) (by omega)).mp z
          omega) ?_
        rw [← c1]
        refine tkS u1 u41 ht hy (by decide) (fun z zx => ?_) (fun z => ?_)
        · rw [if_neg (fun w => w.elim q3 (fun w => w z))] at ka kb
          refine tp_cF (by decide) (tkS u1 u41 ht (by omega) (by decide) (fun z2 zx2 => ?_) (fun z2 => ?_))
          · rw [if_pos z2] at ka kb
            refine tp_dF (by decide) (exS u1 u41 ht (by decide) (by omega) (fun y3 e3 hy3 => ?_) (fun f e3 hf => ?_))
            · rw [show y + 1 + 1 = y + 2 by omega] at e3
              rw [e3] at ka kb
              simp only at ka kb
              rw [nI_1, ← len]
              refine rtS r0 r1 h1 h41 ht m 1 y3 N7 S8 _ _ (l ++ [rr]) (by rw [len]; omega) (by omega) (Or.inr rfl) hy3 c4 (fun N9 S9 G9 C9 y9 l9 e9 hy9 h9 => ?_) (fun N9 S9 f e9 hf h9 => ?_)
              · rw [e9] at ka
                rw [List.append_assoc] at h9
                exact ka N9 S9 G9 C9 y9 (rr :: l9) rfl hy9 h9
              · rw [e9] at kb
                exact kb N9 S9 f rfl hf h9
            · rw [show y + 1 + 1 = y + 2 by omega] at e3
              rw [e3] at kb
              rw [nI_1, ← len]
              obtain ⟨m2, rfl⟩ : ∃ m2, m = m2 + 1 := ⟨m - 1, by omega⟩
              exact rtD r0 r1 (by omega) (Or.inr rfl) (by rw [len]; omega) c4 (fun N9 S9 h9 => kb N9 S9 f rfl hf h9)
          · rw [if_neg z2] at ka kb
            refine tp_dT rfl (exS u1 u41 ht (by decide) (by omega) (fun y3 e3 hy3 => ?_) (fun f e3 hf => ?_))
            · rw [e3] at ka kb
              simp only at ka kb
              rw [nI_1, ← len]
              refine rtS r0 r1 h1 h41 ht m 0 y3 N7 S8 _ _ (l ++ [rr]) (by rw [len]; omega) (by omega) (Or.inl rfl) hy3 c4 (fun N9 S9 G9 C9 y9 l9 e9 hy9 h9 => ?_) (fun N9 S9 f e9 hf h9 => ?_)
              · rw [e9] at ka
                rw [List.append_assoc] at h9
                exact ka N9 S9 G9 C9 y9 (rr :: l9) rfl hy9 h9
              · rw [e9] at kb
                exact kb N9 S9 f rfl hf h9
            · rw [e3] at kb
              rw [nI_1, ← len]
              obtain ⟨m2, rfl⟩ : ∃ m2, m = m2 + 1 := ⟨m - 1, by omega⟩
              exact rtD r0 r1 (by omega) (Or.inl rfl) (by rw [len]; omega) c4 (fun N9 S9 h9 => kb N9 S9 f rfl hf h9)
        · rw [if_pos (Or.inr z)] at ka
          exact tp_cT rfl (ka N7 S8 _ _ y [rr] rfl hy c4)
    · rw [e] at kb
      obtain ⟨b1, b2, b3⟩ := rtI_add (y := nI f) (f := nI f) hI (by omega) r0 r1 hT
      refine ⟨b1, b2, fun N7 S8 ha => ?_⟩
      obtain ⟨c1, c2, c3⟩ := b3 N7 S8 ha
      have k := kb N7 S8 f rfl hf c2
      by_cases q3 : nI l.length = 3
      · rw [c1] at k
        exact tp_dT q3 k
      · refine tp_dF q3 ?_
        rw [← c1]
        exact tkD (by omega) (tp_cT rfl k)
end
