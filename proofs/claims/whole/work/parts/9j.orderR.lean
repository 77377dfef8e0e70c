/-! pure: an order, in both -/
theorem RR.gh {c h w d pn P Sh V E A t r eb : Nat} {G : Nat → Nat → Nat → Nat} {C : Nat → Nat → Nat} {OL : Nat → List Nat} {N : tq_Nn} {S M : tq_St} {G1 : Nat → Nat → Nat → Nat} {C1 : Nat → Nat → Nat} (h0 : RR c h w d pn P Sh V E A t r eb G C OL N S M) (hG : ∀ x y z, (x = 52 → N 52 y = 1) → (x = 59 → N 59 y = 1) → G1 x y z = G x y z) (hC : ∀ x y, (x = 52 → N 52 y = 1) → (x = 59 → N 59 y = 1) → C1 x y = C x y) : RR c h w d pn P Sh V E A t r eb G1 C1 OL N S M := by
  obtain ⟨hsc, hss, har, hpl, hlg, hsh, hpe, hmo, hpr, hsr, hpa, hkn, hst, hpm, hsi, hab, hsm, hvo, hvm, hbi, hlb, hiv, hod, hol, hoi, hfi, hli, had, hro⟩ := h0
  have eG : ∀ x y z, x ≠ 52 → x ≠ 59 → G1 x y z = G x y z := fun x y z z1 z2 => hG x y z (fun w => absurd w z1) (fun w => absurd w z2)
  have eC : ∀ x y, x ≠ 52 → x ≠ 59 → C1 x y = C x y := fun x y z1 z2 => hC x y (fun w => absurd w z1) (fun w => absurd w z2)
  have e15 : ∀ z, G1 15 0 z = G 15 0 z := fun z => eG 15 0 z (by decide) (by decide)
  have e17 : ∀ z, G1 17 0 z = G 17 0 z := fun z => eG 17 0 z (by decide) (by decide)
  have e19 : ∀ z, G1 19 0 z = G 19 0 z := fun z => eG 19 0 z (by decide) (by decide)
  have e22 : ∀ z, G1 22 0 z = G 22 0 z := fun z => eG 22 0 z (by decide) (by decide)
  refine ⟨hsc, hss, har, hpl, hlg, hsh, hpe, hmo, hpr, hsr, ?_, ?_, ?_, hpm, ?_, ?_, ?_, ?_, hvm, ?_, ?_, hiv, ?_, hol, ?_, ?_, ?_, had, ?_⟩
  · intro n hn; rw [e15]; exact hpa n hn
  · intro n p hn hp; rw [e15]; exact hkn n p hn hp
  · intro n s hn hs hk; rw [e15]; exact hst n s hn hs hk
  · intro s hs; rw [e19]; exact hsi s hs
  · intro s n hs hn; rw [e19]; exact hab s n hs hn
  · obtain ⟨a1, a2, a3⟩ := hsm
    refine ⟨fun s hs => ?_, a2, a3⟩
    rw [e19]; exact a1 s hs
  · intro v hv; rw [e22]; exact hvo v hv
  · intro k n hk; rw [e17, e15]; exact hbi k n hk
  · intro p h1 h2
    rcases hlb p h1 h2 with q | ⟨n, q1, q2, q3, q4, q5⟩
    · exact Or.inl q
    · exact Or.inr ⟨n, q1, q2, q3, by rw [e15]; exact q4, q5⟩
  · intro n hn hk
    obtain ⟨g, a1, a2, a3, a4, a5⟩ := hod n hn hk
    have n52 : N 52 (G 15 0 n) = 1 := (hpa n hn).2.2.1
    have g52 : ∀ z, G1 52 (G 15 0 n) z = G 52 (G 15 0 n) z := fun z => hG 52 _ z (fun _ => n52) (fun w => absurd w (by decide))
    refine ⟨g, a1, a2, a3, ?_, fun k hk => ?_⟩
    · rw [e15]
      exact tp_L_fr0 a4 rfl rfl (fun _ => rfl) (fun _ z => z) (fun _ z => z) (fun j _ => g52 j) (hC 52 _ (fun _ => n52) (fun w => absurd w (by decide)))
    · rw [e15, g52]
      obtain ⟨b1, b2, b3, b4, b5, b6, K, b7, b8, b9, b10⟩ := a5 k hk
      have g59 : ∀ z, G1 59 (G 52 (G 15 0 n) k) z = G 59 (G 52 (G 15 0 n) k) z := fun z => hG 59 _ z (fun w => absurd w (by decide)) (fun _ => b1)
      refine ⟨b1, b2, b3, b4, b5, b6, K, b7, b8, tp_L_fr0 b9 rfl rfl (fun _ => rfl) (fun _ z => z) (fun _ z => z) (fun j _ => g59 j) (hC 59 _ (fun w => absurd w (by decide)) (fun _ => b1)), fun j hj => ?_⟩
      have := b10 j hj
      unfold q_te at this ⊢
      rw [g59]; exact this
  · intro p k n hp hk; rw [eG 36 p k (by decide) (by decide), e15]; exact hoi p k n hp hk
  · intro p j x g hp hk
    have hx := ((hol p hp).1 x).mp (tp_FL_mem (List.mem_of_getElem? hk))
    have n52 : N 52 (G 15 0 x) = 1 := (hpa x hx.1).2.2.1
    rw [eG 38 p j (by decide) (by decide), e15, hG 52 _ g (fun _ => n52) (fun w => absurd w (by decide))]
    exact hfi p j x g hp hk
  · obtain ⟨l1, l2, l3, l4, l5, l6, l7, l8⟩ := hli
    refine ⟨?_, ?_, ?_, ?_, fun p hp => ?_, fun p hp => ?_, l7, l8⟩
    · exact tp_L_fr0 l1 rfl rfl (fun _ => rfl) (fun _ z => z) (fun _ z => z) (fun j _ => e15 j) (eC 15 0 (by decide) (by decide))
    · exact tp_L_fr0 l2 rfl rfl (fun _ => rfl) (fun _ z => z) (fun _ z => z) (fun j _ => e19 j) (eC 19 0 (by decide) (by decide))
    · exact tp_L_fr0 l3 rfl rfl (fun _ => rfl) (fun _ z => z) (fun _ z => z) (fun j _ => e22 j) (eC 22 0 (by decide) (by decide))
    · exact tp_L_fr0 l4 rfl rfl (fun _ => rfl) (fun _ z => z) (fun _ z => z) (fun j _ => e17 j) (eC 17 0 (by decide) (by decide))
    · exact tp_L_fr0 (l5 p hp) rfl rfl (fun _ => rfl) (fun _ z => z) (fun _ z => z) (fun j _ => eG 36 p j (by decide) (by decide)) (eC 36 p (by decide) (by decide))
    · exact tp_L_fr0 (l6 p hp) rfl rfl (fun _ => rfl) (fun _ z => z) (fun _ z => z) (fun j _ => eG 38 p j (by decide) (by decide)) (eC 38 p (by decide) (by decide))
  · have q : ∀ y, C1 36 y = C 36 y := fun y => eC 36 y (by decide) (by decide)
    have q2 : ∀ y, C1 38 y = C 38 y := fun y => eC 38 y (by decide) (by decide)
    unfold q_ro tp_CS at hro ⊢
    simp only [q, q2, eC 15 0 (by decide) (by decide), eC 17 0 (by decide) (by decide), eC 19 0 (by decide) (by decide), eC 22 0 (by decide) (by decide)]
    exact hro
theorem tp_qor {n e : Nat} {N : tq_Nn} {S : tq_St} {G : Nat → Nat → Nat → Nat} {C : Nat → Nat → Nat} {l : List pP} {U : Nat → Int32} {B T : Nat → Nat → Int32} (h1 : 1 ≤ l.length) (h6 : l.length ≤ 6) (okl : ∀ p, p ∈ l → okP p) (hL : tp_L N (S 52) (S 53) G C 52 53 10 e l.length) (hc : ∀ j p, l[j]? = some p → clP n j (G 52 e j) p N G C S) (hU : U n = nI l.length) (hr : ∀ q p, l[q]? = some p → prR (B n) (T n) q p) : q_or n e G C N (S 10) (S 11) (S 52) (S 53) (S 59) (S 60) U B T := by
  refine ⟨l.length, h1, h6, hU, hL, fun k hk => ?_⟩
  have hk2 : l[k]? = some l[k] := List.getElem?_eq_getElem hk
  have ok := okl l[k] (List.getElem_mem hk)
  have cl := hc k l[k] hk2
  have pr := hr k l[k] hk2
  generalize l[k] = p at ok cl pr
  generalize G 52 e k = q at cl
  obtain ⟨o1, o2, o3, ⟨x, o4, o5⟩, o6, o7⟩ := ok
  obtain ⟨c1, c2, c3, c4, c5, c6, c7, c8, c9, c10⟩ := cl
  obtain ⟨p1, p2, p3, p4, p5⟩ := pr
  refine ⟨c2, c3, c4, ⟨p.1, o1, p1, c5, c6.trans p2.symm, fun ha => ?_, fun ha => ?_⟩, ⟨x, o4, p3.trans o5⟩, c7.trans p3.symm, p.2.2.2.length, o6, p4, c9, fun j hj => ?_⟩
  · obtain ⟨s, s1, s2⟩ := o2 ha
    refine ⟨s, s1, p2.trans s2, ?_⟩
    rw [c8, s2, if_neg (nI_pos (by omega))]
    have : acd p.1 = p.1 := by unfold acd; rw [if_neg (by omega)]
    rw [this, show (4 : Int32) = nI 4 from rfl, pk_mul, nI_add, Nat.mul_comm]
  · refine ⟨p2.trans (o3 ha), ?_⟩
    rw [c8, o3 ha, if_pos (by decide), Int32.add_zero, show (4 : Int32) = nI 4 from rfl, pk_mul, Nat.mul_comm]
    rfl
  · have hj2 : p.2.2.2[j]? = some p.2.2.2[j] := List.getElem?_eq_getElem hj
    have okj := o7 _ (List.getElem_mem hj)
    have clj := c10 j _ hj2
    have prj := p5 j _ hj2
    generalize p.2.2.2[j] = r at okj clj prj
    obtain ⟨r1, r2, r3, r4, r5⟩ := okj
    obtain ⟨d1, d2, d3, d4, d5, d6⟩ := clj
    obtain ⟨f1, f2, f3, f4, f5, f6⟩ := prj
    refine ⟨d1.trans f6.symm, d2.trans f1.symm, d3.trans f2.symm, d4.trans f3.symm, by rw [d5, f4], d6.trans f5.symm, by rw [f6]; exact r5, by rw [f1]; exact r1, ⟨r.2.1, r2, f2, fun hf => ?_⟩, ?_⟩
    · obtain ⟨s, s1, s2⟩ := r3 hf
      exact ⟨s, s1, f3.trans s2⟩
    · obtain ⟨x, x1, x2, x3⟩ := r4
      exact ⟨x, x1, x2, f4.trans x3⟩
theorem RR_order {c h w d pn P Sh V E A t r eb : Nat} {G : Nat → Nat → Nat → Nat} {C : Nat → Nat → Nat} {OL : Nat → List Nat} {N : tq_Nn} {S M : tq_St} {N7 N8 : tq_Nn} {S7 S25 S8 M1 : tq_St} {G7 : Nat → Nat → Nat → Nat} {C7 : Nat → Nat → Nat} {e a c1 : Nat} {R7 R50 R51 : Nat → Int32} {l : List pP} {y f v : Int32} (h0 : RR c h w d pn P Sh V E A t r eb G C OL N S M) (hP : P < 150) (ha1 : 1 ≤ a) (ha : a < 5)
    (hI : orI N S P e R7 R50 R51 G C N7 S7 G7 C7 l) (hfr : tq_fr N e) (l1 : 1 ≤ l.length) (l6 : l.length ≤ 6) (okl : ∀ p, p ∈ l → okP p)
    (r1 : R7 1 = nI 2) (r2 : R7 2 = nI 0) (r3 : R7 3 = nI a) (r4 : R7 4 = nI d) (r9 : R7 9 = 0) (r13 : R7 13 = 0) (r50 : ∀ q, q < 5 → R50 q = if q = 0 then nI d else -1)
    (s25 : ∀ k i, k ≠ 3 → ¬ (k = 7 ∧ i = e) → S25 k i = S7 k i) (s257 : ∀ j, S25 7 e j = if j = 8 then nI l.length else S7 7 e j) (s253 : S25 3 0 1 = 0)
    (m8 : tp_mono N7 N8) (s8 : ∀ k i, k ≠ 15 → k ≠ 16 → S8 k i = S25 k i) (L8 : tp_L N8 (S8 15) (S8 16) (tp_G G7 15 0 P e) (tp_C C7 15 0 c1) 15 16 7 0 (P + 1)) (hc0 : C7 15 0 ≤ c1) (hc1 : c1 ≤ 2400) (n80 : N8 0 0 + C7 15 0 ≤ N7 0 0 + c1) (n81 : N8 0 1 + 4 * C7 15 0 ≤ N7 0 1 + 4 * c1) (n8p : 1 ≤ N8 0 0)
    (hF : mF P M M1) (hU : M1 117 0 P = nI l.length) (hB : ∀ q p, l[q]? = some p → prR (M1 118 P) (M1 119 P) q p) (hcc : c < 512) (heb : eb ≤ 99999999) : RR (c + 1) h w d pn (P + 1) Sh V E A 0 r eb (tp_G G7 15 0 P e) (tp_C C7 15 0 c1) OL N8 S8 ((tp_wr (tq_up (mk M1 y f v) 64 0 61 0) P (nI 2) 0 (nI a))) := by
  obtain ⟨⟨gz, ⟨n7, n50, n51, n52⟩, ⟨e7, e50, e51⟩, hn, hz⟩, iL, iC, iD, iP, iG, iCC⟩ := hI
  have h1 : RR (c + 1) h w d pn P Sh V E A 0 r eb G C OL N ((tq_up S 3 0 1 0)) ((tq_up M 64 0 61 0)) := (RR_tape0 h0).wk (by omega) (by omega) (Nat.le_refl _) (by omega)
  have h2 : RR (c + 1) h w d pn P Sh V E A 0 r eb G7 C7 OL N ((tq_up S 3 0 1 0)) ((tq_up M 64 0 61 0)) := h1.gh (fun x y z z1 z2 => iG x y z (fun w => hz (by rw [← w.2]; exact z1 w.1)) z2) (fun x y z1 z2 => iCC x y (fun w => hz (by rw [← w.2]; exact z1 w.1)) z2)
  clear h1
  have hpm := h2.2.2.2.2.2.2.2.2.2.2.2.2.2.1
  have hro := h2.2.2.2.2.2.2.2.2.2.2.2.2.2.2.2.2.2.2.2.2.2.2.2.2.2.2.2.2
  have hli := h2.2.2.2.2.2.2.2.2.2.2.2.2.2.2.2.2.2.2.2.2.2.2.2.2.2.2.1
  have hlb := h2.2.2.2.2.2.2.2.2.2.2.2.2.2.2.2.2.2.2.2.2.1
  have hbi := h2.2.2.2.2.2.2.2.2.2.2.2.2.2.2.2.2.2.2.2.1
  have hab0 := h2.2.2.2.2.2.2.2.2.2.2.2.2.2.2.2.1
  have hsm := h2.2.2.2.2.2.2.2.2.2.2.2.2.2.2.2.2.1
  have hsi := h2.2.2.2.2.2.2.2.2.2.2.2.2.2.2.1
  have hmo := h2.2.2.2.2.2.2.2.1
  have hpl := h2.2.2.2.1
  have hsc := h2.1
  have hd : M 64 0 0 = nI d := h0.1.1
  have hd3 := h0.1.2.2.2.2.2.2.2.2.2.1
  have mm : tp_mono N N8 := gz.1.tr m8
  -- the first store
  have fS : ∀ k i, (k ∈ tq_dyn → N k i = 1) → (k = 1 → i = 0) → k ≠ 3 → k ≠ 15 → k ≠ 16 → S8 k i = S k i := fun k i z1 z2 z3 z4 z5 => by
    rw [s8 k i z4 z5, s25 k i z3 (fun w => hfr 7 (by decide) (by rw [← w.2, ← w.1]; exact z1 (by rw [w.1]; decide)))]
    exact gz.2.1 k i z1 z2 z3
  have fU : ∀ k i, k ≠ 3 → tq_up S 3 0 1 0 k i = S k i := fun k i z => by rw [tq_upk z]
  have fT : ∀ k : Nat, k ∉ tq_dyn → k ≠ 1 → k ≠ 3 → k ≠ 15 → S8 k = tq_up S 3 0 1 0 k := fun k z1 z2 z3 z4 => funext (fun i => by
    rw [fU k i z3]; exact fS k i (fun y => absurd y z1) (fun y => absurd y z2) z3 z4 (fun y => z1 (by subst y; decide)))
  have s7 : ∀ j, S8 7 e j = if j = 8 then nI l.length else R7 j := fun j => by rw [s8 7 e (by decide) (by decide), s257 j, e7]
  have s50 : S8 50 e = R50 := by rw [s8 50 e (by decide) (by decide), s25 50 e (by decide) (fun w => absurd w.1 (by decide)), e50]
  have k10 : ∀ k, k ≠ 3 → k ≠ 7 → k ≠ 15 → k ≠ 16 → S8 k = S7 k := fun k z1 z2 z3 z4 => funext (fun i => by rw [s8 k i z3 z4, s25 k i z1 (fun w => z2 w.1)])
  -- the second store
  have x64 : ∀ j, j ≠ 67 → j ≠ 68 → j ≠ 69 → tq_up (mk M1 y f v) 64 0 61 0 64 0 j = tq_up M 64 0 61 0 64 0 j := fun j z1 z2 z3 => by
    by_cases q : j = 61
    · subst q; rw [tq_upe, tq_upe]
    · rw [tq_upj q, tq_upj q, mk_gj z1 z2 z3, hF.g61]
  have xk : ∀ k, k ≠ 64 → tq_up (mk M1 y f v) 64 0 61 0 k = M1 k := fun k z => by rw [tq_upk z, mk_k z]
  have xM : ∀ k, k ≠ 64 → k ≠ 117 → k ≠ 118 → k ≠ 119 → k ≠ 170 → k ≠ 171 → tq_up (mk M1 y f v) 64 0 61 0 k = tq_up M 64 0 61 0 k := fun k z z1 z2 z3 z4 z5 => by
    rw [xk k z, tq_upk z]; exact hF.1 k z1 z2 z3 z4 z5
  have x0 : tq_up (mk M1 y f v) 64 0 61 0 64 0 0 = nI d := by
    rw [x64 0 (by decide) (by decide) (by decide), tq_upj (by decide)]; exact hd
  have x117 : ∀ i, i ≠ P → tq_up (mk M1 y f v) 64 0 61 0 117 0 i = tq_up M 64 0 61 0 117 0 i := fun i hi => by
    rw [xk 117 (by decide), tq_upk (by decide)]; exact hF.2.2 i hi
  have x118 : ∀ i, i ≠ P → tq_up (mk M1 y f v) 64 0 61 0 118 i = tq_up M 64 0 61 0 118 i := fun i hi => by
    rw [xk 118 (by decide), tq_upk (by decide)]; exact (hF.2.1 i hi).1
  have x119 : ∀ i, i ≠ P → tq_up (mk M1 y f v) 64 0 61 0 119 i = tq_up M 64 0 61 0 119 i := fun i hi => by
    rw [xk 119 (by decide), tq_upk (by decide)]; exact (hF.2.1 i hi).2
  have xU : tq_up (mk M1 y f v) 64 0 61 0 117 0 P = nI l.length := by rw [xk 117 (by decide)]; exact hU
  have xB : ∀ q p, l[q]? = some p → prR (tq_up (mk M1 y f v) 64 0 61 0 118 P) (tq_up (mk M1 y f v) 64 0 61 0 119 P) q p := fun q p hq => by
    rw [xk 118 (by decide), xk 119 (by decide)]; exact hB q p hq
  generalize tq_up (mk M1 y f v) 64 0 61 0 = X at x64 xM x0 x117 x118 x119 xU xB ⊢
  clear xk
  generalize hX : tp_wr X P (nI 2) 0 (nI a) = W
  have ge : tp_G G7 15 0 P e 15 0 P = e := by simp [tp_G]
  have wk : ∀ k, k ≠ 64 → (k < 110 ∨ 113 < k) → k ≠ 115 → W k = X k := fun k z1 z2 z3 => by
    rw [← hX]; unfold tp_wr
    rw [tq_cpk z3, tq_upk (by omega), tq_upk (by omega), tq_upk (by omega), tq_upk (by omega), tq_upk z1]
  have w64 : ∀ j, j ≠ 9 → W 64 0 j = X 64 0 j := fun j z => by
    rw [← hX]; unfold tp_wr
    rw [tq_cpk (by decide), tq_upk (by decide), tq_upk (by decide), tq_upk (by decide), tq_upk (by decide), tq_upj z]
  have kP : W 110 0 P = nI 2 := by rw [← hX]; simp (disch := decide) only [tp_wr, tq_cpk, tq_upk, tq_upe]
  have kn : ∀ k n, 110 ≤ k → k ≤ 113 → n ≠ P → W k 0 n = X k 0 n := fun k n z1 z2 hn => by
    rw [← hX]; unfold tp_wr
    have ck : k = 110 ∨ k = 111 ∨ k = 112 ∨ k = 113 := by omega
    rcases ck with rfl | rfl | rfl | rfl
    · rw [tq_cpk (by decide), tq_upk (by decide), tq_upk (by decide), tq_upk (by decide), tq_upj hn, tq_upk (by decide)]
    · rw [tq_cpk (by decide), tq_upk (by decide), tq_upk (by decide), tq_upj hn, tq_upk (by decide), tq_upk (by decide)]
    · rw [tq_cpk (by decide), tq_upk (by decide), tq_upj hn, tq_upk (by decide), tq_upk (by decide), tq_upk (by decide)]
    · rw [tq_cpk (by decide), tq_upj hn, tq_upk (by decide), tq_upk (by decide), tq_upk (by decide), tq_upk (by decide)]
  have p111 : W 111 0 P = nI 0 := by rw [← hX]; simp (disch := decide) only [tp_wr, tq_cpk, tq_upk, tq_upe]
  have p112 : W 112 0 P = nI d := by rw [← hX]; simp (disch := decide) only [tp_wr, tq_cpk, tq_upk, tq_upe]; exact x0
  have p113 : W 113 0 P = nI a := by rw [← hX]; simp (disch := decide) only [tp_wr, tq_cpk, tq_upk, tq_upe]
  have p115 : ∀ q, q < 5 → W 115 P q = if q = 0 then nI d else -1 := fun q hq => by rw [← hX]; simp only [tp_wr, tq_cpe]; rw [if_pos hq, x0]
  have p115n : ∀ i, i ≠ P → W 115 i = X 115 i := fun i hi => by
    rw [← hX]; unfold tp_wr
    rw [tq_cpi hi, tq_upk (by decide), tq_upk (by decide), tq_upk (by decide), tq_upk (by decide), tq_upk (by decide)]
  have z0 := hpm.2.2 P (Nat.le_refl _) hP
  have w114 : W 114 = tq_up M 64 0 61 0 114 := (wk 114 (by decide) (by decide) (by decide)).trans (xM 114 (by decide) (by decide) (by decide) (by decide) (by decide) (by decide))
  have w120 : W 120 = tq_up M 64 0 61 0 120 := (wk 120 (by decide) (by decide) (by decide)).trans (xM 120 (by decide) (by decide) (by decide) (by decide) (by decide) (by decide))
  have w116 : W 116 = tq_up M 64 0 61 0 116 := (wk 116 (by decide) (by decide) (by decide)).trans (xM 116 (by decide) (by decide) (by decide) (by decide) (by decide) (by decide))
  have wX : ∀ k, k ≠ 64 → (k < 110 ∨ 120 < k) → (k < 170 ∨ 176 < k) → W k = tq_up M 64 0 61 0 k := fun k z1 z2 z3 => (wk k z1 (by omega) (by omega)).trans (xM k z1 (by omega) (by omega) (by omega) (by omega) (by omega))
  have k110 : ∀ k n, 110 ≤ k → k ≤ 113 → n ≠ P → W k 0 n = tq_up M 64 0 61 0 k 0 n := fun k n z1 z2 hn => by
    rw [kn k n z1 z2 hn, xM k (by omega) (by omega) (by omega) (by omega) (by omega) (by omega)]
  have k5 : ¬ W 110 0 P = 5 := by rw [kP]; decide
  have k4 : ¬ W 110 0 P = 4 := by rw [kP]; decide
  have k1 : ¬ W 110 0 P = 1 := by rw [kP]; decide
  have k2 : W 110 0 P = 2 := kP
  have w117 : W 117 0 P = nI l.length := by rw [wk 117 (by decide) (by decide) (by decide)]; exact xU
  have eBL : tp_BL (P + 1) (W 110 0) = tp_BL P (tq_up M 64 0 61 0 110 0) := by
    rw [tp_BL_succ, if_neg k5, List.append_nil, tp_BL_cong (fun n hn => k110 110 n (by decide) (by decide) (by omega))]
  have gG : ∀ x y z : Nat, x ≠ 15 → x ≠ 17 → tp_G G7 15 0 P e x y z = G7 x y z := fun x y z h1 _ => by simp [tp_G, h1]
  have gG17 : ∀ y z : Nat, tp_G G7 15 0 P e 17 y z = G7 17 y z := fun y z => by simp [tp_G]
  have gP : ∀ n, n < P → tp_G G7 15 0 P e 15 0 n = G7 15 0 n := fun n hn => by simp [tp_G, Nat.ne_of_lt hn]
  refine RR_addP (G2 := tp_G G7 15 0 P e) (C2 := tp_C C7 15 0 c1) h2 hP mm (fun k i z1 z2 _ z3 _ z5 z6 _ _ _ => by rw [fU k i z3]; exact fS k i z1 z2 z3 z5 z6) ?_ ?_ gG gP ?_ L8 ?_ ?_ ?_ ?_ ?_ ?_ ?_ ?_ ?_ ?_ p112 ?_ (fun z => absurd z k1) ?_ ?_ ?_ (fun z => absurd z k4) ?_ ?_ ?_ ?_ ?_
  · rw [s8 3 0 (by decide) (by decide), s253, tq_upe]
  · intro p j _ _; rw [fT 2 (by decide) (by decide) (by decide) (by decide)]
  · intro x y h1 _; simp [tp_C, h1]
  · rw [eBL, fT 17 (by decide) (by decide) (by decide) (by decide)]
    exact tp_L_fr0 hli.2.2.2.1 rfl rfl (fun z => by rw [fU 18 _ (by decide)]; exact fS 18 _ (fun _ => z) (fun z => absurd z (by decide)) (by decide) (by decide) (by decide)) (fun j hj => dyn_m mm (by decide) hj) (fun j hj => dyn_m mm (by decide) hj) (fun j _ => gG17 0 j) (by simp [tp_C])
  · intro k n hk
    rw [eBL] at hk
    have hn : n < P := by
      have := List.mem_of_getElem? hk
      unfold tp_BL at this
      exact List.mem_range.mp (List.mem_filter.mp this).1
    rw [gG17, gP n hn]; exact hbi k n hk
  · intro j z1 z2 z3 z4 _ _
    rw [w64 j z1, x64 j z2 z3 z4]
  · rw [← hX]; simp (disch := decide) only [tp_wr, tq_cpk, tq_upk, tq_upe]
  · intro k z1 _ z3 z4
    exact wX k z1 z3 z4
  · intro k n z1 z2 z3
    by_cases q : k = 114
    · subst q; rw [w114]
    · exact k110 k n z1 (by omega) z3
  · intro n z
    rw [wk 117 (by decide) (by decide) (by decide)]; exact x117 n z
  · intro k n z1 z2 z3 z4
    have ck : k = 115 ∨ k = 116 ∨ k = 118 ∨ k = 119 ∨ k = 120 := by omega
    rcases ck with rfl | rfl | rfl | rfl | rfl
    · rw [p115n n z4, xM 115 (by decide) (by decide) (by decide) (by decide) (by decide) (by decide)]
    · rw [w116]
    · rw [wk 118 (by decide) (by decide) (by decide)]; exact x118 n z4
    · rw [wk 119 (by decide) (by decide) (by decide)]; exact x119 n z4
    · rw [w120]
  · rw [ge]
    unfold q_pb
    rw [s7 0, s7 1, s7 2, s7 3, s7 4, s7 9, s7 8, s7 13]
    refine ⟨dyn_m m8 (by decide) n50, dyn_m m8 (by decide) n51, dyn_m m8 (by decide) n52, ?_, ?_, ?_, ?_, ?_, ?_, ?_, ?_, fun z => absurd z k5⟩
    · rw [if_neg (by decide)]; exact hn
    · rw [if_neg (by decide), kP]; exact r1
    · rw [if_neg (by decide), p111]; exact r2
    · rw [if_neg (by decide), p113]; exact r3
    · rw [if_neg (by decide), p112]; exact r4
    · rw [if_neg (by decide), w114]; exact r9.trans z0.1.symm
    · rw [if_pos rfl, if_pos k2]; exact w117.symm
    · rw [if_neg (by decide)]
      exact ⟨fun z => absurd z k5, fun z => absurd r13 z⟩
  · refine ⟨⟨2, by decide, by decide, kP⟩, ⟨0, by decide, p111⟩, ⟨a, ha, p113⟩, ⟨d, Nat.le_refl _, p112⟩, ⟨0, by decide, by rw [w114]; exact z0.1⟩, fun p hp => ?_, fun z => absurd z k5⟩
    rw [p115 p hp]
    by_cases q : p = 0
    · rw [if_pos q, tp_ti (by omega)]; exact Int.le_refl _
    · rw [if_neg q]
      have : (-1 : Int32).toInt = -1 := by decide
      omega
  · intro p hp; rw [ge, s50, r50 p hp, p115 p hp]
  · intro s n hs hn
    have n56 := (hsi s hs).2.2.1
    rw [fS 56 _ (fun _ => n56) (fun z => absurd z (by decide)) (by decide) (by decide) (by decide), w120, ← fU 56 _ (by decide)]
    exact hab0 s n hs hn
  · intro s z1 z2; rw [w120]; exact (hsm.2.2 s z1 z2).2.2.2.2.2 P hP
  · intro _
    rw [ge]
    have gL : ∀ z, tp_G G7 15 0 P e 52 e z = G7 52 e z := fun z => by simp [tp_G]
    have q := tp_qor (n := P) (e := e) (N := N8) (S := S8) (G := tp_G G7 15 0 P e) (C := tp_C C7 15 0 c1) (l := l) (U := W 117 0) (B := W 118) (T := W 119) l1 l6 okl ?_ ?_ w117 ?_
    · exact q
    · rw [k10 52 (by decide) (by decide) (by decide) (by decide), k10 53 (by decide) (by decide) (by decide) (by decide)]
      exact tp_L_fr0 iL rfl rfl (fun _ => rfl) (fun j hj => dyn_m m8 (by decide) hj) (fun j hj => dyn_m m8 (by decide) hj) (fun j _ => gL j) (by simp [tp_C])
    · intro j p hp
      rw [gL j]
      refine clP_fr (iP j p hp) m8 (fun k i hk _ => ?_) (fun x => by simp [tp_G]) (by simp [tp_C])
      rw [k10 k (by omega) (by omega) (by omega) (by omega)]
    · intro q p hq
      rw [wk 118 (by decide) (by decide) (by decide), wk 119 (by decide) (by decide) (by decide)]
      exact xB q p hq
  · intro p hp _ hz
    rw [p113] at hz
    have : a = p := (nI_eq (by omega) (by omega)).mp hz
    subst this
    rw [p115 a hp, if_neg (by omega)]
    decide
  · obtain ⟨a1, a2, a3, a4, a5, a6⟩ := hpl
    unfold q_pl
    rw [fT 2 (by decide) (by decide) (by decide) (by decide), fT 31 (by decide) (by decide) (by decide) (by decide), wX 101 (by decide) (by decide) (by decide), wX 103 (by decide) (by decide) (by decide), wX 104 (by decide) (by decide) (by decide)]
    exact ⟨a1, a2, a3, a4, a5, a6⟩
  · obtain ⟨a1, a2, a3, a4⟩ := hmo
    unfold q_mo
    rw [wX 101 (by decide) (by decide) (by decide), wX 128 (by decide) (by decide) (by decide), wX 105 (by decide) (by decide) (by decide)]
    exact ⟨a1, a2, a3, by omega⟩
  · intro p h1 h2
    rw [fT 2 (by decide) (by decide) (by decide) (by decide)]
    rcases hlb p h1 h2 with ⟨q1, q2⟩ | ⟨n, q1, q2, q3, q4, q5⟩
    · refine Or.inl ⟨q1, fun n hn hk => ?_⟩
      by_cases e : n = P
      · subst e; exact absurd hk k5
      · rw [k110 110 n (by decide) (by decide) e] at hk
        rw [k110 111 n (by decide) (by decide) e]; exact q2 n (by omega) hk
    · refine Or.inr ⟨n, by omega, by rw [k110 110 n (by decide) (by decide) (by omega)]; exact q2, by rw [k110 111 n (by decide) (by decide) (by omega)]; exact q3, by rw [gP n q1]; exact q4, fun x hx hxn hk hx1 => ?_⟩
      by_cases e : x = P
      · subst e; exact absurd hk k5
      · rw [k110 110 x (by decide) (by decide) e] at hk
        rw [k110 111 x (by decide) (by decide) e] at hx1
        rw [w116]; exact q5 x (by omega) hxn hk hx1
  · obtain ⟨a1, a2, a3, a4, a5, a6, a7, a8, a9⟩ := hro
    have hro0 := h0.2.2.2.2.2.2.2.2.2.2.2.2.2.2.2.2.2.2.2.2.2.2.2.2.2.2.2.2
    obtain ⟨b1, b2, b3, _⟩ := hro0
    have g4 := gz.2.2.2.1
    have g5 := gz.2.2.2.2
    have e2 : tp_CS C7 = tp_CS C := by
      have eC : ∀ x y, x ≠ 52 → x ≠ 59 → C7 x y = C x y := fun x y z1 z2 => iCC x y (fun w => z1 w.1) (fun w => absurd w z2)
      unfold tp_CS
      simp only [eC 15 0 (by decide) (by decide), eC 17 0 (by decide) (by decide), eC 19 0 (by decide) (by decide), eC 22 0 (by decide) (by decide), eC 36 _ (by decide) (by decide), eC 38 _ (by decide) (by decide)]
    have e1 : tp_CS (tp_C C7 15 0 c1) + C7 15 0 = tp_CS C7 + c1 := by
      unfold tp_CS
      simp [tp_C]
      omega
    refine ⟨by omega, by omega, n8p, ?_, ?_, ?_, ?_, ?_, ?_⟩
    · simp [tp_C]; exact hc1
    · simp [tp_C]; exact a5
    · simp [tp_C]; exact a6
    · simp [tp_C]; exact a7
    · intro p hp; simp [tp_C]; exact a8 p hp
    · intro p hp; simp [tp_C]; exact a9 p hp
