/-! pure: a paper is read where it goes -/
theorem tp_L_fr1 {N N1 : tq_Nn} {F D F1 D1 : Nat → Nat → Int32} {G G1 : Nat → Nat → Nat → Nat} {C C1 : Nat → Nat → Nat} {kl kd ek i n : Nat} (h : tp_L N F D G C kl kd ek i n) (h1 : F1 i 1 = F i 1) (h1b : F1 i 2 = F i 2) (h2 : 0 < F i 1 → N kd (F i 1).toNatClampNeg = 1 → D1 (F i 1).toNatClampNeg = D (F i 1).toNatClampNeg) (hd : ∀ j, N kd j = 1 → N1 kd j = 1) (he : ∀ j, N ek j = 1 → N1 ek j = 1) (hG : ∀ j, j < n → G1 kl i j = G kl i j) (hC : C1 kl i = C kl i) : tp_L N1 F1 D1 G1 C1 kl kd ek i n := by
  obtain ⟨⟨a1, a2, a3, a4⟩, a5⟩ := h
  rcases a4 with ⟨q1, q2⟩ | ⟨q1, q2, q3, q4⟩
  · refine ⟨⟨h1b.trans a1, by rw [hC]; exact a2, by rw [hC]; exact a3, Or.inl ⟨h1.trans q1, by rw [hC]; exact q2⟩⟩, fun j hj => by omega⟩
  · refine ⟨⟨h1b.trans a1, by rw [hC]; exact a2, by rw [hC]; exact a3, Or.inr ?_⟩, fun j hj => ?_⟩
    · rw [h1, hC, h2 q1 q2]; exact ⟨q1, hd _ q2, q3, q4⟩
    · rw [h1, h2 q1 q2, hG j hj]; exact ⟨(a5 j hj).1, he _ (a5 j hj).2.1, (a5 j hj).2.2⟩
theorem tp_L_own {N : tq_Nn} {F D : Nat → Nat → Int32} {G : Nat → Nat → Nat → Nat} {C : Nat → Nat → Nat} {kl kd ek i n : Nat} (h : tp_L N F D G C kl kd ek i n) (h1 : 0 < F i 1) : N kd (F i 1).toNatClampNeg = 1 ∧ 1 ≤ (F i 1).toNatClampNeg := by
  rcases h.1.2.2.2 with ⟨q1, q2⟩ | ⟨q1, q2, q3, q4⟩
  · rw [q1] at h1; exact absurd h1 (by decide)
  · refine ⟨q2, ?_⟩
    rw [tp_lt] at h1
    have t0 : (0 : Int32).toInt = 0 := by decide
    obtain ⟨z, z1, z2, z3⟩ := tp_nat (x := F i 1) (by omega)
    rw [z2, nI_clamp z1]
    omega
/-- a list with one more, at its place -/
def ins (k n : Nat) (l : List Nat) : List Nat := l.take k ++ n :: l.drop k
theorem ins_len {k n : Nat} {l : List Nat} : (ins k n l).length = l.length + 1 := by
  unfold ins
  rw [List.length_append, List.length_cons, List.length_take, List.length_drop]
  omega
theorem ins_get {k n j : Nat} {l : List Nat} (hk : k ≤ l.length) : (ins k n l)[j]? = if j < k then l[j]? else if j = k then some n else l[j - 1]? := by
  have hl : (l.take k).length = k := List.length_take_of_le hk
  unfold ins
  by_cases q1 : j < k
  · rw [if_pos q1, List.getElem?_append_left (by omega), List.getElem?_take_of_lt q1]
  · rw [if_neg q1, List.getElem?_append_right (by omega), hl]
    by_cases q2 : j = k
    · rw [if_pos q2, q2, Nat.sub_self]; rfl
    · rw [if_neg q2, show j - k = (j - k - 1) + 1 by omega, List.getElem?_cons_succ, List.getElem?_drop, show k + (j - k - 1) = j - 1 by omega]
theorem ins_mem {k n x : Nat} {l : List Nat} : x ∈ ins k n l ↔ x = n ∨ x ∈ l := by
  have h : x ∈ l ↔ x ∈ l.take k ∨ x ∈ l.drop k := by rw [← List.mem_append, List.take_append_drop]
  unfold ins
  rw [List.mem_append, List.mem_cons, h]
  constructor
  · rintro (z | z | z)
    · exact Or.inr (Or.inl z)
    · exact Or.inl z
    · exact Or.inr (Or.inr z)
  · rintro (z | z | z)
    · exact Or.inr (Or.inl z)
    · exact Or.inl z
    · exact Or.inr (Or.inr z)
theorem pw_get {R : Nat → Nat → Prop} {l : List Nat} {i j x y : Nat} (h : l.Pairwise R) (hx : l[i]? = some x) (hy : l[j]? = some y) (hij : i < j) : R x y := by
  obtain ⟨a, rfl⟩ := List.getElem?_eq_some_iff.mp hx
  obtain ⟨b, rfl⟩ := List.getElem?_eq_some_iff.mp hy
  exact List.pairwise_iff_getElem.mp h i j a b hij
theorem ins_pw {R : Nat → Nat → Prop} {k n : Nat} {l : List Nat} (h : l.Pairwise R) (ha : ∀ j y, k ≤ j → l[j]? = some y → R n y) (hb : ∀ j x, j < k → l[j]? = some x → R x n) : (ins k n l).Pairwise R := by
  have h2 : (l.take k ++ l.drop k).Pairwise R := by rw [List.take_append_drop]; exact h
  rw [List.pairwise_append] at h2
  obtain ⟨p1, p2, p3⟩ := h2
  have tk : ∀ x, x ∈ l.take k → R x n := fun x hx => by
    obtain ⟨j, hj⟩ := List.mem_iff_getElem?.mp hx
    rw [List.getElem?_take] at hj
    by_cases q : j < k
    · rw [if_pos q] at hj; exact hb j x q hj
    · rw [if_neg q] at hj; exact absurd hj (by simp)
  unfold ins
  rw [List.pairwise_append, List.pairwise_cons]
  refine ⟨p1, ⟨fun y hy => ?_, p2⟩, fun x hx y hy => ?_⟩
  · obtain ⟨j, hj⟩ := List.mem_iff_getElem?.mp hy
    rw [List.getElem?_drop] at hj
    exact ha (k + j) y (by omega) hj
  · rcases List.mem_cons.mp hy with z | z
    · rw [z]; exact tk x hx
    · exact p3 x hx y z
theorem tp_CS_p {C C1 : Nat → Nat → Nat} {p : Nat} (hp : p < 5) (h : ∀ a b, ¬ (a = 36 ∧ b = p) → ¬ (a = 38 ∧ b = p) → C1 a b = C a b) : tp_CS C1 + C 36 p + C 38 p = tp_CS C + C1 36 p + C1 38 p := by
  have e : ∀ a b, (a ≠ 36 ∧ a ≠ 38) ∨ b ≠ p → C1 a b = C a b := fun a b z => h a b (by omega) (by omega)
  unfold tp_CS
  rw [e 15 0 (by omega), e 17 0 (by omega), e 19 0 (by omega), e 22 0 (by omega)]
  have hc : p = 0 ∨ p = 1 ∨ p = 2 ∨ p = 3 ∨ p = 4 := by omega
  rcases hc with rfl | rfl | rfl | rfl | rfl
  · rw [e 36 1 (by omega), e 36 2 (by omega), e 36 3 (by omega), e 36 4 (by omega), e 38 1 (by omega), e 38 2 (by omega), e 38 3 (by omega), e 38 4 (by omega)]; omega
  · rw [e 36 0 (by omega), e 36 2 (by omega), e 36 3 (by omega), e 36 4 (by omega), e 38 0 (by omega), e 38 2 (by omega), e 38 3 (by omega), e 38 4 (by omega)]; omega
  · rw [e 36 1 (by omega), e 36 0 (by omega), e 36 3 (by omega), e 36 4 (by omega), e 38 1 (by omega), e 38 0 (by omega), e 38 3 (by omega), e 38 4 (by omega)]; omega
  · rw [e 36 1 (by omega), e 36 2 (by omega), e 36 0 (by omega), e 36 4 (by omega), e 38 1 (by omega), e 38 2 (by omega), e 38 0 (by omega), e 38 4 (by omega)]; omega
  · rw [e 36 1 (by omega), e 36 2 (by omega), e 36 3 (by omega), e 36 0 (by omega), e 38 1 (by omega), e 38 2 (by omega), e 38 3 (by omega), e 38 0 (by omega)]; omega
theorem tp_ah_k {M : tq_St} {n p q : Nat} {v : Int32} (h : q ≠ p) : tp_ah q (tq_up M 115 n p v 115) = tp_ah q (M 115) := by
  funext x y
  unfold tp_ah
  rw [tq_upj h, tq_upj h]
theorem tp_KO_k {M : tq_St} {P n p q : Nat} {v : Int32} (h : q ≠ p) (m : Nat) : tp_KO P q (tq_up M 115 n p v 110 0) (tq_up M 115 n p v 113 0) (tq_up M 115 n p v 115) m ↔ tp_KO P q (M 110 0) (M 113 0) (M 115) m := by
  unfold tp_KO
  rw [tq_upj h, tq_upk (by decide), tq_upk (by decide)]
theorem iv_keep {P n p : Nat} {S S1 M : tq_St} {v : Int32} (h : q_iv P S M) (hk : ¬ M 110 0 n = 4) (hS : ∀ q, S1 2 q 16 = S 2 q 16) : q_iv P S1 (tq_up M 115 n p v) := by
  obtain ⟨i1, i2⟩ := h
  have e : ∀ k, k ≠ 115 → (tq_up M 115 n p v) k = M k := fun k z => tq_upk z
  refine ⟨by rw [e 110 (by decide), e 113 (by decide)]; exact i1, fun q q1 q2 x hx => ?_⟩
  rw [hS, i2 q q1 q2 x hx, e 110 (by decide), e 111 (by decide), e 112 (by decide)]
  constructor
  · rintro ⟨m, m1, m2, m3, m4, m5⟩
    have mn : m ≠ n := fun z => hk (z ▸ m2)
    exact ⟨m, m1, m2, m3, m4, by rw [tq_upi mn]; exact m5⟩
  · rintro ⟨m, m1, m2, m3, m4, m5⟩
    have mn : m ≠ n := fun z => hk (z ▸ m2)
    rw [tq_upi mn] at m5
    exact ⟨m, m1, m2, m3, m4, m5⟩
theorem rd_ord {c h w d pn P Sh V E A t r eb : Nat} {G : Nat → Nat → Nat → Nat} {C : Nat → Nat → Nat} {OL : Nat → List Nat} {N : tq_Nn} {S M : tq_St} {post : tq_Nn → tq_St → Prop} {n p : Nat} (h0 : RR c h w d pn P Sh V E A t r eb G C OL N S M) (hn : n < P) (hp : p < 5) (hk2 : M 110 0 n = 2) (hto : M 113 0 n = nI p) (hw : ¬ 0 ≤ M 115 n p)
    (K : ∀ (N1 : tq_Nn) (S1 : tq_St) (G1 : Nat → Nat → Nat → Nat) (C1 : Nat → Nat → Nat) (OL1 : Nat → List Nat), RR c h w d pn P Sh V E A t r eb G1 C1 OL1 N1 S1 (tq_up M 115 n p (nI d)) → (∀ a b x, a ≠ 36 → a ≠ 38 → G1 a b x = G a b x) → N1 7 (G 15 0 n) = 1 → S1 7 (G 15 0 n) 1 = 2 → post N1 S1) : wpX5_receiveOrder post N (tq_up S 50 (G 15 0 n) p (nI d)) p (G 15 0 n) := by
  obtain ⟨hsc, hss, har, hpl, hlg, hsh, hpe, hmo, hpr, hsr, hpa, hkn, hst, hpm, hsi, hab, hsm, hvo, hvm, hbi, hlb, hiv, hod, hol, hoi, hfi, hli, had, hro⟩ := id h0
  obtain ⟨s1, s2, s3, s4, s5, s6, s7, s8, s9, b1, b2, b3, b4, b5, b6, b7, b8, b9, e1, e2⟩ := id hsc
  obtain ⟨l1, l2, l3, l4, l5, l6, l7, l8⟩ := id hli
  obtain ⟨rm0, rm1, rm2⟩ := tp_room hro e2 b3 b5
  obtain ⟨ro1, ro2, ro3, ro4, ro5, ro6, ro7, ro8, ro9⟩ := id hro
  obtain ⟨om, op⟩ := hol p hp
  have hx : tq_CX = 590000 := rfl
  have hy : tq_CY = 7200000 := rfl
  have nol : n ∉ OL p := fun z => hw ((om n).mp z).2.2.2
  have olen : (OL p).length ≤ P := tp_pwlen op (fun x hx => ((om x).mp hx).1)
  have e7 : N 7 (G 15 0 n) = 1 := (l1.2 n hn).2.1
  have e7x : G 15 0 n ≤ tq_CX := (l1.2 n hn).2.2
  have pa1 := (hpa n hn).1
  have pa4 := (hpa n hn).2.2.2.1
  have pa5 := (hpa n hn).2.2.2.2.1
  have eM : ∀ k, k ≠ 115 → (tq_up M 115 n p (nI d)) k = M k := fun k z => tq_upk z
  have wd : ∀ x, x < P → (M 115 x p).toInt ≤ d := fun x hx => (hpm.1 x hx).2.2.2.2.2.1 p hp
  have td : (nI d).toInt = (d : Int) := tp_ti (by omega)
  generalize hS6 : tq_up S 50 (G 15 0 n) p (nI d) = S6
  have f6 : ∀ k, k ≠ 50 → S6 k = S k := fun k z => by rw [← hS6, tq_upk z]
  have f6e : S6 50 (G 15 0 n) p = nI d := by rw [← hS6, tq_upe]
  have f6o : ∀ x, x ≠ n → x < P → S6 50 (G 15 0 x) = S 50 (G 15 0 x) := fun x z hx => by rw [← hS6, tq_upi (fun y => z (hpa.inj b3 hx hn y))]
  have f6j : ∀ q, q ≠ p → S6 50 (G 15 0 n) q = S 50 (G 15 0 n) q := fun q z => by rw [← hS6, tq_upj z]
  unfold wpX5_receiveOrder
  rw [f6 36 (by decide), tp_len (l5 p hp)]
  refine ⟨hp, (OL p).length + 1, rc8 (G := G) (C := C) (l := OL p) (W := M 115) (n := n) (d := d) hp (by omega) (by rw [f6 2 (by decide)]; exact hpl.1 p hp) (by rw [f6 36 (by decide), f6 37 (by decide)]; exact l5 p hp) (fun k x hk => hoi p k x hp hk) (fun x hx => ?_) e7 pa1 (by rw [f6 7 (by decide)]; exact pa4) (by omega) f6e (fun k hk hs hz => ?_) (OL p).length (Nat.le_refl _) (fun j y hj hy => ?_)⟩
  · obtain ⟨x1, x2, x3, x4⟩ := (om x).mp hx
    have xn : x ≠ n := fun z => nol (z ▸ hx)
    exact ⟨(l1.2 x x1).2.1, (hpa x x1).1, by rw [f6 7 (by decide)]; exact (hpa x x1).2.2.2.1, by rw [f6o x xn x1]; exact hkn x p x1 hp, by omega⟩
  · have hL6 : tp_L N (S6 36) (S6 37) G C 36 37 7 p (OL p).length := by rw [f6 36 (by decide), f6 37 (by decide)]; exact l5 p hp
    unfold wbX5_receiveOrder_39
    refine ⟨hp, (OL p).length, k, tp_L_aok hL6 (by have := ro8 p hp; omega) e7 e7x (by omega) (by omega), hL6.1.1, by omega, hk, rfl, fun N2 S2 ha => ?_⟩
    obtain ⟨c1, dd, A1, A2, A3, A4, A5, A6, A7, A8, A9, A10, A11⟩ := tp_L_addAt hL6 ha hk e7 e7x (by decide) (by decide) (by decide) (by decide) (by decide)
    rw [f6 36 (by decide)] at A4
    have c1b : c1 ≤ 2400 := A8 (by omega) (ro8 p hp)
    -- the order's place in the list
    have pw2 : (ins k n (OL p)).Pairwise (tp_ah p (tq_up M 115 n p (nI d) 115)) := by
      have eq1 : ∀ x, x ≠ n → tq_up M 115 n p (nI d) 115 x p = M 115 x p := fun x z => by rw [tq_upi z]
      have eq2 : tq_up M 115 n p (nI d) 115 n p = nI d := tq_upe
      have op2 : (OL p).Pairwise (tp_ah p (tq_up M 115 n p (nI d) 115)) := op.imp_of_mem (fun {a b} ha hb z => by
        have an : a ≠ n := fun y => nol (y ▸ ha)
        have bn : b ≠ n := fun y => nol (y ▸ hb)
        unfold tp_ah at z ⊢
        rw [eq1 a an, eq1 b bn]; exact z)
      have stp : ∀ z, z ∈ OL p → ¬ (M 115 z p = nI d ∧ n < z) → tp_ah p (tq_up M 115 n p (nI d) 115) z n := fun z hz2 hz3 => by
        have zn : z ≠ n := fun y => nol (y ▸ hz2)
        have z1 := wd z ((om z).mp hz2).1
        unfold tp_ah
        rw [eq1 z zn, eq2]
        by_cases q : M 115 z p = nI d
        · exact Or.inr ⟨q, by have : ¬ n < z := fun y => hz3 ⟨q, y⟩; omega⟩
        · refine Or.inl ?_
          rw [tp_lt]
          rw [tp_eq] at q
          omega
      refine ins_pw op2 (fun j y hj hy => ?_) (fun j x hj hx => ?_)
      · obtain ⟨y1, y2⟩ := hs j y hj hy
        have yn : y ≠ n := by omega
        unfold tp_ah
        rw [eq1 y yn, eq2]
        exact Or.inr ⟨y1.symm, y2⟩
      · rcases hz with q | ⟨z, z1, z2⟩
        · omega
        · have zs := stp z (List.mem_of_getElem? z1) z2
          by_cases q : j = k - 1
          · rw [q, z1] at hx
            have := Option.some.inj hx
            subst this
            exact zs
          · exact tp_ah_tr (pw_get op2 hx z1 (by omega)) zs
    have mem2 : ∀ x, x ∈ ins k n (OL p) → x < P ∧ M 110 0 x = 2 := fun x hx => by
      rcases ins_mem.mp hx with z | z
      · rw [z]; exact ⟨hn, hk2⟩
      · exact ⟨((om x).mp z).1, ((om x).mp z).2.1⟩
    have len2 : (ins k n (OL p)).length ≤ P := tp_pwlen pw2 (fun x hx => (mem2 x hx).1)
    -- the new ghosts
    have gO : ∀ a b x, ¬ (a = 36 ∧ b = p) → tp_GA G 36 p k (G 15 0 n) a b x = G a b x := fun a b x z => by unfold tp_GA; rw [if_neg z]
    have gP : ∀ x, tp_GA G 36 p k (G 15 0 n) 36 p x = if x < k then G 36 p x else if x = k then G 15 0 n else G 36 p (x - 1) := fun x => by unfold tp_GA; rw [if_pos ⟨rfl, rfl⟩]
    have cO : ∀ a b, ¬ (a = 36 ∧ b = p) → tp_C C 36 p c1 a b = C a b := fun a b z => by unfold tp_C; rw [if_neg z]
    have cP : tp_C C 36 p c1 36 p = c1 := by unfold tp_C; rw [if_pos ⟨rfl, rfl⟩]
    generalize tp_GA G 36 p k (G 15 0 n) = G2 at A1 gO gP
    generalize tp_C C 36 p c1 = C2 at A1 cO cP
    have gA : ∀ a b x, a ≠ 36 → G2 a b x = G a b x := fun a b x z => gO a b x (fun y => z y.1)
    have cA : ∀ a b, a ≠ 36 → C2 a b = C a b := fun a b z => cO a b (fun y => z y.1)
    have fS2 : ∀ k', k' ≠ 36 → k' ≠ 37 → S2 k' = S6 k' := fun k' z1 z2 => funext (fun i => A3 k' i (fun y => z1 y.1) (fun y => z2 y.1))
    have fS : ∀ k', k' ≠ 36 → k' ≠ 37 → k' ≠ 50 → S2 k' = S k' := fun k' z1 z2 z3 => by rw [fS2 k' z1 z2, f6 k' z3]
    have i2 : ∀ j x, (ins k n (OL p))[j]? = some x → G2 36 p j = G 15 0 x := fun j x hj => by
      rw [ins_get hk] at hj
      rw [gP]
      by_cases q1 : j < k
      · rw [if_pos q1] at hj ⊢; exact hoi p j x hp hj
      · rw [if_neg q1] at hj ⊢
        by_cases q2 : j = k
        · rw [if_pos q2] at hj ⊢; rw [Option.some.inj hj]
        · rw [if_neg q2] at hj ⊢; exact hoi p (j - 1) x hp hj
    have hst2 : stC p (ins k n (OL p)) (fun x => (M 117 0 x).toNatClampNeg) (fun x g => (S 10 (G 52 (G 15 0 x) g) 5).toNatClampNeg) N2 G2 C2 S2 := by
      refine ⟨by rw [ins_len]; exact A1, fun j x hj => by rw [gA 15 0 x (by decide)]; exact i2 j x hj, fun x hx => ?_⟩
      obtain ⟨x1, x2⟩ := mem2 x hx
      obtain ⟨g, g1, g2, g3, g4, g5⟩ := hod x x1 x2
      have cg : (M 117 0 x).toNatClampNeg = g := by rw [g3, nI_clamp (by omega)]
      show N2 7 (G2 15 0 x) = 1 ∧ N2 52 (G2 15 0 x) = 1 ∧ (M 117 0 x).toNatClampNeg ≤ 6 ∧ tp_L N2 (S2 52) (S2 53) G2 C2 52 53 10 (G2 15 0 x) (M 117 0 x).toNatClampNeg ∧ ∀ g, g < (M 117 0 x).toNatClampNeg → N2 10 (G2 52 (G2 15 0 x) g) = 1 ∧ S2 10 (G2 52 (G2 15 0 x) g) 5 = nI (S 10 (G 52 (G 15 0 x) g) 5).toNatClampNeg ∧ (S 10 (G 52 (G 15 0 x) g) 5).toNatClampNeg < 28
      rw [cg, gA 15 0 x (by decide), fS 52 (by decide) (by decide) (by decide), fS 53 (by decide) (by decide) (by decide), fS 10 (by decide) (by decide) (by decide)]
      refine ⟨dyn_m A2 (by decide) (l1.2 x x1).2.1, dyn_m A2 (by decide) (hpa x x1).2.2.1, g2, tp_L_fr0 g4 rfl rfl (fun _ => rfl) (fun j hj => dyn_m A2 (by decide) hj) (fun j hj => dyn_m A2 (by decide) hj) (fun j _ => gA 52 _ j (by decide)) (cA 52 _ (by decide)), fun j hj => ?_⟩
      rw [gA 52 _ j (by decide)]
      obtain ⟨z1, z2⟩ := (g5 j hj).k28
      exact ⟨dyn_m A2 (by decide) (g4.2 j hj).2.1, z1, z2⟩
    have hK : ∀ x g y, x ∈ ins k n (OL p) → y ∈ ins k n (OL p) → g < (fun x => (M 117 0 x).toNatClampNeg) x → (tp_has (M 117 0) (M 118) x g y ↔ khas (fun x => (M 117 0 x).toNatClampNeg) (fun x g => (S 10 (G 52 (G 15 0 x) g) 5).toNatClampNeg) y ((fun x g => (S 10 (G 52 (G 15 0 x) g) 5).toNatClampNeg) x g)) := fun x g y hx hy hg => by
      obtain ⟨x1, x2⟩ := mem2 x hx
      obtain ⟨y1, y2⟩ := mem2 y hy
      obtain ⟨gx, _, gx2, gx3, _, gx5⟩ := hod x x1 x2
      obtain ⟨gy, _, gy2, gy3, _, gy5⟩ := hod y y1 y2
      have cx : (M 117 0 x).toNatClampNeg = gx := by rw [gx3, nI_clamp (by omega)]
      have cy : (M 117 0 y).toNatClampNeg = gy := by rw [gy3, nI_clamp (by omega)]
      have hg2 : g < (M 117 0 x).toNatClampNeg := hg
      show (∃ hh : Nat, hh < (M 117 0 y).toNatClampNeg ∧ M 118 x (4 * g) = M 118 y (4 * hh) ∧ M 118 x (4 * g + 1) = M 118 y (4 * hh + 1)) ↔ ∃ hh, hh < (M 117 0 y).toNatClampNeg ∧ (S 10 (G 52 (G 15 0 y) hh) 5).toNatClampNeg = (S 10 (G 52 (G 15 0 x) g) 5).toNatClampNeg
      constructor
      · rintro ⟨hh, h1, h2, h3⟩
        exact ⟨hh, h1, ((q_pg.key (gx5 g (by omega)) (gy5 hh (by omega))).mp ⟨h2, h3⟩).symm⟩
      · rintro ⟨hh, h1, h2⟩
        obtain ⟨h3, h4⟩ := (q_pg.key (gx5 g (by omega)) (gy5 hh (by omega))).mpr h2.symm
        exact ⟨hh, h1, h3, h4⟩
    obtain ⟨n38, hn38⟩ : ∃ x, x = (tp_FL (M 117 0) (M 118) (OL p)).length := ⟨_, rfl⟩
    have h38 : tp_L N2 (S2 38) (S2 39) G2 C2 38 39 10 p n38 := by
      rw [hn38, fS 38 (by decide) (by decide) (by decide), fS 39 (by decide) (by decide) (by decide)]
      exact tp_L_fr0 (l6 p hp) rfl rfl (fun _ => rfl) (fun j hj => dyn_m A2 (by decide) hj) (fun j hj => dyn_m A2 (by decide) hj) (fun j _ => gA 38 p j (by decide)) (cA 38 p (by decide))
    have c36 := ro8 p hp
    have c38 := ro9 p hp
    have cA38 := cA 38 p (by decide)
    refine tp_settle (U := M 117 0) (B := M 118) hp hst2 (by omega) h38 (by rw [cA38]; exact c38) (fun x _ => rfl) hK (by omega) (by omega) (fun N3 S3 G3 C3 hA => ?_)
    obtain ⟨R, hA⟩ : ∃ R, aI p N2 (tq_clred (tq_cp S2 40 p R) 38 39 p n38) G2 C2 N3 S3 G3 C3 ((tp_FL (M 117 0) (M 118) (ins k n (OL p))).map (fun y => G2 52 (G2 15 0 y.1) y.2)) := ⟨_, hA⟩
    have h38b : tp_L N2 (tq_cp S2 40 p R 38) (tq_cp S2 40 p R 39) G2 C2 38 39 10 p n38 := by
      rw [tq_cpk (by decide), tq_cpk (by decide)]; exact h38
    obtain ⟨_, D2, D3⟩ := tp_L_clr h38b (by decide)
    generalize tq_clred (tq_cp S2 40 p R) 38 39 p n38 = Sb at hA D2 D3
    have e38 : tq_cp S2 40 p R 38 = S 38 := by rw [tq_cpk (by decide), fS 38 (by decide) (by decide) (by decide)]
    have e39 : tq_cp S2 40 p R 39 = S 39 := by rw [tq_cpk (by decide), fS 39 (by decide) (by decide) (by decide)]
    rw [e38] at D2 D3
    obtain ⟨⟨B1, B2⟩, B3, B4, B5, ⟨B6, B7, B8, B9, B10⟩, B11, B12⟩ := hA
    rw [D3] at B4 B5
    have f3 : ∀ k', k' ≠ 38 → k' ≠ 39 → k' ≠ 40 → S3 k' = S2 k' := fun k' z1 z2 z3 => funext (fun i => by
      rw [B4 k' i (fun y => z1 y.1) (fun y => z2 y.1), D2 k' i (fun y => z1 y.1) (fun y => z2 y.1), tq_cpk z3])
    have f4 : ∀ k', k' ≠ 36 → k' ≠ 37 → k' ≠ 38 → k' ≠ 39 → k' ≠ 40 → k' ≠ 50 → S3 k' = S k' := fun k' z1 z2 z3 z4 z5 z6 => by rw [f3 k' z3 z4 z5, fS k' z1 z2 z6]
    have q38 : ∀ q, q ≠ p → S3 38 q = S 38 q := fun q z => by
      rw [B4 38 q (fun y => z y.2) (fun y => absurd y.1 (by decide)), D2 38 q (fun y => z y.2) (fun y => absurd y.1 (by decide)), e38]
    have gG3 : ∀ a b x, a ≠ 36 → a ≠ 38 → G3 a b x = G a b x := fun a b x z1 z2 => by rw [B11 a b x (fun y => z2 y.1), gA a b x z1]
    have m3 := A2.tr B3
    have eU : tq_up M 115 n p (nI d) 117 = M 117 := eM 117 (by decide)
    have eB : tq_up M 115 n p (nI d) 118 = M 118 := eM 118 (by decide)
    refine K N3 S3 G3 C3 (fun q => if q = p then ins k n (OL p) else OL q) (RR_read h0 hn hp m3 (fun k' i' _ _ z2 z36 z37 z38 z39 z40 z50 => by rw [f4 k' z36 z37 z38 z39 z40 z50]) (fun a j _ => by rw [f4 2 (by decide) (by decide) (by decide) (by decide) (by decide) (by decide)]) (fun m q hm hq => ?_) gG3 (fun a b z1 z2 => by rw [B12 a b (fun y => z2 y.1), cA a b z1]) (iv_keep hiv (by rw [hk2]; decide) (fun q => by rw [f4 2 (by decide) (by decide) (by decide) (by decide) (by decide) (by decide)])) (fun q hq => ?_) (fun q j x hq hj => ?_) (fun q j x g hq hj => ?_) (fun q hq => ?_) (fun q hq => ?_) (fun a b ha5 hb5 hab2 h1 h2 => ?_) (fun a b ha5 hb5 hab2 h1 h2 => ?_) ?_) gG3 (dyn_m m3 (by decide) e7) (by rw [f4 7 (by decide) (by decide) (by decide) (by decide) (by decide) (by decide), pa5]; exact hk2)
    · -- known
      rw [f3 50 (by decide) (by decide) (by decide), fS2 50 (by decide) (by decide)]
      by_cases q1 : m = n
      · subst q1
        by_cases q2 : q = p
        · subst q2; rw [if_pos ⟨rfl, rfl⟩]; exact f6e
        · rw [if_neg (fun z => q2 z.2)]; exact f6j q q2
      · rw [if_neg (fun z => q1 z.1), f6o m q1 hm]
    · -- the orders
      by_cases q1 : q = p
      · subst q1
        refine ⟨fun m => ?_, by simp only [if_true]; exact pw2⟩
        simp only [if_true]
        rw [ins_mem, om m]
        unfold tp_KO
        rw [eM 110 (by decide), eM 113 (by decide)]
        constructor
        · rintro (z | z)
          · rw [z, tq_upe]; exact ⟨hn, hk2, hto, nI_pos' (by omega)⟩
          · by_cases q2 : m = n
            · rw [q2, tq_upe]; exact ⟨hn, hk2, hto, nI_pos' (by omega)⟩
            · rw [tq_upi q2]; exact z
        · intro z
          by_cases q2 : m = n
          · exact Or.inl q2
          · rw [tq_upi q2] at z; exact Or.inr z
      · refine ⟨fun m => ?_, ?_⟩
        · simp only [q1, if_false]
          rw [tp_KO_k q1]; exact (hol q hq).1 m
        · simp only [q1, if_false]
          rw [tp_ah_k q1]; exact (hol q hq).2
    · -- their objects
      rw [gG3 15 0 x (by decide) (by decide), B11 36 q j (fun y => absurd y.1 (by decide))]
      by_cases q1 : q = p
      · subst q1
        simp only [if_true] at hj
        exact i2 j x hj
      · simp only [q1, if_false] at hj
        rw [gO 36 q j (fun y => q1 y.2)]; exact hoi q j x hq hj
    · -- those in force
      rw [eU, eB] at hj
      rw [gG3 15 0 x (by decide) (by decide), gG3 52 _ g (by decide) (by decide)]
      by_cases q1 : q = p
      · subst q1
        simp only [if_true] at hj
        rw [B2 j (G2 52 (G2 15 0 x) g) (by rw [List.getElem?_map, hj]; rfl), gA 15 0 x (by decide), gA 52 _ g (by decide)]
      · simp only [q1, if_false] at hj
        rw [B11 38 q j (fun y => q1 y.2), gA 38 q j (by decide)]; exact hfi q j x g hq hj
    · -- the list of orders
      rw [f3 36 (by decide) (by decide) (by decide), f3 37 (by decide) (by decide) (by decide)]
      by_cases q1 : q = p
      · subst q1
        simp only [if_true]
        rw [ins_len]
        exact tp_L_fr0 A1 rfl rfl (fun _ => rfl) (fun j hj => dyn_m B3 (by decide) hj) (fun j hj => dyn_m B3 (by decide) hj) (fun j _ => B11 36 q j (fun y => absurd y.1 (by decide))) (B12 36 q (fun y => absurd y.1 (by decide)))
      · simp only [q1, if_false]
        have s36 : S2 36 q = S 36 q := by rw [A3 36 q (fun y => q1 y.2) (fun y => absurd y.1 (by decide)), f6 36 (by decide)]
        refine tp_L_fr1 (l5 q hq) (by rw [s36]) (by rw [s36]) (fun z1 z2 => ?_) (fun j hj => dyn_m m3 (by decide) hj) (fun j hj => dyn_m m3 (by decide) hj) (fun j _ => by rw [B11 36 q j (fun y => absurd y.1 (by decide)), gO 36 q j (fun y => q1 y.2)]) (by rw [B12 36 q (fun y => absurd y.1 (by decide)), cO 36 q (fun y => q1 y.2)])
        have nd : (S 36 q 1).toNatClampNeg ≠ dd := fun y2 => by
          rw [y2] at z2
          obtain ⟨w1, w2⟩ := A4 z2
          exact l7 q p hq hp q1 z1 w2 (by rw [y2, w1])
        rw [A3 37 _ (fun y => absurd y.1 (by decide)) (fun y => nd y.2), f6 37 (by decide)]
    · -- the list of those in force
      by_cases q1 : q = p
      · subst q1
        simp only [if_true]
        rw [List.length_map] at B1
        exact B1
      · simp only [q1, if_false]
        refine tp_L_fr1 (l6 q hq) (by rw [q38 q q1]) (by rw [q38 q q1]) (fun z1 z2 => ?_) (fun j hj => dyn_m m3 (by decide) hj) (fun j hj => dyn_m m3 (by decide) hj) (fun j _ => by rw [B11 38 q j (fun y => q1 y.2), gA 38 q j (by decide)]) (by rw [B12 38 q (fun y => q1 y.2), cA 38 q (by decide)])
        have w1 := (tp_L_own (l6 q hq) z1).2
        have nq : ¬ (S 38 q 1).toNatClampNeg = (S 38 p 1).toNatClampNeg := fun y => by
          rcases (l6 p hp).1.2.2.2 with ⟨u1, _⟩ | ⟨u1, _⟩
          · rw [y, u1] at w1; exact absurd w1 (by decide)
          · exact l8 q p hq hp q1 z1 u1 y
        have nb : ¬ (39 = 39 ∧ (¬ N2 39 (S 38 q 1).toNatClampNeg = 1 ∨ (0 < S 38 p 1 ∧ (S 38 q 1).toNatClampNeg = (S 38 p 1).toNatClampNeg))) := fun y => by
          rcases y.2 with u | u
          · exact u (dyn_m A2 (by decide) z2)
          · exact nq u.2
        rw [B4 39 _ (fun y => absurd y.1 (by decide)) nb, D2 39 _ (fun y => absurd y.1 (by decide)) (fun y => nq y.2), e39]
    · -- their rooms are their own
      rw [f3 36 (by decide) (by decide) (by decide)] at h1 h2 ⊢
      have s36 : ∀ q, q ≠ p → S2 36 q = S 36 q := fun q q1 => by rw [A3 36 q (fun y => q1 y.2) (fun y => absurd y.1 (by decide)), f6 36 (by decide)]
      have key : ∀ q, q < 5 → q ≠ p → 0 < S 36 q 1 → (S 36 q 1).toNatClampNeg ≠ dd := fun q hq q1 z1 z2 => by
        have w1 := (tp_L_own (l5 q hq) z1).1
        rw [z2] at w1
        obtain ⟨u1, u2⟩ := A4 w1
        exact l7 q p hq hp q1 z1 u2 (by rw [z2, u1])
      by_cases q1 : a = p
      · subst q1
        have q2 : b ≠ a := fun z => hab2 z.symm
        rw [s36 b q2] at h2 ⊢
        rw [A9]
        exact fun z => key b hb5 q2 h2 z.symm
      · rw [s36 a q1] at h1 ⊢
        by_cases q2 : b = p
        · subst q2
          rw [A9]
          exact key a ha5 q1 h1
        · rw [s36 b q2] at h2 ⊢
          exact l7 a b ha5 hb5 hab2 h1 h2
    · have key : ∀ q, q < 5 → q ≠ p → 0 < S 38 q 1 → 0 < S3 38 p 1 → (S 38 q 1).toNatClampNeg ≠ (S3 38 p 1).toNatClampNeg := fun q hq q1 z1 z3 z2 => by
        have w1 := (tp_L_own (l6 q hq) z1).1
        rcases B5 z3 with u | ⟨u1, u2⟩
        · rw [← z2] at u; exact u (dyn_m A2 (by decide) w1)
        · exact l8 q p hq hp q1 z1 u1 (z2.trans u2)
      by_cases q1 : a = p
      · subst q1
        have q2 : b ≠ a := fun z => hab2 z.symm
        rw [q38 b q2] at h2 ⊢
        exact fun z => key b hb5 q2 h2 h1 z.symm
      · rw [q38 a q1] at h1 ⊢
        by_cases q2 : b = p
        · subst q2
          exact key a ha5 q1 h1 h2
        · rw [q38 b q2] at h2 ⊢
          exact l8 a b ha5 hb5 hab2 h1 h2
    · -- the room
      have cs := tp_CS_p (C := C) (C1 := C3) hp (fun a b z1 z2 => by rw [B12 a b z2, cO a b z1])
      have c3 : C3 36 p = c1 := by rw [B12 36 p (fun y => absurd y.1 (by decide)), cP]
      have cB : ∀ a b, ¬ (a = 36 ∧ b = p) → ¬ (a = 38 ∧ b = p) → C3 a b = C a b := fun a b z1 z2 => by rw [B12 a b z2, cO a b z1]
      rw [cA38] at B6 B8 B9
      refine ⟨by omega, by omega, B10 (A11 ro3), ?_, ?_, ?_, ?_, fun q hq => ?_, fun q hq => ?_⟩
      · rw [cB 15 0 (by omega) (by omega)]; exact ro4
      · rw [cB 17 0 (by omega) (by omega)]; exact ro5
      · rw [cB 19 0 (by omega) (by omega)]; exact ro6
      · rw [cB 22 0 (by omega) (by omega)]; exact ro7
      · by_cases q1 : q = p
        · rw [q1, c3]; exact c1b
        · rw [cB 36 q (by omega) (by omega)]; exact ro8 q hq
      · by_cases q1 : q = p
        · rw [q1]; exact B7
        · rw [cB 38 q (by omega) (by omega)]; exact ro9 q hq
  · rw [List.getElem?_eq_some_iff] at hy
    obtain ⟨z, _⟩ := hy
    omega
theorem rd_oth {c h w d pn P Sh V E A t r eb : Nat} {G : Nat → Nat → Nat → Nat} {C : Nat → Nat → Nat} {OL : Nat → List Nat} {N : tq_Nn} {S M : tq_St} {S1 : tq_St} {n p : Nat} (h0 : RR c h w d pn P Sh V E A t r eb G C OL N S M) (hn : n < P) (hp : p < 5) (hk2 : ¬ M 110 0 n = 2) (f1 : ∀ k, k ≠ 2 → k ≠ 50 → S1 k = S k) (f2 : ∀ a j, j ≠ 16 → S1 2 a j = S 2 a j) (f50 : S1 50 = tq_up S 50 (G 15 0 n) p (nI d) 50) (hiv1 : q_iv P S1 (tq_up M 115 n p (nI d))) : RR c h w d pn P Sh V E A t r eb G C OL N S1 (tq_up M 115 n p (nI d)) := by
  obtain ⟨hsc, hss, har, hpl, hlg, hsh, hpe, hmo, hpr, hsr, hpa, hkn, hst, hpm, hsi, hab, hsm, hvo, hvm, hbi, hlb, hiv, hod, hol, hoi, hfi, hli, had, hro⟩ := id h0
  have b3 := hsc.2.2.2.2.2.2.2.2.2.2.2.1
  obtain ⟨l1, l2, l3, l4, l5, l6, l7, l8⟩ := id hli
  have eM : ∀ k, k ≠ 115 → (tq_up M 115 n p (nI d)) k = M k := fun k z => tq_upk z
  have s36 := f1 36 (by decide) (by decide)
  have s37 := f1 37 (by decide) (by decide)
  have s38 := f1 38 (by decide) (by decide)
  have s39 := f1 39 (by decide) (by decide)
  refine RR_read h0 hn hp tp_mono.rf (fun k i _ _ z2 _ _ _ _ _ z50 => by rw [f1 k z2 z50]) f2 (fun m q hm hq => ?_) (fun _ _ _ _ _ => rfl) (fun _ _ _ _ => rfl) hiv1 (fun q hq => ?_) hoi ?_ (fun q hq => by rw [s36, s37]; exact l5 q hq) (fun q hq => by rw [s38, s39]; exact l6 q hq) (by rw [s36]; exact l7) (by rw [s38]; exact l8) hro
  · rw [f50]
    by_cases q1 : m = n
    · subst q1
      by_cases q2 : q = p
      · subst q2; rw [if_pos ⟨rfl, rfl⟩, tq_upe]
      · rw [if_neg (fun z => q2 z.2), tq_upj q2]
    · rw [if_neg (fun z => q1 z.1), tq_upi (fun y => q1 (hpa.inj b3 hm hn y))]
  · by_cases q1 : q = p
    · subst q1
      have nn : ∀ x, x ∈ OL q → x ≠ n := fun x hx z => hk2 (by rw [← z]; exact (((hol q hq).1 x).mp hx).2.1)
      refine ⟨fun m => ?_, (hol q hq).2.imp_of_mem (fun {a b} ha hb z => ?_)⟩
      · rw [(hol q hq).1 m]
        unfold tp_KO
        rw [eM 110 (by decide), eM 113 (by decide)]
        by_cases q2 : m = n
        · rw [q2]; exact ⟨fun z => absurd z.2.1 hk2, fun z => absurd z.2.1 hk2⟩
        · rw [tq_upi q2]
      · unfold tp_ah at z ⊢
        rw [tq_upi (nn a ha), tq_upi (nn b hb)]; exact z
    · refine ⟨fun m => ?_, ?_⟩
      · rw [tp_KO_k q1]; exact (hol q hq).1 m
      · rw [tp_ah_k q1]; exact (hol q hq).2
  · unfold q_fi
    rw [eM 117 (by decide), eM 118 (by decide)]; exact hfi
theorem tp_mx {x u v : Int32} : x ≤ (if u < v then v else u) ↔ (x ≤ u ∨ x ≤ v) := by
  by_cases q : u < v
  · rw [if_pos q]
    simp only [tp_le, tp_lt] at *
    omega
  · rw [if_neg q]
    simp only [tp_le, tp_lt] at *
    omega
def rdM (M : tq_St) (n p d : Nat) : tq_St := if 0 ≤ M 115 n p then M else tq_up M 115 n p (nI d)
theorem rd_at {c h w d pn P Sh V E A t r eb : Nat} {G : Nat → Nat → Nat → Nat} {C : Nat → Nat → Nat} {OL : Nat → List Nat} {N : tq_Nn} {S M : tq_St} {post : tq_Nn → tq_St → Prop} {n p : Nat} (h0 : RR c h w d pn P Sh V E A t r eb G C OL N S M) (hn : n < P) (hp : p < 5) (hto : M 113 0 n = nI p)
    (K : ∀ (N1 : tq_Nn) (S1 : tq_St) (G1 : Nat → Nat → Nat → Nat) (C1 : Nat → Nat → Nat) (OL1 : Nat → List Nat), RR c h w d pn P Sh V E A t r eb G1 C1 OL1 N1 S1 (rdM M n p d) → (∀ a b x, a ≠ 36 → a ≠ 38 → G1 a b x = G a b x) → post N1 S1) : wpX11_readAt post N S (G 15 0 n) p := by
  obtain ⟨hsc, hss, har, hpl, hlg, hsh, hpe, hmo, hpr, hsr, hpa, hkn, hst, hpm, hsi, hab, hsm, hvo, hvm, hbi, hlb, hiv, hod, hol, hoi, hfi, hli, had, hro⟩ := id h0
  obtain ⟨s1, s2, s3, s4, s5, s6, s7, s8, s9, b1, b2, b3, b4, b5, b6, b7, b8, b9, e1, e2⟩ := id hsc
  have e7 : N 7 (G 15 0 n) = 1 := (hli.1.2 n hn).2.1
  obtain ⟨pa1, pa2, pa3, pa4, pa5, pa6, pa7, pa8, pa9, pa10, pa11, pa12⟩ := hpa n hn
  have w1 := hpl.1 p hp
  have pc : (nI p).toNatClampNeg = p := nI_clamp (by omega)
  have x1 := hss.1
  have t0 : (0 : Int32).toInt = 0 := by decide
  unfold wpX11_readAt
  rw [w1, pc, x1, s1, hkn n p hn hp]
  refine ⟨e7, hp, vp_in_nI hp (by decide), pa1, ?_⟩
  by_cases q : 0 ≤ M 115 n p
  · refine tp_dF (fun z => ?_) (K N S G C OL (by unfold rdM; rw [if_pos q]; exact h0) (fun _ _ _ _ _ => rfl))
    rw [tp_le] at q
    rw [tp_lt] at z
    omega
  · have ql : M 115 n p < 0 := by
      rw [tp_le] at q
      rw [tp_lt]
      omega
    have e7k : ∀ j, tq_up S 50 (G 15 0 n) p (nI d) 7 (G 15 0 n) j = S 7 (G 15 0 n) j := fun j => by rw [tq_upk (by decide)]
    refine tp_dT ql (tp_ae ?_)
    rw [e7k 1, pa5]
    by_cases k2 : M 110 0 n = 2
    · refine tp_cT k2 (rd_ord h0 hn hp k2 hto q (fun N1 S1 G1 C1 OL1 h1 g1 n1 v1 => ?_))
      unfold wbX11_readAt_39 wbX11_readAt_72
      rw [v1]
      exact ⟨n1, tp_cF (by decide) (K N1 S1 G1 C1 OL1 (by unfold rdM; rw [if_neg q]; exact h1) g1)⟩
    · refine tp_cF k2 ?_
      unfold wbX11_readAt_39 wbX11_readAt_72
      rw [e7k 1, pa5, e7k 2, e7k 4, pa6, pa8]
      refine ⟨e7, ?_⟩
      by_cases k4 : M 110 0 n = 4
      · obtain ⟨_, ⟨a, a1, a2⟩, _⟩ := hpm.1 n hn
        have p0 : p = 0 := by
          have z := hiv.1 n hn k4
          rw [hto] at z
          exact (nI_eq (a := p) (b := 0) (by omega) (by omega)).mp z
        have ac : (nI a).toNatClampNeg = a := nI_clamp (by omega)
        rw [a2, ac]
        have u16 : tq_up S 50 (G 15 0 n) p (nI d) 2 a 16 = S 2 a 16 := by rw [tq_upk (by decide)]
        rw [u16]
        have hiv1 : q_iv P (tq_up (tq_up S 50 (G 15 0 n) p (nI d)) 2 a 16 (if S 2 a 16 < M 112 0 n then M 112 0 n else S 2 a 16)) (tq_up M 115 n p (nI d)) := by
          refine ⟨?_, fun b hb1 hb2 x hx => ?_⟩
          · rw [tq_upk (by decide), tq_upk (by decide)]; exact hiv.1
          · have eM : ∀ k, k ≠ 115 → (tq_up M 115 n p (nI d)) k = M k := fun k z => tq_upk z
            rw [eM 110 (by decide), eM 111 (by decide), eM 112 (by decide)]
            have old := hiv.2 b hb1 hb2 x hx
            by_cases q1 : b = a
            · rw [q1, tq_upe, tp_mx, ← q1, old]
              constructor
              · rintro (⟨m, m1, m2, m3, m4, m5⟩ | z)
                · refine ⟨m, m1, m2, m3, m4, ?_⟩
                  by_cases q2 : m = n
                  · rw [q2, p0, tq_upe]; exact nI_pos' (by omega)
                  · rw [tq_upi q2]; exact m5
                · exact ⟨n, hn, k4, by rw [q1]; exact a2, z, by rw [p0, tq_upe]; exact nI_pos' (by omega)⟩
              · rintro ⟨m, m1, m2, m3, m4, m5⟩
                by_cases q2 : m = n
                · rw [q2] at m4; exact Or.inr m4
                · rw [tq_upi q2] at m5; exact Or.inl ⟨m, m1, m2, m3, m4, m5⟩
            · rw [tq_upi q1, tq_upk (by decide), old]
              have ne : ∀ m, M 111 0 m = nI b → m ≠ n := fun m z1 z2 => by
                rw [z2, a2] at z1
                exact q1 ((nI_eq (by omega) (by omega)).mp z1).symm
              constructor
              · rintro ⟨m, m1, m2, m3, m4, m5⟩
                exact ⟨m, m1, m2, m3, m4, by rw [tq_upi (ne m m3)]; exact m5⟩
              · rintro ⟨m, m1, m2, m3, m4, m5⟩
                rw [tq_upi (ne m m3)] at m5
                exact ⟨m, m1, m2, m3, m4, m5⟩
        exact tp_cT k4 ⟨vp_in_nI a1 (by decide), tp_ae (K N _ G C OL (by unfold rdM; rw [if_neg q]; exact rd_oth h0 hn hp k2 (fun k z1 z2 => by rw [tq_upk z1, tq_upk z2]) (fun b j z => by rw [tq_upj z, tq_upk (by decide)]) (by rw [tq_upk (by decide)]) hiv1) (fun _ _ _ _ _ => rfl))⟩
      · exact tp_cF k4 (K N _ G C OL (by unfold rdM; rw [if_neg q]; exact rd_oth h0 hn hp k2 (fun k z1 z2 => by rw [tq_upk z2]) (fun b j z => by rw [tq_upk (by decide)]) rfl (iv_keep hiv k4 (fun b => by rw [tq_upk (by decide)]))) (fun _ _ _ _ _ => rfl))
