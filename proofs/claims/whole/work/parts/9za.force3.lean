/-! pure: which paragraphs are in force, the list is made anew -/
/-- the list of those in force, so far; all else as at the base -/
def aI (p : Nat) (Nb : tq_Nn) (Sb : tq_St) (Gb : Nat → Nat → Nat → Nat) (Cb : Nat → Nat → Nat) (N : tq_Nn) (S : tq_St) (G : Nat → Nat → Nat → Nat) (C : Nat → Nat → Nat) (it : List Nat) : Prop :=
  (tp_L N (S 38) (S 39) G C 38 39 10 p it.length ∧ ∀ k q, it[k]? = some q → G 38 p k = q)
  ∧ tp_mono Nb N ∧ (∀ k i, ¬ (k = 38 ∧ i = p) → ¬ (k = 39 ∧ (¬ Nb 39 i = 1 ∨ (0 < Sb 38 p 1 ∧ i = (Sb 38 p 1).toNatClampNeg))) → S k i = Sb k i)
  ∧ (0 < S 38 p 1 → ¬ Nb 39 (S 38 p 1).toNatClampNeg = 1 ∨ (0 < Sb 38 p 1 ∧ (S 38 p 1).toNatClampNeg = (Sb 38 p 1).toNatClampNeg))
  ∧ (Cb 38 p ≤ C 38 p ∧ C 38 p ≤ 2400 ∧ N 0 0 + Cb 38 p ≤ Nb 0 0 + C 38 p ∧ N 0 1 + 4 * Cb 38 p ≤ Nb 0 1 + 4 * C 38 p ∧ (1 ≤ Nb 0 0 → 1 ≤ N 0 0))
  ∧ (∀ a b c, ¬ (a = 38 ∧ b = p) → G a b c = Gb a b c) ∧ (∀ a b, ¬ (a = 38 ∧ b = p) → C a b = Cb a b)
theorem aI_add {p : Nat} {Nb N N1 : tq_Nn} {Sb S S1 : tq_St} {Gb G : Nat → Nat → Nat → Nat} {Cb C : Nat → Nat → Nat} {it : List Nat} {v : Nat} (h : aI p Nb Sb Gb Cb N S G C it) (hi : it.length < 1000) (hv : N 10 v = 1) (hv2 : v ≤ tq_CX) (ha : tq_added N S 38 39 p v N1 S1) : ∃ c1, aI p Nb Sb Gb Cb N1 S1 (tp_G G 38 p it.length v) (tp_C C 38 p c1) (it ++ [v]) := by
  obtain ⟨⟨hL, hi1⟩, m, f, dd, ⟨c0, c1, c2, c3, c4⟩, gG, gC⟩ := h
  have n0 : 1 ≤ N 0 0 → 1 ≤ N1 0 0 := by
    obtain ⟨_, _, _, _, _, _, _, _, q⟩ := id ha
    rcases q with ⟨q, _⟩ | ⟨_, _, _, _, q⟩
    · rw [q]; exact id
    · rw [q, tp_na0]; intro _; omega
  obtain ⟨cc, d, g1, g2, g3, g4, g5, g6, g7, g8, g9, g10, g11, g12⟩ := tp_L_add hL ha hv hv2 (by decide) (by decide) (by decide) (by decide) (by decide)
  have len : (it ++ [v]).length = it.length + 1 := by simp
  have hd : ¬ Nb 39 d = 1 ∨ (0 < Sb 38 p 1 ∧ d = (Sb 38 p 1).toNatClampNeg) := by
    by_cases q : N 39 d = 1
    · obtain ⟨y1, y2⟩ := g4 q
      rw [← y1]; exact dd y2
    · exact Or.inl (fun z => q (dyn_m m (by decide) z))
  refine ⟨cc, ⟨by rw [len]; exact g1, fun k q hk => ?_⟩, m.tr g2, fun k i z1 z2 => ?_, fun _ => by rw [g11]; exact hd, ⟨?_, ?_, ?_, ?_, fun z => n0 (c4 z)⟩, fun a b c z => ?_, fun a b z => ?_⟩
  · by_cases hj : k < it.length
    · rw [List.getElem?_append_left hj] at hk
      have : tp_G G 38 p it.length v 38 p k = G 38 p k := by simp [tp_G, Nat.ne_of_lt hj]
      rw [this]; exact hi1 k q hk
    · have hk2 : k = it.length := by
        rw [List.getElem?_eq_some_iff] at hk
        obtain ⟨w1, _⟩ := hk
        rw [len] at w1; omega
      subst hk2
      have : v = q := by simpa using hk
      subst this
      simp [tp_G]
  · rw [g3 k i z1 (fun w => z2 ⟨w.1, by rw [w.2]; exact hd⟩)]
    exact f k i z1 z2
  · simp only [tp_C, and_self, if_true]; omega
  · simp only [tp_C, and_self, if_true]; exact g10 (by omega) c1
  · simp only [tp_C, and_self, if_true]; omega
  · simp only [tp_C, and_self, if_true]; omega
  · rw [← gG a b c z]
    unfold tp_G
    rw [if_neg (fun w => z ⟨w.1, w.2.1⟩)]
  · rw [← gC a b z]
    unfold tp_C
    rw [if_neg z]
section
variable {p : Nat} {l : List Nat} {cnt : Nat → Nat} {ky : Nat → Nat → Nat} {Nb : tq_Nn} {Sb : tq_St} {Gb : Nat → Nat → Nat → Nat} {Cb : Nat → Nat → Nat} {post : tq_Nn → tq_St → Prop}
theorem aI.st {N : tq_Nn} {S : tq_St} {G : Nat → Nat → Nat → Nat} {C : Nat → Nat → Nat} {it : List Nat} (h : aI p Nb Sb Gb Cb N S G C it) (hb : stC p l cnt ky Nb Gb Cb Sb) : stC p l cnt ky N G C S := hb.go h.2.1 (fun k hk => funext (fun i => h.2.2.1 k i (by omega) (by omega))) (fun a b c z => h.2.2.2.2.2.1 a b c (fun w => z w.1)) (fun a b z => h.2.2.2.2.2.2 a b (fun w => z w.1))
theorem st104 {L79 : tq_Nn → tq_St → Nat → Int32 → Prop} {x i : Nat} {F : Nat → Bool} (hp : p < 5) (hb : stC p l cnt ky Nb Gb Cb Sb) (hx : x ∈ l) (hF : ∀ j, j < cnt x → (Sb 40 p (ky x j) = nI i ↔ F j = true)) (r0 : Nb 0 0 + 10000 ≤ tq_CX) (r1 : Nb 0 1 + 50000 ≤ tq_CY) : ∀ (m j : Nat) (N : tq_Nn) (S : tq_St) (G : Nat → Nat → Nat → Nat) (C : Nat → Nat → Nat) (it : List Nat), j + m = cnt x → it.length + m ≤ 950 → aI p Nb Sb Gb Cb N S G C it →
    (∀ (N1 : tq_Nn) (S1 : tq_St) (G1 : Nat → Nat → Nat → Nat) (C1 : Nat → Nat → Nat), aI p Nb Sb Gb Cb N1 S1 G1 C1 (it ++ ((List.range' j m).filter F).map (fun g => Gb 52 (Gb 15 0 x) g)) → L79 N1 S1 p (nI i + 1)) → wbX5_settleForce_104 post L79 (m + 1) N S p (nI i) (Gb 15 0 x) (nI j)
  | 0, j, N, S, G, C, it, hj, hit, h, k => by
    have hst := h.st hb
    obtain ⟨a1, a2, a3, a4, a5⟩ := hst.2.2 x hx
    have g15 : G 15 0 x = Gb 15 0 x := h.2.2.2.2.2.1 15 0 x (fun w => absurd w.1 (by decide))
    rw [g15] at a1 a2 a4
    unfold wbX5_settleForce_104
    rw [tp_len a4]
    refine ⟨a1, a2, tp_dT (nI_le (by omega) (by omega)) (k N S G C ?_)⟩
    simpa using h
  | m + 1, j, N, S, G, C, it, hj, hit, h, k => by
    have hst := h.st hb
    obtain ⟨a1, a2, a3, a4, a5⟩ := hst.2.2 x hx
    have g15 : G 15 0 x = Gb 15 0 x := h.2.2.2.2.2.1 15 0 x (fun w => absurd w.1 (by decide))
    have g52 : ∀ g, G 52 (Gb 15 0 x) g = Gb 52 (Gb 15 0 x) g := fun g => h.2.2.2.2.2.1 52 _ g (fun w => absurd w.1 (by decide))
    rw [g15] at a1 a2 a4 a5
    obtain ⟨b1, b2, b3⟩ := a5 j (by omega)
    obtain ⟨g1, g2, g3⟩ := tp_get a4 (show j < cnt x by omega)
    have gx := (a4.2 j (show j < cnt x by omega)).2.2
    rw [g52 j] at b1 b2 g2 gx
    have e40 : S 40 p = Sb 40 p := h.2.2.1 40 p (fun w => absurd w.1 (by decide)) (fun w => absurd w.1 (by decide))
    have rs : List.range' j (m + 1) = j :: List.range' (j + 1) m := rfl
    unfold wbX5_settleForce_104 wbX5_settleForce_152
    rw [tp_len a4, g2, b2, nI_clamp (show ky x j < 2 ^ 31 by omega), e40, nI_1 j]
    refine ⟨a1, a2, tp_dF (nI_ge (by omega) (by omega)) ⟨g1, b1, hp, vp_in_nI b3 (by decide), ?_⟩⟩
    by_cases q : Sb 40 p (ky x j) = nI i
    · have hq := (hF j (by omega)).mp q
      have hc := h.2.2.2.2.1
      refine tp_cT q ⟨tp_L_aok h.1.1 (by omega) b1 gx (by omega) (by omega), fun N1 S1 ha => ?_⟩
      obtain ⟨c1, h1⟩ := aI_add h (by omega) b1 gx ha
      refine st104 hp hb hx hF r0 r1 m (j + 1) N1 S1 _ _ _ (by omega) (by rw [List.length_append, List.length_singleton]; omega) h1 (fun N2 S2 G2 C2 h2 => k N2 S2 G2 C2 ?_)
      rw [rs, List.filter_cons_of_pos hq, List.map_cons, ← List.singleton_append, ← List.append_assoc]
      exact h2
    · have hq : ¬ F j = true := fun z => q ((hF j (by omega)).mpr z)
      refine tp_cF q (st104 hp hb hx hF r0 r1 m (j + 1) N S G C it (by omega) (by omega) h (fun N2 S2 G2 C2 h2 => k N2 S2 G2 C2 ?_))
      rw [rs, List.filter_cons_of_neg hq]
      exact h2
theorem st79 {U : Nat → Int32} {B : Nat → Nat → Int32} (hp : p < 5) (hb : stC p l cnt ky Nb Gb Cb Sb) (hl : l.length ≤ 150) (hU : ∀ x, x ∈ l → (U x).toNatClampNeg = cnt x) (hF : ∀ k x g, l[k]? = some x → g < cnt x → (Sb 40 p (ky x g) = nI k ↔ tp_cs U B x (l.drop (k + 1)) g = true)) (r0 : Nb 0 0 + 10000 ≤ tq_CX) (r1 : Nb 0 1 + 50000 ≤ tq_CY) : ∀ (suf : List Nat) (k : Nat) (N : tq_Nn) (S : tq_St) (G : Nat → Nat → Nat → Nat) (C : Nat → Nat → Nat) (it : List Nat), l.drop k = suf → k + suf.length = l.length → it.length ≤ 6 * k → aI p Nb Sb Gb Cb N S G C it →
    (∀ (N1 : tq_Nn) (S1 : tq_St) (G1 : Nat → Nat → Nat → Nat) (C1 : Nat → Nat → Nat), aI p Nb Sb Gb Cb N1 S1 G1 C1 (it ++ (tp_FL U B suf).map (fun y => Gb 52 (Gb 15 0 y.1) y.2)) → post N1 S1) → wbX5_settleForce_79 post (suf.length + 1) N S p (nI k)
  | [], k, N, S, G, C, it, hd, hk, hit, h, kk => by
    have hst := h.st hb
    rw [List.length_nil] at hk
    unfold wbX5_settleForce_79
    rw [tp_len hst.1]
    refine ⟨hp, tp_dT (nI_le (by omega) (by omega)) (kk N S G C ?_)⟩
    simpa [tp_FL] using h
  | x :: suf, k, N, S, G, C, it, hd, hk, hit, h, kk => by
    rw [List.length_cons] at hk
    have hst := h.st hb
    have hkl : l[k]? = some x := by
      have : (l.drop k)[0]? = some x := by rw [hd]; rfl
      rw [List.getElem?_drop] at this
      exact this
    have hx : x ∈ l := List.mem_of_getElem? hkl
    have hd2 : l.drop (k + 1) = suf := by
      have := congrArg List.tail hd
      rw [List.tail_drop] at this
      exact this
    obtain ⟨a1, _, a3, _⟩ := hst.2.2 x hx
    obtain ⟨g1, g2, g3⟩ := tp_get hst.1 (show k < l.length by omega)
    have g15 : G 15 0 x = Gb 15 0 x := h.2.2.2.2.2.1 15 0 x (fun w => absurd w.1 (by decide))
    rw [hst.2.1 k x hkl, g15] at g2
    rw [g15] at a1
    unfold wbX5_settleForce_79
    rw [tp_len hst.1, g2]
    refine ⟨hp, tp_dF (nI_ge (by omega) (by omega)) ⟨g1, a1, cnt x + 1, st104 (F := tp_cs U B x suf) hp hb hx (fun j hj => by rw [← hd2]; exact hF k x j hkl hj) r0 r1 (cnt x) 0 N S G C it (by omega) (by omega) h (fun N1 S1 G1 C1 h1 => ?_)⟩⟩
    rw [nI_1]
    refine st79 hp hb hl hU hF r0 r1 suf (k + 1) N1 S1 G1 C1 _ hd2 (by omega) ?_ h1 (fun N2 S2 G2 C2 h2 => kk N2 S2 G2 C2 ?_)
    · rw [List.length_append, List.length_map]
      have := List.length_filter_le (tp_cs U B x suf) (List.range' 0 (cnt x))
      rw [List.length_range'] at this
      omega
    · rw [tp_FL_cons, hU x hx, List.map_append, List.map_map, ← List.append_assoc]
      exact h2
end
