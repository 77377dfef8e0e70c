/-! pure: which paragraphs are in force, the first store -/
def rup (R : Nat → Int32) (κ : Nat) (v : Int32) : Nat → Int32 := fun q => if q = κ then v else R q
theorem cp_up {S : tq_St} {k i κ : Nat} {R : Nat → Int32} {v : Int32} : tq_up (tq_cp S k i R) k i κ v = tq_cp S k i (rup R κ v) := by
  funext a b c
  simp only [tq_up, tq_cp, rup]
  by_cases q : a = k ∧ b = i
  · by_cases q2 : c = κ
    · simp [q.1, q.2, q2]; simp [rup]
    · simp [q.1, q.2, q2]; simp [rup, q2]
  · have : ¬ (a = k ∧ b = i ∧ c = κ) := fun z => q ⟨z.1, z.2.1⟩
    rw [if_neg this, if_neg q, if_neg q]
theorem cp_id {S : tq_St} {k i : Nat} : tq_cp S k i (S k i) = S := by
  funext a b
  by_cases q : a = k ∧ b = i
  · rw [q.1, q.2, tq_cpe]
  · rw [tq_cp_out q]
section
variable (cnt : Nat → Nat) (ky : Nat → Nat → Nat)
def pgj (x i : Nat) : Nat → Nat → (Nat → Int32) → (Nat → Int32)
  | _, 0, R => R
  | j, m + 1, R => pgj x i (j + 1) m (rup R (ky x j) (nI i))
def prl : List Nat → Nat → (Nat → Int32) → (Nat → Int32)
  | [], _, R => R
  | x :: l, i, R => prl l (i + 1) (pgj ky x i 0 (cnt x) R)
def khas (x κ : Nat) : Prop := ∃ g, g < cnt x ∧ ky x g = κ
end
theorem pgj_v {ky : Nat → Nat → Nat} {x i κ : Nat} : ∀ (m j : Nat) (R : Nat → Int32), ((∃ g, j ≤ g ∧ g < j + m ∧ ky x g = κ) → pgj ky x i j m R κ = nI i) ∧ ((¬ ∃ g, j ≤ g ∧ g < j + m ∧ ky x g = κ) → pgj ky x i j m R κ = R κ)
  | 0, j, R => ⟨fun ⟨g, h1, h2, _⟩ => absurd h2 (by omega), fun _ => rfl⟩
  | m + 1, j, R => by
    obtain ⟨h1, h2⟩ := pgj_v (ky := ky) (x := x) (i := i) (κ := κ) m (j + 1) (rup R (ky x j) (nI i))
    show (_ → pgj ky x i (j + 1) m (rup R (ky x j) (nI i)) κ = nI i) ∧ (_ → pgj ky x i (j + 1) m (rup R (ky x j) (nI i)) κ = R κ)
    by_cases q : ∃ g, j + 1 ≤ g ∧ g < j + 1 + m ∧ ky x g = κ
    · refine ⟨fun _ => h1 q, fun z => ?_⟩
      obtain ⟨g, g1, g2, g3⟩ := q
      exact absurd ⟨g, by omega, by omega, g3⟩ z
    · rw [h2 q]
      unfold rup
      by_cases e : ky x j = κ
      · refine ⟨fun _ => by rw [if_pos e.symm], fun z => absurd ⟨j, Nat.le_refl _, by omega, e⟩ z⟩
      · refine ⟨fun ⟨g, g1, g2, g3⟩ => ?_, fun _ => by rw [if_neg (fun z => e z.symm)]⟩
        have : g ≠ j := fun z => e (by rw [← z]; exact g3)
        exact absurd ⟨g, by omega, by omega, g3⟩ q
theorem prl_n {cnt : Nat → Nat} {ky : Nat → Nat → Nat} {κ : Nat} : ∀ (l : List Nat) (i : Nat) (R : Nat → Int32), (∀ y, y ∈ l → ¬ khas cnt ky y κ) → prl cnt ky l i R κ = R κ
  | [], _, _, _ => rfl
  | x :: l, i, R, h => by
    show prl cnt ky l (i + 1) (pgj ky x i 0 (cnt x) R) κ = R κ
    rw [prl_n l (i + 1) _ (fun y hy => h y (List.mem_cons_of_mem _ hy))]
    refine (pgj_v (cnt x) 0 R).2 (fun ⟨g, g1, g2, g3⟩ => h x (List.mem_cons_self) ⟨g, by omega, g3⟩)
theorem prl_l {cnt : Nat → Nat} {ky : Nat → Nat → Nat} {κ : Nat} : ∀ (l : List Nat) (i : Nat) (R : Nat → Int32), (∃ y, y ∈ l ∧ khas cnt ky y κ) → ∃ k y, l[k]? = some y ∧ khas cnt ky y κ ∧ prl cnt ky l i R κ = nI (i + k) ∧ ∀ k2 y2, k < k2 → l[k2]? = some y2 → ¬ khas cnt ky y2 κ
  | [], _, _, ⟨y, hy, _⟩ => absurd hy (by simp)
  | x :: l, i, R, h => by
    show ∃ k y, (x :: l)[k]? = some y ∧ khas cnt ky y κ ∧ prl cnt ky l (i + 1) (pgj ky x i 0 (cnt x) R) κ = nI (i + k) ∧ ∀ k2 y2, k < k2 → (x :: l)[k2]? = some y2 → ¬ khas cnt ky y2 κ
    by_cases q : ∃ y, y ∈ l ∧ khas cnt ky y κ
    · obtain ⟨k, y, a1, a2, a3, a4⟩ := prl_l l (i + 1) (pgj ky x i 0 (cnt x) R) q
      refine ⟨k + 1, y, by rw [List.getElem?_cons_succ]; exact a1, a2, by rw [a3]; congr 1; omega, fun k2 y2 h1 h2 => ?_⟩
      obtain ⟨k3, rfl⟩ : ∃ k3, k2 = k3 + 1 := ⟨k2 - 1, by omega⟩
      rw [List.getElem?_cons_succ] at h2
      exact a4 k3 y2 (by omega) h2
    · obtain ⟨y, hy, hk⟩ := h
      have hyx : y = x := by
        rcases List.mem_cons.mp hy with z | z
        · exact z
        · exact absurd ⟨y, z, hk⟩ q
      subst hyx
      refine ⟨0, y, rfl, hk, ?_, fun k2 y2 h1 h2 => ?_⟩
      · rw [prl_n l (i + 1) _ (fun z hz w => q ⟨z, hz, w⟩)]
        obtain ⟨g, g1, g2⟩ := hk
        exact (pgj_v (cnt y) 0 R).1 ⟨g, by omega, by omega, g2⟩
      · obtain ⟨k3, rfl⟩ : ∃ k3, k2 = k3 + 1 := ⟨k2 - 1, by omega⟩
        rw [List.getElem?_cons_succ] at h2
        exact fun w => q ⟨y2, List.mem_of_getElem? h2, w⟩
/-- the mark says: no later order has it -/
theorem prl_iff {cnt : Nat → Nat} {ky : Nat → Nat → Nat} {l : List Nat} {R : Nat → Int32} {k x g : Nat} (hl : l.length < 2 ^ 31) (hk : l[k]? = some x) (hg : g < cnt x) : prl cnt ky l 0 R (ky x g) = nI k ↔ ∀ k2 y2, k < k2 → l[k2]? = some y2 → ¬ khas cnt ky y2 (ky x g) := by
  obtain ⟨k', y, a1, a2, a3, a4⟩ := prl_l (cnt := cnt) (ky := ky) (κ := ky x g) l 0 R ⟨x, List.mem_of_getElem? hk, g, hg, rfl⟩
  rw [Nat.zero_add] at a3
  have l1 : k < l.length := by rw [List.getElem?_eq_some_iff] at hk; exact hk.1
  have l2 : k' < l.length := by rw [List.getElem?_eq_some_iff] at a1; exact a1.1
  rw [a3]
  constructor
  · intro z
    have : k' = k := (nI_eq (by omega) (by omega)).mp z
    subst this
    exact a4
  · intro z
    have : k' = k := by
      rcases Nat.lt_trichotomy k' k with q | q | q
      · exact absurd ⟨g, hg, rfl⟩ (a4 k x q hk)
      · exact q
      · exact absurd a2 (z k' y q a1)
    rw [this]
/-- what the loops of settleForce stand on -/
def stC (p : Nat) (l : List Nat) (cnt : Nat → Nat) (ky : Nat → Nat → Nat) (N : tq_Nn) (G : Nat → Nat → Nat → Nat) (C : Nat → Nat → Nat) (S : tq_St) : Prop :=
  tp_L N (S 36) (S 37) G C 36 37 7 p l.length ∧ (∀ k x, l[k]? = some x → G 36 p k = G 15 0 x)
  ∧ ∀ x, x ∈ l → N 7 (G 15 0 x) = 1 ∧ N 52 (G 15 0 x) = 1 ∧ cnt x ≤ 6 ∧ tp_L N (S 52) (S 53) G C 52 53 10 (G 15 0 x) (cnt x) ∧ ∀ g, g < cnt x → N 10 (G 52 (G 15 0 x) g) = 1 ∧ S 10 (G 52 (G 15 0 x) g) 5 = nI (ky x g) ∧ ky x g < 28
theorem stC.go {p : Nat} {l : List Nat} {cnt : Nat → Nat} {ky : Nat → Nat → Nat} {N N1 : tq_Nn} {G G1 : Nat → Nat → Nat → Nat} {C C1 : Nat → Nat → Nat} {S S1 : tq_St} (h : stC p l cnt ky N G C S) (m : tp_mono N N1) (e : ∀ k, k = 36 ∨ k = 37 ∨ k = 52 ∨ k = 53 ∨ k = 10 → S1 k = S k) (hG : ∀ a b c, a ≠ 38 → G1 a b c = G a b c) (hC : ∀ a b, a ≠ 38 → C1 a b = C a b) : stC p l cnt ky N1 G1 C1 S1 := by
  obtain ⟨h1, h2, h3⟩ := h
  refine ⟨?_, fun k x hk => ?_, fun x hx => ?_⟩
  · rw [e 36 (by decide), e 37 (by decide)]
    exact tp_L_fr0 h1 rfl rfl (fun _ => rfl) (fun j hj => dyn_m m (by decide) hj) (fun j hj => dyn_m m (by decide) hj) (fun j _ => hG 36 p j (by decide)) (hC 36 p (by decide))
  · rw [hG 36 p k (by decide), hG 15 0 x (by decide)]; exact h2 k x hk
  · obtain ⟨a1, a2, a3, a4, a5⟩ := h3 x hx
    rw [hG 15 0 x (by decide), e 52 (by decide), e 53 (by decide), e 10 (by decide)]
    refine ⟨dyn_m m (by decide) a1, dyn_m m (by decide) a2, a3, tp_L_fr0 a4 rfl rfl (fun _ => rfl) (fun j hj => dyn_m m (by decide) hj) (fun j hj => dyn_m m (by decide) hj) (fun j _ => hG 52 _ j (by decide)) (hC 52 _ (by decide)), fun g hg => ?_⟩
    rw [hG 52 _ g (by decide)]
    obtain ⟨b1, b2, b3⟩ := a5 g hg
    exact ⟨dyn_m m (by decide) b1, b2, b3⟩
section
variable {p : Nat} {l : List Nat} {cnt : Nat → Nat} {ky : Nat → Nat → Nat} {N : tq_Nn} {G : Nat → Nat → Nat → Nat} {C : Nat → Nat → Nat} {S : tq_St} {post : tq_Nn → tq_St → Prop}
theorem st27 {L2 : tq_Nn → tq_St → Nat → Int32 → Prop} {x i : Nat} (hp : p < 5) (h : stC p l cnt ky N G C S) (hx : x ∈ l) : ∀ (m j : Nat) (R : Nat → Int32), j + m = cnt x → L2 N (tq_cp S 40 p (pgj ky x i j m R)) p (nI i + 1) → wbX5_settleForce_27 post L2 (m + 1) N (tq_cp S 40 p R) p (nI i) (G 15 0 x) (nI j)
  | 0, j, R, hj, k => by
    obtain ⟨a1, a2, a3, a4, a5⟩ := h.2.2 x hx
    unfold wbX5_settleForce_27
    rw [tq_cpk (by decide), tp_len a4]
    exact ⟨a1, a2, tp_dT (nI_le (by omega) (by omega)) k⟩
  | m + 1, j, R, hj, k => by
    obtain ⟨a1, a2, a3, a4, a5⟩ := h.2.2 x hx
    obtain ⟨b1, b2, b3⟩ := a5 j (by omega)
    obtain ⟨g1, g2, g3⟩ := tp_get a4 (show j < cnt x by omega)
    have e52 : tq_cp S 40 p R 52 = S 52 := tq_cpk (by decide)
    have e53 : tq_cp S 40 p R 53 = S 53 := tq_cpk (by decide)
    have e10 : tq_cp S 40 p R 10 = S 10 := tq_cpk (by decide)
    have gg : tq_gok N (tq_cp S 40 p R) 52 53 (G 15 0 x) (nI j) := by
      unfold tq_gok at g1 ⊢
      rw [e52, e53]; exact g1
    have ge : tq_el (tq_cp S 40 p R) 52 53 (G 15 0 x) (nI j) = G 52 (G 15 0 x) j := by
      unfold tq_el at g2 ⊢
      rw [e52, e53]; exact g2
    unfold wbX5_settleForce_27
    rw [ge, e52, e10, b2, tp_len a4, nI_clamp (show ky x j < 2 ^ 31 by omega), nI_1 j]
    refine ⟨a1, a2, tp_dF (nI_ge (by omega) (by omega)) ⟨hp, gg, b1, vp_in_nI b3 (by decide), tp_ae ?_⟩⟩
    rw [cp_up]
    exact st27 hp h hx m (j + 1) _ (by omega) k
theorem st2 (hp : p < 5) (h : stC p l cnt ky N G C S) (hl : l.length ≤ 150) : ∀ (suf : List Nat) (k : Nat) (R : Nat → Int32), l.drop k = suf → k + suf.length = l.length →
    (∃ n6 c7 : Nat, tq_lst N (tq_cp S 40 p (prl cnt ky suf k R)) 38 39 p n6 c7 ∧ (∀ S5, S5 = tq_clred (tq_cp S 40 p (prl cnt ky suf k R)) 38 39 p n6 → (∃ nq, wbX5_settleForce_79 post nq N S5 p 0))) → wbX5_settleForce_2 post (suf.length + 1) N (tq_cp S 40 p R) p (nI k)
  | [], k, R, hd, hk, kk => by
    unfold wbX5_settleForce_2
    rw [tq_cpk (by decide), tp_len h.1]
    rw [List.length_nil] at hk
    exact ⟨hp, tp_dT (nI_le (by omega) (by omega)) kk⟩
  | x :: suf, k, R, hd, hk, kk => by
    rw [List.length_cons] at hk
    have hkl : l[k]? = some x := by
      have : (l.drop k)[0]? = some x := by rw [hd]; rfl
      rw [List.getElem?_drop] at this
      exact this
    have hx : x ∈ l := List.mem_of_getElem? hkl
    obtain ⟨a1, _⟩ := h.2.2 x hx
    obtain ⟨g1, g2, g3⟩ := tp_get h.1 (show k < l.length by omega)
    have e36 : tq_cp S 40 p R 36 = S 36 := tq_cpk (by decide)
    have e37 : tq_cp S 40 p R 37 = S 37 := tq_cpk (by decide)
    have gg : tq_gok N (tq_cp S 40 p R) 36 37 p (nI k) := by
      unfold tq_gok at g1 ⊢
      rw [e36, e37]; exact g1
    have ge : tq_el (tq_cp S 40 p R) 36 37 p (nI k) = G 15 0 x := by
      unfold tq_el at g2 ⊢
      rw [e36, e37, g2]; exact h.2.1 k x hkl
    have hd2 : l.drop (k + 1) = suf := by
      have := congrArg List.tail hd
      rw [List.tail_drop] at this
      exact this
    unfold wbX5_settleForce_2
    rw [ge, e36, tp_len h.1]
    refine ⟨hp, tp_dF (nI_ge (by omega) (by omega)) ⟨gg, a1, cnt x + 1, st27 hp h hx (cnt x) 0 R (by omega) ?_⟩⟩
    rw [nI_1]
    exact st2 hp h hl suf (k + 1) _ hd2 (by omega) kk
end
