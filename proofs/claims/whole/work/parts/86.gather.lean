/-! pure: what is in force: the reference gathers -/
theorem fb_holes : ∀ (m n : Nat) (f : Nat → Nat), (∀ i, i < n → f i < m) → (∀ i j, i < j → j < n → f i ≠ f j) → n ≤ m := by
  intro m
  induction m with
  | zero =>
    intro n f h1 _
    rcases Nat.eq_zero_or_pos n with h | h
    · omega
    · exact absurd (h1 0 h) (Nat.not_lt_zero _)
  | succ m ih =>
    intro n f h1 h2
    by_cases hx : ∃ i, i < n ∧ f i = m
    · obtain ⟨a, ha, hfa⟩ := hx
      have hg := ih (n - 1) (fun i => if i < a then f i else f (i + 1)) (by
        intro i hi
        by_cases q : i < a
        · simp only [if_pos q]
          have b1 := h1 i (by omega)
          have b2 := h2 i a q ha
          omega
        · simp only [if_neg q]
          have b1 := h1 (i + 1) (by omega)
          have b2 := h2 a (i + 1) (by omega) (by omega)
          omega) (by
        intro i j hij hj
        by_cases q : i < a
        · by_cases r : j < a
          · simp only [if_pos q, if_pos r]
            exact h2 i j hij (by omega)
          · simp only [if_pos q, if_neg r]
            exact h2 i (j + 1) (by omega) (by omega)
        · have r : ¬ j < a := by omega
          simp only [if_neg q, if_neg r]
          exact h2 (i + 1) (j + 1) (by omega) (by omega))
      omega
    · have hg := ih n f (fun i hi => by
        have b1 := h1 i hi
        have b2 : f i ≠ m := fun e => hx ⟨i, hi, e⟩
        omega) h2
      omega
theorem tp_ah_irr {p : Nat} {W : Nat → Nat → Int32} {x : Nat} : ¬ tp_ah p W x x := by
  rintro (h | ⟨_, h⟩)
  · rw [tp_lt] at h; omega
  · omega
theorem tp_ah_asym {p : Nat} {W : Nat → Nat → Int32} {x y : Nat} (h : tp_ah p W x y) : ¬ tp_ah p W y x := by
  rintro (h2 | ⟨h2, h3⟩)
  · rcases h with h | ⟨h, _⟩
    · rw [tp_lt] at h h2; omega
    · rw [tp_lt] at h2; rw [tp_eq] at h; omega
  · rcases h with h | ⟨h, h4⟩
    · rw [tp_lt] at h; rw [tp_eq] at h2; omega
    · omega
theorem tp_ah_tr {p : Nat} {W : Nat → Nat → Int32} {x y z : Nat} (h : tp_ah p W x y) (h2 : tp_ah p W y z) : tp_ah p W x z := by
  unfold tp_ah at *
  simp only [tp_lt, tp_eq] at *
  omega
theorem tp_ah_tot {p : Nat} {W : Nat → Nat → Int32} {x y : Nat} (h : x ≠ y) (h2 : ¬ tp_ah p W x y) : tp_ah p W y x := by
  unfold tp_ah at *
  simp only [tp_lt, tp_eq] at *
  omega
/-- behind x in a list in order: just what is behind x -/
theorem tp_suf {p : Nat} {W : Nat → Nat → Int32} {pre suf : List Nat} {x y : Nat} (h : (pre ++ x :: suf).Pairwise (tp_ah p W)) (hy : y ∈ pre ++ x :: suf) : tp_ah p W x y ↔ y ∈ suf := by
  rw [List.pairwise_append] at h
  obtain ⟨_, h2, h3⟩ := h
  rw [List.pairwise_cons] at h2
  constructor
  · intro z
    rcases List.mem_append.mp hy with q | q
    · exact absurd (h3 y q x List.mem_cons_self) (tp_ah_asym z)
    · rcases List.mem_cons.mp q with q | q
      · subst q; exact absurd z tp_ah_irr
      · exact q
  · intro z; exact h2.1 y z
theorem tp_pwlen {p P : Nat} {W : Nat → Nat → Int32} {l : List Nat} (h : l.Pairwise (tp_ah p W)) (hl : ∀ n ∈ l, n < P) : l.length ≤ P := by
  refine fb_holes P l.length (fun i => (l[i]?).getD 0) (fun i hi => ?_) (fun i j hij hj e => ?_)
  · show (l[i]?).getD 0 < P
    rw [List.getElem?_eq_getElem hi]; exact hl _ (List.getElem_mem _)
  · have h1 := (List.pairwise_iff_getElem.mp h) i j (by omega) hj hij
    have e : (l[i]?).getD 0 = (l[j]?).getD 0 := e
    rw [List.getElem?_eq_getElem (show i < l.length by omega), List.getElem?_eq_getElem hj] at e
    simp only [Option.getD_some] at e
    rw [e] at h1
    exact tp_ah_irr h1
section
variable {M : tq_St} {post : tq_St → Int32 → Prop} {P p d x y g : Nat}
theorem tp_knownM (hx : x < P) (hP : P ≤ 150) (hp : p < 5) (hd : M 64 0 0 = nI d) (hd2 : d < 2 ^ 31) (hk : (M 115 x p).toInt ≤ d) (h : post M (tp_b (tp_KO P p (M 110 0) (M 113 0) (M 115) x))) : wpX12_known_ post M (nI x) (nI p) (M 64 0 0) := by
  have xc : (nI x).toNatClampNeg = x := nI_clamp (by omega)
  have pc : (nI p).toNatClampNeg = p := nI_clamp (by omega)
  unfold wpX12_known_ wbX12_known__47 wbX12_known__48
  simp only [xc, pc, tp_nb0, tp_nb1, true_and]
  refine ⟨vp_in_nI (by omega) (by decide), ?_⟩
  by_cases e1 : M 110 0 x = 2
  · refine tp_cT e1 ?_
    by_cases e2 : M 113 0 x = nI p
    · refine tp_cT e2 ⟨vp_in_nI hp (by decide), ?_⟩
      by_cases e3 : M 115 x p < 0
      · rw [tp_bf (fun z => by have := z.2.2.2; rw [tp_le] at this; rw [tp_lt] at e3; omega)] at h
        exact tp_dT e3 h
      · rw [tp_bt ⟨hx, e1, e2, by rw [tp_le]; rw [tp_lt] at e3; omega⟩] at h
        exact tp_dF e3 (tp_dF (by rw [tp_lt, hd, tp_ti hd2]; omega) h)
    · rw [tp_bf (fun z => e2 z.2.2.1)] at h
      exact tp_cF e2 h
  · rw [tp_bf (fun z => e1 z.2.1)] at h
    exact tp_cF e1 h
theorem tp_aheadM (hx : x < 150) (hy : y < 150) (hp : p < 5) (h : post M (tp_b (tp_ah p (M 115) x y))) : wpX12_ahead post M (nI x) (nI y) (nI p) := by
  have xc : (nI x).toNatClampNeg = x := nI_clamp (by omega)
  have yc : (nI y).toNatClampNeg = y := nI_clamp (by omega)
  have pc : (nI p).toNatClampNeg = p := nI_clamp (by omega)
  unfold wpX12_ahead wbX12_ahead_43 wbX12_ahead_47 wbX12_ahead_48
  simp only [xc, yc, pc, tp_nb0, tp_nb1, true_and]
  refine ⟨vp_in_nI hx (by decide), vp_in_nI hp (by decide), vp_in_nI hy (by decide), ?_⟩
  by_cases e1 : M 115 x p < M 115 y p
  · rw [tp_bt (show tp_ah p (M 115) x y from Or.inl e1)] at h
    exact tp_dT e1 h
  · refine tp_dF e1 ?_
    by_cases e2 : M 115 x p = M 115 y p
    · refine tp_cT e2 ?_
      by_cases e3 : y ≤ x
      · rw [tp_bf (fun z => z.elim e1 (fun z => by have := z.2; omega))] at h
        exact tp_dT (nI_le e3 (by omega)) h
      · rw [tp_bt (show tp_ah p (M 115) x y from Or.inr ⟨e2, by omega⟩)] at h
        exact tp_dF (nI_ge (by omega) (by omega)) h
    · rw [tp_bf (fun z => z.elim e1 (fun z => e2 z.1))] at h
      exact tp_cF e2 h
theorem tp_hasM {gy : Nat} (hx : x < 150) (hy : y < 150) (hg : g < 6) (hgy : gy ≤ 6) (h117 : M 117 0 y = nI gy) (h : post M (tp_b (tp_has (M 117 0) (M 118) x g y))) : wpX12_hasAct post M (nI x) (nI g) (nI y) := by
  have xc : (nI x).toNatClampNeg = x := nI_clamp (by omega)
  have yc : (nI y).toNatClampNeg = y := nI_clamp (by omega)
  have gc : (nI gy).toNatClampNeg = gy := nI_clamp (by omega)
  have m4 : ∀ k : Nat, 4 * nI k = nI (4 * k) := fun k => pk_mul 4 k
  have same : ∀ (i : Nat) (q : tq_St → Int32 → Prop), i < 6 → q M (tp_b (M 118 x (4 * g) = M 118 y (4 * i) ∧ M 118 x (4 * g + 1) = M 118 y (4 * i + 1))) → wpX12_sameAct q M (nI x) (nI g) (nI y) (nI i) := by
    intro i q hi hq
    unfold wpX12_sameAct wbX12_sameAct_56 wbX12_sameAct_57
    simp only [m4, xc, yc, nI_1, tp_nb0, tp_nb1, true_and]
    rw [nI_clamp (show 4 * g < 2 ^ 31 by omega), nI_clamp (show 4 * i < 2 ^ 31 by omega), nI_clamp (show 4 * g + 1 < 2 ^ 31 by omega), nI_clamp (show 4 * i + 1 < 2 ^ 31 by omega)]
    refine ⟨vp_in_nI hx (by decide), vp_in_nI (by omega) (by decide), vp_in_nI hy (by decide), vp_in_nI (by omega) (by decide), ?_⟩
    by_cases e1 : M 118 x (4 * g) = M 118 y (4 * i)
    · refine tp_cT e1 ⟨vp_in_nI (by omega) (by decide), vp_in_nI (by omega) (by decide), ?_⟩
      by_cases e2 : M 118 x (4 * g + 1) = M 118 y (4 * i + 1)
      · rw [tp_bt ⟨e1, e2⟩] at hq; exact tp_cT e2 hq
      · rw [tp_bf (fun z => e2 z.2)] at hq; exact tp_cF e2 hq
    · rw [tp_bf (fun z => e1 z.1)] at hq; exact tp_cF e1 hq
  refine ⟨gy + 1, tp_loopx0 (W := fun m i => wbX12_hasAct_3 post m M (nI x) (nI g) (nI y) (nI i)) (n := gy) (c := fun i => ¬ (M 118 x (4 * g) = M 118 y (4 * i) ∧ M 118 x (4 * g + 1) = M 118 y (4 * i + 1))) (fun hh m => ?_) (fun m i hi hcc hw => ?_) (fun m i hi hj hcc => ?_)⟩
  · unfold wbX12_hasAct_3
    rw [yc, h117]
    refine ⟨vp_in_nI hy (by decide), tp_dT (nI_le (Nat.le_refl _) (by omega)) ?_⟩
    rw [tp_bf (fun ⟨i, z1, z2⟩ => hh i (by rw [h117, gc] at z1; exact z1) z2)] at h
    exact h
  · unfold wbX12_hasAct_3
    rw [yc, h117]
    refine ⟨vp_in_nI hy (by decide), tp_dF (nI_ge hi (by omega)) (same i _ (by omega) ?_)⟩
    rw [tp_bf hcc, nI_1]
    exact tp_dT rfl hw
  · unfold wbX12_hasAct_3
    rw [yc, h117]
    refine ⟨vp_in_nI hy (by decide), tp_dF (nI_ge hi (by omega)) (same i _ (by omega) ?_)⟩
    rw [tp_bt (Classical.not_not.mp hcc)]
    rw [tp_bt ⟨i, by rw [h117, gc]; exact hi, Classical.not_not.mp hcc⟩] at h
    exact tp_dF (by decide) h
theorem tp_standM (hx : x < 150) (hg : g < 6) (hP : M 64 0 9 = nI P) (hP2 : P ≤ 150) (hp : p < 5) (hd : M 64 0 0 = nI d) (hd2 : d < 2 ^ 31) (hk : ∀ n, n < P → (M 115 n p).toInt ≤ d) (h117 : ∀ n, n < P → M 110 0 n = 2 → ∃ g : Nat, g ≤ 6 ∧ M 117 0 n = nI g) (h : post M (tp_b (∀ y, tp_KO P p (M 110 0) (M 113 0) (M 115) y → tp_ah p (M 115) x y → ¬ tp_has (M 117 0) (M 118) x g y))) : wpX12_standing post M (nI x) (nI g) (nI p) := by
  refine ⟨P + 1, tp_loopx0 (W := fun m i => wbX12_standing_3 post m M (nI x) (nI g) (nI p) (nI i)) (n := P) (c := fun y => tp_KO P p (M 110 0) (M 113 0) (M 115) y → tp_ah p (M 115) x y → ¬ tp_has (M 117 0) (M 118) x g y) (fun hh m => ?_) (fun m i hi hcc hw => ?_) (fun m i hi hj hcc => ?_)⟩
  · unfold wbX12_standing_3
    rw [tp_bt (fun y hy => hh y hy.1 hy)] at h
    exact tp_dT (by rw [hP]; exact nI_le (Nat.le_refl _) (by omega)) h
  · unfold wbX12_standing_3
    refine tp_dF (by rw [hP]; exact nI_ge hi (by omega)) (tp_knownM hi hP2 hp hd hd2 (hk i hi) ?_)
    simp only [wbX12_standing_50, nI_1]
    by_cases e1 : tp_KO P p (M 110 0) (M 113 0) (M 115) i
    · rw [tp_bt e1]
      refine tp_dF (by decide) (tp_aheadM hx (by omega) hp ?_)
      by_cases e2 : tp_ah p (M 115) x i
      · rw [tp_bt e2]
        obtain ⟨gy, z1, z2⟩ := h117 i hi e1.2.1
        refine tp_dF (by decide) (tp_hasM hx (by omega) hg z1 z2 ?_)
        rw [tp_bf (hcc e1 e2)]
        exact tp_dT rfl hw
      · rw [tp_bf e2]; exact tp_dT rfl hw
    · rw [tp_bf e1]; exact tp_dT rfl hw
  · have e1 : tp_KO P p (M 110 0) (M 113 0) (M 115) i := Classical.byContradiction (fun z => hcc (fun y => absurd y z))
    have e2 : tp_ah p (M 115) x i := Classical.byContradiction (fun z => hcc (fun _ y => absurd y z))
    have e3 : tp_has (M 117 0) (M 118) x g i := Classical.byContradiction (fun z => hcc (fun _ _ => z))
    unfold wbX12_standing_3
    refine tp_dF (by rw [hP]; exact nI_ge hi (by omega)) (tp_knownM hi hP2 hp hd hd2 (hk i hi) ?_)
    rw [tp_bt e1]
    refine tp_dF (by decide) (tp_aheadM hx (by omega) hp ?_)
    rw [tp_bt e2]
    obtain ⟨gy, z1, z2⟩ := h117 i hi e1.2.1
    refine tp_dF (by decide) (tp_hasM hx (by omega) hg z1 z2 ?_)
    rw [tp_bt e3]
    rw [tp_bf (fun z => z i e1 e2 e3)] at h
    exact tp_dF (by decide) h
/-- the next order behind one (or the first) -/
theorem tp_nextM {last : Int32} (hlast : last = -1 ∨ ∃ x : Nat, x < 150 ∧ last = nI x) (hP : M 64 0 9 = nI P) (hP2 : P ≤ 150) (hp : p < 5) (hd : M 64 0 0 = nI d) (hd2 : d < 2 ^ 31) (hk : ∀ n, n < P → (M 115 n p).toInt ≤ d)
    (h1 : (∀ y, tp_KO P p (M 110 0) (M 113 0) (M 115) y → ¬ (last = -1 ∨ tp_ah p (M 115) last.toNatClampNeg y)) → post M (-1)) (h2 : ∀ z, tp_KO P p (M 110 0) (M 113 0) (M 115) z → (last = -1 ∨ tp_ah p (M 115) last.toNatClampNeg z) → (∀ y, tp_KO P p (M 110 0) (M 113 0) (M 115) y → (last = -1 ∨ tp_ah p (M 115) last.toNatClampNeg y) → y = z ∨ tp_ah p (M 115) z y) → post M (nI z)) : wpX12_nextOrder post M last (nI p) := by
  refine loop_0 (W := fun f i b => wbX12_nextOrder_5 post f M last (nI p) b (nI i)) (I := fun i (b : Int32) => (b = -1 ∧ ∀ y, y < i → tp_KO P p (M 110 0) (M 113 0) (M 115) y → ¬ (last = -1 ∨ tp_ah p (M 115) last.toNatClampNeg y)) ∨ ∃ z, z < i ∧ b = nI z ∧ tp_KO P p (M 110 0) (M 113 0) (M 115) z ∧ (last = -1 ∨ tp_ah p (M 115) last.toNatClampNeg z) ∧ ∀ y, y < i → tp_KO P p (M 110 0) (M 113 0) (M 115) y → (last = -1 ∨ tp_ah p (M 115) last.toNatClampNeg y) → y = z ∨ tp_ah p (M 115) z y) (e := P) (-1) (Or.inl ⟨rfl, fun j hj => absurd hj (Nat.not_lt_zero _)⟩) (fun f b hI => ?_) (fun f i b hi hI hn => ?_)
  · unfold wbX12_nextOrder_5
    refine tp_dT (by rw [hP]; exact nI_le (Nat.le_refl _) (by omega)) ?_
    rcases hI with ⟨rfl, q⟩ | ⟨z, q1, rfl, q2, q3, q4⟩
    · exact h1 (fun y hy => q y hy.1 hy)
    · exact h2 z q2 q3 (fun y hy => q4 y hy.1 hy)
  · have no : ¬ (tp_KO P p (M 110 0) (M 113 0) (M 115) i ∧ (last = -1 ∨ tp_ah p (M 115) last.toNatClampNeg i)) → wbX12_nextOrder_5 post f M last (nI p) b (nI (i + 1)) := fun w => hn b (by
      rcases hI with ⟨rfl, q⟩ | ⟨z, q1, rfl, q2, q3, q4⟩
      · refine Or.inl ⟨rfl, fun y hy hK hq => ?_⟩
        by_cases e : y = i
        · subst e; exact w ⟨hK, hq⟩
        · exact q y (by omega) hK hq
      · refine Or.inr ⟨z, by omega, rfl, q2, q3, fun y hy hK hq => ?_⟩
        by_cases e : y = i
        · subst e; exact absurd ⟨hK, hq⟩ w
        · exact q4 y (by omega) hK hq)
    have last2 : wbX12_nextOrder_43 post (wbX12_nextOrder_5 post f) M last (nI p) b (nI i) ∨ ¬ (tp_KO P p (M 110 0) (M 113 0) (M 115) i ∧ (last = -1 ∨ tp_ah p (M 115) last.toNatClampNeg i)) := by
      by_cases w : tp_KO P p (M 110 0) (M 113 0) (M 115) i ∧ (last = -1 ∨ tp_ah p (M 115) last.toNatClampNeg i)
      · refine Or.inl ?_
        unfold wbX12_nextOrder_43 wbX12_nextOrder_58 wbX12_nextOrder_61
        rw [nI_1]
        rcases hI with ⟨rfl, q⟩ | ⟨z, q1, rfl, q2, q3, q4⟩
        · refine tp_dT (by decide) (hn _ (Or.inr ⟨i, by omega, rfl, w.1, w.2, fun y hy hK hq => ?_⟩))
          by_cases e : y = i
          · exact Or.inl e
          · exact absurd hq (q y (by omega) hK)
        · refine tp_dF (nI_pos (by omega)) (tp_aheadM (by omega) (by omega) hp ?_)
          by_cases e1 : tp_ah p (M 115) i z
          · rw [tp_bt e1]
            refine tp_dF (by decide) (hn _ (Or.inr ⟨i, by omega, rfl, w.1, w.2, fun y hy hK hq => ?_⟩))
            by_cases e : y = i
            · exact Or.inl e
            · rcases q4 y (by omega) hK hq with r | r
              · subst r; exact Or.inr e1
              · exact Or.inr (tp_ah_tr e1 r)
          · rw [tp_bf e1]
            refine tp_dT rfl (hn _ (Or.inr ⟨z, by omega, rfl, q2, q3, fun y hy hK hq => ?_⟩))
            by_cases e : y = i
            · subst e; exact Or.inr (tp_ah_tot (by omega) e1)
            · exact q4 y (by omega) hK hq
      · exact Or.inr w
    unfold wbX12_nextOrder_5
    refine tp_dF (by rw [hP]; exact nI_ge hi (by omega)) (tp_knownM hi hP2 hp hd hd2 (hk i hi) ?_)
    by_cases e1 : tp_KO P p (M 110 0) (M 113 0) (M 115) i
    · rw [tp_bt e1]
      refine tp_dF (by decide) ?_
      rcases hlast with rfl | ⟨x, hx, rfl⟩
      · rcases last2 with w | w
        · exact tp_dT (by decide) w
        · exact absurd ⟨e1, Or.inl rfl⟩ w
      · refine tp_dF (nI_pos (by omega)) (tp_aheadM hx (by omega) hp ?_)
        rw [nI_clamp (by omega)] at last2 no
        by_cases e2 : tp_ah p (M 115) x i
        · rw [tp_bt e2]
          rcases last2 with w | w
          · exact tp_dF (by decide) w
          · exact absurd ⟨e1, Or.inr e2⟩ w
        · rw [tp_bf e2]
          refine tp_dT rfl ?_
          unfold wbX12_nextOrder_61
          rw [nI_1]
          exact no (fun w => w.2.elim (fun y => tp_nm1 (by omega) y) e2)
    · rw [tp_bf e1]
      refine tp_dT rfl ?_
      unfold wbX12_nextOrder_61
      rw [nI_1]
      exact no (fun w => e1 w.1)
end
