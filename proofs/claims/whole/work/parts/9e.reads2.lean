/-! pure: an order that the reference reads -/
def teR (T : Nat → Int32) (b : Nat) (r : pT) : Prop := T b = r.1 ∧ T (b + 1) = nI r.2.1 ∧ T (b + 2) = r.2.2.1 ∧ T (b + 3) = r.2.2.2.1 ∧ T (b + 4) = r.2.2.2.2.1 ∧ T (b + 5) = r.2.2.2.2.2
theorem teR_c {T T1 : Nat → Int32} {b : Nat} {r : pT} (h : teR T b r) (e : ∀ j, j < b + 6 → T1 j = T j) : teR T1 b r := by
  unfold teR at h ⊢
  rw [e b (by omega), e (b + 1) (by omega), e (b + 2) (by omega), e (b + 3) (by omega), e (b + 4) (by omega), e (b + 5) (by omega)]
  exact h
def prR (B T : Nat → Int32) (g : Nat) (p : pP) : Prop := B (4 * g) = nI p.1 ∧ B (4 * g + 1) = p.2.1 ∧ B (4 * g + 2) = p.2.2.1 ∧ B (4 * g + 3) = nI p.2.2.2.length ∧ ∀ q r, p.2.2.2[q]? = some r → teR T (24 * g + 6 * q) r
theorem prR_c {B T B1 T1 : Nat → Int32} {g : Nat} {p : pP} (h : prR B T g p) (hl : p.2.2.2.length ≤ 4) (e1 : ∀ j, j < 4 * (g + 1) → B1 j = B j) (e2 : ∀ j, j < 24 * (g + 1) → T1 j = T j) : prR B1 T1 g p := by
  unfold prR at h ⊢
  rw [e1 _ (by omega), e1 (4 * g + 1) (by omega), e1 (4 * g + 2) (by omega), e1 (4 * g + 3) (by omega)]
  refine ⟨h.1, h.2.1, h.2.2.1, h.2.2.2.1, fun q r hr => ?_⟩
  have : q < p.2.2.2.length := by
    rw [List.getElem?_eq_some_iff] at hr
    exact hr.1
  exact teR_c (h.2.2.2.2 q r hr) (fun j hj => e2 j (by omega))
theorem pts_len {h : Nat → Int32} : ∀ (m : Nat) (o : Int32) (x y : Nat) (l : List pT), pts h m o x = .ok (y, l) → l.length ≤ m
  | 0, o, x, y, l, e => by
    have := Except.ok.inj e
    cases this
    exact Nat.le_refl _
  | m + 1, o, x, y, l, e => by
    unfold pts at e
    cases ht : pte h o x with
    | error f => rw [ht] at e; cases e
    | ok yr =>
      obtain ⟨y1, r⟩ := yr
      rw [ht] at e
      simp only at e
      by_cases q : m = 0 ∨ ¬ h y1 = 32
      · rw [if_pos q] at e
        have := Except.ok.inj e
        cases this
        simp
      · rw [if_neg q] at e
        by_cases q2 : h (y1 + 1) = 111
        · rw [if_pos q2] at e
          cases hw : pw h (ws 8) (y1 + 2) with
          | error f => rw [hw] at e; cases e
          | ok z =>
            rw [hw] at e
            simp only at e
            cases hp : pts h m 1 z with
            | error f => rw [hp] at e; cases e
            | ok ul =>
              obtain ⟨u, l2⟩ := ul
              rw [hp] at e
              have := Except.ok.inj e
              cases this
              have := pts_len m 1 z _ l2 hp
              simp; omega
        · rw [if_neg q2] at e
          cases hw : pw h (ws 9) (y1 + 1) with
          | error f => rw [hw] at e; cases e
          | ok z =>
            rw [hw] at e
            simp only at e
            cases hp : pts h m 0 z with
            | error f => rw [hp] at e; cases e
            | ok ul =>
              obtain ⟨u, l2⟩ := ul
              rw [hp] at e
              have := Except.ok.inj e
              cases this
              have := pts_len m 0 z _ l2 hp
              simp; omega
theorem ppa_len {h : Nat → Int32} {x y : Nat} {p : pP} (e : ppa h x = .ok (y, p)) : p.2.2.2.length ≤ 4 := by
  unfold ppa at e
  cases hd : phd h x with
  | error f => rw [hd] at e; cases e
  | ok ya =>
    obtain ⟨y1, a, s, n⟩ := ya
    rw [hd] at e
    simp only at e
    by_cases q : h y1 = 32
    · rw [if_pos q] at e
      cases hw : pw h (ws 1) (y1 + 1) with
      | error f => rw [hw] at e; cases e
      | ok z =>
        rw [hw] at e
        simp only at e
        cases hp : pts h 4 0 z with
        | error f => rw [hp] at e; cases e
        | ok ul =>
          obtain ⟨u, l2⟩ := ul
          rw [hp] at e
          have := Except.ok.inj e
          cases this
          exact pts_len 4 0 z _ l2 hp
    · rw [if_neg q] at e
      have := Except.ok.inj e
      cases this
      simp
section
variable {tp : Nat → Int32} {t P g : Nat} {post : tq_St → Int32 → Prop}
theorem pa155 {M : tq_St} {K : Nat} {y f v : Int32} (hP : P < 150) (hg : g < 6) (h : ∀ M1, mF P M M1 → M1 117 = M 117 → M1 119 = M 119 → (∀ j, j < 3 → M1 118 P (4 * g + j) = M 170 0 j) → M1 118 P (4 * g + 3) = nI K → (∀ j, j < 4 * g → M1 118 P j = M 118 P j) → post (mk M1 y f v) 1) : wbX12_paragraphHere_155 post (mk M y f v) (nI P) (nI g) (nI K) := by
  unfold wbX12_paragraphHere_155
  refine tp_ae ?_
  have e4 : (4 : Int32) * nI g = nI (4 * g) := pk_mul 4 g
  rw [mk_up (by decide), mk_k (show 170 ≠ 64 by decide), mk_k (show 118 ≠ 64 by decide), mk_cp (by decide), e4, nI_clamp (show 4 * g < 2 ^ 31 by omega), nI_clamp (show P < 2 ^ 31 by omega), show (4 : Int32).toNatClampNeg = 4 by decide, show (0 : Int32).toNatClampNeg = 0 by decide]
  refine ⟨vp_in_nI hP (by decide), nI_pos (by omega), by omega, tp_ae (h _ ⟨fun k a b c d e => ?_, fun i hi => ⟨?_, ?_⟩, fun i hi => ?_⟩ ?_ ?_ (fun j hj => ?_) ?_ (fun j hj => ?_))⟩
  · rw [tq_cpk b, tq_upk d]
  · rw [tq_cpi hi, tq_upk (by decide)]
  · rw [tq_cpk (by decide), tq_upk (by decide)]
  · rw [tq_cpk (by decide), tq_upk (by decide)]
  · rw [tq_cpk (by decide), tq_upk (by decide)]
  · rw [tq_cpk (by decide), tq_upk (by decide)]
  · rw [tq_cpe, pk_cpy_in (by omega) (by omega), show 0 + (4 * g + j - 4 * g) = j by omega, tq_upj (by omega)]
  · rw [tq_cpe, pk_cpy_in (by omega) (by omega), show 0 + (4 * g + 3 - 4 * g) = 3 by omega, tq_upe]
  · rw [tq_cpe, pk_cpy_out (by omega), tq_upk (by decide)]
theorem pl39 (hP : P < 150) (hg : g < 6) (ht : t ≤ 120) : ∀ (m k : Nat) (o : Int32) (x : Nat) (v : Int32) (M : tq_St), k + m = 4 → 1 ≤ m → M 64 0 61 = nI t → M 160 0 = tp → x ≤ t →
    (∀ M1 y l v1, pts (ph tp t) m o x = .ok (y, l) → y ≤ t → mF P M M1 → M1 117 = M 117 → (∀ j, j < 3 → M1 118 P (4 * g + j) = M 170 0 j) → M1 118 P (4 * g + 3) = nI (k + l.length) → (∀ j, j < 4 * g → M1 118 P j = M 118 P j) → (∀ j, j < 24 * g + 6 * k → M1 119 P j = M 119 P j) → (∀ q r, l[q]? = some r → teR (M1 119 P) (24 * g + 6 * (k + q)) r) → post (mk M1 (nI y) (-1) v1) 1) →
    (∀ M1 f v1, pts (ph tp t) m o x = .error f → f ≤ t → mF P M M1 → post (mk M1 (nI f) (nI f) v1) 0) → wbX12_paragraphHere_39 post m (mk M (nI x) (-1) v) (nI P) (nI g) (nI k) o
  | 0, k, o, x, v, M, hk, hm, h61, h160, hx, ka, kb => absurd hm (by decide)
  | m + 1, k, o, x, v, M, hk, hm, h61, h160, hx, ka, kb => by
    unfold wbX12_paragraphHere_39 wbX12_paragraphHere_129 wbX12_paragraphHere_147
    unfold pts at ka kb
    refine teM (o := o) h61 h160 ht hx (fun M1 y r v1 e hy a1 r0 r1 r2 r3 r4 r5 => ?_) (fun M1 f v1 e hf a1 => ?_)
    · rw [e] at ka kb
      simp only at ka kb
      refine tp_cF (by decide) (tp_ae ?_)
      have e1 : (24 : Int32) * nI g + 6 * nI k = nI (24 * g + 6 * k) := by
        rw [show (24 : Int32) = nI 24 from rfl, show (6 : Int32) = nI 6 from rfl, pk_mul, pk_mul, nI_add]
      rw [mk_up (by decide), mk_k (show 171 ≠ 64 by decide), mk_k (show 119 ≠ 64 by decide), mk_cp (by decide), e1, nI_clamp (show 24 * g + 6 * k < 2 ^ 31 by omega), nI_clamp (show P < 2 ^ 31 by omega), show (6 : Int32).toNatClampNeg = 6 by decide, show (0 : Int32).toNatClampNeg = 0 by decide, nI_1]
      refine ⟨vp_in_nI hP (by decide), nI_pos (by omega), by omega, tp_ae ?_⟩
      generalize hM2 : tq_cp (tq_up M1 171 0 5 o) 119 P (va_cpy (tq_up M1 171 0 5 o 171 0) (tq_up M1 171 0 5 o 119 P) 0 (24 * g + 6 * k) 6) = M2
      have f2 : mF P M M2 := by
        refine (mF.of171 a1).tr ⟨fun k a b c d e => ?_, fun i hi => ⟨?_, ?_⟩, fun i hi => ?_⟩
        · rw [← hM2, tq_cpk c, tq_upk e]
        · rw [← hM2, tq_cpk (by decide), tq_upk (by decide)]
        · rw [← hM2, tq_cpi hi, tq_upk (by decide)]
        · rw [← hM2, tq_cpk (by decide), tq_upk (by decide)]
      have k117 : M2 117 = M 117 := by rw [← hM2, tq_cpk (by decide), tq_upk (by decide), a1 117 (by decide)]
      have k118 : M2 118 = M 118 := by rw [← hM2, tq_cpk (by decide), tq_upk (by decide), a1 118 (by decide)]
      have k170 : M2 170 = M 170 := by rw [← hM2, tq_cpk (by decide), tq_upk (by decide), a1 170 (by decide)]
      have l119 : ∀ j, j < 24 * g + 6 * k → M2 119 P j = M 119 P j := fun j hj => by
        rw [← hM2, tq_cpe, pk_cpy_out (by omega), tq_upk (by decide), a1 119 (by decide)]
      have i119 : ∀ j, j < 6 → M2 119 P (24 * g + 6 * k + j) = tq_up M1 171 0 5 o 171 0 j := fun j hj => by
        rw [← hM2, tq_cpe, pk_cpy_in (by omega) (by omega), show 0 + (24 * g + 6 * k + j - (24 * g + 6 * k)) = j by omega]
      have t119 : teR (M2 119 P) (24 * g + 6 * k) r := by
        refine ⟨(i119 0 (by decide)).trans ?_, (i119 1 (by decide)).trans ?_, (i119 2 (by decide)).trans ?_, (i119 3 (by decide)).trans ?_, (i119 4 (by decide)).trans ?_, (i119 5 (by decide)).trans ?_⟩
        · rw [tq_upj (by decide)]; exact r0
        · rw [tq_upj (by decide)]; exact r1
        · rw [tq_upj (by decide)]; exact r2
        · rw [tq_upj (by decide)]; exact r3
        · rw [tq_upj (by decide)]; exact r4
        · rw [tq_upe]; exact r5.symm
      have g61 : M2 64 0 61 = nI t := by rw [f2.g61]; exact h61
      have g160 : M2 160 0 = tp := by rw [f2.g160]; exact h160
      have fin : (m = 0 ∨ ¬ ph tp t y = 32) → wbX12_paragraphHere_155 post (mk M2 (nI y) (-1) v1) (nI P) (nI g) (nI (k + 1)) := by
        intro q
        rw [if_pos q] at ka
        refine pa155 hP hg (fun M3 b1 b2 b3 b4 b5 b6 => ?_)
        refine ka M3 y [r] v1 rfl hy (f2.tr b1) (b2.trans k117) (fun j hj => (b4 j hj).trans (by rw [k170])) b5 (fun j hj => (b6 j hj).trans (by rw [k118])) (fun j hj => by rw [b3]; exact l119 j hj) (fun q r' hr => ?_)
        have hq : q = 0 := by
          rw [List.getElem?_eq_some_iff] at hr
          obtain ⟨h1, _⟩ := hr
          simp at h1; exact h1
        subst hq
        have : r = r' := by simpa using hr
        subst this
        rw [b3, Nat.add_zero]; exact t119
      refine hereM g61 g160 ht hy ?_
      by_cases q1 : ph tp t y = 32
      · refine tp_cT q1 ?_
        by_cases q2 : m = 0
        · have : k + 1 = 4 := by omega
          refine tp_cT (by rw [this]; rfl) (fin (Or.inl q2))
        · have lt := ph_lt q1 (by decide)
          refine tp_cF (fun z => by
            have := (nI_eq (a := k + 1) (b := 4) (by omega) (by omega)).mp z
            omega) (tp_ae ?_)
          rw [mk_g67, mk_67, nI_1]
          rw [if_neg (fun z => z.elim q2 (fun z => z q1))] at ka kb
          refine hereM g61 g160 ht (by omega) ?_
          have hrec : ∀ (o2 : Int32) (z : Nat) (v2 : Int32), z ≤ t → (∀ y2 l, pts (ph tp t) m o2 z = .ok (y2, l) → (if ph tp t (y + 1) = 111 then (match pw (ph tp t) (ws 8) (y + 2) with
              | .error f => .error f
              | .ok z => match pts (ph tp t) m 1 z with
                | .error f => .error f
                | .ok (u, l) => .ok (u, r :: l)) else match pw (ph tp t) (ws 9) (y + 1) with
              | .error f => .error f
              | .ok z => match pts (ph tp t) m 0 z with
                | .error f => .error f
                | .ok (u, l) => .ok (u, r :: l)) = Except.ok (y2, r :: l)) → (∀ f, pts (ph tp t) m o2 z = .error f → (if ph tp t (y + 1) = 111 then (match pw (ph tp t) (ws 8) (y + 2) with
              | .error f => .error f
              | .ok z => match pts (ph tp t) m 1 z with
                | .error f => .error f
                | .ok (u, l) => .ok (u, r :: l)) else match pw (ph tp t) (ws 9) (y + 1) with
              | .error f => .error f
              | .ok z => match pts (ph tp t) m 0 z with
                | .error f => .error f
                | .ok (u, l) => .ok (u, r :: l)) = Except.error (ε := Nat) (α := Nat × List pT) f) → wbX12_paragraphHere_39 post m (mk M2 (nI z) (-1) v2) (nI P) (nI g) (nI (k + 1)) o2 := by
            intro o2 z v2 hz s1 s2
            refine pl39 hP hg ht m (k + 1) o2 z v2 M2 (by omega) (by omega) g61 g160 hz (fun M3 y2 l v3 e2 hy2 b1 b2 b3 b4 b5 b6 b7 => ?_) (fun M3 f v3 e2 hf b1 => kb M3 f v3 (s2 f e2) hf (f2.tr b1))
            refine ka M3 y2 (r :: l) v3 (s1 y2 l e2) hy2 (f2.tr b1) (b2.trans k117) (fun j hj => (b3 j hj).trans (by rw [k170])) (by rw [b4, List.length_cons]; congr 1; omega) (fun j hj => (b5 j hj).trans (by rw [k118])) (fun j hj => (b6 j (by omega)).trans (l119 j hj)) (fun q r' hr => ?_)
            cases q with
            | zero =>
              have : r = r' := by simpa using hr
              subst this
              exact teR_c t119 (fun j hj => b6 j (by omega))
            | succ q =>
              rw [List.getElem?_cons_succ] at hr
              have := b7 q r' hr
              rw [show 24 * g + 6 * (k + (q + 1)) = 24 * g + 6 * (k + 1 + q) by omega]
              exact this
          by_cases q3 : ph tp t (y + 1) = 111
          · refine tp_cT q3 (tp_cT rfl (wdM g61 g160 ht (by decide) (by omega) (fun z ez hz => ?_) (fun f ez hf => ?_)))
            · rw [pw_c (c := 111) (w2 := 8) rfl q3] at ez
              exact tp_cF (by decide) (hrec 1 z _ hz (fun y2 l e2 => by rw [if_pos q3, ez]; simp only [e2]) (fun f e2 => by rw [if_pos q3, ez]; simp only [e2]))
            · rw [pw_c (c := 111) (w2 := 8) rfl q3] at ez
              rw [if_pos q3, ez] at kb
              exact tp_cT rfl (kb M2 f _ rfl hf f2)
          · refine tp_cF q3 (tp_cF (by decide) (wdM g61 g160 ht (by decide) (by omega) (fun z ez hz => ?_) (fun f ez hf => ?_)))
            · exact tp_cF (by decide) (hrec 0 z _ hz (fun y2 l e2 => by rw [if_neg q3, ez]; simp only [e2]) (fun f e2 => by rw [if_neg q3, ez]; simp only [e2]))
            · rw [if_neg q3, ez] at kb
              exact tp_cT rfl (kb M2 f _ rfl hf f2)
      · exact tp_cF q1 (fin (Or.inr q1))
    · rw [e] at kb
      exact tp_cT rfl (kb M1 f v1 rfl hf (mF.of171 a1))
theorem paM {M : tq_St} {x : Nat} {v : Int32} (hP : P < 150) (hg : g < 6) (ht : t ≤ 120) (h61 : M 64 0 61 = nI t) (h160 : M 160 0 = tp) (hx : x ≤ t)
    (ka : ∀ M1 y p v1, ppa (ph tp t) x = .ok (y, p) → y ≤ t → mF P M M1 → M1 117 = M 117 → prR (M1 118 P) (M1 119 P) g p → (∀ j, j < 4 * g → M1 118 P j = M 118 P j) → (∀ j, j < 24 * g → M1 119 P j = M 119 P j) → post (mk M1 (nI y) (-1) v1) 1)
    (kb : ∀ M1 f v1, ppa (ph tp t) x = .error f → f ≤ t → mF P M M1 → post (mk M1 (nI f) (nI f) v1) 0) : wpX12_paragraphHere post (mk M (nI x) (-1) v) (nI P) (nI g) := by
  unfold wpX12_paragraphHere
  unfold ppa at ka kb
  refine acM h61 h160 ht hx (fun M1 y a s n v1 e hy a1 r0 r1 r2 => ?_) (fun M1 f v1 e hf a1 => ?_)
  · rw [e] at ka kb
    simp only at ka kb
    have f1 : mF P M M1 := mF.of170 a1
    have g61 : M1 64 0 61 = nI t := by rw [a1 64 (by decide)]; exact h61
    have g160 : M1 160 0 = tp := by rw [a1 160 (by decide)]; exact h160
    refine tp_cF (by decide) (hereM g61 g160 ht hy ?_)
    by_cases q : ph tp t y = 32
    · rw [if_pos q] at ka kb
      refine tp_cT q (wdM g61 g160 ht (by decide) hy (fun z ez hz => ?_) (fun f ez hf => ?_))
      · rw [pw_c (c := 32) (w2 := 1) rfl q] at ez
        rw [ez] at ka kb
        simp only at ka kb
        refine tp_cF (by decide) ⟨4, pl39 hP hg ht 4 0 0 z _ M1 (by decide) (by decide) g61 g160 hz (fun M3 y2 l v3 e2 hy2 b1 b2 b3 b4 b5 b6 b7 => ?_) (fun M3 f v3 e2 hf b1 => ?_)⟩
        · rw [e2] at ka
          refine ka M3 y2 _ v3 rfl hy2 (f1.tr b1) (b2.trans (a1 117 (by decide))) ⟨?_, ?_, ?_, ?_, fun q r hr => ?_⟩ (fun j hj => (b5 j hj).trans (by rw [a1 118 (by decide)])) (fun j hj => (b6 j (by omega)).trans (by rw [a1 119 (by decide)]))
          · exact (b3 0 (by decide)).trans r0
          · exact (b3 1 (by decide)).trans r1
          · exact (b3 2 (by decide)).trans r2
          · rw [Nat.zero_add] at b4; exact b4
          · have := b7 q r hr
            rw [Nat.zero_add] at this; exact this
        · rw [e2] at kb
          exact kb M3 f v3 rfl hf (f1.tr b1)
      · rw [pw_c (c := 32) (w2 := 1) rfl q] at ez
        rw [ez] at kb
        exact tp_cT rfl (kb M1 f _ rfl hf f1)
    · rw [if_neg q] at ka
      refine tp_cF q (pa155 (K := 0) hP hg (fun M3 b1 b2 b3 b4 b5 b6 => ?_))
      refine ka M3 y _ _ rfl hy (f1.tr b1) (b2.trans (a1 117 (by decide))) ⟨?_, ?_, ?_, ?_, fun q r hr => ?_⟩ (fun j hj => (b6 j hj).trans (by rw [a1 118 (by decide)])) (fun j hj => by rw [b3, a1 119 (by decide)])
      · exact (b4 0 (by decide)).trans r0
      · exact (b4 1 (by decide)).trans r1
      · exact (b4 2 (by decide)).trans r2
      · exact b5
      · simp at hr
  · rw [e] at kb
    exact tp_cT rfl (kb M1 f v1 rfl hf (mF.of170 a1))
theorem orM12 (hP : P < 150) (ht : t ≤ 120) : ∀ (m i x : Nat) (v : Int32) (M : tq_St), i + m = 6 → 1 ≤ m → M 64 0 61 = nI t → M 160 0 = tp → x ≤ t →
    (∀ M1 l y v1, por (ph tp t) t m x = .ok l → mF P M M1 → M1 117 0 P = nI (i + l.length) → (∀ q p, l[q]? = some p → prR (M1 118 P) (M1 119 P) (i + q) p) → (∀ j, j < 4 * i → M1 118 P j = M 118 P j) → (∀ j, j < 24 * i → M1 119 P j = M 119 P j) → post (mk M1 y (-1) v1) 1) →
    (∀ M1 f y v1, por (ph tp t) t m x = .error f → f ≤ t → mF P M M1 → post (mk M1 y (nI f) v1) 0) → wbX12_orderHere_12 post m (mk M (nI x) (-1) v) (nI P) (nI i)
  | 0, i, x, v, M, hk, hm, h61, h160, hx, ka, kb => absurd hm (by decide)
  | m + 1, i, x, v, M, hk, hm, h61, h160, hx, ka, kb => by
    unfold wbX12_orderHere_12 wbX12_orderHere_61
    unfold por at ka kb
    refine paM hP (by omega) ht h61 h160 hx (fun M1 y p v1 e hy f1 k117 rp e118 e119 => ?_) (fun M1 f v1 e hf f1 => ?_)
    · have pl := ppa_len e
      rw [e] at ka kb
      simp only at ka kb
      refine tp_cF (by decide) ⟨vp_in_nI hP (by decide), tp_ae ?_⟩
      rw [nI_clamp (show P < 2 ^ 31 by omega), nI_1, mk_up (by decide)]
      have f2 : mF P M (tq_up M1 117 0 P (nI (i + 1))) := f1.tr ⟨fun k a _ _ _ _ => tq_upk a, fun j _ => ⟨by rw [tq_upk (by decide)], by rw [tq_upk (by decide)]⟩, fun j hj => by rw [tq_upj hj]⟩
      have e117 : tq_up M1 117 0 P (nI (i + 1)) 117 0 P = nI (i + 1) := tq_upe
      have c118 : tq_up M1 117 0 P (nI (i + 1)) 118 = M1 118 := tq_upk (by decide)
      have c119 : tq_up M1 117 0 P (nI (i + 1)) 119 = M1 119 := tq_upk (by decide)
      generalize tq_up M1 117 0 P (nI (i + 1)) = M2 at f2 e117 c118 c119
      have g61 : M2 64 0 61 = nI t := by rw [f2.g61]; exact h61
      have g160 : M2 160 0 = tp := by rw [f2.g160]; exact h160
      rw [mk_g67, mk_gj (by decide) (by decide) (by decide), g61]
      by_cases q : y = t
      · rw [if_pos q] at ka
        refine tp_cT (by rw [q]) (ka M2 [p] _ _ rfl f2 e117 (fun q r hr => ?_) (fun j hj => by rw [c118]; exact e118 j hj) (fun j hj => by rw [c119]; exact e119 j hj))
        have hq : q = 0 := by
          rw [List.getElem?_eq_some_iff] at hr
          obtain ⟨h1, _⟩ := hr
          simp at h1; exact h1
        subst hq
        have : p = r := by simpa using hr
        subst this
        rw [c118, c119]; exact rp
      · rw [if_neg q] at ka kb
        refine tp_cF (fun z => q ((nI_eq (by omega) (by omega)).mp z)) (hereM g61 g160 ht hy ?_)
        by_cases q2 : ph tp t y = 59
        · refine tp_cT q2 ?_
          by_cases q3 : m = 0
          · have : i + 1 = 6 := by omega
            rw [if_neg (fun z => z.1 q3)] at kb
            exact tp_cT (by rw [this]; rfl) (wrongM2 (kb M2 y _ _ rfl hy f2))
          · rw [if_pos ⟨q3, q2⟩] at ka kb
            refine tp_cF (fun z => by
              have := (nI_eq (a := i + 1) (b := 6) (by omega) (by omega)).mp z
              omega) (tp_ae ?_)
            rw [mk_g67, mk_67, nI_1]
            refine orM12 hP ht m (i + 1) (y + 1) _ M2 (by omega) (by omega) g61 g160 (by omega) (fun M3 l y3 v3 e3 f3 b1 b2 b3 b4 => ?_) (fun M3 f y3 v3 e3 hf f3 => ?_)
            · rw [e3] at ka
              refine ka M3 (p :: l) y3 v3 rfl (f2.tr f3) (by rw [b1, List.length_cons]; congr 1; omega) (fun q r hr => ?_) (fun j hj => (b3 j (by omega)).trans (by rw [c118]; exact e118 j hj)) (fun j hj => (b4 j (by omega)).trans (by rw [c119]; exact e119 j hj))
              cases q with
              | zero =>
                have : p = r := by simpa using hr
                subst this
                exact prR_c rp pl (fun j hj => (b3 j hj).trans (by rw [c118])) (fun j hj => (b4 j hj).trans (by rw [c119]))
              | succ q =>
                rw [List.getElem?_cons_succ] at hr
                have := b2 q r hr
                rw [show i + (q + 1) = i + 1 + q by omega]
                exact this
            · rw [e3] at kb
              exact kb M3 f y3 v3 rfl hf (f2.tr f3)
        · rw [if_neg (fun z => q2 z.2)] at kb
          exact tp_cF q2 (wrongM2 (kb M2 y _ _ rfl hy f2))
    · rw [e] at kb
      exact tp_cT rfl (kb M1 f _ v1 rfl hf f1)
theorem orM {M : tq_St} (hP : P < 150) (ht : t ≤ 120) (h61 : M 64 0 61 = nI t) (h160 : M 160 0 = tp)
    (ka : ∀ M1 l y v1, por (ph tp t) t 6 0 = .ok l → mF P M M1 → M1 117 0 P = nI l.length → (∀ q p, l[q]? = some p → prR (M1 118 P) (M1 119 P) q p) → post (mk M1 y (-1) v1) 1)
    (kb : ∀ M1 f y v1, por (ph tp t) t 6 0 = .error f → f ≤ t → mF P M M1 → post (mk M1 y (nI f) v1) 0) : wpX12_orderHere post M (nI P) := by
  unfold wpX12_orderHere
  refine tp_ae (tp_ae ⟨6, ?_⟩)
  have e : tq_up (tq_up M 64 0 67 0) 64 0 68 (-1) = mk M (nI 0) (-1) (M 64 0 69) := by
    unfold mk
    refine (tp_up_same ?_).symm
    rw [tq_upj (by decide), tq_upj (by decide)]
  rw [e]
  refine orM12 hP ht 6 0 0 _ M (by decide) (by decide) h61 h160 (by omega) (fun M1 l y v1 e f a b _ _ => ?_) kb
  refine ka M1 l y v1 e f (by rw [Nat.zero_add] at a; exact a) (fun q p hq => ?_)
  have := b q p hq
  rw [Nat.zero_add] at this
  exact this
end
