/-! pure: what the first store reads -/
def acd (a : Nat) : Nat := if a = 5 then 6 else a
section
variable {N : tq_Nn} {S : tq_St} {tp : Nat → Int32} {t x : Nat}
theorem acS {post : tq_St → Int32 → Prop} (h1 : S 3 0 1 = nI t) (h41 : S 41 0 = tp) (ht : t ≤ 120) (hx : x ≤ t) (ka : ∀ y, (pac (ph tp t) x).2 = .ok y → y ≤ t → post (sk S (nI y) (-1)) (nI (acd (pac (ph tp t) x).1))) (kb : ∀ f r, (pac (ph tp t) x).2 = .error f → f ≤ t → post (sk S (nI f) (nI f)) r) : wpX6_readAct N post (sk S (nI x) (-1)) := by
  unfold wpX6_readAct
  unfold pac at ka kb
  refine tkS h1 h41 ht hx (by decide) (fun z zx => ?_) (fun z0 => ?_)
  · rw [if_pos z] at ka kb
    exact tp_dF (by decide) (exS h1 h41 ht (by decide) (by omega) (fun y e hy => ka y e hy) (fun f e hf => kb f _ e hf))
  rw [if_neg z0] at ka kb
  refine tp_dT rfl (tkS h1 h41 ht hx (by decide) (fun z zx => ?_) (fun z1 => ?_))
  · rw [if_pos z] at ka kb
    exact tp_dF (by decide) (exS h1 h41 ht (by decide) (by omega) (fun y e hy => ka y e hy) (fun f e hf => kb f _ e hf))
  rw [if_neg z1] at ka kb
  refine tp_dT rfl (tkS h1 h41 ht hx (by decide) (fun z zx => ?_) (fun z2 => ?_))
  · rw [if_pos z] at ka kb
    exact tp_dF (by decide) (exS h1 h41 ht (by decide) (by omega) (fun y e hy => ka y e hy) (fun f e hf => kb f _ e hf))
  rw [if_neg z2] at ka kb
  refine tp_dT rfl (tkS h1 h41 ht hx (by decide) (fun z zx => ?_) (fun z3 => ?_))
  · rw [if_pos z] at ka kb
    exact tp_dF (by decide) (exS h1 h41 ht (by decide) (by omega) (fun y e hy => ka y e hy) (fun f e hf => kb f _ e hf))
  rw [if_neg z3] at ka kb
  refine tp_dT rfl (tkS h1 h41 ht hx (by decide) (fun z zx => ?_) (fun z4 => ?_))
  · rw [if_pos z] at ka kb
    exact tp_dF (by decide) (exS h1 h41 ht (by decide) (by omega) (fun y e hy => ka y e hy) (fun f e hf => kb f _ e hf))
  rw [if_neg z4] at ka kb
  exact tp_dT rfl (exS h1 h41 ht (by decide) hx (fun y e hy => ka y e hy) (fun f e hf => kb f _ e hf))
theorem fiS {post : tq_St → Int32 → Prop} (h1 : S 3 0 1 = nI t) (h41 : S 41 0 = tp) (ht : t ≤ 120) (hx : x ≤ t) (ka : ∀ y, (pfi (ph tp t) x).2 = .ok y → y ≤ t → post (sk S (nI y) (-1)) (nI (pfi (ph tp t) x).1)) (kb : ∀ f r, (pfi (ph tp t) x).2 = .error f → f ≤ t → post (sk S (nI f) (nI f)) r) : wpX6_readField N post (sk S (nI x) (-1)) := by
  unfold wpX6_readField wbX6_readField_62 wbX6_readField_74
  unfold pfi at ka kb
  refine tkS h1 h41 ht hx (by decide) (fun z zx => ?_) (fun z0 => ?_)
  · rw [if_pos z] at ka kb
    exact tp_dF (by decide) (exS h1 h41 ht (by decide) (by omega) (fun y e hy => ka y e hy) (fun f e hf => kb f _ e hf))
  rw [if_neg z0] at ka kb
  refine tp_dT rfl (tkS h1 h41 ht hx (by decide) (fun z zx => ?_) (fun z1 => ?_))
  · rw [if_pos z] at ka kb
    exact tp_dF (by decide) (exS h1 h41 ht (by decide) (by omega) (fun y e hy => ka y e hy) (fun f e hf => kb f _ e hf))
  rw [if_neg z1] at ka kb
  refine tp_dT rfl (tkS h1 h41 ht hx (by decide) (fun z zx => ?_) (fun z2 => ?_))
  · rw [if_pos z] at ka kb
    refine tp_dF (by decide) (tkS h1 h41 ht (by omega) (by decide) (fun z3 zx3 => ?_) (fun z3 => ?_))
    · rw [if_pos z3] at ka kb
      exact tp_dF (by decide) (exS h1 h41 ht (by decide) (by omega) (fun y e hy => tp_dF (by decide) (ka y e hy)) (fun f e hf => tp_dF (by decide) (kb f _ e hf)))
    · rw [if_neg z3] at ka kb
      exact tp_dT rfl (exS h1 h41 ht (by decide) (by omega) (fun y e hy => tp_dT rfl (ka y e hy)) (fun f e hf => tp_dT rfl (kb f _ e hf)))
  rw [if_neg z2] at ka kb
  exact tp_dT rfl (exS h1 h41 ht (by decide) hx (fun y e hy => ka y e hy) (fun f e hf => kb f _ e hf))
theorem fiD {post : tq_St → Int32 → Prop} {y : Int32} {f : Nat} (hf : f ≤ 120) (b : post (sk S y (nI f)) 4) : wpX6_readField N post (sk S y (nI f)) := by
  unfold wpX6_readField wbX6_readField_62 wbX6_readField_74
  exact tkD hf (tp_dT rfl (tkD hf (tp_dT rfl (tkD hf (tp_dT rfl (exD (by decide) hf b))))))
theorem sgS {post : tq_St → Int32 → Prop} (h1 : S 3 0 1 = nI t) (h41 : S 41 0 = tp) (ht : t ≤ 120) (hx : x ≤ t) (ka : ph tp t x = 60 ∨ ph tp t x = 61 ∨ ph tp t x = 62 → x < t → post (sk S (nI (x + 1)) (-1)) (ph tp t x - 61)) (kb : ¬ (ph tp t x = 60 ∨ ph tp t x = 61 ∨ ph tp t x = 62) → post (sk S (nI x) (nI x)) 0) : wpX6_readSign N post (sk S (nI x) (-1)) := by
  unfold wpX6_readSign
  refine tkS h1 h41 ht hx (by decide) (fun z zx => ?_) (fun z0 => ?_)
  · have := ka (Or.inl z) zx
    rw [z] at this
    exact tp_dF (by decide) this
  refine tp_dT rfl (tkS h1 h41 ht hx (by decide) (fun z zx => ?_) (fun z1 => ?_))
  · have := ka (Or.inr (Or.inr z)) zx
    rw [z] at this
    exact tp_dF (by decide) this
  refine tp_dT rfl (exS h1 h41 ht (by decide) hx (fun y e hy => ?_) (fun f e hf => ?_))
  · by_cases q : ph tp t x = 61
    · have e2 : pw (ph tp t) (ws 16) x = .ok (x + 1) := by
        show (if ph tp t x = 61 then Except.ok (x + 1) else .error x) = _
        rw [if_pos q]
      rw [e2] at e
      have : x + 1 = y := Except.ok.inj e
      subst this
      have := ka (Or.inr (Or.inl q)) (ph_lt q (by decide))
      rw [q] at this
      exact this
    · have e2 : pw (ph tp t) (ws 16) x = .error x := by
        show (if ph tp t x = 61 then Except.ok (x + 1) else .error x) = _
        rw [if_neg q]
      rw [e2] at e
      cases e
  · by_cases q : ph tp t x = 61
    · have e2 : pw (ph tp t) (ws 16) x = .ok (x + 1) := by
        show (if ph tp t x = 61 then Except.ok (x + 1) else .error x) = _
        rw [if_pos q]
      rw [e2] at e
      cases e
    · have e2 : pw (ph tp t) (ws 16) x = .error x := by
        show (if ph tp t x = 61 then Except.ok (x + 1) else .error x) = _
        rw [if_neg q]
      rw [e2] at e
      have : x = f := Except.error.inj e
      subst this
      exact kb (fun z => z.elim z0 (fun z => z.elim q z1))
theorem sgD {post : tq_St → Int32 → Prop} {y : Int32} {f : Nat} (hf : f ≤ 120) (b : post (sk S y (nI f)) 0) : wpX6_readSign N post (sk S y (nI f)) := by
  unfold wpX6_readSign
  exact tkD hf (tp_dT rfl (tkD hf (tp_dT rfl (exD (by decide) hf b))))
end
/-- behind a Test's constructor -/
def nT (N : tq_Nn) (S : tq_St) (N1 : tq_Nn) (S1 : tq_St) (q : Nat) (p1 p2 p3 p4 p5 p6 : Int32) : Prop :=
  (tp_mono N N1 ∧ N1 11 q = 1 ∧ tq_fr N q ∧ 1 ≤ q ∧ q ≤ N 0 0 ∧ N1 0 0 = q + 1 ∧ N1 0 1 = N 0 1 + 6 ∧ (∀ k i : Nat, ¬ (i = q ∧ (k = 1 ∨ k = 11)) → S1 k i = S k i))
  ∧ S1 11 q 0 = p1 ∧ S1 11 q 1 = p2 ∧ S1 11 q 2 = p3 ∧ S1 11 q 3 = p4 ∧ S1 11 q 4 = p5 ∧ S1 11 q 5 = p6
theorem t9 {post : tq_Nn → tq_St → Prop} {N : tq_Nn} {S : tq_St} {q : Nat} {y f p1 p2 p3 p4 p5 p6 : Int32} (h1 : ¬ q < 1) (hq : q ≤ N 0 0) (hf : tq_fr N q) (n1 : narrow .boolean (.int p1) = .int p1) (n2 : narrow .boolean (.int p2) = .int p2) (h : ∀ N1 S1, nT N S N1 S1 q p1 p2 p3 p4 p5 p6 → post N1 (sk S1 y f)) : wpX9_init post (tq_na N (q + 1) 1 q 6 6) (sk (tq_cp S 1 q (fun _ => 0)) y f) q p1 p2 p3 p4 p5 p6 := by
  unfold wpX9_init
  refine ⟨h1, tp_nae (by decide), tp_na0, n1, tp_ae ⟨n2, tp_ae (tp_ae (tp_ae (tp_ae (tp_ae ?_))))⟩⟩
  rw [sk_up (by decide), sk_up (by decide), sk_up (by decide), sk_up (by decide), sk_up (by decide), sk_up (by decide), sk_cp (by decide), sk_k (show 1 ≠ 3 by decide)]
  refine h _ _ ⟨⟨tp_mono_n1.tr tp_mono_pr, tp_pre (by decide), hf, by omega, hq, ?_, ?_, fun k i z => ?_⟩, ?_, ?_, ?_, ?_, ?_, ?_⟩
  · rw [tp_prk (by decide) (by decide), tp_na0]
  · rw [tp_prk (by decide) (by decide), tp_na1]
  · have q1 : ¬ (k = 1 ∧ i = q) := fun z2 => z ⟨z2.2, Or.inl z2.1⟩
    have q11 : ¬ (k = 11 ∧ i = q) := fun z2 => z ⟨z2.2, Or.inr z2.1⟩
    simp only [tq_cp_out q11, tq_cp_out q1, tq_up_out q1]
  · simp (disch := decide) only [tq_cpe, tq_upe, tq_upj]
  · simp (disch := decide) only [tq_cpe, tq_upe, tq_upj]
  · simp (disch := decide) only [tq_cpe, tq_upe, tq_upj]
  · simp (disch := decide) only [tq_cpe, tq_upe, tq_upj]
  · simp (disch := decide) only [tq_cpe, tq_upe, tq_upj]
  · simp (disch := decide) only [tq_cpe, tq_upe]
def bl (b : Int32) : Prop := b = 0 ∨ b = 1
theorem bl.n {b : Int32} (h : bl b) : narrow .boolean (.int b) = .int b := by
  rcases h with rfl | rfl
  · exact tp_nb0
  · exact tp_nb1
section
variable {N : tq_Nn} {S : tq_St} {tp : Nat → Int32} {t x : Nat} {post : tq_Nn → tq_St → Nat → Prop} {o neg fld srt : Int32}
theorem t39D {y : Int32} {f : Nat} (hf : f ≤ 120) (ho : bl o) (hn : bl neg) (r0 : N 0 0 + 1 ≤ tq_CX) (r1 : N 0 1 + 6 ≤ tq_CY) (k : ∀ N1 S1 q p1 p2 p3 p4 p5 p6, nT N S N1 S1 q p1 p2 p3 p4 p5 p6 → post N1 (sk S1 y (nI f)) q) : wbX6_readTest_39 post N (sk S y (nI f)) o neg fld srt := by
  unfold wbX6_readTest_39
  refine sgD hf ⟨r0, r1, fun q q1 q2 q3 => tp_ae (tp_ae ?_)⟩
  rw [sk_cp (by decide)]
  exact nuD hf (t9 q1 q2 q3 ho.n hn.n (fun N1 S1 h => k N1 S1 q _ _ _ _ _ _ h))
theorem t31D {y : Int32} {f : Nat} (hf : f ≤ 120) (ho : bl o) (hn : bl neg) (r0 : N 0 0 + 1 ≤ tq_CX) (r1 : N 0 1 + 6 ≤ tq_CY) (k : ∀ N1 S1 q p1 p2 p3 p4 p5 p6, nT N S N1 S1 q p1 p2 p3 p4 p5 p6 → post N1 (sk S1 y (nI f)) q) : wbX6_readTest_31 post N (sk S y (nI f)) o neg fld := by
  unfold wbX6_readTest_31
  exact soD hf (t39D hf ho hn r0 r1 k)
theorem t17D {y : Int32} {f : Nat} (hf : f ≤ 120) (ho : bl o) (hn : bl neg) (r0 : N 0 0 + 1 ≤ tq_CX) (r1 : N 0 1 + 6 ≤ tq_CY) (k : ∀ N1 S1 q p1 p2 p3 p4 p5 p6, nT N S N1 S1 q p1 p2 p3 p4 p5 p6 → post N1 (sk S1 y (nI f)) q) : wbX6_readTest_17 post N (sk S y (nI f)) o neg := by
  unfold wbX6_readTest_17
  exact fiD hf (tp_dF (by decide) (tp_cF (by decide) (t39D hf ho hn r0 r1 k)))
theorem teD {y : Int32} {f : Nat} (hf : f ≤ 120) (ho : bl o) (r0 : N 0 0 + 1 ≤ tq_CX) (r1 : N 0 1 + 6 ≤ tq_CY) (k : ∀ N1 S1 q p1 p2 p3 p4 p5 p6, nT N S N1 S1 q p1 p2 p3 p4 p5 p6 → post N1 (sk S1 y (nI f)) q) : wpX6_readTest post N (sk S y (nI f)) o := by
  unfold wpX6_readTest
  exact tkD hf (tp_dT rfl (t17D hf ho (Or.inl rfl) r0 r1 k))
theorem t39S (h1 : S 3 0 1 = nI t) (h41 : S 41 0 = tp) (ht : t ≤ 120) (hx : x ≤ t) (ho : bl o) (hn : bl neg) (r0 : N 0 0 + 1 ≤ tq_CX) (r1 : N 0 1 + 6 ≤ tq_CY) (ka : ∀ N1 S1 q y c n, psn (ph tp t) x = .ok (y, c, n) → y ≤ t → nT N S N1 S1 q o neg fld srt (c - 61) n → post N1 (sk S1 (nI y) (-1)) q) (kb : ∀ N1 S1 q p1 p2 p3 p4 p5 p6 f, psn (ph tp t) x = .error f → f ≤ t → nT N S N1 S1 q p1 p2 p3 p4 p5 p6 → post N1 (sk S1 (nI f) (nI f)) q) : wbX6_readTest_39 post N (sk S (nI x) (-1)) o neg fld srt := by
  unfold wbX6_readTest_39
  unfold psn at ka kb
  refine sgS h1 h41 ht hx (fun z zx => ?_) (fun z => ?_)
  · rw [if_pos z] at ka kb
    refine ⟨r0, r1, fun q q1 q2 q3 => tp_ae (tp_ae ?_)⟩
    rw [sk_cp (by decide)]
    refine nuS (tp := tp) (t := t) (by rw [tq_cpk (by decide)]; exact h1) (by rw [tq_cpk (by decide)]; exact h41) ht (by omega) (fun y n e hy => ?_) (fun e => ?_)
    · rw [e] at ka
      exact t9 q1 q2 q3 ho.n hn.n (fun N1 S1 h => ka N1 S1 q y _ n rfl hy h)
    · rw [e] at kb
      exact t9 q1 q2 q3 ho.n hn.n (fun N1 S1 h => kb N1 S1 q _ _ _ _ _ _ _ rfl (by omega) h)
  · rw [if_neg z] at kb
    refine ⟨r0, r1, fun q q1 q2 q3 => tp_ae (tp_ae ?_)⟩
    rw [sk_cp (by decide)]
    exact nuD (by omega) (t9 q1 q2 q3 ho.n hn.n (fun N1 S1 h => kb N1 S1 q _ _ _ _ _ _ x rfl hx h))
theorem t17S {x0 : Nat} (h1 : S 3 0 1 = nI t) (h41 : S 41 0 = tp) (ht : t ≤ 120) (hx : x ≤ t) (ho : bl o) (hn : bl neg) (r0 : N 0 0 + 1 ≤ tq_CX) (r1 : N 0 1 + 6 ≤ tq_CY) (e0 : pne (ph tp t) x0 = (neg, .ok x)) (ka : ∀ N1 S1 q y (r : pT), pte (ph tp t) o x0 = .ok (y, r) → y ≤ t → nT N S N1 S1 q r.2.2.2.2.2 r.1 (nI r.2.1) r.2.2.1 (r.2.2.2.1 - 61) r.2.2.2.2.1 → post N1 (sk S1 (nI y) (-1)) q) (kb : ∀ N1 S1 q p1 p2 p3 p4 p5 p6 f, pte (ph tp t) o x0 = .error f → f ≤ t → nT N S N1 S1 q p1 p2 p3 p4 p5 p6 → post N1 (sk S1 (nI f) (nI f)) q) : wbX6_readTest_17 post N (sk S (nI x) (-1)) o neg := by
  unfold wbX6_readTest_17
  unfold pte at ka kb
  rw [e0] at ka kb
  simp only at ka kb
  refine fiS h1 h41 ht hx (fun y e hy => ?_) (fun f r e hf => ?_)
  · rw [e] at ka kb
    simp only at ka kb
    unfold psf at ka kb
    have hb := pfi_b (h := ph tp t) (x := x)
    generalize (pfi (ph tp t) x).1 = fl at ka kb hb
    by_cases q : fl < 2
    · rw [if_pos q] at ka kb
      have K : wbX6_readTest_31 post N (sk S (nI y) (-1)) o neg (nI fl) := by
        unfold wbX6_readTest_31
        refine soS h1 h41 ht hy (fun y2 s e2 hy2 hs => ?_) (fun e2 => ?_)
        · rw [e2] at ka kb
          simp only at ka kb
          refine t39S h1 h41 ht hy2 ho hn r0 r1 (fun N1 S1 q y3 c n e3 hy3 h => ?_) (fun N1 S1 q p1 p2 p3 p4 p5 p6 f e3 hf h => ?_)
          · rw [e3] at ka
            exact ka N1 S1 q y3 _ rfl hy3 h
          · rw [e3] at kb
            exact kb N1 S1 q _ _ _ _ _ _ f rfl hf h
        · rw [e2] at kb
          exact t39D (by omega) ho hn r0 r1 (fun N1 S1 q _ _ _ _ _ _ h => kb N1 S1 q _ _ _ _ _ _ y rfl hy h)
      have : fl = 0 ∨ fl = 1 := by omega
      rcases this with rfl | rfl
      · exact tp_dT rfl K
      · exact tp_dF (by decide) (tp_cT rfl K)
    · rw [if_neg q] at ka kb
      simp only at ka kb
      refine tp_dF (fun z => ?_) (tp_cF (fun z => ?_) ?_)
      · have := (nI_eq (a := fl) (b := 0) (by omega) (by omega)).mp z
        omega
      · have := (nI_eq (a := fl) (b := 1) (by omega) (by omega)).mp z
        omega
      · refine t39S h1 h41 ht hy ho hn r0 r1 (fun N1 S1 q y3 c n e3 hy3 h => ?_) (fun N1 S1 q p1 p2 p3 p4 p5 p6 f e3 hf h => ?_)
        · rw [e3] at ka
          exact ka N1 S1 q y3 _ rfl hy3 h
        · rw [e3] at kb
          exact kb N1 S1 q _ _ _ _ _ _ f rfl hf h
  · rw [e] at kb
    have k2 : ∀ N1 S1 q p1 p2 p3 p4 p5 p6, nT N S N1 S1 q p1 p2 p3 p4 p5 p6 → post N1 (sk S1 (nI f) (nI f)) q := fun N1 S1 q _ _ _ _ _ _ h => kb N1 S1 q _ _ _ _ _ _ f rfl hf h
    by_cases q0 : r = 0
    · exact tp_dT q0 (t31D (by omega) ho hn r0 r1 k2)
    · refine tp_dF q0 ?_
      by_cases q1 : r = 1
      · exact tp_cT q1 (t31D (by omega) ho hn r0 r1 k2)
      · exact tp_cF q1 (t39D (by omega) ho hn r0 r1 k2)
theorem teS (h1 : S 3 0 1 = nI t) (h41 : S 41 0 = tp) (ht : t ≤ 120) (hx : x ≤ t) (ho : bl o) (r0 : N 0 0 + 1 ≤ tq_CX) (r1 : N 0 1 + 6 ≤ tq_CY) (ka : ∀ N1 S1 q y (r : pT), pte (ph tp t) o x = .ok (y, r) → y ≤ t → nT N S N1 S1 q r.2.2.2.2.2 r.1 (nI r.2.1) r.2.2.1 (r.2.2.2.1 - 61) r.2.2.2.2.1 → post N1 (sk S1 (nI y) (-1)) q) (kb : ∀ N1 S1 q p1 p2 p3 p4 p5 p6 f, pte (ph tp t) o x = .error f → f ≤ t → nT N S N1 S1 q p1 p2 p3 p4 p5 p6 → post N1 (sk S1 (nI f) (nI f)) q) : wpX6_readTest post N (sk S (nI x) (-1)) o := by
  unfold wpX6_readTest
  refine tkS h1 h41 ht hx (by decide) (fun z zx => ?_) (fun z => ?_)
  · have e0 : pne (ph tp t) x = (1, pw (ph tp t) (ws 10) (x + 1)) := by unfold pne; rw [if_pos z]
    refine tp_dF (by decide) (exS h1 h41 ht (by decide) (by omega) (fun y e hy => ?_) (fun f e hf => ?_))
    · exact t17S h1 h41 ht hy ho (Or.inr rfl) r0 r1 (by rw [e0, e]) ka kb
    · refine t17D (by omega) ho (Or.inr rfl) r0 r1 (fun N1 S1 q _ _ _ _ _ _ h => kb N1 S1 q _ _ _ _ _ _ f ?_ hf h)
      unfold pte
      rw [e0]
      simp only [e]
  · have e0 : pne (ph tp t) x = (0, .ok x) := by unfold pne; rw [if_neg z]
    exact tp_dT rfl (t17S h1 h41 ht hx ho (Or.inl rfl) r0 r1 e0 ka kb)
end
