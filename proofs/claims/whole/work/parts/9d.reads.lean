/-! pure: what the reference reads -/
def mF (P : Nat) (M M1 : tq_St) : Prop := (∀ k, k ≠ 117 → k ≠ 118 → k ≠ 119 → k ≠ 170 → k ≠ 171 → M1 k = M k) ∧ (∀ i, i ≠ P → M1 118 i = M 118 i ∧ M1 119 i = M 119 i) ∧ ∀ i, i ≠ P → M1 117 0 i = M 117 0 i
theorem mF.rf {P : Nat} {M : tq_St} : mF P M M := ⟨fun _ _ _ _ _ _ => rfl, fun _ _ => ⟨rfl, rfl⟩, fun _ _ => rfl⟩
theorem mF.tr {P : Nat} {M M1 M2 : tq_St} (h : mF P M M1) (h2 : mF P M1 M2) : mF P M M2 := ⟨fun k a b c d e => (h2.1 k a b c d e).trans (h.1 k a b c d e), fun i hi => ⟨((h2.2.1 i hi).1).trans (h.2.1 i hi).1, ((h2.2.1 i hi).2).trans (h.2.1 i hi).2⟩, fun i hi => (h2.2.2 i hi).trans (h.2.2 i hi)⟩
theorem mF.of170 {P : Nat} {M M1 : tq_St} (h : ∀ k, k ≠ 170 → M1 k = M k) : mF P M M1 := ⟨fun k _ _ _ d _ => h k d, fun i _ => ⟨by rw [h 118 (by decide)], by rw [h 119 (by decide)]⟩, fun i _ => by rw [h 117 (by decide)]⟩
theorem mF.of171 {P : Nat} {M M1 : tq_St} (h : ∀ k, k ≠ 171 → M1 k = M k) : mF P M M1 := ⟨fun k _ _ _ _ d => h k d, fun i _ => ⟨by rw [h 118 (by decide)], by rw [h 119 (by decide)]⟩, fun i _ => by rw [h 117 (by decide)]⟩
theorem mF.g61 {P : Nat} {M M1 : tq_St} (h : mF P M M1) : M1 64 = M 64 := h.1 64 (by decide) (by decide) (by decide) (by decide) (by decide)
theorem mF.g160 {P : Nat} {M M1 : tq_St} (h : mF P M M1) : M1 160 = M 160 := h.1 160 (by decide) (by decide) (by decide) (by decide) (by decide)
section
variable {M : tq_St} {tp : Nat → Int32} {t x : Nat} {v : Int32} {post : tq_St → Int32 → Prop}
theorem ac122 {w a : Nat} (h61 : M 64 0 61 = nI t) (h160 : M 160 0 = tp) (ht : t ≤ 120) (hx : x ≤ t) (hw : w < 28) (ha : a ≤ 5) (ea : pac (ph tp t) x = (a, pw (ph tp t) (ws w) x))
    (ka : ∀ M1 y s n v1, phd (ph tp t) x = .ok (y, a, s, n) → y ≤ t → (∀ k, k ≠ 170 → M1 k = M k) → M1 170 0 0 = nI a → M1 170 0 1 = s → M1 170 0 2 = n → post (mk M1 (nI y) (-1) v1) 1)
    (kb : ∀ M1 f v1, phd (ph tp t) x = .error f → f ≤ t → (∀ k, k ≠ 170 → M1 k = M k) → post (mk M1 (nI f) (nI f) v1) 0) : wbX12_actHere_122 post (mk M (nI x) (-1) v) w (nI a) 0 := by
  unfold wbX12_actHere_122 wbX12_actHere_172
  unfold phd at ka kb
  rw [ea] at ka kb
  simp only at ka kb
  have g : ∀ y z : Int32, ∀ k, k ≠ 170 → tq_up (tq_up M 170 0 0 y) 170 0 1 z k = M k := fun y z k hk => by rw [tq_upk hk, tq_upk hk]
  have g2 : ∀ y z : Int32, tq_up (tq_up M 170 0 0 y) 170 0 1 z 170 0 0 = y := fun y z => by rw [tq_upj (by decide), tq_upe]
  refine ⟨by unfold vp_in; decide, tp_ae (tp_ae ?_)⟩
  rw [show (0 : Int32).toNatClampNeg = 0 by decide, mk_up (by decide), mk_up (by decide)]
  refine wdM (tp := tp) (t := t) (by rw [g _ _ 64 (by decide)]; exact h61) (by rw [g _ _ 160 (by decide)]; exact h160) ht hw hx (fun y e hy => ?_) (fun f e hf => ?_)
  · rw [e] at ka kb
    simp only at ka kb
    refine tp_cF (by decide) ?_
    rw [mk_k (show 170 ≠ 64 by decide), g2]
    by_cases q : a < 3
    · rw [if_pos q] at ka kb
      refine tp_dF (show ¬ nI 3 ≤ nI a from nI_ge q (by decide)) (soM (tp := tp) (t := t) (by rw [g _ _ 64 (by decide)]; exact h61) (by rw [g _ _ 160 (by decide)]; exact h160) ht hy (fun y2 s e2 hy2 hs => ?_) (fun e2 => ?_))
      · rw [e2] at ka kb
        simp only at ka kb
        refine tp_cF (by decide) (tp_ae ?_)
        rw [mk_g69, mk_up (by decide), tq_up_ow]
        refine wdM (tp := tp) (t := t) (by rw [g _ _ 64 (by decide)]; exact h61) (by rw [g _ _ 160 (by decide)]; exact h160) ht (by decide) hy2 (fun y3 e3 hy3 => ?_) (fun f e3 hf => ?_)
        · rw [e3] at ka kb
          simp only at ka kb
          refine tp_cF (by decide) (nuM (tp := tp) (t := t) (by rw [g _ _ 64 (by decide)]; exact h61) (by rw [g _ _ 160 (by decide)]; exact h160) ht hy3 (fun y4 n e4 hy4 => ?_) (fun e4 => ?_))
          · rw [e4] at ka
            refine tp_cF (by decide) (tp_ae ?_)
            rw [mk_g69, mk_up (by decide)]
            refine ka _ y4 (nI s) n _ rfl hy4 (fun k hk => by rw [tq_upk hk, g _ _ k hk]) (by rw [tq_upj (by decide), g2]) (by rw [tq_upj (by decide), tq_upe]) (by rw [tq_upe])
          · rw [e4] at kb
            exact tp_cT rfl (kb _ _ _ rfl hy3 (g _ _))
        · rw [e3] at kb
          exact tp_cT rfl (kb _ _ _ rfl hf (g _ _))
      · rw [e2] at kb
        exact tp_cT rfl (kb _ _ _ rfl hy (g _ _))
    · rw [if_neg q] at ka kb
      refine tp_dT (show nI 3 ≤ nI a from nI_le (by omega) (by omega)) (nuM (tp := tp) (t := t) (by rw [g _ _ 64 (by decide)]; exact h61) (by rw [g _ _ 160 (by decide)]; exact h160) ht hy (fun y4 n e4 hy4 => ?_) (fun e4 => ?_))
      · rw [e4] at ka
        refine tp_cF (by decide) (tp_ae ?_)
        rw [mk_g69, mk_up (by decide)]
        refine ka _ y4 (-1) n _ rfl hy4 (fun k hk => by rw [tq_upk hk, g _ _ k hk]) (by rw [tq_upj (by decide), g2]) (by rw [tq_upj (by decide), tq_upe]) (by rw [tq_upe])
      · rw [e4] at kb
        exact tp_cT rfl (kb _ _ _ rfl hy (g _ _))
  · rw [e] at kb
    exact tp_cT rfl (kb _ _ _ rfl hf (g _ _))
theorem pw_c {h : Nat → Int32} {c : Int32} {w w2 x : Nat} (e : ws w = c :: ws w2) (hc : h x = c) : pw h (ws w) x = pw h (ws w2) (x + 1) := by
  rw [e]
  show (if h x = c then pw h (ws w2) (x + 1) else .error x) = _
  rw [if_pos hc]
theorem pw_n {h : Nat → Int32} {c : Int32} {w x : Nat} {l : List Int32} (e : ws w = c :: l) (hc : ¬ h x = c) : pw h (ws w) x = .error x := by
  rw [e]
  show (if h x = c then pw h l (x + 1) else Except.error x) = _
  rw [if_neg hc]
theorem acM (h61 : M 64 0 61 = nI t) (h160 : M 160 0 = tp) (ht : t ≤ 120) (hx : x ≤ t)
    (ka : ∀ M1 y a s n v1, phd (ph tp t) x = .ok (y, a, s, n) → y ≤ t → (∀ k, k ≠ 170 → M1 k = M k) → M1 170 0 0 = nI a → M1 170 0 1 = s → M1 170 0 2 = n → post (mk M1 (nI y) (-1) v1) 1)
    (kb : ∀ M1 f v1, phd (ph tp t) x = .error f → f ≤ t → (∀ k, k ≠ 170 → M1 k = M k) → post (mk M1 (nI f) (nI f) v1) 0) : wpX12_actHere post (mk M (nI x) (-1) v) := by
  unfold wpX12_actHere wbX12_actHere_68
  refine hereM h61 h160 ht hx ?_
  by_cases z0 : ph tp t x = 98
  · exact tp_cT z0 (tp_cT z0 (ac122 (a := 0) h61 h160 ht hx (by decide) (by decide) (by rw [pw_c (c := 98) (w2 := 2) rfl z0]; unfold pac; rw [if_pos z0]) (fun M1 y s n v1 => ka M1 y 0 s n v1) kb))
  refine tp_cF z0 ?_
  by_cases z1 : ph tp t x = 97
  · exact tp_cT z1 (tp_cF z0 (tp_cT z1 (ac122 (a := 1) h61 h160 ht hx (by decide) (by decide) (by rw [pw_c (c := 97) (w2 := 3) rfl z1]; unfold pac; rw [if_neg z0, if_pos z1]) (fun M1 y s n v1 => ka M1 y 1 s n v1) kb)))
  refine tp_cF z1 ?_
  by_cases z2 : ph tp t x = 108
  · exact tp_cT z2 (tp_cF z0 (tp_cF z1 (tp_cT z2 (ac122 (a := 2) h61 h160 ht hx (by decide) (by decide) (by rw [pw_c (c := 108) (w2 := 4) rfl z2]; unfold pac; rw [if_neg z0, if_neg z1, if_pos z2]) (fun M1 y s n v1 => ka M1 y 2 s n v1) kb))))
  refine tp_cF z2 ?_
  by_cases z3 : ph tp t x = 115
  · exact tp_cT z3 (tp_cF z0 (tp_cF z1 (tp_cF z2 (tp_cT z3 (ac122 (a := 3) h61 h160 ht hx (by decide) (by decide) (by rw [pw_c (c := 115) (w2 := 5) rfl z3]; unfold pac; rw [if_neg z0, if_neg z1, if_neg z2, if_pos z3]) (fun M1 y s n v1 => ka M1 y 3 s n v1) kb)))))
  refine tp_cF z3 ?_
  by_cases z4 : ph tp t x = 100
  · exact tp_cT z4 (tp_cF z0 (tp_cF z1 (tp_cF z2 (tp_cF z3 (tp_cT z4 (ac122 (a := 4) h61 h160 ht hx (by decide) (by decide) (by rw [pw_c (c := 100) (w2 := 6) rfl z4]; unfold pac; rw [if_neg z0, if_neg z1, if_neg z2, if_neg z3, if_pos z4]) (fun M1 y s n v1 => ka M1 y 4 s n v1) kb))))))
  exact tp_cF z4 (tp_cF z0 (tp_cF z1 (tp_cF z2 (tp_cF z3 (tp_cF z4 (ac122 (a := 5) h61 h160 ht hx (by decide) (by decide) (by unfold pac; rw [if_neg z0, if_neg z1, if_neg z2, if_neg z3, if_neg z4]) (fun M1 y s n v1 => ka M1 y 5 s n v1) kb))))))
theorem sg206 (h61 : M 64 0 61 = nI t) (h160 : M 160 0 = tp) (ht : t ≤ 120) (hx : x < t) (hs : ph tp t x = 60 ∨ ph tp t x = 61 ∨ ph tp t x = 62)
    (ka : ∀ M1 q n v1, psn (ph tp t) x = .ok (q, ph tp t x, n) → q ≤ t → (∀ k, k ≠ 171 → M1 k = M k) → (∀ j, j ≠ 3 → j ≠ 4 → M1 171 0 j = M 171 0 j) → M1 171 0 3 = ph tp t x → M1 171 0 4 = n → post (mk M1 (nI q) (-1) v1) 1)
    (kb : ∀ M1 f v1, psn (ph tp t) x = .error f → f ≤ t → (∀ k, k ≠ 171 → M1 k = M k) → post (mk M1 (nI f) (nI f) v1) 0) : wbX12_testHere_206 post (mk M (nI x) (-1) v) (ph tp t x) := by
  unfold wbX12_testHere_206
  unfold psn at ka kb
  rw [if_pos hs] at ka kb
  refine tp_ae (tp_ae ?_)
  rw [mk_up (by decide), mk_g67, mk_67, nI_1]
  refine nuM (tp := tp) (t := t) (by rw [tq_upk (by decide)]; exact h61) (by rw [tq_upk (by decide)]; exact h160) ht (by omega) (fun q n e hq => ?_) (fun e => ?_)
  · rw [e] at ka
    refine tp_cF (by decide) (tp_ae ?_)
    rw [mk_g69, mk_up (by decide)]
    exact ka _ q n _ rfl hq (fun k hk => by rw [tq_upk hk, tq_upk hk]) (fun j j3 j4 => by rw [tq_upj j4, tq_upj j3]) (by rw [tq_upj (by decide), tq_upe]) (by rw [tq_upe])
  · rw [e] at kb
    exact tp_cT rfl (kb _ _ _ rfl (by omega) (fun k hk => by rw [tq_upk hk]))
theorem sg178 (h61 : M 64 0 61 = nI t) (h160 : M 160 0 = tp) (ht : t ≤ 120) (hx : x ≤ t)
    (ka : ∀ M1 q c n v1, psn (ph tp t) x = .ok (q, c, n) → q ≤ t → (∀ k, k ≠ 171 → M1 k = M k) → (∀ j, j ≠ 3 → j ≠ 4 → M1 171 0 j = M 171 0 j) → M1 171 0 3 = c → M1 171 0 4 = n → post (mk M1 (nI q) (-1) v1) 1)
    (kb : ∀ M1 f v1, psn (ph tp t) x = .error f → f ≤ t → (∀ k, k ≠ 171 → M1 k = M k) → post (mk M1 (nI f) (nI f) v1) 0) : wbX12_testHere_178 post (mk M (nI x) (-1) v) := by
  unfold wbX12_testHere_178
  refine hereM h61 h160 ht hx ?_
  by_cases z0 : ph tp t x = 60
  · exact tp_dT z0 (sg206 h61 h160 ht (ph_lt z0 (by decide)) (Or.inl z0) (fun M1 q n v1 => ka M1 q _ n v1) kb)
  refine tp_dF z0 ?_
  by_cases z1 : ph tp t x = 61
  · exact tp_dT z1 (sg206 h61 h160 ht (ph_lt z1 (by decide)) (Or.inr (Or.inl z1)) (fun M1 q n v1 => ka M1 q _ n v1) kb)
  refine tp_dF z1 ?_
  by_cases z2 : ph tp t x = 62
  · exact tp_dT z2 (sg206 h61 h160 ht (ph_lt z2 (by decide)) (Or.inr (Or.inr z2)) (fun M1 q n v1 => ka M1 q _ n v1) kb)
  refine tp_dF z2 (wrongM2 (kb M x v ?_ hx (fun _ _ => rfl)))
  unfold psn
  rw [if_neg (fun z => z.elim z0 (fun z => z.elim z1 z2))]
theorem sf155 {f0 : Nat} (h61 : M 64 0 61 = nI t) (h160 : M 160 0 = tp) (ht : t ≤ 120) (hx : x ≤ t) (hf : f0 ≤ 4) (h1 : M 171 0 1 = nI f0) (h2 : M 171 0 2 = -1)
    (ka : ∀ M1 u s v1, psf (ph tp t) f0 x = .ok (u, s) → u ≤ t → (∀ k, k ≠ 171 → M1 k = M k) → (∀ j, j ≠ 2 → M1 171 0 j = M 171 0 j) → M1 171 0 2 = s → wbX12_testHere_178 post (mk M1 (nI u) (-1) v1))
    (kb : ∀ M1 f v1, psf (ph tp t) f0 x = .error f → f ≤ t → (∀ k, k ≠ 171 → M1 k = M k) → post (mk M1 (nI f) (nI f) v1) 0) : wbX12_testHere_155 post (mk M (nI x) (-1) v) := by
  unfold wbX12_testHere_155
  unfold psf at ka kb
  rw [mk_k (show 171 ≠ 64 by decide), h1]
  by_cases q : f0 < 2
  · rw [if_pos q] at ka kb
    refine tp_dF (show ¬ nI 2 ≤ nI f0 from nI_ge q (by decide)) (soM h61 h160 ht hx (fun y s e hy hs => ?_) (fun e => ?_))
    · rw [e] at ka
      refine tp_cF (by decide) (tp_ae ?_)
      rw [mk_g69, mk_up (by decide)]
      exact ka _ y (nI s) _ rfl hy (fun k hk => tq_upk hk) (fun j hj => by rw [tq_upj hj]) (by rw [tq_upe])
    · rw [e] at kb
      exact tp_cT rfl (kb M _ _ rfl hx (fun _ _ => rfl))
  · rw [if_neg q] at ka
    exact tp_dT (show nI 2 ≤ nI f0 from nI_le (by omega) (by omega)) (ka M x (-1) _ rfl hx (fun _ _ => rfl) (fun _ _ => rfl) h2)
theorem fi147 {w f0 : Nat} (h61 : M 64 0 61 = nI t) (h160 : M 160 0 = tp) (ht : t ≤ 120) (hx : x ≤ t) (hw : w < 28) (hf : pfi (ph tp t) x = (f0, pw (ph tp t) (ws w) x)) (h1 : M 171 0 1 = nI f0) (h2 : M 171 0 2 = -1)
    (ka : ∀ M1 z v1, (pfi (ph tp t) x).2 = .ok z → z ≤ t → (∀ k, k ≠ 171 → M1 k = M k) → M1 171 0 0 = M 171 0 0 → M1 171 0 1 = nI (pfi (ph tp t) x).1 → M1 171 0 2 = -1 → wbX12_testHere_155 post (mk M1 (nI z) (-1) v1))
    (kb : ∀ M1 f v1, (pfi (ph tp t) x).2 = .error f → f ≤ t → (∀ k, k ≠ 171 → M1 k = M k) → post (mk M1 (nI f) (nI f) v1) 0) : wbX12_testHere_147 post (mk M (nI x) (-1) v) w := by
  unfold wbX12_testHere_147
  rw [hf] at ka kb
  simp only at ka kb
  exact wdM h61 h160 ht hw hx (fun y e hy => tp_cF (by decide) (ka M y _ e hy (fun _ _ => rfl) rfl h1 h2)) (fun f e hf => tp_cT rfl (kb M f _ e hf (fun _ _ => rfl)))
theorem fi29 (h61 : M 64 0 61 = nI t) (h160 : M 160 0 = tp) (ht : t ≤ 120) (hx : x ≤ t)
    (ka : ∀ M1 z v1, (pfi (ph tp t) x).2 = .ok z → z ≤ t → (∀ k, k ≠ 171 → M1 k = M k) → M1 171 0 0 = M 171 0 0 → M1 171 0 1 = nI (pfi (ph tp t) x).1 → M1 171 0 2 = -1 → wbX12_testHere_155 post (mk M1 (nI z) (-1) v1))
    (kb : ∀ M1 f v1, (pfi (ph tp t) x).2 = .error f → f ≤ t → (∀ k, k ≠ 171 → M1 k = M k) → post (mk M1 (nI f) (nI f) v1) 0) : wbX12_testHere_29 post (mk M (nI x) (-1) v) := by
  unfold wbX12_testHere_29 wbX12_testHere_118
  have c1 : (1 : Int32).toNatClampNeg = 1 := by decide
  have v1 : vp_in 1 6 := by unfold vp_in; decide
  have g : ∀ y z : Int32, ∀ k, k ≠ 171 → tq_up (tq_up M 171 0 2 y) 171 0 1 z k = M k := fun y z k hk => by rw [tq_upk hk, tq_upk hk]
  have g0 : ∀ y z : Int32, tq_up (tq_up M 171 0 2 y) 171 0 1 z 171 0 0 = M 171 0 0 := fun y z => by rw [tq_upj (by decide), tq_upj (by decide)]
  have g1 : ∀ y z : Int32, tq_up (tq_up M 171 0 2 y) 171 0 1 z 171 0 1 = z := fun y z => by rw [tq_upe]
  have g2 : ∀ y z : Int32, tq_up (tq_up M 171 0 2 y) 171 0 1 z 171 0 2 = y := fun y z => by rw [tq_upj (by decide), tq_upe]
  have K : ∀ (f0 w : Nat) (v2 : Int32), w < 28 → pfi (ph tp t) x = (f0, pw (ph tp t) (ws w) x) → wbX12_testHere_147 post (mk (tq_up (tq_up M 171 0 2 (-1)) 171 0 1 (nI f0)) (nI x) (-1) v2) w := fun f0 w v2 hw hf =>
    fi147 (tp := tp) (t := t) (by rw [g _ _ 64 (by decide)]; exact h61) (by rw [g _ _ 160 (by decide)]; exact h160) ht hx hw hf (g1 _ _) (g2 _ _) (fun M1 z v1 e hz a1 a2 a3 a4 => ka M1 z v1 e hz (fun k hk => (a1 k hk).trans (g _ _ k hk)) (a2.trans (g0 _ _)) a3 a4) (fun M1 f v1 e hf a1 => kb M1 f v1 e hf (fun k hk => (a1 k hk).trans (g _ _ k hk)))
  refine hereM h61 h160 ht hx (tp_ae ?_)
  rw [mk_up (by decide)]
  by_cases z0 : ph tp t x = 115
  · have lx := ph_lt z0 (by decide)
    have n0 : ¬ ph tp t x = 112 := by rw [z0]; decide
    have n1 : ¬ ph tp t x = 98 := by rw [z0]; decide
    refine tp_cT z0 (tp_ae ?_)
    rw [mk_g67, mk_67, nI_1]
    refine hereM (tp := tp) (t := t) (by rw [tq_upk (by decide)]; exact h61) (by rw [tq_upk (by decide)]; exact h160) ht (by omega) ?_
    rw [mk_up (by decide), mk_up (by decide)]
    have e0 : pfi (ph tp t) x = if ph tp t (x + 1) = 116 then (1, pw (ph tp t) (ws 13) (x + 2)) else (3, pw (ph tp t) (ws 14) (x + 1)) := by
      unfold pfi
      rw [if_neg n0, if_neg n1, if_pos z0]
    by_cases z1 : ph tp t (x + 1) = 104
    · have e1 : pfi (ph tp t) x = (3, pw (ph tp t) (ws 14) (x + 1)) := by rw [e0, if_neg (by rw [z1]; decide)]
      rw [e1] at ka kb
      simp only at ka kb
      exact tp_cT z1 (tp_ae (wdM (tp := tp) (t := t) (by rw [g _ _ 64 (by decide)]; exact h61) (by rw [g _ _ 160 (by decide)]; exact h160) ht (by decide) (by omega) (fun y e hy => tp_cF (by decide) (ka _ y _ e hy (g _ _) (g0 _ _) (g1 _ _) (g2 _ _))) (fun f e hf => tp_cT rfl (kb _ f _ e hf (g _ _)))))
    · refine tp_cF z1 (tp_ae ?_)
      by_cases z2 : ph tp t (x + 1) = 116
      · have e1 : pfi (ph tp t) x = (1, pw (ph tp t) (ws 23) (x + 1)) := by rw [e0, if_pos z2, pw_c (c := 116) (w2 := 13) rfl z2]
        rw [e1] at ka kb
        simp only at ka kb
        exact wdM (tp := tp) (t := t) (by rw [g _ _ 64 (by decide)]; exact h61) (by rw [g _ _ 160 (by decide)]; exact h160) ht (by decide) (by omega) (fun y e hy => tp_cF (by decide) (ka _ y _ e hy (g _ _) (g0 _ _) (g1 _ _) (g2 _ _))) (fun f e hf => tp_cT rfl (kb _ f _ e hf (g _ _)))
      · have p1 : pw (ph tp t) (ws 14) (x + 1) = .error (x + 1) := pw_n (c := 104) rfl z1
        have p2 : pw (ph tp t) (ws 23) (x + 1) = .error (x + 1) := pw_n (c := 116) rfl z2
        have e1 : pfi (ph tp t) x = (3, .error (x + 1)) := by rw [e0, if_neg z2, p1]
        rw [e1] at kb
        refine wdM (tp := tp) (t := t) (by rw [g _ _ 64 (by decide)]; exact h61) (by rw [g _ _ 160 (by decide)]; exact h160) ht (by decide) (by omega) (fun y e hy => ?_) (fun f e hf => ?_)
        · rw [p2] at e; cases e
        · rw [p2] at e
          have : x + 1 = f := Except.error.inj e
          subst this
          exact tp_cT rfl (kb _ _ _ rfl hf (g _ _))
  refine tp_cF z0 ?_
  by_cases z1 : ph tp t x = 112
  · refine tp_cT z1 ⟨v1, tp_ae (tp_cT z1 ?_)⟩
    rw [c1, mk_up (by decide)]
    refine K 0 24 _ (by decide) ?_
    rw [pw_c (c := 112) (w2 := 11) rfl z1]
    unfold pfi
    rw [if_pos z1]
  refine tp_cF z1 ?_
  by_cases z2 : ph tp t x = 98
  · refine tp_cT z2 ⟨v1, tp_ae (tp_cF z1 (tp_cT z2 ?_))⟩
    rw [c1, mk_up (by decide)]
    refine K 2 25 _ (by decide) ?_
    rw [pw_c (c := 98) (w2 := 12) rfl z2]
    unfold pfi
    rw [if_neg z1, if_pos z2]
  · refine tp_cF z2 ⟨v1, tp_ae (tp_cF z1 (tp_cF z2 ?_))⟩
    rw [c1, mk_up (by decide)]
    refine K 4 15 _ (by decide) ?_
    unfold pfi
    rw [if_neg z1, if_neg z2, if_neg z0]
theorem pfi_b {h : Nat → Int32} {x : Nat} : (pfi h x).1 ≤ 4 := by
  unfold pfi
  by_cases z0 : h x = 112
  · rw [if_pos z0]; exact (by decide : 0 ≤ 4)
  rw [if_neg z0]
  by_cases z1 : h x = 98
  · rw [if_pos z1]; exact (by decide : 2 ≤ 4)
  rw [if_neg z1]
  by_cases z2 : h x = 115
  · rw [if_pos z2]
    by_cases z3 : h (x + 1) = 116
    · rw [if_pos z3]; exact (by decide : 1 ≤ 4)
    · rw [if_neg z3]; exact (by decide : 3 ≤ 4)
  rw [if_neg z2]; exact (by decide : 4 ≤ 4)
theorem te29 {o : Int32} {x0 : Nat} (h61 : M 64 0 61 = nI t) (h160 : M 160 0 = tp) (ht : t ≤ 120) (hx : x ≤ t) (hn : (pne (ph tp t) x0).2 = .ok x) (h0 : M 171 0 0 = (pne (ph tp t) x0).1)
    (ka : ∀ M1 y r v1, pte (ph tp t) o x0 = .ok (y, r) → y ≤ t → (∀ k, k ≠ 171 → M1 k = M k) → M1 171 0 0 = r.1 → M1 171 0 1 = nI r.2.1 → M1 171 0 2 = r.2.2.1 → M1 171 0 3 = r.2.2.2.1 → M1 171 0 4 = r.2.2.2.2.1 → r.2.2.2.2.2 = o → post (mk M1 (nI y) (-1) v1) 1)
    (kb : ∀ M1 f v1, pte (ph tp t) o x0 = .error f → f ≤ t → (∀ k, k ≠ 171 → M1 k = M k) → post (mk M1 (nI f) (nI f) v1) 0) : wbX12_testHere_29 post (mk M (nI x) (-1) v) := by
  unfold pte at ka kb
  rw [hn] at ka kb
  simp only at ka kb
  refine fi29 h61 h160 ht hx (fun M1 z v1 e hz a1 a2 a3 a4 => ?_) (fun M1 f v1 e hf a1 => ?_)
  · rw [e] at ka kb
    simp only at ka kb
    refine sf155 (tp := tp) (t := t) (by rw [a1 64 (by decide)]; exact h61) (by rw [a1 160 (by decide)]; exact h160) ht hz pfi_b a3 a4 (fun M2 u s v2 e2 hu b1 b2 b3 => ?_) (fun M2 f v2 e2 hf b1 => ?_)
    · rw [e2] at ka kb
      simp only at ka kb
      have m2 : ∀ k, k ≠ 171 → M2 k = M k := fun k hk => (b1 k hk).trans (a1 k hk)
      refine sg178 (tp := tp) (t := t) (by rw [m2 64 (by decide)]; exact h61) (by rw [m2 160 (by decide)]; exact h160) ht hu (fun M3 q c n v3 e3 hq d1 d2 d3 d4 => ?_) (fun M3 f v3 e3 hf d1 => ?_)
      · rw [e3] at ka
        exact ka M3 q _ v3 rfl hq (fun k hk => (d1 k hk).trans (m2 k hk)) (by rw [d2 0 (by decide) (by decide), b2 0 (by decide), a2, h0]) (by rw [d2 1 (by decide) (by decide), b2 1 (by decide), a3]) (by rw [d2 2 (by decide) (by decide), b3]) d3 d4 rfl
      · rw [e3] at kb
        exact kb M3 f v3 rfl hf (fun k hk => (d1 k hk).trans (m2 k hk))
    · rw [e2] at kb
      exact kb M2 f v2 rfl hf (fun k hk => (b1 k hk).trans (a1 k hk))
  · rw [e] at kb
    exact kb M1 f v1 rfl hf a1
theorem teM {o : Int32} (h61 : M 64 0 61 = nI t) (h160 : M 160 0 = tp) (ht : t ≤ 120) (hx : x ≤ t)
    (ka : ∀ M1 y r v1, pte (ph tp t) o x = .ok (y, r) → y ≤ t → (∀ k, k ≠ 171 → M1 k = M k) → M1 171 0 0 = r.1 → M1 171 0 1 = nI r.2.1 → M1 171 0 2 = r.2.2.1 → M1 171 0 3 = r.2.2.2.1 → M1 171 0 4 = r.2.2.2.2.1 → r.2.2.2.2.2 = o → post (mk M1 (nI y) (-1) v1) 1)
    (kb : ∀ M1 f v1, pte (ph tp t) o x = .error f → f ≤ t → (∀ k, k ≠ 171 → M1 k = M k) → post (mk M1 (nI f) (nI f) v1) 0) : wpX12_testHere post (mk M (nI x) (-1) v) := by
  unfold wpX12_testHere
  refine tp_ae ?_
  rw [mk_up (by decide)]
  refine hereM (tp := tp) (t := t) (by rw [tq_upk (by decide)]; exact h61) (by rw [tq_upk (by decide)]; exact h160) ht hx ?_
  by_cases z0 : ph tp t x = 110
  · have en : pne (ph tp t) x = (1, pw (ph tp t) (ws 22) x) := by
      unfold pne
      rw [if_pos z0, pw_c (c := 110) (w2 := 10) rfl z0]
    refine tp_cT z0 (wdM (tp := tp) (t := t) (by rw [tq_upk (by decide)]; exact h61) (by rw [tq_upk (by decide)]; exact h160) ht (by decide) hx (fun y e hy => ?_) (fun f e hf => ?_))
    · refine tp_cF (by decide) (tp_ae ?_)
      rw [mk_up (by decide), tq_up_ow]
      exact te29 (tp := tp) (t := t) (by rw [tq_upk (by decide)]; exact h61) (by rw [tq_upk (by decide)]; exact h160) ht hy (by rw [en]; exact e) (by rw [en, tq_upe]) (fun M1 y r v1 e hy a1 => ka M1 y r v1 e hy (fun k hk => by rw [a1 k hk, tq_upk hk])) (fun M1 f v1 e hf a1 => kb M1 f v1 e hf (fun k hk => by rw [a1 k hk, tq_upk hk]))
    · refine tp_cT rfl (kb _ f _ ?_ hf (fun k hk => by rw [tq_upk hk]))
      unfold pte
      rw [en]
      simp only [e]
  · have en : pne (ph tp t) x = (0, .ok x) := by
      unfold pne
      rw [if_neg z0]
    exact tp_cF z0 (te29 (tp := tp) (t := t) (by rw [tq_upk (by decide)]; exact h61) (by rw [tq_upk (by decide)]; exact h160) ht hx (by rw [en]) (by rw [en, tq_upe]) (fun M1 y r v1 e hy a1 => ka M1 y r v1 e hy (fun k hk => by rw [a1 k hk, tq_upk hk])) (fun M1 f v1 e hf a1 => kb M1 f v1 e hf (fun k hk => by rw [a1 k hk, tq_upk hk])))
end
