/-! pure: reading a tape, first -/
def ph (tp : Nat → Int32) (t x : Nat) : Int32 := if t ≤ x then -1 else tp x
theorem ph_lt {tp : Nat → Int32} {t x : Nat} {c : Int32} (h : ph tp t x = c) (hc : c ≠ -1) : x < t := by
  unfold ph at h
  by_cases q : t ≤ x
  · rw [if_pos q] at h; exact absurd h.symm hc
  · omega
def pw (h : Nat → Int32) : List Int32 → Nat → Except Nat Nat
  | [], x => .ok x
  | c :: l, x => if h x = c then pw h l (x + 1) else .error x
def pso (h : Nat → Int32) (x : Nat) : Except Nat (Nat × Nat) := if h x = 48 then .ok (x + 1, 0) else if h x = 49 then .ok (x + 1, 1) else if h x = 50 then .ok (x + 1, 2) else if h x = 51 then .ok (x + 1, 3) else .error x
def pdi (h : Nat → Int32) : Nat → Nat → Int32 → Nat × Int32
  | 0, x, v => (x, v)
  | m + 1, x, v => if 48 ≤ h x ∧ h x ≤ 57 then pdi h m (x + 1) (10 * v + h x - 48) else (x, v)
def pnu (h : Nat → Int32) (x : Nat) : Except Nat (Nat × Int32) := if 48 ≤ h x ∧ h x ≤ 57 then .ok (pdi h 4 x 0) else .error x
theorem pdi_le {tp : Nat → Int32} {t : Nat} : ∀ (m x : Nat) (v : Int32), x ≤ t → (pdi (ph tp t) m x v).1 ≤ t
  | 0, x, v, h => h
  | m + 1, x, v, h => by
    unfold pdi
    by_cases q : 48 ≤ ph tp t x ∧ ph tp t x ≤ 57
    · rw [if_pos q]
      have : x < t := by
        refine ph_lt (c := ph tp t x) rfl (fun z => ?_)
        rw [z] at q; exact absurd q.1 (by decide)
      exact pdi_le m (x + 1) _ (by omega)
    · rw [if_neg q]; exact h
theorem pdi_b {h : Nat → Int32} : ∀ (m x n : Nat), n * 10 ^ m + 10 ^ m ≤ 10000 → ∃ k : Nat, k ≤ 9999 ∧ (pdi h m x (nI n)).2 = nI k
  | 0, x, n, hb => ⟨n, by omega, rfl⟩
  | m + 1, x, n, hb => by
    have hp : 0 < 10 ^ m := Nat.pow_pos (by decide)
    have hb2 : n * (10 ^ m * 10) + 10 ^ m * 10 ≤ 10000 := by rw [← Nat.pow_succ]; exact hb
    have hn : n ≤ 9999 := by
      have := Nat.mul_le_mul_left n (show 1 ≤ 10 ^ m * 10 by omega)
      omega
    unfold pdi
    by_cases q : 48 ≤ h x ∧ h x ≤ 57
    · rw [if_pos q]
      obtain ⟨q1, q2⟩ := q
      rw [tp_le] at q1 q2
      have z48 : (48 : Int32).toInt = 48 := by decide
      have z57 : (57 : Int32).toInt = 57 := by decide
      have z10 : (10 : Int32).toInt = 10 := by decide
      rw [z48] at q1
      rw [z57] at q2
      obtain ⟨d, d1, d2, d3⟩ := tp_nat (x := h x) (by omega)
      have e : 10 * nI n + h x - 48 = nI (10 * n + (d - 48)) := by
        rw [d2, show (10 : Int32) = nI 10 from rfl, show (48 : Int32) = nI 48 from rfl, pk_mul, nI_add, pk_sub (by omega)]
        congr 1; omega
      rw [e]
      refine pdi_b m (x + 1) _ ?_
      have := Nat.mul_le_mul_right (10 ^ m) (show 10 * n + (d - 48) + 1 ≤ 10 * n + 10 by omega)
      rw [Nat.add_mul, Nat.one_mul] at this
      have e2 : (10 * n + 10) * 10 ^ m = n * (10 ^ m * 10) + 10 ^ m * 10 := by
        rw [Nat.add_mul, Nat.mul_comm 10 n, Nat.mul_assoc, Nat.mul_comm 10 (10 ^ m)]
      omega
    · rw [if_neg q]; exact ⟨n, hn, rfl⟩
theorem pnu_b {h : Nat → Int32} {x y : Nat} {v : Int32} (e : pnu h x = .ok (y, v)) : ∃ k : Nat, k ≤ 9999 ∧ v = nI k := by
  unfold pnu at e
  by_cases q : 48 ≤ h x ∧ h x ≤ 57
  · rw [if_pos q] at e
    obtain ⟨k, k1, k2⟩ := pdi_b (h := h) 4 x 0 (by decide)
    have : pdi h 4 x 0 = (y, v) := Except.ok.inj e
    refine ⟨k, k1, ?_⟩
    rw [show (0 : Int32) = nI 0 from rfl] at this
    rw [this] at k2
    exact k2
  · rw [if_neg q] at e; exact absurd e (by intro z; cases z)
def ws (w : Nat) : List Int32 := tq_byt.getD w []
theorem ws_ok : ∀ w : Fin 28, tq_len.getD w.1 0 = (ws w.1).length ∧ (ws w.1).length ≤ 8 ∧ (∀ k : Fin 8, k.1 < (ws w.1).length → tq_ch w.1 (nI k.1) = (ws w.1).getD k.1 0) ∧ (∀ k : Fin 8, k.1 < (ws w.1).length → (ws w.1).getD k.1 0 ≠ -1) := by decide +kernel
theorem ws_drop {w k : Nat} (hw : w < 28) (hk : k < (ws w).length) : (ws w).drop k = tq_ch w (nI k) :: (ws w).drop (k + 1) ∧ tq_ch w (nI k) ≠ -1 := by
  obtain ⟨a1, a2, a3, a4⟩ := ws_ok ⟨w, hw⟩
  have a5 : (ws w).length ≤ 8 := a2
  have b3 := a3 ⟨k, by omega⟩ hk
  have b4 := a4 ⟨k, by omega⟩ hk
  simp only at b3 b4
  rw [b3]
  refine ⟨?_, b4⟩
  rw [List.drop_eq_getElem_cons hk]
  congr 1
  rw [List.getD_eq_getElem?_getD, List.getElem?_eq_getElem hk]; rfl
/-! the tape in the first store -/
def sk (S : tq_St) (x f : Int32) : tq_St := tq_up (tq_up S 3 0 2 x) 3 0 3 f
theorem sk_g2 {S : tq_St} {x f : Int32} : sk S x f 3 0 2 = x := by unfold sk; rw [tq_upj (by decide), tq_upe]
theorem sk_g3 {S : tq_St} {x f : Int32} : sk S x f 3 0 3 = f := by unfold sk; rw [tq_upe]
theorem sk_g1 {S : tq_St} {x f : Int32} : sk S x f 3 0 1 = S 3 0 1 := by unfold sk; rw [tq_upj (by decide), tq_upj (by decide)]
theorem sk_k {S : tq_St} {x f : Int32} {k : Nat} (h : k ≠ 3) : sk S x f k = S k := by unfold sk; rw [tq_upk h, tq_upk h]
theorem sk_2 {S : tq_St} {x f y : Int32} : tq_up (sk S x f) 3 0 2 y = sk S y f := by unfold sk; rw [tq_up_cj (by decide), tq_up_ow]
theorem sk_3 {S : tq_St} {x f y : Int32} : tq_up (sk S x f) 3 0 3 y = sk S x y := by unfold sk; rw [tq_up_ow]
theorem sk_up {S : tq_St} {x f y : Int32} {k i j : Nat} (h : k ≠ 3) : tq_up (sk S x f) k i j y = sk (tq_up S k i j y) x f := by
  unfold sk
  rw [tq_up_cj (k2 := k) (fun z => h z.1.symm), tq_up_cj (k2 := k) (fun z => h z.1.symm)]
theorem sk_cp {S : tq_St} {x f : Int32} {k i : Nat} {g : Nat → Int32} (h : k ≠ 3) : tq_cp (sk S x f) k i g = sk (tq_cp S k i g) x f := by
  funext a b c
  unfold sk
  simp only [tq_cp, tq_up]
  by_cases q : a = k ∧ b = i
  · have : ¬ a = 3 := fun z => h (q.1.symm.trans z)
    simp [q.1, q.2, h]
  · simp [q]; rfl
theorem sk_id {S : tq_St} {x f : Int32} (h1 : S 3 0 2 = x) (h2 : S 3 0 3 = f) : sk S x f = S := by
  unfold sk
  rw [tp_up_same h1, tp_up_same h2]
section
variable {N : tq_Nn} {S : tq_St} {tp : Nat → Int32} {t x : Nat}
theorem tkS {post : tq_St → Int32 → Prop} {c : Int32} (h1 : S 3 0 1 = nI t) (h41 : S 41 0 = tp) (ht : t ≤ 120) (hx : x ≤ t) (hc : c ≠ -1) (a : ph tp t x = c → x < t → post (sk S (nI (x + 1)) (-1)) 1) (b : ph tp t x ≠ c → post (sk S (nI x) (-1)) 0) : wpX6_takes N post (sk S (nI x) (-1)) c := by
  unfold wpX6_takes wbX6_takes_35 wbX6_takes_36 wbX6_takes_51
  rw [sk_g2, sk_g3, sk_g1, h1, sk_k (show 41 ≠ 3 by decide), nI_clamp (show x < 2 ^ 31 by omega), nI_1, sk_2]
  refine tp_dF (by decide) ?_
  by_cases q : t ≤ x
  · have e : ph tp t x = -1 := by unfold ph; rw [if_pos q]
    exact tp_dT (nI_le q (by omega)) (tp_dT rfl ⟨tp_nb0, b (by rw [e]; exact hc.symm)⟩)
  · have e : ph tp t x = S 41 0 x := by unfold ph; rw [if_neg q, h41]
    rw [e] at a b
    refine tp_dF (nI_ge (by omega) (by omega)) ⟨vp_in_nI (by omega) (by decide), ?_⟩
    by_cases z : S 41 0 x = c
    · exact tp_cT z (tp_dF (by decide) (tp_ae ⟨tp_nb1, a z (by omega)⟩))
    · exact tp_cF z (tp_dT rfl ⟨tp_nb0, b z⟩)
theorem tkD {post : tq_St → Int32 → Prop} {c y : Int32} {f : Nat} (hf : f ≤ 120) (b : post (sk S y (nI f)) 0) : wpX6_takes N post (sk S y (nI f)) c := by
  unfold wpX6_takes wbX6_takes_35 wbX6_takes_36 wbX6_takes_51
  rw [sk_g3]
  exact tp_dT (nI_pos' (by omega)) (tp_dT rfl ⟨tp_nb0, b⟩)
theorem flS {post : tq_St → Prop} {y : Int32} (b : post (sk S y y)) : wpX6_fail N post (sk S y (-1)) := by
  unfold wpX6_fail wbX6_fail_15
  rw [sk_g3, sk_g2, sk_3]
  exact tp_dF (by decide) (tp_ae b)
theorem flD {post : tq_St → Prop} {y : Int32} {f : Nat} (hf : f ≤ 120) (b : post (sk S y (nI f))) : wpX6_fail N post (sk S y (nI f)) := by
  unfold wpX6_fail wbX6_fail_15
  rw [sk_g3]
  exact tp_dT (nI_pos' (by omega)) b
theorem exD2 {post : tq_St → Prop} {y : Int32} {f w : Nat} (hw : w < 28) (hf : f ≤ 120) (b : post (sk S y (nI f))) : ∀ m k : Nat, k + m = (ws w).length → wbX6_expect_2 N post (m + 1) (sk S y (nI f)) w (nI k)
  | 0, k, hk => by
    obtain ⟨a1, a2, _⟩ := ws_ok ⟨w, hw⟩
    unfold wbX6_expect_2
    have e : tq_len.getD w 0 = (ws w).length := a1
    have : (ws w).length ≤ 8 := a2
    rw [e]
    exact ⟨hw, tp_dT (nI_le (by omega) (by omega)) b⟩
  | m + 1, k, hk => by
    obtain ⟨a1, a2, _⟩ := ws_ok ⟨w, hw⟩
    unfold wbX6_expect_2 wbX6_expect_26
    have e : tq_len.getD w 0 = (ws w).length := a1
    have : (ws w).length ≤ 8 := a2
    rw [e, nI_1]
    exact ⟨hw, tp_dF (nI_ge (by omega) (by omega)) ⟨hw, vp_in_nI (by omega) (by omega), tkD hf (tp_cT rfl (flD hf (exD2 hw hf b m (k + 1) (by omega))))⟩⟩
theorem exD {post : tq_St → Prop} {y : Int32} {f w : Nat} (hw : w < 28) (hf : f ≤ 120) (b : post (sk S y (nI f))) : wpX6_expect N post (sk S y (nI f)) w := ⟨(ws w).length + 1, exD2 hw hf b _ 0 (by omega)⟩
theorem exS2 {post : tq_St → Prop} {w : Nat} (h1 : S 3 0 1 = nI t) (h41 : S 41 0 = tp) (ht : t ≤ 120) (hw : w < 28) : ∀ m k x : Nat, k + m = (ws w).length → x ≤ t → (∀ y, pw (ph tp t) ((ws w).drop k) x = .ok y → y ≤ t → post (sk S (nI y) (-1))) → (∀ f, pw (ph tp t) ((ws w).drop k) x = .error f → f ≤ t → post (sk S (nI f) (nI f))) → wbX6_expect_2 N post (m + 1) (sk S (nI x) (-1)) w (nI k)
  | 0, k, x, hk, hx, a, b => by
    obtain ⟨a1, a2, _⟩ := ws_ok ⟨w, hw⟩
    unfold wbX6_expect_2
    have e : tq_len.getD w 0 = (ws w).length := a1
    have : (ws w).length ≤ 8 := a2
    rw [e]
    rw [List.drop_of_length_le (by omega)] at a
    exact ⟨hw, tp_dT (nI_le (by omega) (by omega)) (a x rfl hx)⟩
  | m + 1, k, x, hk, hx, a, b => by
    obtain ⟨a1, a2, _⟩ := ws_ok ⟨w, hw⟩
    unfold wbX6_expect_2 wbX6_expect_26
    have e : tq_len.getD w 0 = (ws w).length := a1
    have : (ws w).length ≤ 8 := a2
    obtain ⟨d1, d2⟩ := ws_drop (k := k) hw (by omega)
    rw [e, nI_1]
    rw [d1] at a b
    unfold pw at a b
    refine ⟨hw, tp_dF (nI_ge (by omega) (by omega)) ⟨hw, vp_in_nI (by omega) (by omega), tkS h1 h41 ht hx d2 (fun z zx => ?_) (fun z => ?_)⟩⟩
    · rw [if_pos z] at a b
      exact tp_cF (by decide) (exS2 h1 h41 ht hw m (k + 1) (x + 1) (by omega) (by omega) a b)
    · rw [if_neg z] at a b
      exact tp_cT rfl (flS (exD2 hw (by omega) (b x rfl hx) m (k + 1) (by omega)))
theorem exS {post : tq_St → Prop} {w : Nat} (h1 : S 3 0 1 = nI t) (h41 : S 41 0 = tp) (ht : t ≤ 120) (hw : w < 28) (hx : x ≤ t) (a : ∀ y, pw (ph tp t) (ws w) x = .ok y → y ≤ t → post (sk S (nI y) (-1))) (b : ∀ f, pw (ph tp t) (ws w) x = .error f → f ≤ t → post (sk S (nI f) (nI f))) : wpX6_expect N post (sk S (nI x) (-1)) w := ⟨(ws w).length + 1, exS2 h1 h41 ht hw _ 0 x (by omega) hx a b⟩
theorem soD {post : tq_St → Int32 → Prop} {y : Int32} {f : Nat} (hf : f ≤ 120) (b : post (sk S y (nI f)) 0) : wpX6_readSort N post (sk S y (nI f)) := by
  refine ⟨5, ?_⟩
  unfold wbX6_readSort_2
  refine tp_dF (by decide) (tkD hf (tp_dT rfl ?_))
  unfold wbX6_readSort_2
  refine tp_dF (by decide) (tkD hf (tp_dT rfl ?_))
  unfold wbX6_readSort_2
  refine tp_dF (by decide) (tkD hf (tp_dT rfl ?_))
  unfold wbX6_readSort_2
  refine tp_dF (by decide) (tkD hf (tp_dT rfl ?_))
  unfold wbX6_readSort_2
  exact tp_dT (by decide) (flD hf b)
theorem soS {post : tq_St → Int32 → Prop} (h1 : S 3 0 1 = nI t) (h41 : S 41 0 = tp) (ht : t ≤ 120) (hx : x ≤ t) (a : ∀ y s, pso (ph tp t) x = .ok (y, s) → y ≤ t → s < 4 → post (sk S (nI y) (-1)) (nI s)) (b : pso (ph tp t) x = .error x → post (sk S (nI x) (nI x)) 0) : wpX6_readSort N post (sk S (nI x) (-1)) := by
  unfold pso at a b
  refine ⟨5, ?_⟩
  unfold wbX6_readSort_2
  refine tp_dF (by decide) (tkS h1 h41 ht hx (by decide) (fun z zx => ?_) (fun z0 => ?_))
  · exact tp_dF (by decide) (a (x + 1) 0 (if_pos z) (by omega) (by decide))
  refine tp_dT rfl ?_
  unfold wbX6_readSort_2
  refine tp_dF (by decide) (tkS h1 h41 ht hx (by decide) (fun z zx => ?_) (fun z1 => ?_))
  · exact tp_dF (by decide) (a (x + 1) 1 (by rw [if_neg (show ¬ ph tp t x = 48 from z0)]; exact if_pos z) (by omega) (by decide))
  refine tp_dT rfl ?_
  unfold wbX6_readSort_2
  refine tp_dF (by decide) (tkS h1 h41 ht hx (by decide) (fun z zx => ?_) (fun z2 => ?_))
  · exact tp_dF (by decide) (a (x + 1) 2 (by rw [if_neg (show ¬ ph tp t x = 48 from z0)]; rw [if_neg (show ¬ ph tp t x = 49 from z1)]; exact if_pos z) (by omega) (by decide))
  refine tp_dT rfl ?_
  unfold wbX6_readSort_2
  refine tp_dF (by decide) (tkS h1 h41 ht hx (by decide) (fun z zx => ?_) (fun z3 => ?_))
  · exact tp_dF (by decide) (a (x + 1) 3 (by rw [if_neg (show ¬ ph tp t x = 48 from z0), if_neg (show ¬ ph tp t x = 49 from z1), if_neg (show ¬ ph tp t x = 50 from z2)]; exact if_pos z) (by omega) (by decide))
  refine tp_dT rfl ?_
  unfold wbX6_readSort_2
  refine tp_dT (by decide) (flS (b ?_))
  rw [if_neg (show ¬ ph tp t x = 48 from z0), if_neg (show ¬ ph tp t x = 49 from z1), if_neg (show ¬ ph tp t x = 50 from z2), if_neg (show ¬ ph tp t x = 51 from z3)]
theorem dnS {post : tq_St → Int32 → Prop} (h1 : S 3 0 1 = nI t) (h41 : S 41 0 = tp) (ht : t ≤ 120) (hx : x ≤ t) (a : 48 ≤ ph tp t x ∧ ph tp t x ≤ 57 → x < t → ph tp t x = S 41 0 x → post (sk S (nI x) (-1)) 1) (b : ¬ (48 ≤ ph tp t x ∧ ph tp t x ≤ 57) → post (sk S (nI x) (-1)) 0) : wpX6_isDigitNext N post (sk S (nI x) (-1)) := by
  unfold wpX6_isDigitNext wbX6_isDigitNext_50 wbX6_isDigitNext_51
  rw [sk_g2, sk_g3, sk_g1, h1, sk_k (show 41 ≠ 3 by decide), nI_clamp (show x < 2 ^ 31 by omega)]
  refine tp_dF (by decide) ?_
  by_cases q : t ≤ x
  · have e : ph tp t x = -1 := by unfold ph; rw [if_pos q]
    rw [e] at b
    exact tp_dT (nI_le q (by omega)) ⟨tp_nb0, b (by decide)⟩
  · have e : ph tp t x = S 41 0 x := by unfold ph; rw [if_neg q, h41]
    refine tp_dF (nI_ge (by omega) (by omega)) ⟨vp_in_nI (by omega) (by decide), ?_⟩
    rw [← e]
    by_cases z : ph tp t x < 48
    · exact tp_dT z ⟨tp_nb0, b (fun y => by rw [tp_lt] at z; have := y.1; rw [tp_le] at this; omega)⟩
    · refine tp_dF z ?_
      by_cases z2 : 57 < ph tp t x
      · exact tp_dT z2 ⟨tp_nb0, b (fun y => by rw [tp_lt] at z2; have := y.2; rw [tp_le] at this; omega)⟩
      · exact tp_dF z2 ⟨tp_nb1, a ⟨by rw [tp_le]; rw [tp_lt] at z; omega, by rw [tp_le]; rw [tp_lt] at z2; omega⟩ (by omega) e⟩
theorem nuS2 {post : tq_St → Int32 → Prop} (h1 : S 3 0 1 = nI t) (h41 : S 41 0 = tp) (ht : t ≤ 120) : ∀ (m i x : Nat) (v : Int32), i + m = 4 → x ≤ t → (1 ≤ i ∨ (48 ≤ ph tp t x ∧ ph tp t x ≤ 57)) → post (sk S (nI (pdi (ph tp t) m x v).1) (-1)) (pdi (ph tp t) m x v).2 → wbX6_readNumber_4 N post (m + 1) (sk S (nI x) (-1)) v (nI i)
  | 0, i, x, v, hi, hx, hd, h => by
    unfold wbX6_readNumber_4 wbX6_readNumber_50 wbX6_readNumber_58
    have : i = 4 := by omega
    subst this
    exact tp_dT (by decide) (tp_cF (by decide) h)
  | m + 1, i, x, v, hi, hx, hd, h => by
    unfold wbX6_readNumber_4 wbX6_readNumber_50 wbX6_readNumber_58
    unfold pdi at h
    refine tp_dF (show ¬ nI 4 ≤ nI i from nI_ge (by omega) (by decide)) (dnS h1 h41 ht hx (fun z zx e => ?_) (fun z => ?_))
    · rw [if_pos z] at h
      rw [sk_g2, nI_clamp (by omega), sk_2, sk_k (show 41 ≠ 3 by decide), ← e, nI_1, nI_1]
      exact tp_dF (by decide) ⟨vp_in_nI (by omega) (by decide), tp_ae (nuS2 h1 h41 ht m (i + 1) (x + 1) _ (by omega) (by omega) (Or.inl (by omega)) h)⟩
    · rw [if_neg z] at h
      refine tp_dT rfl (tp_cF ?_ h)
      exact nI_ne0 (by rcases hd with q | q; exact q; exact absurd q z) (by omega)
theorem nuD {post : tq_St → Int32 → Prop} {y : Int32} {f : Nat} (hf : f ≤ 120) (b : post (sk S y (nI f)) 0) : wpX6_readNumber N post (sk S y (nI f)) := by
  refine ⟨1, ?_⟩
  unfold wbX6_readNumber_4 wbX6_readNumber_50 wbX6_readNumber_58 wpX6_isDigitNext wbX6_isDigitNext_50 wbX6_isDigitNext_51
  rw [sk_g3]
  exact tp_dF (by decide) (tp_dT (nI_pos' (by omega)) ⟨tp_nb0, tp_dT rfl (tp_cT rfl (flD hf b))⟩)
theorem nuS {post : tq_St → Int32 → Prop} (h1 : S 3 0 1 = nI t) (h41 : S 41 0 = tp) (ht : t ≤ 120) (hx : x ≤ t) (a : ∀ y v, pnu (ph tp t) x = .ok (y, v) → y ≤ t → post (sk S (nI y) (-1)) v) (b : pnu (ph tp t) x = .error x → post (sk S (nI x) (nI x)) 0) : wpX6_readNumber N post (sk S (nI x) (-1)) := by
  unfold pnu at a b
  by_cases q : 48 ≤ ph tp t x ∧ ph tp t x ≤ 57
  · rw [if_pos q] at a
    exact ⟨5, nuS2 h1 h41 ht 4 0 x 0 (by omega) hx (Or.inr q) (a _ _ rfl (pdi_le 4 x 0 hx))⟩
  · rw [if_neg q] at b
    refine ⟨1, ?_⟩
    unfold wbX6_readNumber_4 wbX6_readNumber_50 wbX6_readNumber_58
    exact tp_dF (by decide) (dnS h1 h41 ht hx (fun z _ _ => absurd z q) (fun _ => tp_dT rfl (tp_cT rfl (flS (b rfl)))))
end
