/-! pure: a year's plan -/
def pl_sp (cs : Nat → Nat) (a b c d : Nat) : Nat := a * cs 0 + b * cs 1 + c * cs 2 + d * cs 3
def pl_mn (x y : Nat) : Nat := if y < x then y else x
def pl_w (pr : Nat → Nat → Nat) (a b c d : Nat) : Nat := pl_mn (pl_mn (pl_mn (pl_sp (pr 0) a b c d) (pl_sp (pr 1) a b c d)) (pl_sp (pr 2) a b c d)) (pl_sp (pr 3) a b c d)
def pl_v (r s : Nat) : Int32 := 10 * (nI r - nI s)
def pl_up (v a b c d : Int32) (B : Nat → Int32) : Nat → Int32 := if v ≤ B 0 then B else fun j => if j = 0 then v else if j = 1 then a else if j = 2 then b else if j = 3 then c else if j = 4 then d else 0
def pl_G (cs : Nat → Nat) (pr : Nat → Nat → Nat) (T K a b c d : Nat) (B : Nat → Int32) : Nat → Int32 :=
  if 10 * (a + b + c + d) ≤ T ∧ 10 * pl_sp cs a b c d ≤ K then pl_up (pl_v (pl_w pr a b c d) (pl_sp cs a b c d)) (nI a) (nI b) (nI c) (nI d) B else B
def pl_F (cs : Nat → Nat) (pr : Nat → Nat → Nat) (T K i : Nat) (B : Nat → Int32) : Nat → Int32 := pl_G cs pr T K (i / 216) (i / 36 % 6) (i / 6 % 6) (i % 6) B
theorem pl_sp_b {cs : Nat → Nat} {a b c d : Nat} (h : ∀ j, j < 4 → cs j ≤ 999) (ha : a < 6) (hb : b < 6) (hc : c < 6) (hd : d < 6) : pl_sp cs a b c d ≤ 20000 := by
  unfold pl_sp
  have h0 := Nat.mul_le_mul (show a ≤ 5 by omega) (h 0 (by decide))
  have h1 := Nat.mul_le_mul (show b ≤ 5 by omega) (h 1 (by decide))
  have h2 := Nat.mul_le_mul (show c ≤ 5 by omega) (h 2 (by decide))
  have h3 := Nat.mul_le_mul (show d ≤ 5 by omega) (h 3 (by decide))
  omega
theorem pl_mn_b {x y z : Nat} (hx : x ≤ z) (hy : y ≤ z) : pl_mn x y ≤ z := by
  unfold pl_mn
  split <;> omega
theorem pl_mn_n {x y : Nat} (hx : x < 2 ^ 31) (hy : y < 2 ^ 31) : (if nI y < nI x then nI y else nI x) = nI (pl_mn x y) := by
  unfold pl_mn
  by_cases h : y < x
  · rw [if_pos h, if_pos (nI_lt h hx)]
  · rw [if_neg h, if_neg (nI_nlt (by omega) hy)]
theorem pl_v_t {r s : Nat} (hr : r ≤ 20000) (hs : s ≤ 20000) : (pl_v r s).toInt = 10 * ((r : Int) - s) := by
  have h1 : (nI r - nI s).toInt = (r : Int) - s := by rw [tp_sub (by rw [tp_ti (by omega), tp_ti (by omega)]; omega) (by rw [tp_ti (by omega), tp_ti (by omega)]; omega), tp_ti (by omega), tp_ti (by omega)]
  have h2 : (10 : Int32).toInt = 10 := by decide
  unfold pl_v
  rw [tp_mul (by rw [h1, h2]; omega) (by rw [h1, h2]; omega), h1, h2]
theorem pl_v_n {x y s : Nat} (hx : x ≤ 20000) (hy : y ≤ 20000) (hs : s ≤ 20000) : (if pl_v y s < pl_v x s then pl_v y s else pl_v x s) = pl_v (pl_mn x y) s := by
  have e : pl_v y s < pl_v x s ↔ y < x := by
    rw [tp_lt, pl_v_t hx hs, pl_v_t hy hs]; omega
  unfold pl_mn
  by_cases h : y < x
  · rw [if_pos h, if_pos (e.mpr h)]
  · rw [if_neg h, if_neg (fun z => h (e.mp z))]
theorem pl_v_r {r s : Nat} (hr : r ≤ 20000) (hs : s ≤ 20000) : -(nI (10 * s)) + nI (10 * r) = pl_v r s := by
  rw [tp_eq, pl_v_t hr hs]
  have e : -(nI (10 * s)) = 0 - nI (10 * s) := (Int32.zero_sub _).symm
  have z : (0 : Int32).toInt = 0 := by decide
  have h1 : (nI (10 * s)).toInt = ((10 * s : Nat) : Int) := tp_ti (by omega)
  have h2 : (nI (10 * r)).toInt = ((10 * r : Nat) : Int) := tp_ti (by omega)
  have h3 : (0 - nI (10 * s)).toInt = - ((10 * s : Nat) : Int) := by rw [tp_sub (by rw [z, h1]; omega) (by rw [z, h1]; omega), z, h1]; omega
  rw [e, tp_add (by rw [h2, h3]; omega) (by rw [h2, h3]; omega), h2, h3]
  omega
theorem pl_F_d {cs : Nat → Nat} {pr : Nat → Nat → Nat} {T K a b c d : Nat} {B : Nat → Int32} (hb : b < 6) (hc : c < 6) (hd : d < 6) : pl_F cs pr T K (216 * a + 36 * b + 6 * c + d) B = pl_G cs pr T K a b c d B := by
  unfold pl_F
  rw [show (216 * a + 36 * b + 6 * c + d) / 216 = a by omega, show (216 * a + 36 * b + 6 * c + d) / 36 % 6 = b by omega, show (216 * a + 36 * b + 6 * c + d) / 6 % 6 = c by omega, show (216 * a + 36 * b + 6 * c + d) % 6 = d by omega]
theorem pl_skip {cs : Nat → Nat} {pr : Nat → Nat → Nat} {T K a b c d : Nat} {B : Nat → Int32} (hb : b < 6) (hc : c < 6) (h : ¬ (10 * (a + b + c + d) ≤ T ∧ 10 * pl_sp cs a b c d ≤ K)) : ∀ t, d + t ≤ 6 → tp_it (pl_F cs pr T K) (216 * a + 36 * b + 6 * c + d + t) B = tp_it (pl_F cs pr T K) (216 * a + 36 * b + 6 * c + d) B
  | 0, _ => rfl
  | t + 1, ht => by
    rw [← Nat.add_assoc]
    simp only [tp_it]
    rw [pl_skip hb hc h t (by omega), Nat.add_assoc (216 * a + 36 * b + 6 * c), pl_F_d hb hc (by omega)]
    unfold pl_G
    rw [if_neg]
    intro z
    refine h ⟨by omega, ?_⟩
    have := Nat.mul_le_mul_right (cs 3) (show d ≤ d + t by omega)
    have z2 := z.2
    unfold pl_sp at z2 ⊢
    omega
theorem pl_it1 {σ : Type} {f : Nat → σ → σ} {s s2 : σ} (h : f 0 s = f 0 s2) : ∀ n, tp_it f (n + 1) s = tp_it f (n + 1) s2
  | 0 => h
  | n + 1 => by
    show f (n + 1) (tp_it f (n + 1) s) = f (n + 1) (tp_it f (n + 1) s2)
    rw [pl_it1 h n]
section
variable {N : tq_Nn} {S M : tq_St} {cs : Nat → Nat} {pr : Nat → Nat → Nat} {a b c d : Nat}
theorem pl_mul4 {x0 x1 x2 x3 : Int32} (h0 : x0 = nI (cs 0)) (h1 : x1 = nI (cs 1)) (h2 : x2 = nI (cs 2)) (h3 : x3 = nI (cs 3)) : nI a * x0 + nI b * x1 + nI c * x2 + nI d * x3 = nI (pl_sp cs a b c d) := by
  rw [h0, h1, h2, h3, pk_mul, pk_mul, pk_mul, pk_mul, nI_add, nI_add, nI_add]; rfl
theorem pl_lb {post : tq_St → Int32 → Prop} {y : Nat} (hS : ∀ y s, y < 4 → s < 4 → S 28 y s = nI (pr y s)) (hy : y < 4) (h : post S (nI (pl_sp (pr y) a b c d))) : wpX11_lotsBring N post S y (nI a) (nI b) (nI c) (nI d) := by
  unfold wpX11_lotsBring
  rw [pl_mul4 (hS y 0 hy (by decide)) (hS y 1 hy (by decide)) (hS y 2 hy (by decide)) (hS y 3 hy (by decide))]
  exact ⟨hy, h⟩
theorem pl_wyS {post : tq_St → Int32 → Prop} {n y : Nat} {x5 : Int32} (hS : ∀ y s, y < 4 → s < 4 → S 28 y s = nI (pr y s)) (hy : y < 4) (h : wbX11_worstYear_19 N post n S (nI a) (nI b) (nI c) (nI d) (if nI (pl_sp (pr y) a b c d) < x5 then nI (pl_sp (pr y) a b c d) else x5) (nI (y + 1))) : wbX11_worstYear_19 N post (n + 1) S (nI a) (nI b) (nI c) (nI d) x5 (nI y) := by
  unfold wbX11_worstYear_19
  rw [nI_clamp (by omega), nI_1]
  exact tp_dF (show ¬ nI 4 ≤ nI y from nI_ge hy (by decide)) ⟨vp_in_nI hy (by decide), pl_lb hS hy h⟩
theorem pl_wy {post : tq_St → Int32 → Prop} (hS : ∀ y s, y < 4 → s < 4 → S 28 y s = nI (pr y s)) (hp : ∀ y s, y < 4 → s < 4 → pr y s ≤ 999) (ha : a < 6) (hb : b < 6) (hc : c < 6) (hd : d < 6) (h : post S (nI (pl_w pr a b c d))) : wpX11_worstYear N post S (nI a) (nI b) (nI c) (nI d) := by
  have q : ∀ y, y < 4 → pl_sp (pr y) a b c d ≤ 20000 := fun y hy => pl_sp_b (fun s hs => hp y s hy hs) ha hb hc hd
  have q0 := q 0 (by decide)
  have q1 := q 1 (by decide)
  have q2 := q 2 (by decide)
  have q3 := q 3 (by decide)
  have r1 := pl_mn_b q0 q1
  have r2 := pl_mn_b r1 q2
  have r3 := pl_mn_b r2 q3
  unfold wpX11_worstYear
  refine pl_lb (y := 0) hS (by decide) ⟨4, ?_⟩
  refine pl_wyS (y := 1) hS (by decide) ?_
  rw [pl_mn_n (by omega) (by omega)]
  refine pl_wyS (y := 2) hS (by decide) ?_
  rw [pl_mn_n (by omega) (by omega)]
  refine pl_wyS (y := 3) hS (by decide) ?_
  rw [pl_mn_n (by omega) (by omega)]
  unfold wbX11_worstYear_19
  exact tp_dT (show nI 4 ≤ nI 4 by decide) h
theorem pl_mul10 {q k : Nat} {x y : Int32} (hx : x = nI q) (hy : y = nI k) : (10 * x) * y = nI (10 * (q * k)) := by
  rw [hx, hy, show (10 : Int32) = nI 10 from rfl, pk_mul, pk_mul, Nat.mul_assoc]
theorem pl_j9 {post : tq_St → Prop} {n p j T K qj u v : Nat} {k : Nat} (hp : p < 5) (hj : j < 4) (h1 : M 175 0 j = nI qj) (h2 : M 104 p j = nI k) (h : wbX12_judge_9 post n M (nI p) (nI T) (nI K) (nI (u + 10 * qj)) (nI (v + 10 * (qj * k))) (nI (j + 1))) : wbX12_judge_9 post (n + 1) M (nI p) (nI T) (nI K) (nI u) (nI v) (nI j) := by
  unfold wbX12_judge_9
  rw [nI_clamp (by omega), nI_clamp (by omega), pl_mul10 h1 h2, h1, show (10 : Int32) = nI 10 from rfl, pk_mul, nI_add, nI_add, nI_1]
  exact tp_dF (show ¬ nI 4 ≤ nI j from nI_ge hj (by decide)) ⟨vp_in_nI hj (by decide), vp_in_nI hp (by decide), h⟩
theorem pl_j96 {post : tq_St → Prop} {L : tq_St → Int32 → Int32 → Int32 → Prop} {n y j qj v k : Nat} {x5 x6 : Int32} (hy : y < 4) (hj : j < 4) (h1 : M 175 0 j = nI qj) (h2 : M 159 y j = nI k) (h : wbX12_judge_96 post L n M x5 x6 (nI y) (-x5 + nI (v + 10 * (qj * k))) (nI (j + 1))) : wbX12_judge_96 post L (n + 1) M x5 x6 (nI y) (-x5 + nI v) (nI j) := by
  unfold wbX12_judge_96
  rw [nI_clamp (by omega), nI_clamp (by omega), pl_mul10 h1 h2, Int32.add_assoc, nI_add, nI_1 j]
  exact tp_dF (show ¬ nI 4 ≤ nI j from nI_ge hj (by decide)) ⟨vp_in_nI hj (by decide), vp_in_nI hy (by decide), h⟩
theorem pl_j82 {post : tq_St → Prop} {n y : Nat} {x6 : Int32} (hs : pl_sp cs a b c d ≤ 20000) (hr : pl_sp (pr y) a b c d ≤ 20000) (hy : y < 4) (q0 : M 175 0 0 = nI a) (q1 : M 175 0 1 = nI b) (q2 : M 175 0 2 = nI c) (q3 : M 175 0 3 = nI d) (hM : ∀ s, s < 4 → M 159 y s = nI (pr y s))
    (h : wbX12_judge_82 post n M (nI (10 * pl_sp cs a b c d)) (if pl_v (pl_sp (pr y) a b c d) (pl_sp cs a b c d) < x6 then pl_v (pl_sp (pr y) a b c d) (pl_sp cs a b c d) else x6) (nI (y + 1))) : wbX12_judge_82 post (n + 1) M (nI (10 * pl_sp cs a b c d)) x6 (nI y) := by
  unfold wbX12_judge_82
  refine tp_dF (show ¬ nI 4 ≤ nI y from nI_ge hy (by decide)) ⟨5, ?_⟩
  have e0 : -(nI (10 * pl_sp cs a b c d)) = -(nI (10 * pl_sp cs a b c d)) + nI 0 := (Int32.add_zero _).symm
  rw [show wbX12_judge_96 post (wbX12_judge_82 post n) 5 M (nI (10 * pl_sp cs a b c d)) x6 (nI y) (-(nI (10 * pl_sp cs a b c d))) 0 = wbX12_judge_96 post (wbX12_judge_82 post n) 5 M (nI (10 * pl_sp cs a b c d)) x6 (nI y) (-(nI (10 * pl_sp cs a b c d)) + nI 0) (nI 0) by rw [← e0]; rfl]
  refine pl_j96 hy (by decide) q0 (hM 0 (by decide)) (pl_j96 hy (by decide) q1 (hM 1 (by decide)) (pl_j96 hy (by decide) q2 (hM 2 (by decide)) (pl_j96 hy (by decide) q3 (hM 3 (by decide)) ?_)))
  unfold wbX12_judge_96
  rw [show 0 + 10 * (a * pr y 0) + 10 * (b * pr y 1) + 10 * (c * pr y 2) + 10 * (d * pr y 3) = 10 * pl_sp (pr y) a b c d by unfold pl_sp; omega, pl_v_r hr hs, nI_1]
  exact tp_dT (show nI 4 ≤ nI 4 by decide) h
theorem pl_judge {post : tq_St → Prop} {p T K : Nat} {B : Nat → Int32} (hp : p < 5) (hT : T ≤ 200) (hK : K ≤ 1000000) (h104 : ∀ j, j < 4 → M 104 p j = nI (cs j)) (h159 : ∀ y s, y < 4 → s < 4 → M 159 y s = nI (pr y s)) (hcs : ∀ j, j < 4 → cs j ≤ 999) (hpr : ∀ y s, y < 4 → s < 4 → pr y s ≤ 999) (ha : a < 6) (hb : b < 6) (hc : c < 6) (hd : d < 6)
    (q0 : M 175 0 0 = nI a) (q1 : M 175 0 1 = nI b) (q2 : M 175 0 2 = nI c) (q3 : M 175 0 3 = nI d) (hB : ∀ j, j < 5 → M 176 0 j = B j)
    (h : ∀ M1 : tq_St, (∀ k, k ≠ 176 → M1 k = M k) → (∀ j, j < 5 → M1 176 0 j = pl_G cs pr T K a b c d B j) → post M1) : wpX12_judge post M (nI p) (nI T) (nI K) := by
  have hs := pl_sp_b hcs ha hb hc hd
  have q : ∀ y, y < 4 → pl_sp (pr y) a b c d ≤ 20000 := fun y hy => pl_sp_b (fun s hs => hpr y s hy hs) ha hb hc hd
  refine ⟨5, ?_⟩
  refine pl_j9 (u := 0) (v := 0) (j := 0) hp (by decide) q0 (h104 0 (by decide)) (pl_j9 hp (by decide) q1 (h104 1 (by decide)) (pl_j9 hp (by decide) q2 (h104 2 (by decide)) (pl_j9 hp (by decide) q3 (h104 3 (by decide)) ?_)))
  unfold wbX12_judge_9 wbX12_judge_73
  rw [show 0 + 10 * (a * cs 0) + 10 * (b * cs 1) + 10 * (c * cs 2) + 10 * (d * cs 3) = 10 * pl_sp cs a b c d by unfold pl_sp; omega, show 0 + 10 * a + 10 * b + 10 * c + 10 * d = 10 * (a + b + c + d) by omega]
  refine tp_dT (show nI 4 ≤ nI 4 by decide) ?_
  unfold pl_G at h
  by_cases h1 : 10 * (a + b + c + d) ≤ T
  · refine tp_dF (nI_nlt h1 (by omega)) ?_
    by_cases h2 : 10 * pl_sp cs a b c d ≤ K
    · refine tp_dT (nI_le h2 (by omega)) ?_
      rw [if_pos ⟨h1, h2⟩] at h
      have c0 := q 0 (by decide)
      have c1 := q 1 (by decide)
      have c2 := q 2 (by decide)
      have c3 := q 3 (by decide)
      have r1 := pl_mn_b c0 c1
      have r2 := pl_mn_b r1 c2
      have r3 := pl_mn_b r2 c3
      refine ⟨5, pl_j82 (y := 0) (pr := pr) hs (q 0 (by decide)) (by decide) q0 q1 q2 q3 (fun s hs => h159 0 s (by decide) hs) ?_⟩
      rw [if_pos (show pl_v (pl_sp (pr 0) a b c d) (pl_sp cs a b c d) < 2147483647 by
        rw [tp_lt, pl_v_t c0 hs, show (2147483647 : Int32).toInt = 2147483647 by decide]; omega)]
      refine pl_j82 (y := 1) (pr := pr) hs c1 (by decide) q0 q1 q2 q3 (fun s hs => h159 1 s (by decide) hs) ?_
      rw [pl_v_n c0 c1 hs]
      refine pl_j82 (y := 2) (pr := pr) hs c2 (by decide) q0 q1 q2 q3 (fun s hs => h159 2 s (by decide) hs) ?_
      rw [pl_v_n r1 c2 hs]
      refine pl_j82 (y := 3) (pr := pr) hs c3 (by decide) q0 q1 q2 q3 (fun s hs => h159 3 s (by decide) hs) ?_
      rw [pl_v_n r2 c3 hs]
      unfold wbX12_judge_82 wbX12_judge_182
      refine tp_dT (show nI 4 ≤ nI 4 by decide) ?_
      have ew : pl_mn (pl_mn (pl_mn (pl_sp (pr 0) a b c d) (pl_sp (pr 1) a b c d)) (pl_sp (pr 2) a b c d)) (pl_sp (pr 3) a b c d) = pl_w pr a b c d := rfl
      rw [ew]
      unfold pl_up at h
      by_cases h3 : pl_v (pl_w pr a b c d) (pl_sp cs a b c d) ≤ M 176 0 0
      · rw [hB 0 (by decide)] at h3
        rw [if_pos h3] at h
        rw [hB 0 (by decide)]
        exact tp_dT h3 (h M (fun _ _ => rfl) hB)
      · rw [hB 0 (by decide)] at h3
        rw [if_neg h3] at h
        rw [hB 0 (by decide)]
        refine tp_dF h3 (tp_ae (tp_ae (h _ (fun k hk => ?_) (fun j hj => ?_))))
        · rw [tq_cpk hk, tq_upk hk]
        · rw [tq_cpe, show (0 : Int32).toNatClampNeg = 0 by decide, show (1 : Int32).toNatClampNeg = 1 by decide, show (4 : Int32).toNatClampNeg = 4 by decide]
          have cj : j = 0 ∨ j = 1 ∨ j = 2 ∨ j = 3 ∨ j = 4 := by omega
          have e175 : ∀ x : Int32, tq_up M 176 0 0 x 175 = M 175 := fun x => tq_upk (by decide)
          rcases cj with rfl | rfl | rfl | rfl | rfl
          · rw [pk_cpy_out (by omega), tq_upe]; rfl
          · rw [pk_cpy_in (by omega) (by omega), e175]; exact q0
          · rw [pk_cpy_in (by omega) (by omega), e175]; exact q1
          · rw [pk_cpy_in (by omega) (by omega), e175]; exact q2
          · rw [pk_cpy_in (by omega) (by omega), e175]; exact q3
    · rw [if_neg (fun z => h2 z.2)] at h
      exact tp_dF (nI_ge (by omega) (by omega)) (h M (fun _ _ => rfl) hB)
  · rw [if_neg (fun z => h1 z.1)] at h
    exact tp_dT (nI_lt (by omega) (by omega)) (h M (fun _ _ => rfl) hB)
theorem pl_ref {post : tq_St → Int32 → Prop} {p T K x : Nat} {B : Nat → Int32} (hp : p < 5) (hx : x < 5) (hT : T ≤ 200) (hK : K ≤ 1000000) (h104 : ∀ j, j < 4 → M 104 p j = nI (cs j)) (h159 : ∀ y s, y < 4 → s < 4 → M 159 y s = nI (pr y s)) (hcs : ∀ j, j < 4 → cs j ≤ 999) (hpr : ∀ y s, y < 4 → s < 4 → pr y s ≤ 999)
    (h : ∀ M1 : tq_St, (∀ k, k ≠ 175 → k ≠ 176 → M1 k = M k) → post M1 (tp_it (pl_F cs pr T K) 1296 B x)) : ∀ (m i : Nat), i + m = 1296 → ∀ M1 : tq_St, (∀ k, k ≠ 175 → k ≠ 176 → M1 k = M k) → (∀ j, j < 5 → M1 176 0 j = tp_it (pl_F cs pr T K) i B j) → wbX12_plan_54 post (m + 1) M1 (nI p) (nI T) (nI K) (nI x) (nI i)
  | 0, i, hi, M1, h1, h2 => by
    have : i = 1296 := by omega
    subst this
    unfold wbX12_plan_54
    refine tp_dT (show nI 1296 ≤ nI 1296 by decide) ⟨vp_in_nI hx (by decide), ?_⟩
    rw [nI_clamp (by omega), h2 x hx]
    exact h M1 h1
  | m + 1, i, hi, M1, h1, h2 => by
    unfold wbX12_plan_54
    have d216 : nI i / 216 = nI (i / 216) := pk_div (d := 216) (by omega) (by decide) (by decide)
    have d36 : nI i / 36 = nI (i / 36) := pk_div (d := 36) (by omega) (by decide) (by decide)
    have d6 : nI i / 6 = nI (i / 6) := pk_div (d := 6) (by omega) (by decide) (by decide)
    have r36 : nI (i / 36) - nI (i / 36) / 6 * 6 = nI (i / 36 % 6) := pk_rem (d := 6) (by omega) (by decide) (by decide)
    have r6 : nI (i / 6) - nI (i / 6) / 6 * 6 = nI (i / 6 % 6) := pk_rem (d := 6) (by omega) (by decide) (by decide)
    have r1 : nI i - nI i / 6 * 6 = nI (i % 6) := pk_rem (d := 6) (by omega) (by decide) (by decide)
    rw [d36, r36, r1, d6, r6, d216, nI_1]
    refine tp_dF (show ¬ nI 1296 ≤ nI i from nI_ge (by omega) (by decide)) (tp_ae (tp_ae (tp_ae (tp_ae ?_))))
    refine pl_judge (cs := cs) (pr := pr) (a := i / 216) (b := i / 36 % 6) (c := i / 6 % 6) (d := i % 6) (B := tp_it (pl_F cs pr T K) i B) hp hT hK (fun j hj => ?_) (fun y s hy hs => ?_) hcs hpr (by omega) (by omega) (by omega) (by omega) ?_ ?_ ?_ ?_ (fun j hj => ?_) (fun M2 g1 g2 => ?_)
    · simp (disch := decide) only [tq_upk]; rw [h1 104 (by decide) (by decide)]; exact h104 j hj
    · simp (disch := decide) only [tq_upk]; rw [h1 159 (by decide) (by decide)]; exact h159 y s hy hs
    · simp (disch := decide) only [tq_upj, tq_upe]
    · simp (disch := decide) only [tq_upj, tq_upe]
    · simp (disch := decide) only [tq_upj, tq_upe]
    · simp (disch := decide) only [tq_upj, tq_upe]
    · simp (disch := decide) only [tq_upk]; exact h2 j hj
    · refine pl_ref hp hx hT hK h104 h159 hcs hpr h m (i + 1) (by omega) M2 (fun k k1 k2 => ?_) (fun j hj => ?_)
      · rw [g1 k k2, tq_upk k1, tq_upk k1, tq_upk k1, tq_upk k1]; exact h1 k k1 k2
      · rw [g2 j hj]; rfl
end
section
variable {N : tq_Nn} {S : tq_St} {cs : Nat → Nat} {pr : Nat → Nat → Nat} {p T K q : Nat} {x4 : Int32} {B : Nat → Int32}
def pl_Q (S : tq_St) (q : Nat) (f : Nat → Int32) (S1 : tq_St) : Prop := (∀ k, k ≠ 12 → S1 k = S k) ∧ ∀ j, j < 5 → S1 12 q j = f j
theorem pl_keep {post : tq_Nn → tq_St → Prop} {v y1 y2 y3 y4 : Int32} {f : Nat → Int32} {S1 : tq_St} (hq : ¬ q < 1) (hn : N 12 q = 1) (h1 : pl_Q S q f S1) (h : ∀ S2, pl_Q S q (pl_up v y1 y2 y3 y4 f) S2 → post N S2) : wpX11_keepIfBetter post N S1 q v y1 y2 y3 y4 := by
  unfold wpX11_keepIfBetter wbX11_keepIfBetter_29
  rw [h1.2 0 (by decide)]
  refine ⟨hq, hn, ?_⟩
  unfold pl_up at h
  by_cases g : v ≤ f 0
  · rw [if_pos g] at h
    exact tp_dT g (h S1 h1)
  · rw [if_neg g] at h
    refine tp_dF g (tp_ae (tp_ae (tp_ae (tp_ae (tp_ae (h _ ⟨fun k hk => ?_, fun j hj => ?_⟩))))))
    · rw [tq_upk hk, tq_upk hk, tq_upk hk, tq_upk hk, tq_upk hk]; exact h1.1 k hk
    · have cj : j = 0 ∨ j = 1 ∨ j = 2 ∨ j = 3 ∨ j = 4 := by omega
      rcases cj with rfl | rfl | rfl | rfl | rfl
      · simp (disch := decide) only [tq_upj, tq_upe]; rfl
      · simp (disch := decide) only [tq_upj, tq_upe]; rfl
      · simp (disch := decide) only [tq_upj, tq_upe]; rfl
      · simp (disch := decide) only [tq_upj, tq_upe]; rfl
      · simp (disch := decide) only [tq_upe]; rfl
theorem pl_119 {post : tq_Nn → tq_St → Int32 → Prop} {L92 : tq_Nn → tq_St → Int32 → Nat → Int32 → Int32 → Nat → Int32 → Prop} {L101 : tq_Nn → tq_St → Int32 → Nat → Int32 → Int32 → Nat → Int32 → Int32 → Prop} {L110 : tq_Nn → tq_St → Int32 → Nat → Int32 → Int32 → Nat → Int32 → Int32 → Int32 → Prop} {a b c : Nat} (hq : ¬ q < 1) (hn : N 12 q = 1) (hp : p < 5) (hT : T ≤ 200) (hK : K ≤ 1000000) (h31 : ∀ j, j < 4 → S 31 p j = nI (cs j)) (h28 : ∀ y s, y < 4 → s < 4 → S 28 y s = nI (pr y s)) (hcs : ∀ j, j < 4 → cs j ≤ 999) (hpr : ∀ y s, y < 4 → s < 4 → pr y s ≤ 999) (ha : a < 6) (hb : b < 6) (hc : c < 6)
    (h : ∀ S1, pl_Q S q (tp_it (pl_F cs pr T K) (216 * a + 36 * b + 6 * (c + 1)) B) S1 → L110 N S1 x4 p (nI (T / 10)) (nI (K / 10)) q (nI a) (nI b) (nI (c + 1))) : ∀ (m d : Nat), d + m = 6 → ∀ S1, pl_Q S q (tp_it (pl_F cs pr T K) (216 * a + 36 * b + 6 * c + d) B) S1 → wbX11_plan_119 post L92 L101 L110 (m + 1) N S1 x4 p (nI (T / 10)) (nI (K / 10)) q (nI a) (nI b) (nI c) (nI d)
  | 0, d, hd, S1, h1 => by
    have : d = 6 := by omega
    subst this
    unfold wbX11_plan_119 wbX11_plan_221
    rw [nI_1]
    exact tp_dT (show nI 5 < nI 6 by decide) (h S1 h1)
  | m + 1, d, hd, S1, h1 => by
    unfold wbX11_plan_119 wbX11_plan_221
    have e31 : ∀ j, S1 31 p j = S 31 p j := fun j => by rw [h1.1 31 (by decide)]
    rw [e31 0, e31 1, e31 2, e31 3, pl_mul4 (cs := cs) (h31 0 (by decide)) (h31 1 (by decide)) (h31 2 (by decide)) (h31 3 (by decide)), nI_add, nI_add, nI_add]
    have hs := pl_sp_b hcs ha hb hc (show d < 6 by omega)
    have hbr : ¬ (10 * (a + b + c + d) ≤ T ∧ 10 * pl_sp cs a b c d ≤ K) → L110 N S1 x4 p (nI (T / 10)) (nI (K / 10)) q (nI a) (nI b) (nI c + 1) := by
      intro z
      have := pl_skip (pr := pr) (B := B) hb hc z m.succ (by omega)
      rw [show 216 * a + 36 * b + 6 * c + d + m.succ = 216 * a + 36 * b + 6 * (c + 1) by omega] at this
      rw [← this] at h1
      rw [nI_1]
      exact h S1 h1
    refine tp_dF (show ¬ nI 5 < nI d from nI_nlt (by omega) (by omega)) ⟨hp, ?_⟩
    by_cases g1 : 10 * (a + b + c + d) ≤ T
    · refine tp_dF (nI_nlt (by omega) (by omega)) ?_
      by_cases g2 : 10 * pl_sp cs a b c d ≤ K
      · refine tp_dT (nI_le (by omega) (by omega)) ?_
        refine pl_wy (pr := pr) (fun y s hy hs => by rw [h1.1 28 (by decide)]; exact h28 y s hy hs) hpr ha hb hc (by omega) ?_
        refine pl_keep hq hn h1 (fun S2 h2 => ?_)
        rw [nI_1]
        refine pl_119 hq hn hp hT hK h31 h28 hcs hpr ha hb hc h m (d + 1) (by omega) S2 ?_
        rw [← Nat.add_assoc]
        simp only [tp_it]
        rw [pl_F_d hb hc (by omega)]
        unfold pl_G
        rw [if_pos ⟨g1, g2⟩]
        exact h2
      · exact tp_dF (nI_ge (by omega) (by omega)) (hbr (fun z => g2 z.2))
    · exact tp_dT (nI_lt (by omega) (by omega)) (hbr (fun z => g1 z.1))
theorem pl_110 {post : tq_Nn → tq_St → Int32 → Prop} {L92 : tq_Nn → tq_St → Int32 → Nat → Int32 → Int32 → Nat → Int32 → Prop} {L101 : tq_Nn → tq_St → Int32 → Nat → Int32 → Int32 → Nat → Int32 → Int32 → Prop} {a b : Nat} (hq : ¬ q < 1) (hn : N 12 q = 1) (hp : p < 5) (hT : T ≤ 200) (hK : K ≤ 1000000) (h31 : ∀ j, j < 4 → S 31 p j = nI (cs j)) (h28 : ∀ y s, y < 4 → s < 4 → S 28 y s = nI (pr y s)) (hcs : ∀ j, j < 4 → cs j ≤ 999) (hpr : ∀ y s, y < 4 → s < 4 → pr y s ≤ 999) (ha : a < 6) (hb : b < 6)
    (h : ∀ S1, pl_Q S q (tp_it (pl_F cs pr T K) (216 * a + 36 * (b + 1)) B) S1 → L101 N S1 x4 p (nI (T / 10)) (nI (K / 10)) q (nI a) (nI (b + 1))) : ∀ (m c : Nat), c + m = 6 → ∀ S1, pl_Q S q (tp_it (pl_F cs pr T K) (216 * a + 36 * b + 6 * c) B) S1 → wbX11_plan_110 post L92 L101 (m + 1) N S1 x4 p (nI (T / 10)) (nI (K / 10)) q (nI a) (nI b) (nI c)
  | 0, c, hd, S1, h1 => by
    have : c = 6 := by omega
    subst this
    unfold wbX11_plan_110
    rw [nI_1]
    exact tp_dT (show nI 5 < nI 6 by decide) (h S1 h1)
  | m + 1, c, hd, S1, h1 => by
    unfold wbX11_plan_110
    refine tp_dF (show ¬ nI 5 < nI c from nI_nlt (by omega) (by omega)) ⟨7, ?_⟩
    exact pl_119 hq hn hp hT hK h31 h28 hcs hpr ha hb (by omega) (fun S2 h2 => pl_110 hq hn hp hT hK h31 h28 hcs hpr ha hb h m (c + 1) (by omega) S2 h2) 6 0 (by omega) S1 h1
theorem pl_101 {post : tq_Nn → tq_St → Int32 → Prop} {L92 : tq_Nn → tq_St → Int32 → Nat → Int32 → Int32 → Nat → Int32 → Prop} {a : Nat} (hq : ¬ q < 1) (hn : N 12 q = 1) (hp : p < 5) (hT : T ≤ 200) (hK : K ≤ 1000000) (h31 : ∀ j, j < 4 → S 31 p j = nI (cs j)) (h28 : ∀ y s, y < 4 → s < 4 → S 28 y s = nI (pr y s)) (hcs : ∀ j, j < 4 → cs j ≤ 999) (hpr : ∀ y s, y < 4 → s < 4 → pr y s ≤ 999) (ha : a < 6)
    (h : ∀ S1, pl_Q S q (tp_it (pl_F cs pr T K) (216 * (a + 1)) B) S1 → L92 N S1 x4 p (nI (T / 10)) (nI (K / 10)) q (nI (a + 1))) : ∀ (m b : Nat), b + m = 6 → ∀ S1, pl_Q S q (tp_it (pl_F cs pr T K) (216 * a + 36 * b) B) S1 → wbX11_plan_101 post L92 (m + 1) N S1 x4 p (nI (T / 10)) (nI (K / 10)) q (nI a) (nI b)
  | 0, b, hd, S1, h1 => by
    have : b = 6 := by omega
    subst this
    unfold wbX11_plan_101
    rw [nI_1]
    exact tp_dT (show nI 5 < nI 6 by decide) (h S1 h1)
  | m + 1, b, hd, S1, h1 => by
    unfold wbX11_plan_101
    refine tp_dF (show ¬ nI 5 < nI b from nI_nlt (by omega) (by omega)) ⟨7, ?_⟩
    exact pl_110 hq hn hp hT hK h31 h28 hcs hpr ha (by omega) (fun S2 h2 => pl_101 hq hn hp hT hK h31 h28 hcs hpr ha h m (b + 1) (by omega) S2 h2) 6 0 (by omega) S1 h1
theorem pl_92 {post : tq_Nn → tq_St → Int32 → Prop} {x : Nat} (hq : ¬ q < 1) (hn : N 12 q = 1) (hp : p < 5) (hx : x < 5) (hT : T ≤ 200) (hK : K ≤ 1000000) (h31 : ∀ j, j < 4 → S 31 p j = nI (cs j)) (h28 : ∀ y s, y < 4 → s < 4 → S 28 y s = nI (pr y s)) (hcs : ∀ j, j < 4 → cs j ≤ 999) (hpr : ∀ y s, y < 4 → s < 4 → pr y s ≤ 999)
    (h : ∀ S1, (∀ k, k ≠ 12 → S1 k = S k) → post N S1 (tp_it (pl_F cs pr T K) 1296 B x)) : ∀ (m a : Nat), a + m = 6 → ∀ S1, pl_Q S q (tp_it (pl_F cs pr T K) (216 * a) B) S1 → wbX11_plan_92 post (m + 1) N S1 (nI x) p (nI (T / 10)) (nI (K / 10)) q (nI a)
  | 0, a, hd, S1, h1 => by
    have : a = 6 := by omega
    subst this
    unfold wbX11_plan_92
    rw [nI_clamp (by omega), h1.2 x hx]
    exact tp_dT (show nI 5 < nI 6 by decide) ⟨vp_in_nI hx (by decide), hq, hn, h S1 h1.1⟩
  | m + 1, a, hd, S1, h1 => by
    unfold wbX11_plan_92
    refine tp_dF (show ¬ nI 5 < nI a from nI_nlt (by omega) (by omega)) ⟨7, ?_⟩
    exact pl_101 hq hn hp hT hK h31 h28 hcs hpr (by omega) (fun S2 h2 => pl_92 hq hn hp hx hT hK h31 h28 hcs hpr h m (a + 1) (by omega) S2 h2) 6 0 (by omega) S1 h1
end
theorem pl_first {cs : Nat → Nat} {pr : Nat → Nat → Nat} {T K : Nat} {B B2 : Nat → Int32} (h1 : (B 0).toInt < 0) (h2 : (B2 0).toInt < 0) : pl_F cs pr T K 0 B = pl_F cs pr T K 0 B2 := by
  have z : ∀ c : Nat → Nat, pl_sp c 0 0 0 0 = 0 := fun c => by unfold pl_sp; omega
  have zw : pl_w pr 0 0 0 0 = 0 := by unfold pl_w pl_mn; simp only [z]; rfl
  have zv : (pl_v 0 0).toInt = 0 := by decide
  unfold pl_F pl_G
  simp only [Nat.zero_div, Nat.zero_mod, z, zw]
  rw [if_pos ⟨by omega, by omega⟩, if_pos ⟨by omega, by omega⟩]
  unfold pl_up
  rw [if_neg (by rw [tp_le, zv]; omega), if_neg (by rw [tp_le, zv]; omega)]
theorem tp_nbd {x : Int32} {z : Int} (h0 : 0 ≤ x.toInt) (h : x.toInt ≤ z) : x = nI x.toNatClampNeg ∧ (x.toNatClampNeg : Int) ≤ z := by
  obtain ⟨n, n1, n2, n3⟩ := tp_nat h0
  have e : x.toNatClampNeg = n := by rw [n2]; exact nI_clamp n1
  rw [e]
  exact ⟨n2, by omega⟩
theorem sim_plan {c : Nat} {N : tq_Nn} {S M : tq_St} {p0 p1 p2 p3 : Int32} (hR : tp_R c N S M) (hc : c < 512) : wpX11_plan (fun N1 S1 r => wpX12_plan (fun M1 r1 => r = r1 ∧ tp_R (c + 1) N1 S1 M1) M p0 p1 p2 p3) N S p0 p1 p2 p3 := by
  have hT := hR.tick hc
  obtain ⟨d, pn, P, Sh, V, E, A, t, r, G, C, OL, h0⟩ := id hR
  obtain ⟨hsc, hss, har, hpl, hlg, hsh, hpe, hmo, hpr, hsr, hpa, hkn, hst, hpm, hsi, hab, hsm, hvo, hvm, hbi, hlb, hiv, hod, hol, hoi, hfi, hli, had, hro⟩ := id h0
  obtain ⟨s1, s2, s3, s4, s5, s6, s7, s8, s9, b1, b2, b3, b4, b5, b6, b7, b8, b9, e1, e2⟩ := id hsc
  obtain ⟨x1, x2, x3, x4, x5, x6, x7⟩ := id hss
  obtain ⟨y1, y2, y3, y4, y5, y6, y7, y8, y9, y10, y11, y12, y13, y14, y15⟩ := id har
  obtain ⟨w1, w2, w3, w4, w5, w6⟩ := id hpl
  obtain ⟨l1, l2, l3, l4, l5, l6, l7, l8⟩ := id hli
  simp (disch := decide) only [wpX11_plan, wbX11_plan_32, wbX11_plan_33, wbX11_plan_50, wpX12_plan, wbX12_plan_38, tp_isFactory, tp_isPlace, tp_isSort, tp_isSheet, tp_isHolder, tp_isPerson, tp_isPaper, tp_isShip, tp_isVoyage, tp_within, tp_in, tp_mPlace, tp_mFactory, tp_mSort, tp_mBuyer, tp_b0, tp_b1, Classical.not_not, tp_nb0, tp_nb1, tp_nb, true_and, Int32.reduceToInt]
  by_cases h1 : tp_i 1 4 p0
  · obtain ⟨a, a1, a2, a3, rfl⟩ := tp_i_fac h1
    have ac : (nI a).toNatClampNeg = a := nI_clamp (by omega)
    have av : vp_in (nI a) 5 := vp_in_nI a3 (by decide)
    by_cases h2 : tp_i 0 200 p1
    · obtain ⟨T, T1, _, rfl⟩ := tp_i_nat h2
      by_cases h3 : tp_i 0 1000000 p2
      · obtain ⟨K, K1, _, rfl⟩ := tp_i_nat h3
        by_cases h4 : tp_i 0 4 p3
        · obtain ⟨xx, xx3, rfl⟩ := tp_i_lt (m := 5) h4 (by decide)
          have xxc : (nI xx).toNatClampNeg = xx := nI_clamp (by omega)
          have xxv : vp_in (nI xx) 5 := vp_in_nI xx3 (by decide)
          have room := tp_room hro (by omega) b3 b5
          repeat' (with_reducible first | refine tp_cT (by first | assumption | decide) ?_ | refine tp_cF (by first | assumption | decide) ?_ | refine tp_dT (by first | assumption | decide) ?_ | refine tp_dF (by first | assumption | decide) ?_ | refine And.intro (by first | assumption | decide) ?_ | refine tp_ae ?_)
          refine ⟨by omega, by omega, fun q q1 q2 => tp_ae (tp_ae ⟨q1, by rw [tp_nae (by decide)], tp_ae ?_⟩)⟩
          have h31 := fun (j : Nat) (hj : j < 4) => tp_nbd (x := M 104 a j) (by have := (hpr.1 a j a1 a3 hj).1; omega) (hpr.1 a j a1 a3 hj).2
          have h28 := fun (y s : Nat) (hy : y < 4) (hs : s < 4) => tp_nbd (x := M 159 y s) (hpr.2.2.2 y s hy hs).1 (hpr.2.2.2 y s hy hs).2
          rw [ac, show (nI T / 10 : Int32) = nI (T / 10) from pk_div (d := 10) (by omega) (by decide) (by decide), show (nI K / 10 : Int32) = nI (K / 10) from pk_div (d := 10) (by omega) (by decide) (by decide)]
          refine ⟨7, pl_92 (N := tq_na N (q + 1) 12 q 1 5) (S := S) (cs := fun j => (M 104 a j).toNatClampNeg) (pr := fun y s => (M 159 y s).toNatClampNeg) (B := fun j => if j = 0 then -1000000000 else 0) q1 (by rw [tp_nae (by decide)]) a3 xx3 (by omega) (by omega) (fun j hj => by rw [w6 a a1 a3]; exact (h31 j hj).1) (fun y s hy hs => by rw [y6]; exact (h28 y s hy hs).1) (fun j hj => by have := (h31 j hj).2; show (M 104 a j).toNatClampNeg ≤ 999; omega) (fun y s hy hs => by have := (h28 y s hy hs).2; show (M 159 y s).toNatClampNeg ≤ 999; omega) (fun S1 hS1 => ?_) 6 0 (by omega) _ ⟨fun k hk => by rw [tq_upk hk, tq_cpk hk], fun j hj => ?_⟩⟩
          · repeat' (with_reducible first | refine tp_cT (by first | assumption | decide) ?_ | refine tp_cF (by first | assumption | decide) ?_ | refine tp_dT (by first | assumption | decide) ?_ | refine tp_dF (by first | assumption | decide) ?_ | refine And.intro (by first | assumption | decide) ?_ | refine tp_ae ?_)
            refine ⟨1297, pl_ref (M := tq_up M 176 0 0 (-2147483648)) (cs := fun j => (M 104 a j).toNatClampNeg) (pr := fun y s => (M 159 y s).toNatClampNeg) (B := tq_up M 176 0 0 (-2147483648) 176 0) a3 xx3 (by omega) (by omega) (fun j hj => by rw [tq_upk (by decide)]; exact (h31 j hj).1) (fun y s hy hs => by rw [tq_upk (by decide)]; exact (h28 y s hy hs).1) (fun j hj => by have := (h31 j hj).2; show (M 104 a j).toNatClampNeg ≤ 999; omega) (fun y s hy hs => by have := (h28 y s hy hs).2; show (M 159 y s).toNatClampNeg ≤ 999; omega) (fun M1 hM1 => ⟨?_, ?_⟩) 1296 0 (by omega) _ (fun _ _ _ => rfl) (fun _ _ => rfl)⟩
            · have := pl_it1 (pl_first (cs := fun j => (M 104 a j).toNatClampNeg) (pr := fun y s => (M 159 y s).toNatClampNeg) (T := T) (K := K) (B := fun j => if j = 0 then (-1000000000 : Int32) else 0) (B2 := tq_up M 176 0 0 (-2147483648) 176 0) (by show (-1000000000 : Int32).toInt < 0; decide) (by rw [tq_upe]; decide)) 1295
              exact congrFun this _
            · have f1 := (h0.wk (c' := c + 1) (eb' := 5000 * d + (c + 1)) (by omega) (by omega) (by omega) (by omega)).fr (N1 := tq_na N (q + 1) 12 q 1 5) (S1 := S1) tp_mono_n12 (fun k i _ _ _ k12 => by rw [hS1 k k12]) (by rw [hS1 3 (by decide)]) (by
                obtain ⟨g1, g2, g3, g4⟩ := hro
                refine ⟨?_, ?_, ?_, g4⟩
                · rw [tp_na0]; omega
                · rw [tp_na1]; omega
                · rw [tp_na0]; omega)
              have f2 := f1.mf (M1 := M1) (fun j _ _ _ _ _ => by rw [hM1 64 (by decide) (by decide), tq_upk (by decide)]) (fun k _ _ _ _ _ _ _ k1 k2 => by rw [hM1 k k1 k2, tq_upk k2]) (fun n _ => by rw [hM1 117 (by decide) (by decide), tq_upk (by decide)]) (fun n _ => by rw [hM1 118 (by decide) (by decide), tq_upk (by decide)]) (fun n _ => by rw [hM1 119 (by decide) (by decide), tq_upk (by decide)])
              exact ⟨d, pn, P, Sh, V, E, A, t, r, G, C, OL, f2⟩
          · show tq_up (tq_cp S 12 q (fun _ => 0)) 12 q 0 (-1000000000) 12 q j = if j = 0 then -1000000000 else 0
            by_cases g : j = 0
            · rw [if_pos g, g, tq_upe]
            · rw [if_neg g, tq_upj g, tq_cpe]
        · repeat' (with_reducible first | refine tp_cT (by first | assumption | decide) ?_ | refine tp_cF (by first | assumption | decide) ?_ | refine tp_dT (by first | assumption | decide) ?_ | refine tp_dF (by first | assumption | decide) ?_ | refine And.intro (by first | assumption | decide) ?_ | refine tp_ae ?_)
          first | exact ⟨rfl, hT⟩ | exact hT
      · repeat' (with_reducible first | refine tp_cT (by first | assumption | decide) ?_ | refine tp_cF (by first | assumption | decide) ?_ | refine tp_dT (by first | assumption | decide) ?_ | refine tp_dF (by first | assumption | decide) ?_ | refine And.intro (by first | assumption | decide) ?_ | refine tp_ae ?_)
        first | exact ⟨rfl, hT⟩ | exact hT
    · repeat' (with_reducible first | refine tp_cT (by first | assumption | decide) ?_ | refine tp_cF (by first | assumption | decide) ?_ | refine tp_dT (by first | assumption | decide) ?_ | refine tp_dF (by first | assumption | decide) ?_ | refine And.intro (by first | assumption | decide) ?_ | refine tp_ae ?_)
      first | exact ⟨rfl, hT⟩ | exact hT
  · repeat' (with_reducible first | refine tp_cT (by first | assumption | decide) ?_ | refine tp_cF (by first | assumption | decide) ?_ | refine tp_dT (by first | assumption | decide) ?_ | refine tp_dF (by first | assumption | decide) ?_ | refine And.intro (by first | assumption | decide) ?_ | refine tp_ae ?_)
    first | exact ⟨rfl, hT⟩ | exact hT
