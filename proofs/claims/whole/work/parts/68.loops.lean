/-! pure: loops that count -/
def tp_it {σ : Type} (f : Nat → σ → σ) : Nat → σ → σ
  | 0, s => s
  | n + 1, s => f n (tp_it f n s)
theorem tp_loop {σ : Type} {W : Nat → σ → Nat → Prop} {n : Nat} {f : Nat → σ → σ} {s0 : σ} (hend : ∀ m, W (m + 1) (tp_it f n s0) n) (hstep : ∀ m i, i < n → W m (tp_it f (i + 1) s0) (i + 1) → W (m + 1) (tp_it f i s0) i) : ∀ k, k ≤ n → W (k + 1) (tp_it f (n - k) s0) (n - k)
  | 0, _ => hend 0
  | k + 1, h => by
    have e : n - k = n - (k + 1) + 1 := by omega
    refine hstep _ _ (by omega) ?_
    rw [← e]
    exact tp_loop hend hstep k (by omega)
theorem tp_loop0 {σ : Type} {W : Nat → σ → Nat → Prop} {n : Nat} {f : Nat → σ → σ} {s0 : σ} (hend : ∀ m, W (m + 1) (tp_it f n s0) n) (hstep : ∀ m i, i < n → W m (tp_it f (i + 1) s0) (i + 1) → W (m + 1) (tp_it f i s0) i) : W (n + 1) s0 0 := by
  have := tp_loop hend hstep n (Nat.le_refl n)
  rw [Nat.sub_self] at this
  exact this
theorem tp_it_sum {g : Nat → Int32} : ∀ {n : Nat}, tp_it (fun i (a : Int32) => a + g i) n 0 = bx_sum g n
  | 0 => rfl
  | n + 1 => by simp only [tp_it, bx_sum]; rw [tp_it_sum]
theorem tp_sum_cong {f g : Nat → Int32} : ∀ {n : Nat}, (∀ k, k < n → f k = g k) → bx_sum f n = bx_sum g n
  | 0, _ => rfl
  | n + 1, h => by simp only [bx_sum]; rw [tp_sum_cong (fun k hk => h k (by omega)), h n (by omega)]
theorem tp_sum_more {f : Nat → Int32} {m : Nat} : ∀ {n : Nat}, (∀ k, m ≤ k → k < m + n → f k = 0) → bx_sum f (m + n) = bx_sum f m
  | 0, _ => rfl
  | n + 1, h => by
    show bx_sum f (m + n) + f (m + n) = _
    rw [tp_sum_more (fun k h1 h2 => h k h1 (by omega)), h (m + n) (by omega) (by omega)]
    exact Int32.add_zero _
section
variable {N : tq_Nn} {S M : tq_St} {post : tq_St → Int32 → Prop}
theorem tp_balesOn {s : Nat} (hs : s < 8) (h : post M (bx_sum (M 127 s) 4)) : wpX12_balesOn post M (nI s) := by
  refine ⟨5, ?_⟩
  refine tp_loop0 (W := fun m a i => wbX12_balesOn_4 post m M (nI s) a (nI i)) (n := 4) (f := fun i a => a + M 127 s i) (s0 := 0) (fun m => ?_) (fun m i hi hw => ?_)
  · unfold wbX12_balesOn_4
    refine tp_dT (nI_le (a := 4) (b := 4) (by decide) (by decide)) ?_
    rw [tp_it_sum]; exact h
  · unfold wbX12_balesOn_4
    refine tp_dF (nI_ge (a := i) (b := 4) hi (by decide)) ⟨vp_in_nI hs (by decide), vp_in_nI hi (by decide), ?_⟩
    rw [nI_clamp (by omega), nI_clamp (by omega), nI_1]; exact hw
theorem tp_ownOn {s pn : Nat} (hs : s < 8) (hp : M 64 0 6 = nI pn) (hpn : pn ≤ 20) (h : post M (bx_sum (M 129 s) pn)) : wpX12_ownOn post M (nI s) := by
  refine ⟨pn + 1, ?_⟩
  refine tp_loop0 (W := fun m a i => wbX12_ownOn_4 post m M (nI s) a (nI i)) (n := pn) (f := fun i a => a + M 129 s i) (s0 := 0) (fun m => ?_) (fun m i hi hw => ?_)
  · unfold wbX12_ownOn_4
    refine tp_dT (by rw [hp]; exact nI_le (Nat.le_refl _) (by omega)) ?_
    rw [tp_it_sum]; exact h
  · unfold wbX12_ownOn_4
    refine tp_dF (by rw [hp]; exact nI_ge hi (by omega)) ⟨vp_in_nI hs (by decide), vp_in_nI (by omega) (by decide), ?_⟩
    rw [nI_clamp (by omega), nI_clamp (by omega), nI_1]; exact hw
theorem tp_free {s pn : Nat} (hs : s < 8) (hp : M 64 0 6 = nI pn) (hpn : pn ≤ 20) (h : post M (M 123 0 s - bx_sum (M 127 s) 4 - bx_sum (M 129 s) pn)) : wpX12_free post M (nI s) := by
  unfold wpX12_free
  refine ⟨vp_in_nI hs (by decide), tp_balesOn hs (tp_ownOn hs hp hpn ?_)⟩
  rw [nI_clamp (by omega)]; exact h
/-- ships at a place -/
noncomputable def tp_cnt (c : Nat → Prop) : Nat → Int32
  | 0 => 0
  | n + 1 => tp_cnt c n + tp_b (c n)
end
