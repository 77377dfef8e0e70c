/-! pure: votes -/
def tp_bit (x : Int32) (i : Nat) : Int32 := (x >>> (nI i &&& 31)) &&& 1
theorem tp_bit01 (x : Int32) : x &&& 1 = 0 ∨ x &&& 1 = 1 := by
  have h : (x &&& 1).toBitVec = x.toBitVec &&& 1#32 := rfl
  have h2 : (x.toBitVec &&& 1#32) = 0#32 ∨ (x.toBitVec &&& 1#32) = 1#32 := by
    by_cases q : x.toBitVec.getLsbD 0
    · right
      apply BitVec.eq_of_getLsbD_eq
      intro i hi
      rw [BitVec.getLsbD_and]
      match i with
      | 0 => rw [q]; decide
      | i + 1 => simp
    · left
      apply BitVec.eq_of_getLsbD_eq
      intro i hi
      rw [BitVec.getLsbD_and]
      match i with
      | 0 => simp at q; simp [q]
      | i + 1 => simp
  rcases h2 with q | q
  · left; apply Int32.toBitVec_inj.mp; rw [h, q]; rfl
  · right; apply Int32.toBitVec_inj.mp; rw [h, q]; rfl
theorem tp_bit_c (x : Int32) (i : Nat) : tp_bit x i = 0 ∨ tp_bit x i = 1 := tp_bit01 _
noncomputable def tp_sit (M : tq_St) (p : Int32) (pn : Nat) : Int32 := tp_it (fun i a => a ||| (if M 107 0 i = p then 1 <<< (nI i &&& 31) else 0)) pn 0
noncomputable def tp_rk (M : tq_St) (x : Int32) (pn : Nat) : Int32 := tp_it (fun i a => a + (if tp_bit x i = 1 then M 108 0 i + 1 else 0)) pn 0
noncomputable def tp_hr (M : tq_St) (x : Int32) (pn : Nat) : Int32 := tp_it (fun i a => if tp_bit x i = 1 then (if a < M 108 0 i then M 108 0 i else a) else a) pn (-1)
section
variable {N : tq_Nn} {S M : tq_St} {post : tq_St → Int32 → Prop} {pn : Nat} {x : Int32}
theorem tp_sitM (hp : M 64 0 6 = nI pn) (hpn : pn ≤ 20) (h : post M (tp_sit M x pn)) : wpX12_sitting post M x := by
  refine ⟨pn + 1, ?_⟩
  refine tp_loop0 (W := fun m a i => wbX12_sitting_4 post m M x a (nI i)) (n := pn) (f := fun i a => a ||| (if M 107 0 i = x then 1 <<< (nI i &&& 31) else 0)) (s0 := 0) (fun m => ?_) (fun m i hi hw => ?_)
  · unfold wbX12_sitting_4
    exact tp_dT (by rw [hp]; exact nI_le (Nat.le_refl _) (by omega)) h
  · unfold wbX12_sitting_4 wbX12_sitting_30
    refine tp_dF (by rw [hp]; exact nI_ge hi (by omega)) ⟨vp_in_nI (by omega) (by decide), ?_⟩
    rw [nI_clamp (by omega), nI_1]
    simp only [tp_it] at hw
    by_cases e : M 107 0 i = x
    · rw [if_pos e] at hw; exact tp_cT e hw
    · rw [if_neg e] at hw; exact tp_cF e hw
theorem tp_sitS (hp : S 1 0 2 = nI pn) (hpn : pn ≤ 20) (e13 : S 13 = M 107) (h : post S (tp_sit M x pn)) : wpX11_personsAt N post S x := by
  refine ⟨pn + 1, ?_⟩
  refine tp_loop0 (W := fun m a i => wbX11_personsAt_4 N post m S x a (nI i)) (n := pn) (f := fun i a => a ||| (if M 107 0 i = x then 1 <<< (nI i &&& 31) else 0)) (s0 := 0) (fun m => ?_) (fun m i hi hw => ?_)
  · unfold wbX11_personsAt_4
    exact tp_dT (by rw [hp]; exact nI_le (Nat.le_refl _) (by omega)) h
  · unfold wbX11_personsAt_4 wbX11_personsAt_28
    refine tp_dF (by rw [hp]; exact nI_ge hi (by omega)) ⟨vp_in_nI (by omega) (by decide), ?_⟩
    rw [nI_clamp (by omega), nI_1, e13]
    simp only [tp_it] at hw
    by_cases e : M 107 0 i = x
    · rw [if_pos e] at hw; exact tp_cT e hw
    · rw [if_neg e, Int32.or_zero] at hw; exact tp_cF e hw
theorem tp_rkM (hp : M 64 0 6 = nI pn) (hpn : pn ≤ 20) (h : post M (tp_rk M x pn)) : wpX12_ranks post M x := by
  refine ⟨pn + 1, ?_⟩
  refine tp_loop0 (W := fun m a i => wbX12_ranks_4 post m M x a (nI i)) (n := pn) (f := fun i a => a + (if tp_bit x i = 1 then M 108 0 i + 1 else 0)) (s0 := 0) (fun m => ?_) (fun m i hi hw => ?_)
  · unfold wbX12_ranks_4
    exact tp_dT (by rw [hp]; exact nI_le (Nat.le_refl _) (by omega)) h
  · unfold wbX12_ranks_4 wbX12_ranks_34
    refine tp_dF (by rw [hp]; exact nI_ge hi (by omega)) ?_
    rw [nI_clamp (by omega), nI_1]
    simp only [tp_it] at hw
    by_cases e : tp_bit x i = 1
    · rw [if_pos e] at hw; exact tp_cT e ⟨vp_in_nI (by omega) (by decide), hw⟩
    · rw [if_neg e] at hw; exact tp_cF e hw
theorem tp_rkS (hp : S 1 0 2 = nI pn) (hpn : pn ≤ 20) (e14 : S 14 = M 108) (h : post S (tp_rk M x pn)) : wpX11_weightOf N post S x := by
  refine ⟨pn + 1, ?_⟩
  refine tp_loop0 (W := fun m a i => wbX11_weightOf_4 N post m S x a (nI i)) (n := pn) (f := fun i a => a + (if tp_bit x i = 1 then M 108 0 i + 1 else 0)) (s0 := 0) (fun m => ?_) (fun m i hi hw => ?_)
  · unfold wbX11_weightOf_4
    exact tp_dT (by rw [hp]; exact nI_le (Nat.le_refl _) (by omega)) h
  · unfold wbX11_weightOf_4 wbX11_weightOf_31
    refine tp_dF (by rw [hp]; exact nI_ge hi (by omega)) ?_
    rw [nI_clamp (by omega), nI_1, e14]
    simp only [tp_it] at hw
    rcases tp_bit_c x i with e | e
    · rw [if_neg (by rw [e]; decide), Int32.add_zero] at hw
      exact tp_dT e hw
    · rw [if_pos e] at hw
      exact tp_dF (fun z => absurd (e.symm.trans z) (by decide)) ⟨vp_in_nI (by omega) (by decide), hw⟩
theorem tp_hrM (hp : M 64 0 6 = nI pn) (hpn : pn ≤ 20) (h : post M (tp_hr M x pn)) : wpX12_greatestRank post M x := by
  refine ⟨pn + 1, ?_⟩
  refine tp_loop0 (W := fun m a i => wbX12_greatestRank_4 post m M x a (nI i)) (n := pn) (f := fun i a => if tp_bit x i = 1 then (if a < M 108 0 i then M 108 0 i else a) else a) (s0 := -1) (fun m => ?_) (fun m i hi hw => ?_)
  · unfold wbX12_greatestRank_4
    exact tp_dT (by rw [hp]; exact nI_le (Nat.le_refl _) (by omega)) h
  · unfold wbX12_greatestRank_4 wbX12_greatestRank_35
    refine tp_dF (by rw [hp]; exact nI_ge hi (by omega)) ?_
    rw [nI_clamp (by omega), nI_1]
    simp only [tp_it] at hw
    by_cases e : tp_bit x i = 1
    · rw [if_pos e] at hw; exact tp_cT e ⟨vp_in_nI (by omega) (by decide), hw⟩
    · rw [if_neg e] at hw; exact tp_cF e hw
theorem tp_hrS (hp : S 1 0 2 = nI pn) (hpn : pn ≤ 20) (e14 : S 14 = M 108) (h : post S (tp_hr M x pn)) : wpX11_greatestRank N post S x := by
  refine ⟨pn + 1, ?_⟩
  refine tp_loop0 (W := fun m a i => wbX11_greatestRank_4 N post m S x a (nI i)) (n := pn) (f := fun i a => if tp_bit x i = 1 then (if a < M 108 0 i then M 108 0 i else a) else a) (s0 := -1) (fun m => ?_) (fun m i hi hw => ?_)
  · unfold wbX11_greatestRank_4
    exact tp_dT (by rw [hp]; exact nI_le (Nat.le_refl _) (by omega)) h
  · unfold wbX11_greatestRank_4 wbX11_greatestRank_31
    refine tp_dF (by rw [hp]; exact nI_ge hi (by omega)) ?_
    rw [nI_clamp (by omega), nI_1, e14]
    simp only [tp_it] at hw
    rcases tp_bit_c x i with e | e
    · rw [if_neg (by rw [e]; decide)] at hw
      exact tp_dT e hw
    · rw [if_pos e] at hw
      exact tp_dF (fun z => absurd (e.symm.trans z) (by decide)) ⟨vp_in_nI (by omega) (by decide), hw⟩
end
