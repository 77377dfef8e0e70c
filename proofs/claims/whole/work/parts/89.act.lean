/-! pure: taken, act -/
theorem ab_0 {post : tq_St → Int32 → Prop} {M : tq_St} (h : post M ((-1))) : wpX12_above post M (nI 0) := by
  unfold wpX12_above wbX12_above_37
  repeat' (with_reducible first | refine tp_cT (by decide) ?_ | refine tp_cF (by decide) ?_ | refine tp_dT (by decide) ?_ | refine tp_dF (by decide) ?_ | refine And.intro (by first | decide | (unfold vp_in; decide)) ?_ | fail)
  exact h
theorem bo_0_0 {post : tq_St → Int32 → Prop} {M : tq_St} (h : post M 10) : wpX12_bodyOf post M (nI 0) (nI 0) := by
  unfold wpX12_bodyOf
  repeat' (with_reducible first | refine tp_cT (by decide) ?_ | refine tp_cF (by decide) ?_ | refine tp_dT (by decide) ?_ | refine tp_dF (by decide) ?_ | refine And.intro (by first | decide | (unfold vp_in; decide)) ?_ | fail)
  exact h
theorem kb_0_0 {N : tq_Nn} {post : tq_St → Int32 → Prop} {S : tq_St} (h : post S (nI 0)) : wpX0_kindWithBody N post S (nI 0) (nI 0) := by
  refine ⟨1, ?_⟩
  unfold wbX0_kindWithBody_4
  repeat' (with_reducible first | refine tp_cT (by decide) ?_ | refine tp_cF (by decide) ?_ | refine tp_dT (by decide) ?_ | refine tp_dF (by decide) ?_ | refine And.intro (by first | decide | (unfold vp_in; decide)) ?_ | fail)
  exact h
theorem bo_0_1 {post : tq_St → Int32 → Prop} {M : tq_St} (h : post M 11) : wpX12_bodyOf post M (nI 0) (nI 1) := by
  unfold wpX12_bodyOf
  repeat' (with_reducible first | refine tp_cT (by decide) ?_ | refine tp_cF (by decide) ?_ | refine tp_dT (by decide) ?_ | refine tp_dF (by decide) ?_ | refine And.intro (by first | decide | (unfold vp_in; decide)) ?_ | fail)
  exact h
theorem kb_0_1 {N : tq_Nn} {post : tq_St → Int32 → Prop} {S : tq_St} (h : post S (nI 0)) : wpX0_kindWithBody N post S (nI 0) (nI 1) := by
  refine ⟨1, ?_⟩
  unfold wbX0_kindWithBody_4
  repeat' (with_reducible first | refine tp_cT (by decide) ?_ | refine tp_cF (by decide) ?_ | refine tp_dT (by decide) ?_ | refine tp_dF (by decide) ?_ | refine And.intro (by first | decide | (unfold vp_in; decide)) ?_ | fail)
  exact h
theorem bo_0_2 {post : tq_St → Int32 → Prop} {M : tq_St} (h : post M 12) : wpX12_bodyOf post M (nI 0) (nI 2) := by
  unfold wpX12_bodyOf
  repeat' (with_reducible first | refine tp_cT (by decide) ?_ | refine tp_cF (by decide) ?_ | refine tp_dT (by decide) ?_ | refine tp_dF (by decide) ?_ | refine And.intro (by first | decide | (unfold vp_in; decide)) ?_ | fail)
  exact h
theorem kb_0_2 {N : tq_Nn} {post : tq_St → Int32 → Prop} {S : tq_St} (h : post S (nI 0)) : wpX0_kindWithBody N post S (nI 0) (nI 2) := by
  refine ⟨1, ?_⟩
  unfold wbX0_kindWithBody_4
  repeat' (with_reducible first | refine tp_cT (by decide) ?_ | refine tp_cF (by decide) ?_ | refine tp_dT (by decide) ?_ | refine tp_dF (by decide) ?_ | refine And.intro (by first | decide | (unfold vp_in; decide)) ?_ | fail)
  exact h
theorem ab_1 {post : tq_St → Int32 → Prop} {M : tq_St} (h : post M (nI 0)) : wpX12_above post M (nI 1) := by
  unfold wpX12_above wbX12_above_37
  repeat' (with_reducible first | refine tp_cT (by decide) ?_ | refine tp_cF (by decide) ?_ | refine tp_dT (by decide) ?_ | refine tp_dF (by decide) ?_ | refine And.intro (by first | decide | (unfold vp_in; decide)) ?_ | fail)
  exact h
theorem bo_1_0 {post : tq_St → Int32 → Prop} {M : tq_St} (h : post M 0) : wpX12_bodyOf post M (nI 1) (nI 0) := by
  unfold wpX12_bodyOf
  repeat' (with_reducible first | refine tp_cT (by decide) ?_ | refine tp_cF (by decide) ?_ | refine tp_dT (by decide) ?_ | refine tp_dF (by decide) ?_ | refine And.intro (by first | decide | (unfold vp_in; decide)) ?_ | fail)
  exact h
theorem kb_1_0 {N : tq_Nn} {post : tq_St → Int32 → Prop} {S : tq_St} (h : post S (nI 0)) : wpX0_kindWithBody N post S (nI 1) (nI 0) := by
  refine ⟨2, ?_⟩
  unfold wbX0_kindWithBody_4
  repeat' (with_reducible first | refine tp_cT (by decide) ?_ | refine tp_cF (by decide) ?_ | refine tp_dT (by decide) ?_ | refine tp_dF (by decide) ?_ | refine And.intro (by first | decide | (unfold vp_in; decide)) ?_ | fail)
  rw [show tq_above.getD (nI 1).toNatClampNeg 0 = nI 0 from by decide]
  unfold wbX0_kindWithBody_4
  repeat' (with_reducible first | refine tp_cT (by decide) ?_ | refine tp_cF (by decide) ?_ | refine tp_dT (by decide) ?_ | refine tp_dF (by decide) ?_ | refine And.intro (by first | decide | (unfold vp_in; decide)) ?_ | fail)
  exact h
theorem bo_1_1 {post : tq_St → Int32 → Prop} {M : tq_St} (h : post M 20) : wpX12_bodyOf post M (nI 1) (nI 1) := by
  unfold wpX12_bodyOf
  repeat' (with_reducible first | refine tp_cT (by decide) ?_ | refine tp_cF (by decide) ?_ | refine tp_dT (by decide) ?_ | refine tp_dF (by decide) ?_ | refine And.intro (by first | decide | (unfold vp_in; decide)) ?_ | fail)
  exact h
theorem kb_1_1 {N : tq_Nn} {post : tq_St → Int32 → Prop} {S : tq_St} (h : post S (nI 1)) : wpX0_kindWithBody N post S (nI 1) (nI 1) := by
  refine ⟨1, ?_⟩
  unfold wbX0_kindWithBody_4
  repeat' (with_reducible first | refine tp_cT (by decide) ?_ | refine tp_cF (by decide) ?_ | refine tp_dT (by decide) ?_ | refine tp_dF (by decide) ?_ | refine And.intro (by first | decide | (unfold vp_in; decide)) ?_ | fail)
  exact h
theorem bo_1_2 {post : tq_St → Int32 → Prop} {M : tq_St} (h : post M 0) : wpX12_bodyOf post M (nI 1) (nI 2) := by
  unfold wpX12_bodyOf
  repeat' (with_reducible first | refine tp_cT (by decide) ?_ | refine tp_cF (by decide) ?_ | refine tp_dT (by decide) ?_ | refine tp_dF (by decide) ?_ | refine And.intro (by first | decide | (unfold vp_in; decide)) ?_ | fail)
  exact h
theorem kb_1_2 {N : tq_Nn} {post : tq_St → Int32 → Prop} {S : tq_St} (h : post S (nI 0)) : wpX0_kindWithBody N post S (nI 1) (nI 2) := by
  refine ⟨2, ?_⟩
  unfold wbX0_kindWithBody_4
  repeat' (with_reducible first | refine tp_cT (by decide) ?_ | refine tp_cF (by decide) ?_ | refine tp_dT (by decide) ?_ | refine tp_dF (by decide) ?_ | refine And.intro (by first | decide | (unfold vp_in; decide)) ?_ | fail)
  rw [show tq_above.getD (nI 1).toNatClampNeg 0 = nI 0 from by decide]
  unfold wbX0_kindWithBody_4
  repeat' (with_reducible first | refine tp_cT (by decide) ?_ | refine tp_cF (by decide) ?_ | refine tp_dT (by decide) ?_ | refine tp_dF (by decide) ?_ | refine And.intro (by first | decide | (unfold vp_in; decide)) ?_ | fail)
  exact h
theorem ab_2 {post : tq_St → Int32 → Prop} {M : tq_St} (h : post M (nI 1)) : wpX12_above post M (nI 2) := by
  unfold wpX12_above wbX12_above_37
  repeat' (with_reducible first | refine tp_cT (by decide) ?_ | refine tp_cF (by decide) ?_ | refine tp_dT (by decide) ?_ | refine tp_dF (by decide) ?_ | refine And.intro (by first | decide | (unfold vp_in; decide)) ?_ | fail)
  exact h
theorem bo_2_0 {post : tq_St → Int32 → Prop} {M : tq_St} (h : post M 30) : wpX12_bodyOf post M (nI 2) (nI 0) := by
  unfold wpX12_bodyOf
  repeat' (with_reducible first | refine tp_cT (by decide) ?_ | refine tp_cF (by decide) ?_ | refine tp_dT (by decide) ?_ | refine tp_dF (by decide) ?_ | refine And.intro (by first | decide | (unfold vp_in; decide)) ?_ | fail)
  exact h
theorem kb_2_0 {N : tq_Nn} {post : tq_St → Int32 → Prop} {S : tq_St} (h : post S (nI 2)) : wpX0_kindWithBody N post S (nI 2) (nI 0) := by
  refine ⟨1, ?_⟩
  unfold wbX0_kindWithBody_4
  repeat' (with_reducible first | refine tp_cT (by decide) ?_ | refine tp_cF (by decide) ?_ | refine tp_dT (by decide) ?_ | refine tp_dF (by decide) ?_ | refine And.intro (by first | decide | (unfold vp_in; decide)) ?_ | fail)
  exact h
theorem bo_2_1 {post : tq_St → Int32 → Prop} {M : tq_St} (h : post M 0) : wpX12_bodyOf post M (nI 2) (nI 1) := by
  unfold wpX12_bodyOf
  repeat' (with_reducible first | refine tp_cT (by decide) ?_ | refine tp_cF (by decide) ?_ | refine tp_dT (by decide) ?_ | refine tp_dF (by decide) ?_ | refine And.intro (by first | decide | (unfold vp_in; decide)) ?_ | fail)
  exact h
theorem kb_2_1 {N : tq_Nn} {post : tq_St → Int32 → Prop} {S : tq_St} (h : post S (nI 1)) : wpX0_kindWithBody N post S (nI 2) (nI 1) := by
  refine ⟨2, ?_⟩
  unfold wbX0_kindWithBody_4
  repeat' (with_reducible first | refine tp_cT (by decide) ?_ | refine tp_cF (by decide) ?_ | refine tp_dT (by decide) ?_ | refine tp_dF (by decide) ?_ | refine And.intro (by first | decide | (unfold vp_in; decide)) ?_ | fail)
  rw [show tq_above.getD (nI 2).toNatClampNeg 0 = nI 1 from by decide]
  unfold wbX0_kindWithBody_4
  repeat' (with_reducible first | refine tp_cT (by decide) ?_ | refine tp_cF (by decide) ?_ | refine tp_dT (by decide) ?_ | refine tp_dF (by decide) ?_ | refine And.intro (by first | decide | (unfold vp_in; decide)) ?_ | fail)
  exact h
theorem bo_2_2 {post : tq_St → Int32 → Prop} {M : tq_St} (h : post M 0) : wpX12_bodyOf post M (nI 2) (nI 2) := by
  unfold wpX12_bodyOf
  repeat' (with_reducible first | refine tp_cT (by decide) ?_ | refine tp_cF (by decide) ?_ | refine tp_dT (by decide) ?_ | refine tp_dF (by decide) ?_ | refine And.intro (by first | decide | (unfold vp_in; decide)) ?_ | fail)
  exact h
theorem kb_2_2 {N : tq_Nn} {post : tq_St → Int32 → Prop} {S : tq_St} (h : post S (nI 0)) : wpX0_kindWithBody N post S (nI 2) (nI 2) := by
  refine ⟨3, ?_⟩
  unfold wbX0_kindWithBody_4
  repeat' (with_reducible first | refine tp_cT (by decide) ?_ | refine tp_cF (by decide) ?_ | refine tp_dT (by decide) ?_ | refine tp_dF (by decide) ?_ | refine And.intro (by first | decide | (unfold vp_in; decide)) ?_ | fail)
  rw [show tq_above.getD (nI 2).toNatClampNeg 0 = nI 1 from by decide]
  unfold wbX0_kindWithBody_4
  repeat' (with_reducible first | refine tp_cT (by decide) ?_ | refine tp_cF (by decide) ?_ | refine tp_dT (by decide) ?_ | refine tp_dF (by decide) ?_ | refine And.intro (by first | decide | (unfold vp_in; decide)) ?_ | fail)
  rw [show tq_above.getD (nI 1).toNatClampNeg 0 = nI 0 from by decide]
  unfold wbX0_kindWithBody_4
  repeat' (with_reducible first | refine tp_cT (by decide) ?_ | refine tp_cF (by decide) ?_ | refine tp_dT (by decide) ?_ | refine tp_dF (by decide) ?_ | refine And.intro (by first | decide | (unfold vp_in; decide)) ?_ | fail)
  exact h
theorem ab_3 {post : tq_St → Int32 → Prop} {M : tq_St} (h : post M (nI 1)) : wpX12_above post M (nI 3) := by
  unfold wpX12_above wbX12_above_37
  repeat' (with_reducible first | refine tp_cT (by decide) ?_ | refine tp_cF (by decide) ?_ | refine tp_dT (by decide) ?_ | refine tp_dF (by decide) ?_ | refine And.intro (by first | decide | (unfold vp_in; decide)) ?_ | fail)
  exact h
theorem bo_3_0 {post : tq_St → Int32 → Prop} {M : tq_St} (h : post M 0) : wpX12_bodyOf post M (nI 3) (nI 0) := by
  unfold wpX12_bodyOf
  repeat' (with_reducible first | refine tp_cT (by decide) ?_ | refine tp_cF (by decide) ?_ | refine tp_dT (by decide) ?_ | refine tp_dF (by decide) ?_ | refine And.intro (by first | decide | (unfold vp_in; decide)) ?_ | fail)
  exact h
theorem kb_3_0 {N : tq_Nn} {post : tq_St → Int32 → Prop} {S : tq_St} (h : post S (nI 0)) : wpX0_kindWithBody N post S (nI 3) (nI 0) := by
  refine ⟨3, ?_⟩
  unfold wbX0_kindWithBody_4
  repeat' (with_reducible first | refine tp_cT (by decide) ?_ | refine tp_cF (by decide) ?_ | refine tp_dT (by decide) ?_ | refine tp_dF (by decide) ?_ | refine And.intro (by first | decide | (unfold vp_in; decide)) ?_ | fail)
  rw [show tq_above.getD (nI 3).toNatClampNeg 0 = nI 1 from by decide]
  unfold wbX0_kindWithBody_4
  repeat' (with_reducible first | refine tp_cT (by decide) ?_ | refine tp_cF (by decide) ?_ | refine tp_dT (by decide) ?_ | refine tp_dF (by decide) ?_ | refine And.intro (by first | decide | (unfold vp_in; decide)) ?_ | fail)
  rw [show tq_above.getD (nI 1).toNatClampNeg 0 = nI 0 from by decide]
  unfold wbX0_kindWithBody_4
  repeat' (with_reducible first | refine tp_cT (by decide) ?_ | refine tp_cF (by decide) ?_ | refine tp_dT (by decide) ?_ | refine tp_dF (by decide) ?_ | refine And.intro (by first | decide | (unfold vp_in; decide)) ?_ | fail)
  exact h
theorem bo_3_1 {post : tq_St → Int32 → Prop} {M : tq_St} (h : post M 0) : wpX12_bodyOf post M (nI 3) (nI 1) := by
  unfold wpX12_bodyOf
  repeat' (with_reducible first | refine tp_cT (by decide) ?_ | refine tp_cF (by decide) ?_ | refine tp_dT (by decide) ?_ | refine tp_dF (by decide) ?_ | refine And.intro (by first | decide | (unfold vp_in; decide)) ?_ | fail)
  exact h
theorem kb_3_1 {N : tq_Nn} {post : tq_St → Int32 → Prop} {S : tq_St} (h : post S (nI 1)) : wpX0_kindWithBody N post S (nI 3) (nI 1) := by
  refine ⟨2, ?_⟩
  unfold wbX0_kindWithBody_4
  repeat' (with_reducible first | refine tp_cT (by decide) ?_ | refine tp_cF (by decide) ?_ | refine tp_dT (by decide) ?_ | refine tp_dF (by decide) ?_ | refine And.intro (by first | decide | (unfold vp_in; decide)) ?_ | fail)
  rw [show tq_above.getD (nI 3).toNatClampNeg 0 = nI 1 from by decide]
  unfold wbX0_kindWithBody_4
  repeat' (with_reducible first | refine tp_cT (by decide) ?_ | refine tp_cF (by decide) ?_ | refine tp_dT (by decide) ?_ | refine tp_dF (by decide) ?_ | refine And.intro (by first | decide | (unfold vp_in; decide)) ?_ | fail)
  exact h
theorem bo_3_2 {post : tq_St → Int32 → Prop} {M : tq_St} (h : post M 40) : wpX12_bodyOf post M (nI 3) (nI 2) := by
  unfold wpX12_bodyOf
  repeat' (with_reducible first | refine tp_cT (by decide) ?_ | refine tp_cF (by decide) ?_ | refine tp_dT (by decide) ?_ | refine tp_dF (by decide) ?_ | refine And.intro (by first | decide | (unfold vp_in; decide)) ?_ | fail)
  exact h
theorem kb_3_2 {N : tq_Nn} {post : tq_St → Int32 → Prop} {S : tq_St} (h : post S (nI 3)) : wpX0_kindWithBody N post S (nI 3) (nI 2) := by
  refine ⟨1, ?_⟩
  unfold wbX0_kindWithBody_4
  repeat' (with_reducible first | refine tp_cT (by decide) ?_ | refine tp_cF (by decide) ?_ | refine tp_dT (by decide) ?_ | refine tp_dF (by decide) ?_ | refine And.intro (by first | decide | (unfold vp_in; decide)) ?_ | fail)
  exact h
theorem ab_4 {post : tq_St → Int32 → Prop} {M : tq_St} (h : post M (nI 1)) : wpX12_above post M (nI 4) := by
  unfold wpX12_above wbX12_above_37
  repeat' (with_reducible first | refine tp_cT (by decide) ?_ | refine tp_cF (by decide) ?_ | refine tp_dT (by decide) ?_ | refine tp_dF (by decide) ?_ | refine And.intro (by first | decide | (unfold vp_in; decide)) ?_ | fail)
  exact h
theorem bo_4_0 {post : tq_St → Int32 → Prop} {M : tq_St} (h : post M 0) : wpX12_bodyOf post M (nI 4) (nI 0) := by
  unfold wpX12_bodyOf
  repeat' (with_reducible first | refine tp_cT (by decide) ?_ | refine tp_cF (by decide) ?_ | refine tp_dT (by decide) ?_ | refine tp_dF (by decide) ?_ | refine And.intro (by first | decide | (unfold vp_in; decide)) ?_ | fail)
  exact h
theorem kb_4_0 {N : tq_Nn} {post : tq_St → Int32 → Prop} {S : tq_St} (h : post S (nI 0)) : wpX0_kindWithBody N post S (nI 4) (nI 0) := by
  refine ⟨3, ?_⟩
  unfold wbX0_kindWithBody_4
  repeat' (with_reducible first | refine tp_cT (by decide) ?_ | refine tp_cF (by decide) ?_ | refine tp_dT (by decide) ?_ | refine tp_dF (by decide) ?_ | refine And.intro (by first | decide | (unfold vp_in; decide)) ?_ | fail)
  rw [show tq_above.getD (nI 4).toNatClampNeg 0 = nI 1 from by decide]
  unfold wbX0_kindWithBody_4
  repeat' (with_reducible first | refine tp_cT (by decide) ?_ | refine tp_cF (by decide) ?_ | refine tp_dT (by decide) ?_ | refine tp_dF (by decide) ?_ | refine And.intro (by first | decide | (unfold vp_in; decide)) ?_ | fail)
  rw [show tq_above.getD (nI 1).toNatClampNeg 0 = nI 0 from by decide]
  unfold wbX0_kindWithBody_4
  repeat' (with_reducible first | refine tp_cT (by decide) ?_ | refine tp_cF (by decide) ?_ | refine tp_dT (by decide) ?_ | refine tp_dF (by decide) ?_ | refine And.intro (by first | decide | (unfold vp_in; decide)) ?_ | fail)
  exact h
theorem bo_4_1 {post : tq_St → Int32 → Prop} {M : tq_St} (h : post M 0) : wpX12_bodyOf post M (nI 4) (nI 1) := by
  unfold wpX12_bodyOf
  repeat' (with_reducible first | refine tp_cT (by decide) ?_ | refine tp_cF (by decide) ?_ | refine tp_dT (by decide) ?_ | refine tp_dF (by decide) ?_ | refine And.intro (by first | decide | (unfold vp_in; decide)) ?_ | fail)
  exact h
theorem kb_4_1 {N : tq_Nn} {post : tq_St → Int32 → Prop} {S : tq_St} (h : post S (nI 1)) : wpX0_kindWithBody N post S (nI 4) (nI 1) := by
  refine ⟨2, ?_⟩
  unfold wbX0_kindWithBody_4
  repeat' (with_reducible first | refine tp_cT (by decide) ?_ | refine tp_cF (by decide) ?_ | refine tp_dT (by decide) ?_ | refine tp_dF (by decide) ?_ | refine And.intro (by first | decide | (unfold vp_in; decide)) ?_ | fail)
  rw [show tq_above.getD (nI 4).toNatClampNeg 0 = nI 1 from by decide]
  unfold wbX0_kindWithBody_4
  repeat' (with_reducible first | refine tp_cT (by decide) ?_ | refine tp_cF (by decide) ?_ | refine tp_dT (by decide) ?_ | refine tp_dF (by decide) ?_ | refine And.intro (by first | decide | (unfold vp_in; decide)) ?_ | fail)
  exact h
theorem bo_4_2 {post : tq_St → Int32 → Prop} {M : tq_St} (h : post M 50) : wpX12_bodyOf post M (nI 4) (nI 2) := by
  unfold wpX12_bodyOf
  repeat' (with_reducible first | refine tp_cT (by decide) ?_ | refine tp_cF (by decide) ?_ | refine tp_dT (by decide) ?_ | refine tp_dF (by decide) ?_ | refine And.intro (by first | decide | (unfold vp_in; decide)) ?_ | fail)
  exact h
theorem kb_4_2 {N : tq_Nn} {post : tq_St → Int32 → Prop} {S : tq_St} (h : post S (nI 4)) : wpX0_kindWithBody N post S (nI 4) (nI 2) := by
  refine ⟨1, ?_⟩
  unfold wbX0_kindWithBody_4
  repeat' (with_reducible first | refine tp_cT (by decide) ?_ | refine tp_cF (by decide) ?_ | refine tp_dT (by decide) ?_ | refine tp_dF (by decide) ?_ | refine And.intro (by first | decide | (unfold vp_in; decide)) ?_ | fail)
  exact h
theorem ab_5 {post : tq_St → Int32 → Prop} {M : tq_St} (h : post M (nI 4)) : wpX12_above post M (nI 5) := by
  unfold wpX12_above wbX12_above_37
  repeat' (with_reducible first | refine tp_cT (by decide) ?_ | refine tp_cF (by decide) ?_ | refine tp_dT (by decide) ?_ | refine tp_dF (by decide) ?_ | refine And.intro (by first | decide | (unfold vp_in; decide)) ?_ | fail)
  exact h
theorem bo_5_0 {post : tq_St → Int32 → Prop} {M : tq_St} (h : post M 0) : wpX12_bodyOf post M (nI 5) (nI 0) := by
  unfold wpX12_bodyOf
  repeat' (with_reducible first | refine tp_cT (by decide) ?_ | refine tp_cF (by decide) ?_ | refine tp_dT (by decide) ?_ | refine tp_dF (by decide) ?_ | refine And.intro (by first | decide | (unfold vp_in; decide)) ?_ | fail)
  exact h
theorem kb_5_0 {N : tq_Nn} {post : tq_St → Int32 → Prop} {S : tq_St} (h : post S (nI 0)) : wpX0_kindWithBody N post S (nI 5) (nI 0) := by
  refine ⟨4, ?_⟩
  unfold wbX0_kindWithBody_4
  repeat' (with_reducible first | refine tp_cT (by decide) ?_ | refine tp_cF (by decide) ?_ | refine tp_dT (by decide) ?_ | refine tp_dF (by decide) ?_ | refine And.intro (by first | decide | (unfold vp_in; decide)) ?_ | fail)
  rw [show tq_above.getD (nI 5).toNatClampNeg 0 = nI 4 from by decide]
  unfold wbX0_kindWithBody_4
  repeat' (with_reducible first | refine tp_cT (by decide) ?_ | refine tp_cF (by decide) ?_ | refine tp_dT (by decide) ?_ | refine tp_dF (by decide) ?_ | refine And.intro (by first | decide | (unfold vp_in; decide)) ?_ | fail)
  rw [show tq_above.getD (nI 4).toNatClampNeg 0 = nI 1 from by decide]
  unfold wbX0_kindWithBody_4
  repeat' (with_reducible first | refine tp_cT (by decide) ?_ | refine tp_cF (by decide) ?_ | refine tp_dT (by decide) ?_ | refine tp_dF (by decide) ?_ | refine And.intro (by first | decide | (unfold vp_in; decide)) ?_ | fail)
  rw [show tq_above.getD (nI 1).toNatClampNeg 0 = nI 0 from by decide]
  unfold wbX0_kindWithBody_4
  repeat' (with_reducible first | refine tp_cT (by decide) ?_ | refine tp_cF (by decide) ?_ | refine tp_dT (by decide) ?_ | refine tp_dF (by decide) ?_ | refine And.intro (by first | decide | (unfold vp_in; decide)) ?_ | fail)
  exact h
theorem bo_5_1 {post : tq_St → Int32 → Prop} {M : tq_St} (h : post M 60) : wpX12_bodyOf post M (nI 5) (nI 1) := by
  unfold wpX12_bodyOf
  repeat' (with_reducible first | refine tp_cT (by decide) ?_ | refine tp_cF (by decide) ?_ | refine tp_dT (by decide) ?_ | refine tp_dF (by decide) ?_ | refine And.intro (by first | decide | (unfold vp_in; decide)) ?_ | fail)
  exact h
theorem kb_5_1 {N : tq_Nn} {post : tq_St → Int32 → Prop} {S : tq_St} (h : post S (nI 5)) : wpX0_kindWithBody N post S (nI 5) (nI 1) := by
  refine ⟨1, ?_⟩
  unfold wbX0_kindWithBody_4
  repeat' (with_reducible first | refine tp_cT (by decide) ?_ | refine tp_cF (by decide) ?_ | refine tp_dT (by decide) ?_ | refine tp_dF (by decide) ?_ | refine And.intro (by first | decide | (unfold vp_in; decide)) ?_ | fail)
  exact h
theorem bo_5_2 {post : tq_St → Int32 → Prop} {M : tq_St} (h : post M 61) : wpX12_bodyOf post M (nI 5) (nI 2) := by
  unfold wpX12_bodyOf
  repeat' (with_reducible first | refine tp_cT (by decide) ?_ | refine tp_cF (by decide) ?_ | refine tp_dT (by decide) ?_ | refine tp_dF (by decide) ?_ | refine And.intro (by first | decide | (unfold vp_in; decide)) ?_ | fail)
  exact h
theorem kb_5_2 {N : tq_Nn} {post : tq_St → Int32 → Prop} {S : tq_St} (h : post S (nI 5)) : wpX0_kindWithBody N post S (nI 5) (nI 2) := by
  refine ⟨1, ?_⟩
  unfold wbX0_kindWithBody_4
  repeat' (with_reducible first | refine tp_cT (by decide) ?_ | refine tp_cF (by decide) ?_ | refine tp_dT (by decide) ?_ | refine tp_dF (by decide) ?_ | refine And.intro (by first | decide | (unfold vp_in; decide)) ?_ | fail)
  exact h
theorem ab_6 {post : tq_St → Int32 → Prop} {M : tq_St} (h : post M (nI 3)) : wpX12_above post M (nI 6) := by
  unfold wpX12_above wbX12_above_37
  repeat' (with_reducible first | refine tp_cT (by decide) ?_ | refine tp_cF (by decide) ?_ | refine tp_dT (by decide) ?_ | refine tp_dF (by decide) ?_ | refine And.intro (by first | decide | (unfold vp_in; decide)) ?_ | fail)
  exact h
theorem bo_6_0 {post : tq_St → Int32 → Prop} {M : tq_St} (h : post M 70) : wpX12_bodyOf post M (nI 6) (nI 0) := by
  unfold wpX12_bodyOf
  repeat' (with_reducible first | refine tp_cT (by decide) ?_ | refine tp_cF (by decide) ?_ | refine tp_dT (by decide) ?_ | refine tp_dF (by decide) ?_ | refine And.intro (by first | decide | (unfold vp_in; decide)) ?_ | fail)
  exact h
theorem kb_6_0 {N : tq_Nn} {post : tq_St → Int32 → Prop} {S : tq_St} (h : post S (nI 6)) : wpX0_kindWithBody N post S (nI 6) (nI 0) := by
  refine ⟨1, ?_⟩
  unfold wbX0_kindWithBody_4
  repeat' (with_reducible first | refine tp_cT (by decide) ?_ | refine tp_cF (by decide) ?_ | refine tp_dT (by decide) ?_ | refine tp_dF (by decide) ?_ | refine And.intro (by first | decide | (unfold vp_in; decide)) ?_ | fail)
  exact h
theorem bo_6_1 {post : tq_St → Int32 → Prop} {M : tq_St} (h : post M 0) : wpX12_bodyOf post M (nI 6) (nI 1) := by
  unfold wpX12_bodyOf
  repeat' (with_reducible first | refine tp_cT (by decide) ?_ | refine tp_cF (by decide) ?_ | refine tp_dT (by decide) ?_ | refine tp_dF (by decide) ?_ | refine And.intro (by first | decide | (unfold vp_in; decide)) ?_ | fail)
  exact h
theorem kb_6_1 {N : tq_Nn} {post : tq_St → Int32 → Prop} {S : tq_St} (h : post S (nI 1)) : wpX0_kindWithBody N post S (nI 6) (nI 1) := by
  refine ⟨3, ?_⟩
  unfold wbX0_kindWithBody_4
  repeat' (with_reducible first | refine tp_cT (by decide) ?_ | refine tp_cF (by decide) ?_ | refine tp_dT (by decide) ?_ | refine tp_dF (by decide) ?_ | refine And.intro (by first | decide | (unfold vp_in; decide)) ?_ | fail)
  rw [show tq_above.getD (nI 6).toNatClampNeg 0 = nI 3 from by decide]
  unfold wbX0_kindWithBody_4
  repeat' (with_reducible first | refine tp_cT (by decide) ?_ | refine tp_cF (by decide) ?_ | refine tp_dT (by decide) ?_ | refine tp_dF (by decide) ?_ | refine And.intro (by first | decide | (unfold vp_in; decide)) ?_ | fail)
  rw [show tq_above.getD (nI 3).toNatClampNeg 0 = nI 1 from by decide]
  unfold wbX0_kindWithBody_4
  repeat' (with_reducible first | refine tp_cT (by decide) ?_ | refine tp_cF (by decide) ?_ | refine tp_dT (by decide) ?_ | refine tp_dF (by decide) ?_ | refine And.intro (by first | decide | (unfold vp_in; decide)) ?_ | fail)
  exact h
theorem bo_6_2 {post : tq_St → Int32 → Prop} {M : tq_St} (h : post M 0) : wpX12_bodyOf post M (nI 6) (nI 2) := by
  unfold wpX12_bodyOf
  repeat' (with_reducible first | refine tp_cT (by decide) ?_ | refine tp_cF (by decide) ?_ | refine tp_dT (by decide) ?_ | refine tp_dF (by decide) ?_ | refine And.intro (by first | decide | (unfold vp_in; decide)) ?_ | fail)
  exact h
theorem kb_6_2 {N : tq_Nn} {post : tq_St → Int32 → Prop} {S : tq_St} (h : post S (nI 3)) : wpX0_kindWithBody N post S (nI 6) (nI 2) := by
  refine ⟨2, ?_⟩
  unfold wbX0_kindWithBody_4
  repeat' (with_reducible first | refine tp_cT (by decide) ?_ | refine tp_cF (by decide) ?_ | refine tp_dT (by decide) ?_ | refine tp_dF (by decide) ?_ | refine And.intro (by first | decide | (unfold vp_in; decide)) ?_ | fail)
  rw [show tq_above.getD (nI 6).toNatClampNeg 0 = nI 3 from by decide]
  unfold wbX0_kindWithBody_4
  repeat' (with_reducible first | refine tp_cT (by decide) ?_ | refine tp_cF (by decide) ?_ | refine tp_dT (by decide) ?_ | refine tp_dF (by decide) ?_ | refine And.intro (by first | decide | (unfold vp_in; decide)) ?_ | fail)
  exact h
noncomputable def tbS (S : tq_St) (b : Int32) : tq_St := tq_up (if 20 ≤ S 5 0 1 then S else tq_up S 48 0 (S 5 0 1).toNatClampNeg b) 5 0 1 (S 5 0 1 + 1)
noncomputable def tbM (M : tq_St) (b : Int32) : tq_St := tq_up (if 20 ≤ M 64 0 66 then M else tq_up M 165 0 (M 64 0 66).toNatClampNeg b) 64 0 66 (M 64 0 66 + 1)
noncomputable def tbsS : List Int32 → tq_St → tq_St
  | [], S => S
  | b :: l, S => tbsS l (tbS S b)
noncomputable def tbsM : List Int32 → tq_St → tq_St
  | [], M => M
  | b :: l, M => tbsM l (tbM M b)
theorem tbS_k {S : tq_St} {b : Int32} {k : Nat} (h1 : k ≠ 48) (h2 : k ≠ 5) : tbS S b k = S k := by
  unfold tbS
  rw [tq_upk h2]
  by_cases q : 20 ≤ S 5 0 1
  · rw [if_pos q]
  · rw [if_neg q, tq_upk h1]
theorem tbM_k {M : tq_St} {b : Int32} {k : Nat} (h1 : k ≠ 165) (h2 : k ≠ 64) : tbM M b k = M k := by
  unfold tbM
  rw [tq_upk h2]
  by_cases q : 20 ≤ M 64 0 66
  · rw [if_pos q]
  · rw [if_neg q, tq_upk h1]
theorem tbS_r {S : tq_St} {b : Int32} {r : Nat} (h : S 5 0 1 = nI r) : tbS S b 5 0 1 = nI (r + 1) := by
  unfold tbS
  rw [tq_upe, h, nI_1]
theorem tbM_r {M : tq_St} {b : Int32} {r : Nat} (h : M 64 0 66 = nI r) : tbM M b 64 0 66 = nI (r + 1) := by
  unfold tbM
  rw [tq_upe, h, nI_1]
theorem tbsS_k {k : Nat} (h1 : k ≠ 48) (h2 : k ≠ 5) : ∀ {l : List Int32} {S : tq_St}, tbsS l S k = S k
  | [], _ => rfl
  | _ :: _, _ => by unfold tbsS; rw [tbsS_k h1 h2, tbS_k h1 h2]
theorem tbsM_k {k : Nat} (h1 : k ≠ 165) (h2 : k ≠ 64) : ∀ {l : List Int32} {M : tq_St}, tbsM l M k = M k
  | [], _ => rfl
  | _ :: _, _ => by unfold tbsM; rw [tbsM_k h1 h2, tbM_k h1 h2]
theorem tbsS_r : ∀ {l : List Int32} {S : tq_St} {r : Nat}, S 5 0 1 = nI r → tbsS l S 5 0 1 = nI (r + l.length)
  | [], _, _, h => h
  | b :: l, S, r, h => by unfold tbsS; rw [tbsS_r (tbS_r h)]; congr 1; simp; omega
theorem tbsM_r : ∀ {l : List Int32} {M : tq_St} {r : Nat}, M 64 0 66 = nI r → tbsM l M 64 0 66 = nI (r + l.length)
  | [], _, _, h => h
  | b :: l, M, r, h => by unfold tbsM; rw [tbsM_r (tbM_r h)]; congr 1; simp; omega
theorem tbsS_app : ∀ {l k : List Int32} {S : tq_St}, tbsS (l ++ k) S = tbsS k (tbsS l S)
  | [], _, _ => rfl
  | b :: l, k, S => by rw [List.cons_append]; show tbsS (l ++ k) (tbS S b) = tbsS k (tbsS l (tbS S b)); exact tbsS_app
theorem tbsM_app : ∀ {l k : List Int32} {M : tq_St}, tbsM (l ++ k) M = tbsM k (tbsM l M)
  | [], _, _ => rfl
  | b :: l, k, S => by rw [List.cons_append]; show tbsM (l ++ k) (tbM S b) = tbsM k (tbsM l (tbM S b)); exact tbsM_app
theorem tp_begS {N : tq_Nn} {post : tq_St → Prop} {S : tq_St} {r : Nat} {b : Int32} (h5 : S 5 0 1 = nI r) (hr : r ≤ 100) (h : post (tbS S b)) : wpX0_begins N post S b := by
  unfold wpX0_begins wbX0_begins_19
  by_cases q : 20 ≤ S 5 0 1
  · unfold tbS at h
    rw [if_pos q] at h
    exact tp_dT q (tp_ae h)
  · unfold tbS at h
    rw [if_neg q] at h
    refine tp_dF q ⟨?_, tp_ae (tp_ae ?_)⟩
    · rw [h5] at q ⊢
      refine vp_in_nI ?_ (by decide)
      refine Nat.lt_of_not_le (fun z => q (nI_le z (by omega)))
    · rw [tq_upk (by decide)]; exact h
theorem tp_begM {F : tq_St → Prop} {M : tq_St} {r : Nat} {b : Int32} (h5 : M 64 0 66 = nI r) (hr : r ≤ 100) (h : F (tbM M b)) : (20 ≤ M 64 0 66 → ∀ M11, M11 = tq_up M 64 0 66 ((M 64 0 66) + 1) → F M11) ∧ (¬ 20 ≤ M 64 0 66 → vp_in (M 64 0 66) 20 ∧ ∀ M8, M8 = tq_up M 165 0 ((M 64 0 66).toNatClampNeg) b → ∀ M11, M11 = tq_up M8 64 0 66 ((M8 64 0 66) + 1) → F M11) := by
  by_cases q : 20 ≤ M 64 0 66
  · unfold tbM at h
    rw [if_pos q] at h
    exact tp_dT q (tp_ae h)
  · unfold tbM at h
    rw [if_neg q] at h
    refine tp_dF q ⟨?_, tp_ae (tp_ae ?_)⟩
    · rw [h5] at q ⊢
      refine vp_in_nI ?_ (by decide)
      refine Nat.lt_of_not_le (fun z => q (nI_le z (by omega)))
    · rw [tq_upk (by decide)]; exact h
/-- what a message does, in the class and in the reference: the bodies it begins, the answer; D calls deep at most -/
def Act (D L n K : Nat) (y : Int32) (κ a : Nat) : Prop := ∃ (bs : List Int32) (f : Int32 → Int32), bs.length ≤ L
  ∧ (∀ (N : tq_Nn) (S : tq_St) (e r p4 d : Nat) (x : Int32) (post : tq_St → Int32 → Prop), N 7 e = 1 → S 7 e 0 = nI n → S 7 e 1 = nI K → S 7 e 4 = y → S 5 0 1 = nI r → r + L ≤ 100 → p4 + D ≤ 41 → post (tbsS bs S) (f x) → wpX0_run N (d + D) post S e (nI κ) (nI a) x (nI p4))
  ∧ (∀ (M : tq_St) (r d : Nat) (x : Int32) (post : tq_St → Int32 → Prop), M 110 0 n = nI K → M 112 0 n = y → M 64 0 66 = nI r → r + L ≤ 100 → post (tbsM bs M) (f x) → wpX12_run (d + D) post M (nI n) (nI κ) (nI a) x)
theorem Act.up {D L D' L' n K : Nat} {y : Int32} {κ a : Nat} (h : Act D L n K y κ a) (h1 : D ≤ D') (h2 : L ≤ L') : Act D' L' n K y κ a := by
  obtain ⟨bs, f, g1, g2, g3⟩ := h
  refine ⟨bs, f, by omega, fun N S e r p4 d x post a1 a2 a3 a4 a5 a6 a7 a8 => ?_, fun M r d x post a1 a2 a3 a4 a5 => ?_⟩
  · rw [show d + D' = (d + (D' - D)) + D by omega]
    exact g2 N S e r p4 _ x post a1 a2 a3 a4 a5 (by omega) (by omega) a8
  · rw [show d + D' = (d + (D' - D)) + D by omega]
    exact g3 M r _ x post a1 a2 a3 (by omega) a5
theorem ac_0_0 {D L L2 n K : Nat} {y : Int32} (hn : n < 150) : Act (1) (1) n K y 0 0 := by
  have nc : (nI n).toNatClampNeg = n := nI_clamp (by omega)
  refine ⟨[10], fun x => x + nI n, by simp <;> omega, fun N S e r p4 d x post a1 a2 a3 a4 a5 a6 a7 a8 => ?_, fun M r d x post a1 a2 a3 a4 a5 => ?_⟩
  · show wpX0_run N ((d + 0) + 1) post S e (nI 0) (nI 0) x (nI p4)
    unfold wpX0_run
    refine kb_0_0 ?_
    rw [show tq_bodies.getD (nI 0 * 3 + nI 0).toNatClampNeg 0 = 10 from by decide]
    refine tp_dF (by decide) (tp_dT (show nI p4 ≤ nI 40 from nI_le (by omega) (by decide)) ⟨by unfold vp_in; decide, by unfold vp_in; decide, tp_begS a5 (by omega) ?_⟩)
    rw [nI_1]
    repeat' (with_reducible first | refine tp_cT (by decide) ?_ | refine tp_cF (by decide) ?_ | refine tp_dT (by decide) ?_ | refine tp_dF (by decide) ?_ | refine And.intro (by first | decide | (unfold vp_in; decide)) ?_ | fail)
    refine ⟨a1, ?_⟩
    rw [tbS_k (k := 7) (by decide) (by decide), a2]
    exact a8
  · show wpX12_run ((d + 0) + 1) post M (nI n) (nI 0) (nI 0) x
    unfold wpX12_run
    refine ⟨1, ?_⟩
    unfold wbX12_run_3
    refine bo_0_0 (tp_cF (by decide) (bo_0_0 ?_))
    unfold wbX12_run_50
    refine tp_begM a3 (by omega) ⟨vp_in_nI hn (by decide), ?_⟩
    repeat' (with_reducible first | refine tp_cT (by decide) ?_ | refine tp_cF (by decide) ?_ | refine tp_dT (by decide) ?_ | refine tp_dF (by decide) ?_ | refine And.intro (by first | decide | (unfold vp_in; decide)) ?_ | fail)
    exact a5
theorem ac_0_1 {D L L2 n K : Nat} {y : Int32} (hn : n < 150) (s : Act D L n K y K 0) : Act (D + 1) (L + 1) n K y 0 1 := by
  have nc : (nI n).toNatClampNeg = n := nI_clamp (by omega)
  obtain ⟨bs, f, g1, g2, g3⟩ := s
  refine ⟨11 :: bs, fun x => f x * 2, by simp <;> omega, fun N S e r p4 d x post a1 a2 a3 a4 a5 a6 a7 a8 => ?_, fun M r d x post a1 a2 a3 a4 a5 => ?_⟩
  · show wpX0_run N ((d + D) + 1) post S e (nI 0) (nI 1) x (nI p4)
    unfold wpX0_run
    refine kb_0_1 ?_
    rw [show tq_bodies.getD (nI 0 * 3 + nI 1).toNatClampNeg 0 = 11 from by decide]
    refine tp_dF (by decide) (tp_dT (show nI p4 ≤ nI 40 from nI_le (by omega) (by decide)) ⟨by unfold vp_in; decide, by unfold vp_in; decide, tp_begS a5 (by omega) ?_⟩)
    rw [nI_1]
    repeat' (with_reducible first | refine tp_cT (by decide) ?_ | refine tp_cF (by decide) ?_ | refine tp_dT (by decide) ?_ | refine tp_dF (by decide) ?_ | refine And.intro (by first | decide | (unfold vp_in; decide)) ?_ | fail)
    refine ⟨a1, ?_⟩
    rw [tbS_k (k := 7) (by decide) (by decide), a3]
    refine g2 N _ e (r + 1) (p4 + 1) d _ _ a1 (by rw [tbS_k (k := 7) (by decide) (by decide)]; exact a2) (by rw [tbS_k (k := 7) (by decide) (by decide)]; exact a3) (by rw [tbS_k (k := 7) (by decide) (by decide)]; exact a4) (tbS_r a5) (by omega) (by omega) ?_
    exact a8
  · show wpX12_run ((d + D) + 1) post M (nI n) (nI 0) (nI 1) x
    unfold wpX12_run
    refine ⟨1, ?_⟩
    unfold wbX12_run_3
    refine bo_0_1 (tp_cF (by decide) (bo_0_1 ?_))
    unfold wbX12_run_50
    refine tp_begM a3 (by omega) ⟨vp_in_nI hn (by decide), ?_⟩
    repeat' (with_reducible first | refine tp_cT (by decide) ?_ | refine tp_cF (by decide) ?_ | refine tp_dT (by decide) ?_ | refine tp_dF (by decide) ?_ | refine And.intro (by first | decide | (unfold vp_in; decide)) ?_ | fail)
    rw [nc, tbM_k (k := 110) (by decide) (by decide), a1]
    exact g3 _ (r + 1) d _ _ (by rw [tbM_k (k := 110) (by decide) (by decide)]; exact a1) (by rw [tbM_k (k := 112) (by decide) (by decide)]; exact a2) (tbM_r a3) (by omega) a5
theorem ac_0_2 {D L L2 n K : Nat} {y : Int32} (hn : n < 150) (s : Act D L n K y K 1) (s2 : Act D L2 n K y K 0) : Act (D + 1) (L + L2 + 1) n K y 0 2 := by
  have nc : (nI n).toNatClampNeg = n := nI_clamp (by omega)
  obtain ⟨bs, f, g1, g2, g3⟩ := s
  obtain ⟨bs2, f2, q1, q2, q3⟩ := s2
  refine ⟨12 :: (bs ++ bs2), fun x => f x ^^^ f2 (x + y), by simp <;> omega, fun N S e r p4 d x post a1 a2 a3 a4 a5 a6 a7 a8 => ?_, fun M r d x post a1 a2 a3 a4 a5 => ?_⟩
  · show wpX0_run N ((d + D) + 1) post S e (nI 0) (nI 2) x (nI p4)
    unfold wpX0_run
    refine kb_0_2 ?_
    rw [show tq_bodies.getD (nI 0 * 3 + nI 2).toNatClampNeg 0 = 12 from by decide]
    refine tp_dF (by decide) (tp_dT (show nI p4 ≤ nI 40 from nI_le (by omega) (by decide)) ⟨by unfold vp_in; decide, by unfold vp_in; decide, tp_begS a5 (by omega) ?_⟩)
    rw [nI_1]
    repeat' (with_reducible first | refine tp_cT (by decide) ?_ | refine tp_cF (by decide) ?_ | refine tp_dT (by decide) ?_ | refine tp_dF (by decide) ?_ | refine And.intro (by first | decide | (unfold vp_in; decide)) ?_ | fail)
    refine ⟨a1, ?_⟩
    rw [tbS_k (k := 7) (by decide) (by decide), a3]
    refine g2 N _ e (r + 1) (p4 + 1) d _ _ a1 (by rw [tbS_k (k := 7) (by decide) (by decide)]; exact a2) (by rw [tbS_k (k := 7) (by decide) (by decide)]; exact a3) (by rw [tbS_k (k := 7) (by decide) (by decide)]; exact a4) (tbS_r a5) (by omega) (by omega) ?_
    rw [tbsS_k (k := 7) (by decide) (by decide), tbS_k (k := 7) (by decide) (by decide), a3, a4]
    refine q2 N _ e (r + 1 + bs.length) (p4 + 1) d _ _ a1 (by rw [tbsS_k (k := 7) (by decide) (by decide), tbS_k (k := 7) (by decide) (by decide)]; exact a2) (by rw [tbsS_k (k := 7) (by decide) (by decide), tbS_k (k := 7) (by decide) (by decide)]; exact a3) (by rw [tbsS_k (k := 7) (by decide) (by decide), tbS_k (k := 7) (by decide) (by decide)]; exact a4) (tbsS_r (tbS_r a5)) (by omega) (by omega) ?_
    rw [← tbsS_app]
    exact a8
  · show wpX12_run ((d + D) + 1) post M (nI n) (nI 0) (nI 2) x
    unfold wpX12_run
    refine ⟨1, ?_⟩
    unfold wbX12_run_3
    refine bo_0_2 (tp_cF (by decide) (bo_0_2 ?_))
    unfold wbX12_run_50
    refine tp_begM a3 (by omega) ⟨vp_in_nI hn (by decide), ?_⟩
    repeat' (with_reducible first | refine tp_cT (by decide) ?_ | refine tp_cF (by decide) ?_ | refine tp_dT (by decide) ?_ | refine tp_dF (by decide) ?_ | refine And.intro (by first | decide | (unfold vp_in; decide)) ?_ | fail)
    rw [nc, tbM_k (k := 110) (by decide) (by decide), tbM_k (k := 112) (by decide) (by decide), a1, a2]
    refine g3 _ (r + 1) d _ _ (by rw [tbM_k (k := 110) (by decide) (by decide)]; exact a1) (by rw [tbM_k (k := 112) (by decide) (by decide)]; exact a2) (tbM_r a3) (by omega) ?_
    rw [tbsM_k (k := 110) (by decide) (by decide), tbM_k (k := 110) (by decide) (by decide), a1]
    refine q3 _ (r + 1 + bs.length) d _ _ (by rw [tbsM_k (k := 110) (by decide) (by decide), tbM_k (k := 110) (by decide) (by decide)]; exact a1) (by rw [tbsM_k (k := 112) (by decide) (by decide), tbM_k (k := 112) (by decide) (by decide)]; exact a2) (tbsM_r (tbM_r a3)) (by omega) ?_
    rw [← tbsM_app]
    exact a5
theorem ac_1_0 {D L L2 n K : Nat} {y : Int32} (hn : n < 150) : Act (1) (1) n K y 1 0 := by
  have nc : (nI n).toNatClampNeg = n := nI_clamp (by omega)
  refine ⟨[10], fun x => x + nI n, by simp <;> omega, fun N S e r p4 d x post a1 a2 a3 a4 a5 a6 a7 a8 => ?_, fun M r d x post a1 a2 a3 a4 a5 => ?_⟩
  · show wpX0_run N ((d + 0) + 1) post S e (nI 1) (nI 0) x (nI p4)
    unfold wpX0_run
    refine kb_1_0 ?_
    rw [show tq_bodies.getD (nI 0 * 3 + nI 0).toNatClampNeg 0 = 10 from by decide]
    refine tp_dF (by decide) (tp_dT (show nI p4 ≤ nI 40 from nI_le (by omega) (by decide)) ⟨by unfold vp_in; decide, by unfold vp_in; decide, tp_begS a5 (by omega) ?_⟩)
    rw [nI_1]
    repeat' (with_reducible first | refine tp_cT (by decide) ?_ | refine tp_cF (by decide) ?_ | refine tp_dT (by decide) ?_ | refine tp_dF (by decide) ?_ | refine And.intro (by first | decide | (unfold vp_in; decide)) ?_ | fail)
    refine ⟨a1, ?_⟩
    rw [tbS_k (k := 7) (by decide) (by decide), a2]
    exact a8
  · show wpX12_run ((d + 0) + 1) post M (nI n) (nI 1) (nI 0) x
    unfold wpX12_run
    refine ⟨2, ?_⟩
    unfold wbX12_run_3
    refine bo_1_0 (tp_cT rfl (ab_1 ?_))
    unfold wbX12_run_3
    refine bo_0_0 (tp_cF (by decide) (bo_0_0 ?_))
    unfold wbX12_run_50
    refine tp_begM a3 (by omega) ⟨vp_in_nI hn (by decide), ?_⟩
    repeat' (with_reducible first | refine tp_cT (by decide) ?_ | refine tp_cF (by decide) ?_ | refine tp_dT (by decide) ?_ | refine tp_dF (by decide) ?_ | refine And.intro (by first | decide | (unfold vp_in; decide)) ?_ | fail)
    exact a5
theorem ac_1_1 {D L L2 n K : Nat} {y : Int32} (hn : n < 150) (s : Act D L n K y 0 1) : Act (D + 1) (L + 1) n K y 1 1 := by
  have nc : (nI n).toNatClampNeg = n := nI_clamp (by omega)
  obtain ⟨bs, f, g1, g2, g3⟩ := s
  refine ⟨20 :: bs, fun x => f (x) - nI n, by simp <;> omega, fun N S e r p4 d x post a1 a2 a3 a4 a5 a6 a7 a8 => ?_, fun M r d x post a1 a2 a3 a4 a5 => ?_⟩
  · show wpX0_run N ((d + D) + 1) post S e (nI 1) (nI 1) x (nI p4)
    unfold wpX0_run
    refine kb_1_1 ?_
    rw [show tq_bodies.getD (nI 1 * 3 + nI 1).toNatClampNeg 0 = 20 from by decide]
    refine tp_dF (by decide) (tp_dT (show nI p4 ≤ nI 40 from nI_le (by omega) (by decide)) ⟨by unfold vp_in; decide, by unfold vp_in; decide, tp_begS a5 (by omega) ?_⟩)
    rw [nI_1]
    repeat' (with_reducible first | refine tp_cT (by decide) ?_ | refine tp_cF (by decide) ?_ | refine tp_dT (by decide) ?_ | refine tp_dF (by decide) ?_ | refine And.intro (by first | decide | (unfold vp_in; decide)) ?_ | fail)
    rw [show tq_above.getD (nI 1).toNatClampNeg 0 = nI 0 from by decide]
    refine g2 N _ e (r + 1) (p4 + 1) d _ _ a1 (by rw [tbS_k (k := 7) (by decide) (by decide)]; exact a2) (by rw [tbS_k (k := 7) (by decide) (by decide)]; exact a3) (by rw [tbS_k (k := 7) (by decide) (by decide)]; exact a4) (tbS_r a5) (by omega) (by omega) ?_
    refine ⟨a1, ?_⟩
    rw [tbsS_k (k := 7) (by decide) (by decide), tbS_k (k := 7) (by decide) (by decide), a2]
    exact a8
  · show wpX12_run ((d + D) + 1) post M (nI n) (nI 1) (nI 1) x
    unfold wpX12_run
    refine ⟨1, ?_⟩
    unfold wbX12_run_3
    refine bo_1_1 (tp_cF (by decide) (bo_1_1 ?_))
    unfold wbX12_run_50
    refine tp_begM a3 (by omega) ⟨vp_in_nI hn (by decide), ?_⟩
    repeat' (with_reducible first | refine tp_cT (by decide) ?_ | refine tp_cF (by decide) ?_ | refine tp_dT (by decide) ?_ | refine tp_dF (by decide) ?_ | refine And.intro (by first | decide | (unfold vp_in; decide)) ?_ | fail)
    refine ab_1 ?_
    exact g3 _ (r + 1) d _ _ (by rw [tbM_k (k := 110) (by decide) (by decide)]; exact a1) (by rw [tbM_k (k := 112) (by decide) (by decide)]; exact a2) (tbM_r a3) (by omega) a5
theorem ac_1_2 {D L L2 n K : Nat} {y : Int32} (hn : n < 150) (s : Act D L n K y K 1) (s2 : Act D L2 n K y K 0) : Act (D + 1) (L + L2 + 1) n K y 1 2 := by
  have nc : (nI n).toNatClampNeg = n := nI_clamp (by omega)
  obtain ⟨bs, f, g1, g2, g3⟩ := s
  obtain ⟨bs2, f2, q1, q2, q3⟩ := s2
  refine ⟨12 :: (bs ++ bs2), fun x => f x ^^^ f2 (x + y), by simp <;> omega, fun N S e r p4 d x post a1 a2 a3 a4 a5 a6 a7 a8 => ?_, fun M r d x post a1 a2 a3 a4 a5 => ?_⟩
  · show wpX0_run N ((d + D) + 1) post S e (nI 1) (nI 2) x (nI p4)
    unfold wpX0_run
    refine kb_1_2 ?_
    rw [show tq_bodies.getD (nI 0 * 3 + nI 2).toNatClampNeg 0 = 12 from by decide]
    refine tp_dF (by decide) (tp_dT (show nI p4 ≤ nI 40 from nI_le (by omega) (by decide)) ⟨by unfold vp_in; decide, by unfold vp_in; decide, tp_begS a5 (by omega) ?_⟩)
    rw [nI_1]
    repeat' (with_reducible first | refine tp_cT (by decide) ?_ | refine tp_cF (by decide) ?_ | refine tp_dT (by decide) ?_ | refine tp_dF (by decide) ?_ | refine And.intro (by first | decide | (unfold vp_in; decide)) ?_ | fail)
    refine ⟨a1, ?_⟩
    rw [tbS_k (k := 7) (by decide) (by decide), a3]
    refine g2 N _ e (r + 1) (p4 + 1) d _ _ a1 (by rw [tbS_k (k := 7) (by decide) (by decide)]; exact a2) (by rw [tbS_k (k := 7) (by decide) (by decide)]; exact a3) (by rw [tbS_k (k := 7) (by decide) (by decide)]; exact a4) (tbS_r a5) (by omega) (by omega) ?_
    rw [tbsS_k (k := 7) (by decide) (by decide), tbS_k (k := 7) (by decide) (by decide), a3, a4]
    refine q2 N _ e (r + 1 + bs.length) (p4 + 1) d _ _ a1 (by rw [tbsS_k (k := 7) (by decide) (by decide), tbS_k (k := 7) (by decide) (by decide)]; exact a2) (by rw [tbsS_k (k := 7) (by decide) (by decide), tbS_k (k := 7) (by decide) (by decide)]; exact a3) (by rw [tbsS_k (k := 7) (by decide) (by decide), tbS_k (k := 7) (by decide) (by decide)]; exact a4) (tbsS_r (tbS_r a5)) (by omega) (by omega) ?_
    rw [← tbsS_app]
    exact a8
  · show wpX12_run ((d + D) + 1) post M (nI n) (nI 1) (nI 2) x
    unfold wpX12_run
    refine ⟨2, ?_⟩
    unfold wbX12_run_3
    refine bo_1_2 (tp_cT rfl (ab_1 ?_))
    unfold wbX12_run_3
    refine bo_0_2 (tp_cF (by decide) (bo_0_2 ?_))
    unfold wbX12_run_50
    refine tp_begM a3 (by omega) ⟨vp_in_nI hn (by decide), ?_⟩
    repeat' (with_reducible first | refine tp_cT (by decide) ?_ | refine tp_cF (by decide) ?_ | refine tp_dT (by decide) ?_ | refine tp_dF (by decide) ?_ | refine And.intro (by first | decide | (unfold vp_in; decide)) ?_ | fail)
    rw [nc, tbM_k (k := 110) (by decide) (by decide), tbM_k (k := 112) (by decide) (by decide), a1, a2]
    refine g3 _ (r + 1) d _ _ (by rw [tbM_k (k := 110) (by decide) (by decide)]; exact a1) (by rw [tbM_k (k := 112) (by decide) (by decide)]; exact a2) (tbM_r a3) (by omega) ?_
    rw [tbsM_k (k := 110) (by decide) (by decide), tbM_k (k := 110) (by decide) (by decide), a1]
    refine q3 _ (r + 1 + bs.length) d _ _ (by rw [tbsM_k (k := 110) (by decide) (by decide), tbM_k (k := 110) (by decide) (by decide)]; exact a1) (by rw [tbsM_k (k := 112) (by decide) (by decide), tbM_k (k := 112) (by decide) (by decide)]; exact a2) (tbsM_r (tbM_r a3)) (by omega) ?_
    rw [← tbsM_app]
    exact a5
theorem ac_2_0 {D L L2 n K : Nat} {y : Int32} (hn : n < 150) (s : Act D L n K y 1 0) : Act (D + 1) (L + 1) n K y 2 0 := by
  have nc : (nI n).toNatClampNeg = n := nI_clamp (by omega)
  obtain ⟨bs, f, g1, g2, g3⟩ := s
  refine ⟨30 :: bs, fun x => f (x) * 3, by simp <;> omega, fun N S e r p4 d x post a1 a2 a3 a4 a5 a6 a7 a8 => ?_, fun M r d x post a1 a2 a3 a4 a5 => ?_⟩
  · show wpX0_run N ((d + D) + 1) post S e (nI 2) (nI 0) x (nI p4)
    unfold wpX0_run
    refine kb_2_0 ?_
    rw [show tq_bodies.getD (nI 2 * 3 + nI 0).toNatClampNeg 0 = 30 from by decide]
    refine tp_dF (by decide) (tp_dT (show nI p4 ≤ nI 40 from nI_le (by omega) (by decide)) ⟨by unfold vp_in; decide, by unfold vp_in; decide, tp_begS a5 (by omega) ?_⟩)
    rw [nI_1]
    repeat' (with_reducible first | refine tp_cT (by decide) ?_ | refine tp_cF (by decide) ?_ | refine tp_dT (by decide) ?_ | refine tp_dF (by decide) ?_ | refine And.intro (by first | decide | (unfold vp_in; decide)) ?_ | fail)
    rw [show tq_above.getD (nI 2).toNatClampNeg 0 = nI 1 from by decide]
    refine g2 N _ e (r + 1) (p4 + 1) d _ _ a1 (by rw [tbS_k (k := 7) (by decide) (by decide)]; exact a2) (by rw [tbS_k (k := 7) (by decide) (by decide)]; exact a3) (by rw [tbS_k (k := 7) (by decide) (by decide)]; exact a4) (tbS_r a5) (by omega) (by omega) ?_
    exact a8
  · show wpX12_run ((d + D) + 1) post M (nI n) (nI 2) (nI 0) x
    unfold wpX12_run
    refine ⟨1, ?_⟩
    unfold wbX12_run_3
    refine bo_2_0 (tp_cF (by decide) (bo_2_0 ?_))
    unfold wbX12_run_50
    refine tp_begM a3 (by omega) ⟨vp_in_nI hn (by decide), ?_⟩
    repeat' (with_reducible first | refine tp_cT (by decide) ?_ | refine tp_cF (by decide) ?_ | refine tp_dT (by decide) ?_ | refine tp_dF (by decide) ?_ | refine And.intro (by first | decide | (unfold vp_in; decide)) ?_ | fail)
    refine ab_2 ?_
    exact g3 _ (r + 1) d _ _ (by rw [tbM_k (k := 110) (by decide) (by decide)]; exact a1) (by rw [tbM_k (k := 112) (by decide) (by decide)]; exact a2) (tbM_r a3) (by omega) a5
theorem ac_2_1 {D L L2 n K : Nat} {y : Int32} (hn : n < 150) (s : Act D L n K y 0 1) : Act (D + 1) (L + 1) n K y 2 1 := by
  have nc : (nI n).toNatClampNeg = n := nI_clamp (by omega)
  obtain ⟨bs, f, g1, g2, g3⟩ := s
  refine ⟨20 :: bs, fun x => f (x) - nI n, by simp <;> omega, fun N S e r p4 d x post a1 a2 a3 a4 a5 a6 a7 a8 => ?_, fun M r d x post a1 a2 a3 a4 a5 => ?_⟩
  · show wpX0_run N ((d + D) + 1) post S e (nI 2) (nI 1) x (nI p4)
    unfold wpX0_run
    refine kb_2_1 ?_
    rw [show tq_bodies.getD (nI 1 * 3 + nI 1).toNatClampNeg 0 = 20 from by decide]
    refine tp_dF (by decide) (tp_dT (show nI p4 ≤ nI 40 from nI_le (by omega) (by decide)) ⟨by unfold vp_in; decide, by unfold vp_in; decide, tp_begS a5 (by omega) ?_⟩)
    rw [nI_1]
    repeat' (with_reducible first | refine tp_cT (by decide) ?_ | refine tp_cF (by decide) ?_ | refine tp_dT (by decide) ?_ | refine tp_dF (by decide) ?_ | refine And.intro (by first | decide | (unfold vp_in; decide)) ?_ | fail)
    rw [show tq_above.getD (nI 1).toNatClampNeg 0 = nI 0 from by decide]
    refine g2 N _ e (r + 1) (p4 + 1) d _ _ a1 (by rw [tbS_k (k := 7) (by decide) (by decide)]; exact a2) (by rw [tbS_k (k := 7) (by decide) (by decide)]; exact a3) (by rw [tbS_k (k := 7) (by decide) (by decide)]; exact a4) (tbS_r a5) (by omega) (by omega) ?_
    refine ⟨a1, ?_⟩
    rw [tbsS_k (k := 7) (by decide) (by decide), tbS_k (k := 7) (by decide) (by decide), a2]
    exact a8
  · show wpX12_run ((d + D) + 1) post M (nI n) (nI 2) (nI 1) x
    unfold wpX12_run
    refine ⟨2, ?_⟩
    unfold wbX12_run_3
    refine bo_2_1 (tp_cT rfl (ab_2 ?_))
    unfold wbX12_run_3
    refine bo_1_1 (tp_cF (by decide) (bo_1_1 ?_))
    unfold wbX12_run_50
    refine tp_begM a3 (by omega) ⟨vp_in_nI hn (by decide), ?_⟩
    repeat' (with_reducible first | refine tp_cT (by decide) ?_ | refine tp_cF (by decide) ?_ | refine tp_dT (by decide) ?_ | refine tp_dF (by decide) ?_ | refine And.intro (by first | decide | (unfold vp_in; decide)) ?_ | fail)
    refine ab_1 ?_
    exact g3 _ (r + 1) d _ _ (by rw [tbM_k (k := 110) (by decide) (by decide)]; exact a1) (by rw [tbM_k (k := 112) (by decide) (by decide)]; exact a2) (tbM_r a3) (by omega) a5
theorem ac_2_2 {D L L2 n K : Nat} {y : Int32} (hn : n < 150) (s : Act D L n K y K 1) (s2 : Act D L2 n K y K 0) : Act (D + 1) (L + L2 + 1) n K y 2 2 := by
  have nc : (nI n).toNatClampNeg = n := nI_clamp (by omega)
  obtain ⟨bs, f, g1, g2, g3⟩ := s
  obtain ⟨bs2, f2, q1, q2, q3⟩ := s2
  refine ⟨12 :: (bs ++ bs2), fun x => f x ^^^ f2 (x + y), by simp <;> omega, fun N S e r p4 d x post a1 a2 a3 a4 a5 a6 a7 a8 => ?_, fun M r d x post a1 a2 a3 a4 a5 => ?_⟩
  · show wpX0_run N ((d + D) + 1) post S e (nI 2) (nI 2) x (nI p4)
    unfold wpX0_run
    refine kb_2_2 ?_
    rw [show tq_bodies.getD (nI 0 * 3 + nI 2).toNatClampNeg 0 = 12 from by decide]
    refine tp_dF (by decide) (tp_dT (show nI p4 ≤ nI 40 from nI_le (by omega) (by decide)) ⟨by unfold vp_in; decide, by unfold vp_in; decide, tp_begS a5 (by omega) ?_⟩)
    rw [nI_1]
    repeat' (with_reducible first | refine tp_cT (by decide) ?_ | refine tp_cF (by decide) ?_ | refine tp_dT (by decide) ?_ | refine tp_dF (by decide) ?_ | refine And.intro (by first | decide | (unfold vp_in; decide)) ?_ | fail)
    refine ⟨a1, ?_⟩
    rw [tbS_k (k := 7) (by decide) (by decide), a3]
    refine g2 N _ e (r + 1) (p4 + 1) d _ _ a1 (by rw [tbS_k (k := 7) (by decide) (by decide)]; exact a2) (by rw [tbS_k (k := 7) (by decide) (by decide)]; exact a3) (by rw [tbS_k (k := 7) (by decide) (by decide)]; exact a4) (tbS_r a5) (by omega) (by omega) ?_
    rw [tbsS_k (k := 7) (by decide) (by decide), tbS_k (k := 7) (by decide) (by decide), a3, a4]
    refine q2 N _ e (r + 1 + bs.length) (p4 + 1) d _ _ a1 (by rw [tbsS_k (k := 7) (by decide) (by decide), tbS_k (k := 7) (by decide) (by decide)]; exact a2) (by rw [tbsS_k (k := 7) (by decide) (by decide), tbS_k (k := 7) (by decide) (by decide)]; exact a3) (by rw [tbsS_k (k := 7) (by decide) (by decide), tbS_k (k := 7) (by decide) (by decide)]; exact a4) (tbsS_r (tbS_r a5)) (by omega) (by omega) ?_
    rw [← tbsS_app]
    exact a8
  · show wpX12_run ((d + D) + 1) post M (nI n) (nI 2) (nI 2) x
    unfold wpX12_run
    refine ⟨3, ?_⟩
    unfold wbX12_run_3
    refine bo_2_2 (tp_cT rfl (ab_2 ?_))
    unfold wbX12_run_3
    refine bo_1_2 (tp_cT rfl (ab_1 ?_))
    unfold wbX12_run_3
    refine bo_0_2 (tp_cF (by decide) (bo_0_2 ?_))
    unfold wbX12_run_50
    refine tp_begM a3 (by omega) ⟨vp_in_nI hn (by decide), ?_⟩
    repeat' (with_reducible first | refine tp_cT (by decide) ?_ | refine tp_cF (by decide) ?_ | refine tp_dT (by decide) ?_ | refine tp_dF (by decide) ?_ | refine And.intro (by first | decide | (unfold vp_in; decide)) ?_ | fail)
    rw [nc, tbM_k (k := 110) (by decide) (by decide), tbM_k (k := 112) (by decide) (by decide), a1, a2]
    refine g3 _ (r + 1) d _ _ (by rw [tbM_k (k := 110) (by decide) (by decide)]; exact a1) (by rw [tbM_k (k := 112) (by decide) (by decide)]; exact a2) (tbM_r a3) (by omega) ?_
    rw [tbsM_k (k := 110) (by decide) (by decide), tbM_k (k := 110) (by decide) (by decide), a1]
    refine q3 _ (r + 1 + bs.length) d _ _ (by rw [tbsM_k (k := 110) (by decide) (by decide), tbM_k (k := 110) (by decide) (by decide)]; exact a1) (by rw [tbsM_k (k := 112) (by decide) (by decide), tbM_k (k := 112) (by decide) (by decide)]; exact a2) (tbsM_r (tbM_r a3)) (by omega) ?_
    rw [← tbsM_app]
    exact a5
theorem ac_3_0 {D L L2 n K : Nat} {y : Int32} (hn : n < 150) : Act (1) (1) n K y 3 0 := by
  have nc : (nI n).toNatClampNeg = n := nI_clamp (by omega)
  refine ⟨[10], fun x => x + nI n, by simp <;> omega, fun N S e r p4 d x post a1 a2 a3 a4 a5 a6 a7 a8 => ?_, fun M r d x post a1 a2 a3 a4 a5 => ?_⟩
  · show wpX0_run N ((d + 0) + 1) post S e (nI 3) (nI 0) x (nI p4)
    unfold wpX0_run
    refine kb_3_0 ?_
    rw [show tq_bodies.getD (nI 0 * 3 + nI 0).toNatClampNeg 0 = 10 from by decide]
    refine tp_dF (by decide) (tp_dT (show nI p4 ≤ nI 40 from nI_le (by omega) (by decide)) ⟨by unfold vp_in; decide, by unfold vp_in; decide, tp_begS a5 (by omega) ?_⟩)
    rw [nI_1]
    repeat' (with_reducible first | refine tp_cT (by decide) ?_ | refine tp_cF (by decide) ?_ | refine tp_dT (by decide) ?_ | refine tp_dF (by decide) ?_ | refine And.intro (by first | decide | (unfold vp_in; decide)) ?_ | fail)
    refine ⟨a1, ?_⟩
    rw [tbS_k (k := 7) (by decide) (by decide), a2]
    exact a8
  · show wpX12_run ((d + 0) + 1) post M (nI n) (nI 3) (nI 0) x
    unfold wpX12_run
    refine ⟨3, ?_⟩
    unfold wbX12_run_3
    refine bo_3_0 (tp_cT rfl (ab_3 ?_))
    unfold wbX12_run_3
    refine bo_1_0 (tp_cT rfl (ab_1 ?_))
    unfold wbX12_run_3
    refine bo_0_0 (tp_cF (by decide) (bo_0_0 ?_))
    unfold wbX12_run_50
    refine tp_begM a3 (by omega) ⟨vp_in_nI hn (by decide), ?_⟩
    repeat' (with_reducible first | refine tp_cT (by decide) ?_ | refine tp_cF (by decide) ?_ | refine tp_dT (by decide) ?_ | refine tp_dF (by decide) ?_ | refine And.intro (by first | decide | (unfold vp_in; decide)) ?_ | fail)
    exact a5
theorem ac_3_1 {D L L2 n K : Nat} {y : Int32} (hn : n < 150) (s : Act D L n K y 0 1) : Act (D + 1) (L + 1) n K y 3 1 := by
  have nc : (nI n).toNatClampNeg = n := nI_clamp (by omega)
  obtain ⟨bs, f, g1, g2, g3⟩ := s
  refine ⟨20 :: bs, fun x => f (x) - nI n, by simp <;> omega, fun N S e r p4 d x post a1 a2 a3 a4 a5 a6 a7 a8 => ?_, fun M r d x post a1 a2 a3 a4 a5 => ?_⟩
  · show wpX0_run N ((d + D) + 1) post S e (nI 3) (nI 1) x (nI p4)
    unfold wpX0_run
    refine kb_3_1 ?_
    rw [show tq_bodies.getD (nI 1 * 3 + nI 1).toNatClampNeg 0 = 20 from by decide]
    refine tp_dF (by decide) (tp_dT (show nI p4 ≤ nI 40 from nI_le (by omega) (by decide)) ⟨by unfold vp_in; decide, by unfold vp_in; decide, tp_begS a5 (by omega) ?_⟩)
    rw [nI_1]
    repeat' (with_reducible first | refine tp_cT (by decide) ?_ | refine tp_cF (by decide) ?_ | refine tp_dT (by decide) ?_ | refine tp_dF (by decide) ?_ | refine And.intro (by first | decide | (unfold vp_in; decide)) ?_ | fail)
    rw [show tq_above.getD (nI 1).toNatClampNeg 0 = nI 0 from by decide]
    refine g2 N _ e (r + 1) (p4 + 1) d _ _ a1 (by rw [tbS_k (k := 7) (by decide) (by decide)]; exact a2) (by rw [tbS_k (k := 7) (by decide) (by decide)]; exact a3) (by rw [tbS_k (k := 7) (by decide) (by decide)]; exact a4) (tbS_r a5) (by omega) (by omega) ?_
    refine ⟨a1, ?_⟩
    rw [tbsS_k (k := 7) (by decide) (by decide), tbS_k (k := 7) (by decide) (by decide), a2]
    exact a8
  · show wpX12_run ((d + D) + 1) post M (nI n) (nI 3) (nI 1) x
    unfold wpX12_run
    refine ⟨2, ?_⟩
    unfold wbX12_run_3
    refine bo_3_1 (tp_cT rfl (ab_3 ?_))
    unfold wbX12_run_3
    refine bo_1_1 (tp_cF (by decide) (bo_1_1 ?_))
    unfold wbX12_run_50
    refine tp_begM a3 (by omega) ⟨vp_in_nI hn (by decide), ?_⟩
    repeat' (with_reducible first | refine tp_cT (by decide) ?_ | refine tp_cF (by decide) ?_ | refine tp_dT (by decide) ?_ | refine tp_dF (by decide) ?_ | refine And.intro (by first | decide | (unfold vp_in; decide)) ?_ | fail)
    refine ab_1 ?_
    exact g3 _ (r + 1) d _ _ (by rw [tbM_k (k := 110) (by decide) (by decide)]; exact a1) (by rw [tbM_k (k := 112) (by decide) (by decide)]; exact a2) (tbM_r a3) (by omega) a5
theorem ac_3_2 {D L L2 n K : Nat} {y : Int32} (hn : n < 150) (s : Act D L n K y 1 2) : Act (D + 1) (L + 1) n K y 3 2 := by
  have nc : (nI n).toNatClampNeg = n := nI_clamp (by omega)
  obtain ⟨bs, f, g1, g2, g3⟩ := s
  refine ⟨40 :: bs, fun x => f (x - 1), by simp <;> omega, fun N S e r p4 d x post a1 a2 a3 a4 a5 a6 a7 a8 => ?_, fun M r d x post a1 a2 a3 a4 a5 => ?_⟩
  · show wpX0_run N ((d + D) + 1) post S e (nI 3) (nI 2) x (nI p4)
    unfold wpX0_run
    refine kb_3_2 ?_
    rw [show tq_bodies.getD (nI 3 * 3 + nI 2).toNatClampNeg 0 = 40 from by decide]
    refine tp_dF (by decide) (tp_dT (show nI p4 ≤ nI 40 from nI_le (by omega) (by decide)) ⟨by unfold vp_in; decide, by unfold vp_in; decide, tp_begS a5 (by omega) ?_⟩)
    rw [nI_1]
    repeat' (with_reducible first | refine tp_cT (by decide) ?_ | refine tp_cF (by decide) ?_ | refine tp_dT (by decide) ?_ | refine tp_dF (by decide) ?_ | refine And.intro (by first | decide | (unfold vp_in; decide)) ?_ | fail)
    rw [show tq_above.getD (nI 3).toNatClampNeg 0 = nI 1 from by decide]
    refine g2 N _ e (r + 1) (p4 + 1) d _ _ a1 (by rw [tbS_k (k := 7) (by decide) (by decide)]; exact a2) (by rw [tbS_k (k := 7) (by decide) (by decide)]; exact a3) (by rw [tbS_k (k := 7) (by decide) (by decide)]; exact a4) (tbS_r a5) (by omega) (by omega) ?_
    exact a8
  · show wpX12_run ((d + D) + 1) post M (nI n) (nI 3) (nI 2) x
    unfold wpX12_run
    refine ⟨1, ?_⟩
    unfold wbX12_run_3
    refine bo_3_2 (tp_cF (by decide) (bo_3_2 ?_))
    unfold wbX12_run_50
    refine tp_begM a3 (by omega) ⟨vp_in_nI hn (by decide), ?_⟩
    repeat' (with_reducible first | refine tp_cT (by decide) ?_ | refine tp_cF (by decide) ?_ | refine tp_dT (by decide) ?_ | refine tp_dF (by decide) ?_ | refine And.intro (by first | decide | (unfold vp_in; decide)) ?_ | fail)
    refine ab_3 ?_
    exact g3 _ (r + 1) d _ _ (by rw [tbM_k (k := 110) (by decide) (by decide)]; exact a1) (by rw [tbM_k (k := 112) (by decide) (by decide)]; exact a2) (tbM_r a3) (by omega) a5
theorem ac_4_0 {D L L2 n K : Nat} {y : Int32} (hn : n < 150) : Act (1) (1) n K y 4 0 := by
  have nc : (nI n).toNatClampNeg = n := nI_clamp (by omega)
  refine ⟨[10], fun x => x + nI n, by simp <;> omega, fun N S e r p4 d x post a1 a2 a3 a4 a5 a6 a7 a8 => ?_, fun M r d x post a1 a2 a3 a4 a5 => ?_⟩
  · show wpX0_run N ((d + 0) + 1) post S e (nI 4) (nI 0) x (nI p4)
    unfold wpX0_run
    refine kb_4_0 ?_
    rw [show tq_bodies.getD (nI 0 * 3 + nI 0).toNatClampNeg 0 = 10 from by decide]
    refine tp_dF (by decide) (tp_dT (show nI p4 ≤ nI 40 from nI_le (by omega) (by decide)) ⟨by unfold vp_in; decide, by unfold vp_in; decide, tp_begS a5 (by omega) ?_⟩)
    rw [nI_1]
    repeat' (with_reducible first | refine tp_cT (by decide) ?_ | refine tp_cF (by decide) ?_ | refine tp_dT (by decide) ?_ | refine tp_dF (by decide) ?_ | refine And.intro (by first | decide | (unfold vp_in; decide)) ?_ | fail)
    refine ⟨a1, ?_⟩
    rw [tbS_k (k := 7) (by decide) (by decide), a2]
    exact a8
  · show wpX12_run ((d + 0) + 1) post M (nI n) (nI 4) (nI 0) x
    unfold wpX12_run
    refine ⟨3, ?_⟩
    unfold wbX12_run_3
    refine bo_4_0 (tp_cT rfl (ab_4 ?_))
    unfold wbX12_run_3
    refine bo_1_0 (tp_cT rfl (ab_1 ?_))
    unfold wbX12_run_3
    refine bo_0_0 (tp_cF (by decide) (bo_0_0 ?_))
    unfold wbX12_run_50
    refine tp_begM a3 (by omega) ⟨vp_in_nI hn (by decide), ?_⟩
    repeat' (with_reducible first | refine tp_cT (by decide) ?_ | refine tp_cF (by decide) ?_ | refine tp_dT (by decide) ?_ | refine tp_dF (by decide) ?_ | refine And.intro (by first | decide | (unfold vp_in; decide)) ?_ | fail)
    exact a5
theorem ac_4_1 {D L L2 n K : Nat} {y : Int32} (hn : n < 150) (s : Act D L n K y 0 1) : Act (D + 1) (L + 1) n K y 4 1 := by
  have nc : (nI n).toNatClampNeg = n := nI_clamp (by omega)
  obtain ⟨bs, f, g1, g2, g3⟩ := s
  refine ⟨20 :: bs, fun x => f (x) - nI n, by simp <;> omega, fun N S e r p4 d x post a1 a2 a3 a4 a5 a6 a7 a8 => ?_, fun M r d x post a1 a2 a3 a4 a5 => ?_⟩
  · show wpX0_run N ((d + D) + 1) post S e (nI 4) (nI 1) x (nI p4)
    unfold wpX0_run
    refine kb_4_1 ?_
    rw [show tq_bodies.getD (nI 1 * 3 + nI 1).toNatClampNeg 0 = 20 from by decide]
    refine tp_dF (by decide) (tp_dT (show nI p4 ≤ nI 40 from nI_le (by omega) (by decide)) ⟨by unfold vp_in; decide, by unfold vp_in; decide, tp_begS a5 (by omega) ?_⟩)
    rw [nI_1]
    repeat' (with_reducible first | refine tp_cT (by decide) ?_ | refine tp_cF (by decide) ?_ | refine tp_dT (by decide) ?_ | refine tp_dF (by decide) ?_ | refine And.intro (by first | decide | (unfold vp_in; decide)) ?_ | fail)
    rw [show tq_above.getD (nI 1).toNatClampNeg 0 = nI 0 from by decide]
    refine g2 N _ e (r + 1) (p4 + 1) d _ _ a1 (by rw [tbS_k (k := 7) (by decide) (by decide)]; exact a2) (by rw [tbS_k (k := 7) (by decide) (by decide)]; exact a3) (by rw [tbS_k (k := 7) (by decide) (by decide)]; exact a4) (tbS_r a5) (by omega) (by omega) ?_
    refine ⟨a1, ?_⟩
    rw [tbsS_k (k := 7) (by decide) (by decide), tbS_k (k := 7) (by decide) (by decide), a2]
    exact a8
  · show wpX12_run ((d + D) + 1) post M (nI n) (nI 4) (nI 1) x
    unfold wpX12_run
    refine ⟨2, ?_⟩
    unfold wbX12_run_3
    refine bo_4_1 (tp_cT rfl (ab_4 ?_))
    unfold wbX12_run_3
    refine bo_1_1 (tp_cF (by decide) (bo_1_1 ?_))
    unfold wbX12_run_50
    refine tp_begM a3 (by omega) ⟨vp_in_nI hn (by decide), ?_⟩
    repeat' (with_reducible first | refine tp_cT (by decide) ?_ | refine tp_cF (by decide) ?_ | refine tp_dT (by decide) ?_ | refine tp_dF (by decide) ?_ | refine And.intro (by first | decide | (unfold vp_in; decide)) ?_ | fail)
    refine ab_1 ?_
    exact g3 _ (r + 1) d _ _ (by rw [tbM_k (k := 110) (by decide) (by decide)]; exact a1) (by rw [tbM_k (k := 112) (by decide) (by decide)]; exact a2) (tbM_r a3) (by omega) a5
theorem ac_4_2 {D L L2 n K : Nat} {y : Int32} (hn : n < 150) (s : Act D L n K y 1 2) : Act (D + 1) (L + 1) n K y 4 2 := by
  have nc : (nI n).toNatClampNeg = n := nI_clamp (by omega)
  obtain ⟨bs, f, g1, g2, g3⟩ := s
  refine ⟨50 :: bs, fun x => f (x) + nI n, by simp <;> omega, fun N S e r p4 d x post a1 a2 a3 a4 a5 a6 a7 a8 => ?_, fun M r d x post a1 a2 a3 a4 a5 => ?_⟩
  · show wpX0_run N ((d + D) + 1) post S e (nI 4) (nI 2) x (nI p4)
    unfold wpX0_run
    refine kb_4_2 ?_
    rw [show tq_bodies.getD (nI 4 * 3 + nI 2).toNatClampNeg 0 = 50 from by decide]
    refine tp_dF (by decide) (tp_dT (show nI p4 ≤ nI 40 from nI_le (by omega) (by decide)) ⟨by unfold vp_in; decide, by unfold vp_in; decide, tp_begS a5 (by omega) ?_⟩)
    rw [nI_1]
    repeat' (with_reducible first | refine tp_cT (by decide) ?_ | refine tp_cF (by decide) ?_ | refine tp_dT (by decide) ?_ | refine tp_dF (by decide) ?_ | refine And.intro (by first | decide | (unfold vp_in; decide)) ?_ | fail)
    rw [show tq_above.getD (nI 4).toNatClampNeg 0 = nI 1 from by decide]
    refine g2 N _ e (r + 1) (p4 + 1) d _ _ a1 (by rw [tbS_k (k := 7) (by decide) (by decide)]; exact a2) (by rw [tbS_k (k := 7) (by decide) (by decide)]; exact a3) (by rw [tbS_k (k := 7) (by decide) (by decide)]; exact a4) (tbS_r a5) (by omega) (by omega) ?_
    refine ⟨a1, ?_⟩
    rw [tbsS_k (k := 7) (by decide) (by decide), tbS_k (k := 7) (by decide) (by decide), a2]
    exact a8
  · show wpX12_run ((d + D) + 1) post M (nI n) (nI 4) (nI 2) x
    unfold wpX12_run
    refine ⟨1, ?_⟩
    unfold wbX12_run_3
    refine bo_4_2 (tp_cF (by decide) (bo_4_2 ?_))
    unfold wbX12_run_50
    refine tp_begM a3 (by omega) ⟨vp_in_nI hn (by decide), ?_⟩
    repeat' (with_reducible first | refine tp_cT (by decide) ?_ | refine tp_cF (by decide) ?_ | refine tp_dT (by decide) ?_ | refine tp_dF (by decide) ?_ | refine And.intro (by first | decide | (unfold vp_in; decide)) ?_ | fail)
    refine ab_4 ?_
    exact g3 _ (r + 1) d _ _ (by rw [tbM_k (k := 110) (by decide) (by decide)]; exact a1) (by rw [tbM_k (k := 112) (by decide) (by decide)]; exact a2) (tbM_r a3) (by omega) a5
theorem ac_5_0 {D L L2 n K : Nat} {y : Int32} (hn : n < 150) : Act (1) (1) n K y 5 0 := by
  have nc : (nI n).toNatClampNeg = n := nI_clamp (by omega)
  refine ⟨[10], fun x => x + nI n, by simp <;> omega, fun N S e r p4 d x post a1 a2 a3 a4 a5 a6 a7 a8 => ?_, fun M r d x post a1 a2 a3 a4 a5 => ?_⟩
  · show wpX0_run N ((d + 0) + 1) post S e (nI 5) (nI 0) x (nI p4)
    unfold wpX0_run
    refine kb_5_0 ?_
    rw [show tq_bodies.getD (nI 0 * 3 + nI 0).toNatClampNeg 0 = 10 from by decide]
    refine tp_dF (by decide) (tp_dT (show nI p4 ≤ nI 40 from nI_le (by omega) (by decide)) ⟨by unfold vp_in; decide, by unfold vp_in; decide, tp_begS a5 (by omega) ?_⟩)
    rw [nI_1]
    repeat' (with_reducible first | refine tp_cT (by decide) ?_ | refine tp_cF (by decide) ?_ | refine tp_dT (by decide) ?_ | refine tp_dF (by decide) ?_ | refine And.intro (by first | decide | (unfold vp_in; decide)) ?_ | fail)
    refine ⟨a1, ?_⟩
    rw [tbS_k (k := 7) (by decide) (by decide), a2]
    exact a8
  · show wpX12_run ((d + 0) + 1) post M (nI n) (nI 5) (nI 0) x
    unfold wpX12_run
    refine ⟨4, ?_⟩
    unfold wbX12_run_3
    refine bo_5_0 (tp_cT rfl (ab_5 ?_))
    unfold wbX12_run_3
    refine bo_4_0 (tp_cT rfl (ab_4 ?_))
    unfold wbX12_run_3
    refine bo_1_0 (tp_cT rfl (ab_1 ?_))
    unfold wbX12_run_3
    refine bo_0_0 (tp_cF (by decide) (bo_0_0 ?_))
    unfold wbX12_run_50
    refine tp_begM a3 (by omega) ⟨vp_in_nI hn (by decide), ?_⟩
    repeat' (with_reducible first | refine tp_cT (by decide) ?_ | refine tp_cF (by decide) ?_ | refine tp_dT (by decide) ?_ | refine tp_dF (by decide) ?_ | refine And.intro (by first | decide | (unfold vp_in; decide)) ?_ | fail)
    exact a5
theorem ac_5_1 {D L L2 n K : Nat} {y : Int32} (hn : n < 150) (s : Act D L n K y 4 1) : Act (D + 1) (L + 1) n K y 5 1 := by
  have nc : (nI n).toNatClampNeg = n := nI_clamp (by omega)
  obtain ⟨bs, f, g1, g2, g3⟩ := s
  refine ⟨60 :: bs, fun x => f (x) ^^^ 9, by simp <;> omega, fun N S e r p4 d x post a1 a2 a3 a4 a5 a6 a7 a8 => ?_, fun M r d x post a1 a2 a3 a4 a5 => ?_⟩
  · show wpX0_run N ((d + D) + 1) post S e (nI 5) (nI 1) x (nI p4)
    unfold wpX0_run
    refine kb_5_1 ?_
    rw [show tq_bodies.getD (nI 5 * 3 + nI 1).toNatClampNeg 0 = 60 from by decide]
    refine tp_dF (by decide) (tp_dT (show nI p4 ≤ nI 40 from nI_le (by omega) (by decide)) ⟨by unfold vp_in; decide, by unfold vp_in; decide, tp_begS a5 (by omega) ?_⟩)
    rw [nI_1]
    repeat' (with_reducible first | refine tp_cT (by decide) ?_ | refine tp_cF (by decide) ?_ | refine tp_dT (by decide) ?_ | refine tp_dF (by decide) ?_ | refine And.intro (by first | decide | (unfold vp_in; decide)) ?_ | fail)
    rw [show tq_above.getD (nI 5).toNatClampNeg 0 = nI 4 from by decide]
    refine g2 N _ e (r + 1) (p4 + 1) d _ _ a1 (by rw [tbS_k (k := 7) (by decide) (by decide)]; exact a2) (by rw [tbS_k (k := 7) (by decide) (by decide)]; exact a3) (by rw [tbS_k (k := 7) (by decide) (by decide)]; exact a4) (tbS_r a5) (by omega) (by omega) ?_
    exact a8
  · show wpX12_run ((d + D) + 1) post M (nI n) (nI 5) (nI 1) x
    unfold wpX12_run
    refine ⟨1, ?_⟩
    unfold wbX12_run_3
    refine bo_5_1 (tp_cF (by decide) (bo_5_1 ?_))
    unfold wbX12_run_50
    refine tp_begM a3 (by omega) ⟨vp_in_nI hn (by decide), ?_⟩
    repeat' (with_reducible first | refine tp_cT (by decide) ?_ | refine tp_cF (by decide) ?_ | refine tp_dT (by decide) ?_ | refine tp_dF (by decide) ?_ | refine And.intro (by first | decide | (unfold vp_in; decide)) ?_ | fail)
    refine ab_5 ?_
    exact g3 _ (r + 1) d _ _ (by rw [tbM_k (k := 110) (by decide) (by decide)]; exact a1) (by rw [tbM_k (k := 112) (by decide) (by decide)]; exact a2) (tbM_r a3) (by omega) a5
theorem ac_5_2 {D L L2 n K : Nat} {y : Int32} (hn : n < 150) (s : Act D L n K y 4 2) : Act (D + 1) (L + 1) n K y 5 2 := by
  have nc : (nI n).toNatClampNeg = n := nI_clamp (by omega)
  obtain ⟨bs, f, g1, g2, g3⟩ := s
  refine ⟨61 :: bs, fun x => f (x) * 2, by simp <;> omega, fun N S e r p4 d x post a1 a2 a3 a4 a5 a6 a7 a8 => ?_, fun M r d x post a1 a2 a3 a4 a5 => ?_⟩
  · show wpX0_run N ((d + D) + 1) post S e (nI 5) (nI 2) x (nI p4)
    unfold wpX0_run
    refine kb_5_2 ?_
    rw [show tq_bodies.getD (nI 5 * 3 + nI 2).toNatClampNeg 0 = 61 from by decide]
    refine tp_dF (by decide) (tp_dT (show nI p4 ≤ nI 40 from nI_le (by omega) (by decide)) ⟨by unfold vp_in; decide, by unfold vp_in; decide, tp_begS a5 (by omega) ?_⟩)
    rw [nI_1]
    repeat' (with_reducible first | refine tp_cT (by decide) ?_ | refine tp_cF (by decide) ?_ | refine tp_dT (by decide) ?_ | refine tp_dF (by decide) ?_ | refine And.intro (by first | decide | (unfold vp_in; decide)) ?_ | fail)
    rw [show tq_above.getD (nI 5).toNatClampNeg 0 = nI 4 from by decide]
    refine g2 N _ e (r + 1) (p4 + 1) d _ _ a1 (by rw [tbS_k (k := 7) (by decide) (by decide)]; exact a2) (by rw [tbS_k (k := 7) (by decide) (by decide)]; exact a3) (by rw [tbS_k (k := 7) (by decide) (by decide)]; exact a4) (tbS_r a5) (by omega) (by omega) ?_
    exact a8
  · show wpX12_run ((d + D) + 1) post M (nI n) (nI 5) (nI 2) x
    unfold wpX12_run
    refine ⟨1, ?_⟩
    unfold wbX12_run_3
    refine bo_5_2 (tp_cF (by decide) (bo_5_2 ?_))
    unfold wbX12_run_50
    refine tp_begM a3 (by omega) ⟨vp_in_nI hn (by decide), ?_⟩
    repeat' (with_reducible first | refine tp_cT (by decide) ?_ | refine tp_cF (by decide) ?_ | refine tp_dT (by decide) ?_ | refine tp_dF (by decide) ?_ | refine And.intro (by first | decide | (unfold vp_in; decide)) ?_ | fail)
    refine ab_5 ?_
    exact g3 _ (r + 1) d _ _ (by rw [tbM_k (k := 110) (by decide) (by decide)]; exact a1) (by rw [tbM_k (k := 112) (by decide) (by decide)]; exact a2) (tbM_r a3) (by omega) a5
theorem ac_6_0 {D L L2 n K : Nat} {y : Int32} (hn : n < 150) (s : Act D L n K y 3 0) : Act (D + 1) (L + 1) n K y 6 0 := by
  have nc : (nI n).toNatClampNeg = n := nI_clamp (by omega)
  obtain ⟨bs, f, g1, g2, g3⟩ := s
  refine ⟨70 :: bs, fun x => f (x) - y, by simp <;> omega, fun N S e r p4 d x post a1 a2 a3 a4 a5 a6 a7 a8 => ?_, fun M r d x post a1 a2 a3 a4 a5 => ?_⟩
  · show wpX0_run N ((d + D) + 1) post S e (nI 6) (nI 0) x (nI p4)
    unfold wpX0_run
    refine kb_6_0 ?_
    rw [show tq_bodies.getD (nI 6 * 3 + nI 0).toNatClampNeg 0 = 70 from by decide]
    refine tp_dF (by decide) (tp_dT (show nI p4 ≤ nI 40 from nI_le (by omega) (by decide)) ⟨by unfold vp_in; decide, by unfold vp_in; decide, tp_begS a5 (by omega) ?_⟩)
    rw [nI_1]
    repeat' (with_reducible first | refine tp_cT (by decide) ?_ | refine tp_cF (by decide) ?_ | refine tp_dT (by decide) ?_ | refine tp_dF (by decide) ?_ | refine And.intro (by first | decide | (unfold vp_in; decide)) ?_ | fail)
    rw [show tq_above.getD (nI 6).toNatClampNeg 0 = nI 3 from by decide]
    refine g2 N _ e (r + 1) (p4 + 1) d _ _ a1 (by rw [tbS_k (k := 7) (by decide) (by decide)]; exact a2) (by rw [tbS_k (k := 7) (by decide) (by decide)]; exact a3) (by rw [tbS_k (k := 7) (by decide) (by decide)]; exact a4) (tbS_r a5) (by omega) (by omega) ?_
    refine ⟨a1, ?_⟩
    rw [tbsS_k (k := 7) (by decide) (by decide), tbS_k (k := 7) (by decide) (by decide), a4]
    exact a8
  · show wpX12_run ((d + D) + 1) post M (nI n) (nI 6) (nI 0) x
    unfold wpX12_run
    refine ⟨1, ?_⟩
    unfold wbX12_run_3
    refine bo_6_0 (tp_cF (by decide) (bo_6_0 ?_))
    unfold wbX12_run_50
    refine tp_begM a3 (by omega) ⟨vp_in_nI hn (by decide), ?_⟩
    repeat' (with_reducible first | refine tp_cT (by decide) ?_ | refine tp_cF (by decide) ?_ | refine tp_dT (by decide) ?_ | refine tp_dF (by decide) ?_ | refine And.intro (by first | decide | (unfold vp_in; decide)) ?_ | fail)
    refine ab_6 ?_
    rw [nc, tbM_k (k := 112) (by decide) (by decide), a2]
    exact g3 _ (r + 1) d _ _ (by rw [tbM_k (k := 110) (by decide) (by decide)]; exact a1) (by rw [tbM_k (k := 112) (by decide) (by decide)]; exact a2) (tbM_r a3) (by omega) a5
theorem ac_6_1 {D L L2 n K : Nat} {y : Int32} (hn : n < 150) (s : Act D L n K y 0 1) : Act (D + 1) (L + 1) n K y 6 1 := by
  have nc : (nI n).toNatClampNeg = n := nI_clamp (by omega)
  obtain ⟨bs, f, g1, g2, g3⟩ := s
  refine ⟨20 :: bs, fun x => f (x) - nI n, by simp <;> omega, fun N S e r p4 d x post a1 a2 a3 a4 a5 a6 a7 a8 => ?_, fun M r d x post a1 a2 a3 a4 a5 => ?_⟩
  · show wpX0_run N ((d + D) + 1) post S e (nI 6) (nI 1) x (nI p4)
    unfold wpX0_run
    refine kb_6_1 ?_
    rw [show tq_bodies.getD (nI 1 * 3 + nI 1).toNatClampNeg 0 = 20 from by decide]
    refine tp_dF (by decide) (tp_dT (show nI p4 ≤ nI 40 from nI_le (by omega) (by decide)) ⟨by unfold vp_in; decide, by unfold vp_in; decide, tp_begS a5 (by omega) ?_⟩)
    rw [nI_1]
    repeat' (with_reducible first | refine tp_cT (by decide) ?_ | refine tp_cF (by decide) ?_ | refine tp_dT (by decide) ?_ | refine tp_dF (by decide) ?_ | refine And.intro (by first | decide | (unfold vp_in; decide)) ?_ | fail)
    rw [show tq_above.getD (nI 1).toNatClampNeg 0 = nI 0 from by decide]
    refine g2 N _ e (r + 1) (p4 + 1) d _ _ a1 (by rw [tbS_k (k := 7) (by decide) (by decide)]; exact a2) (by rw [tbS_k (k := 7) (by decide) (by decide)]; exact a3) (by rw [tbS_k (k := 7) (by decide) (by decide)]; exact a4) (tbS_r a5) (by omega) (by omega) ?_
    refine ⟨a1, ?_⟩
    rw [tbsS_k (k := 7) (by decide) (by decide), tbS_k (k := 7) (by decide) (by decide), a2]
    exact a8
  · show wpX12_run ((d + D) + 1) post M (nI n) (nI 6) (nI 1) x
    unfold wpX12_run
    refine ⟨3, ?_⟩
    unfold wbX12_run_3
    refine bo_6_1 (tp_cT rfl (ab_6 ?_))
    unfold wbX12_run_3
    refine bo_3_1 (tp_cT rfl (ab_3 ?_))
    unfold wbX12_run_3
    refine bo_1_1 (tp_cF (by decide) (bo_1_1 ?_))
    unfold wbX12_run_50
    refine tp_begM a3 (by omega) ⟨vp_in_nI hn (by decide), ?_⟩
    repeat' (with_reducible first | refine tp_cT (by decide) ?_ | refine tp_cF (by decide) ?_ | refine tp_dT (by decide) ?_ | refine tp_dF (by decide) ?_ | refine And.intro (by first | decide | (unfold vp_in; decide)) ?_ | fail)
    refine ab_1 ?_
    exact g3 _ (r + 1) d _ _ (by rw [tbM_k (k := 110) (by decide) (by decide)]; exact a1) (by rw [tbM_k (k := 112) (by decide) (by decide)]; exact a2) (tbM_r a3) (by omega) a5
theorem ac_6_2 {D L L2 n K : Nat} {y : Int32} (hn : n < 150) (s : Act D L n K y 1 2) : Act (D + 1) (L + 1) n K y 6 2 := by
  have nc : (nI n).toNatClampNeg = n := nI_clamp (by omega)
  obtain ⟨bs, f, g1, g2, g3⟩ := s
  refine ⟨40 :: bs, fun x => f (x - 1), by simp <;> omega, fun N S e r p4 d x post a1 a2 a3 a4 a5 a6 a7 a8 => ?_, fun M r d x post a1 a2 a3 a4 a5 => ?_⟩
  · show wpX0_run N ((d + D) + 1) post S e (nI 6) (nI 2) x (nI p4)
    unfold wpX0_run
    refine kb_6_2 ?_
    rw [show tq_bodies.getD (nI 3 * 3 + nI 2).toNatClampNeg 0 = 40 from by decide]
    refine tp_dF (by decide) (tp_dT (show nI p4 ≤ nI 40 from nI_le (by omega) (by decide)) ⟨by unfold vp_in; decide, by unfold vp_in; decide, tp_begS a5 (by omega) ?_⟩)
    rw [nI_1]
    repeat' (with_reducible first | refine tp_cT (by decide) ?_ | refine tp_cF (by decide) ?_ | refine tp_dT (by decide) ?_ | refine tp_dF (by decide) ?_ | refine And.intro (by first | decide | (unfold vp_in; decide)) ?_ | fail)
    rw [show tq_above.getD (nI 3).toNatClampNeg 0 = nI 1 from by decide]
    refine g2 N _ e (r + 1) (p4 + 1) d _ _ a1 (by rw [tbS_k (k := 7) (by decide) (by decide)]; exact a2) (by rw [tbS_k (k := 7) (by decide) (by decide)]; exact a3) (by rw [tbS_k (k := 7) (by decide) (by decide)]; exact a4) (tbS_r a5) (by omega) (by omega) ?_
    exact a8
  · show wpX12_run ((d + D) + 1) post M (nI n) (nI 6) (nI 2) x
    unfold wpX12_run
    refine ⟨2, ?_⟩
    unfold wbX12_run_3
    refine bo_6_2 (tp_cT rfl (ab_6 ?_))
    unfold wbX12_run_3
    refine bo_3_2 (tp_cF (by decide) (bo_3_2 ?_))
    unfold wbX12_run_50
    refine tp_begM a3 (by omega) ⟨vp_in_nI hn (by decide), ?_⟩
    repeat' (with_reducible first | refine tp_cT (by decide) ?_ | refine tp_cF (by decide) ?_ | refine tp_dT (by decide) ?_ | refine tp_dF (by decide) ?_ | refine And.intro (by first | decide | (unfold vp_in; decide)) ?_ | fail)
    refine ab_3 ?_
    exact g3 _ (r + 1) d _ _ (by rw [tbM_k (k := 110) (by decide) (by decide)]; exact a1) (by rw [tbM_k (k := 112) (by decide) (by decide)]; exact a2) (tbM_r a3) (by omega) a5
theorem Act0 {n K κ : Nat} {y : Int32} (hn : n < 150) (hκ : κ ≤ 6) : Act 2 2 n K y κ 0 := by
  have h : κ = 0 ∨ κ = 1 ∨ κ = 2 ∨ κ = 3 ∨ κ = 4 ∨ κ = 5 ∨ κ = 6 := by omega
  rcases h with rfl | rfl | rfl | rfl | rfl | rfl | rfl
  · exact (ac_0_0 (D := 0) (L := 0) (L2 := 0) hn).up (by decide) (by decide)
  · exact (ac_1_0 (D := 0) (L := 0) (L2 := 0) hn).up (by decide) (by decide)
  · exact ac_2_0 (L2 := 0) hn (ac_1_0 (D := 0) (L := 0) (L2 := 0) hn)
  · exact (ac_3_0 (D := 0) (L := 0) (L2 := 0) hn).up (by decide) (by decide)
  · exact (ac_4_0 (D := 0) (L := 0) (L2 := 0) hn).up (by decide) (by decide)
  · exact (ac_5_0 (D := 0) (L := 0) (L2 := 0) hn).up (by decide) (by decide)
  · exact ac_6_0 (L2 := 0) hn (ac_3_0 (D := 0) (L := 0) (L2 := 0) hn)
theorem Act1 {n K κ : Nat} {y : Int32} (hn : n < 150) (hK : K ≤ 6) (hκ : κ ≤ 6) : Act 5 5 n K y κ 1 := by
  have a0 : Act 3 3 n K y 0 1 := ac_0_1 (L2 := 0) hn (Act0 hn hK)
  have a1 : Act 4 4 n K y 1 1 := ac_1_1 (L2 := 0) hn a0
  have a4 : Act 4 4 n K y 4 1 := ac_4_1 (L2 := 0) hn a0
  have h : κ = 0 ∨ κ = 1 ∨ κ = 2 ∨ κ = 3 ∨ κ = 4 ∨ κ = 5 ∨ κ = 6 := by omega
  rcases h with rfl | rfl | rfl | rfl | rfl | rfl | rfl
  · exact a0.up (by decide) (by decide)
  · exact a1.up (by decide) (by decide)
  · exact (ac_2_1 (L2 := 0) hn a0).up (by decide) (by decide)
  · exact (ac_3_1 (L2 := 0) hn a0).up (by decide) (by decide)
  · exact a4.up (by decide) (by decide)
  · exact ac_5_1 (L2 := 0) hn a4
  · exact (ac_6_1 (L2 := 0) hn a0).up (by decide) (by decide)
theorem Act2 {n K κ : Nat} {y : Int32} (hn : n < 150) (hK : K ≤ 6) (hκ : κ ≤ 6) : Act 8 10 n K y κ 2 := by
  have s1 := Act1 (y := y) hn hK hK
  have s0 : Act 5 2 n K y K 0 := (Act0 hn hK).up (by decide) (by decide)
  have a0 : Act 6 8 n K y 0 2 := ac_0_2 hn s1 s0
  have a1 : Act 6 8 n K y 1 2 := ac_1_2 hn s1 s0
  have a4 : Act 7 9 n K y 4 2 := ac_4_2 (L2 := 0) hn a1
  have h : κ = 0 ∨ κ = 1 ∨ κ = 2 ∨ κ = 3 ∨ κ = 4 ∨ κ = 5 ∨ κ = 6 := by omega
  rcases h with rfl | rfl | rfl | rfl | rfl | rfl | rfl
  · exact a0.up (by decide) (by decide)
  · exact a1.up (by decide) (by decide)
  · exact (ac_2_2 hn s1 s0).up (by decide) (by decide)
  · exact (ac_3_2 (L2 := 0) hn a1).up (by decide) (by decide)
  · exact a4.up (by decide) (by decide)
  · exact ac_5_2 (L2 := 0) hn a4
  · exact (ac_6_2 (L2 := 0) hn a1).up (by decide) (by decide)
