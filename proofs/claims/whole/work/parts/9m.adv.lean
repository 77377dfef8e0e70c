/-! pure: what a factory does: advance -/
theorem tp_anyM {post : tq_St → Int32 → Prop} {M : tq_St} {A p s : Nat} (hA : M 64 0 45 = nI A) (hA2 : A ≤ 17) (h : post M (tp_b (∃ a, tp_opn A p s (M 146 0) (M 147 0) (M 150 0) a))) : ∀ (m i : Nat), i + m = A → (∀ a, a < i → ¬ tp_opn A p s (M 146 0) (M 147 0) (M 150 0) a) → wbX12_anyOpen_2 post (m + 1) M (nI p) (nI s) (nI i)
  | 0, i, hi, hn => by
    unfold wbX12_anyOpen_2
    rw [hA]
    rw [tp_bf (fun ⟨a, ha⟩ => hn a (by have := ha.1; omega) ha)] at h
    exact tp_dT (nI_le (by omega) (by omega)) h
  | m + 1, i, hi, hn => by
    unfold wbX12_anyOpen_2 wbX12_anyOpen_42
    rw [hA, nI_clamp (show i < 2 ^ 31 by omega), nI_1]
    refine tp_dF (nI_ge (by omega) (by omega)) ⟨vp_in_nI (by omega) (by decide), ?_⟩
    have rec1 : ¬ tp_opn A p s (M 146 0) (M 147 0) (M 150 0) i → wbX12_anyOpen_2 post (m + 1) M (nI p) (nI s) (nI (i + 1)) := fun z => tp_anyM hA hA2 h m (i + 1) (by omega) (fun a ha => by
      by_cases e : a = i
      · rw [e]; exact z
      · exact hn a (by omega))
    by_cases q1 : M 146 0 i = nI p
    · refine tp_cT q1 ?_
      by_cases q2 : M 147 0 i = nI s
      · refine tp_cT q2 ?_
        by_cases q3 : 5 ≤ M 150 0 i
        · exact tp_dT q3 (rec1 (fun z => by have := z.2.2.2; rw [tp_lt] at this; rw [tp_le] at q3; omega))
        · rw [tp_bt ⟨i, by omega, q1, q2, by rw [tp_lt]; rw [tp_le] at q3; omega⟩] at h
          exact tp_dF q3 h
      · exact tp_cF q2 (rec1 (fun z => q2 z.2.2.1))
    · exact tp_cF q1 (rec1 (fun z => q1 z.2.1))
def gK (Z : Nat → Int32) (i : Nat) : List Nat := (List.range i).filter (fun a => Z a < 5)
theorem gK_len (Z : Nat → Int32) (i : Nat) : (gK Z i).length ≤ i := by
  unfold gK
  have := List.length_filter_le (fun a => decide (Z a < 5)) (List.range i)
  rw [List.length_range] at this
  exact this
theorem gK_s (Z : Nat → Int32) (i : Nat) : gK Z (i + 1) = gK Z i ++ (if Z i < 5 then [i] else []) := by
  unfold gK
  rw [List.range_succ, List.filter_append]
  by_cases h : Z i < 5
  · simp [h]
  · simp [h]
theorem gK_mem {Z : Nat → Int32} {i a : Nat} : a ∈ gK Z i ↔ a < i ∧ Z a < 5 := by
  unfold gK
  rw [List.mem_filter, List.mem_range]
  simp
theorem gK_inj {Z : Nat → Int32} {i j k a : Nat} (h1 : (gK Z i)[j]? = some a) (h2 : (gK Z i)[k]? = some a) : j = k := by
  have pw : (gK Z i).Pairwise (· < ·) := by
    unfold gK
    exact List.Pairwise.filter _ List.pairwise_lt_range
  rw [List.getElem?_eq_some_iff] at h1 h2
  obtain ⟨a1, a2⟩ := h1
  obtain ⟨b1, b2⟩ := h2
  have pg := List.pairwise_iff_getElem.mp pw
  rcases Nat.lt_trichotomy j k with q | q | q
  · have := pg j k a1 b1 q
    rw [a2, b2] at this; omega
  · exact q
  · have := pg k j b1 a1 q
    rw [a2, b2] at this; omega
theorem tp_giveM {post : tq_St → Prop} {M : tq_St} {A p s num : Nat} (hA : M 64 0 45 = nI A) (hA2 : A ≤ 17)
    (h : ∀ M1 : tq_St, (∀ k, (k < 146 ∨ 150 < k) → M1 k = tq_up M 64 0 45 (nI ((gK (M 150 0) A).length + 1)) k) → (∀ k j a, 146 ≤ k → k ≤ 150 → (gK (M 150 0) A)[j]? = some a → M1 k 0 j = M k 0 a) → (M1 146 0 (gK (M 150 0) A).length = nI p ∧ M1 147 0 (gK (M 150 0) A).length = nI s ∧ M1 148 0 (gK (M 150 0) A).length = nI num ∧ M1 149 0 (gK (M 150 0) A).length = M 64 0 0 ∧ M1 150 0 (gK (M 150 0) A).length = 0) → post M1) :
    ∀ (m i : Nat) (M2 : tq_St), i + m = A → (∀ k, (k < 146 ∨ 150 < k) → M2 k = M k) → (∀ k j a, 146 ≤ k → k ≤ 150 → (gK (M 150 0) i)[j]? = some a → M2 k 0 j = M k 0 a) → (∀ k j, 146 ≤ k → k ≤ 150 → i ≤ j → M2 k 0 j = M k 0 j) → wbX12_give_6 post (m + 1) M2 (nI p) (nI s) (nI num) (nI (gK (M 150 0) i).length) (nI i)
  | 0, i, M2, hi, h1, h2, h3 => by
    have hi2 : i = A := by omega
    subst hi2
    have len := gK_len (M 150 0) i
    unfold wbX12_give_6
    rw [h1 64 (by decide), hA]
    generalize hn : (gK (M 150 0) i).length = n at *
    rw [nI_clamp (show n < 2 ^ 31 by omega), nI_1]
    refine tp_dT (nI_le (by omega) (by omega)) ⟨vp_in_nI (by omega) (by decide), tp_ae (tp_ae (tp_ae (tp_ae (tp_ae (tp_ae (h _ (fun k hk => ?_) (fun k j a k1 k2 ha => ?_) ⟨?_, ?_, ?_, ?_, ?_⟩))))))⟩
    · by_cases q : k = 64
      · subst q
        funext b x
        by_cases q2 : b = 0
        · subst q2
          by_cases q3 : x = 45
          · subst q3; rw [tq_upe, tq_upe]
          · rw [tq_upj q3, tq_upj q3, tq_upk (by decide), tq_upk (by decide), tq_upk (by decide), tq_upk (by decide), tq_upk (by decide), h1 64 (by decide)]
        · simp (disch := first | decide | exact q2) only [tq_upi, tq_upk]
          rw [h1 64 (by decide)]
      · rw [tq_upk q, tq_upk (by omega), tq_upk (by omega), tq_upk (by omega), tq_upk (by omega), tq_upk (by omega), tq_upk q, h1 k hk]
    · have hj : j ≠ n := by
        rw [List.getElem?_eq_some_iff] at ha
        obtain ⟨w1, _⟩ := ha
        omega
      rw [← h2 k j a k1 k2 ha, tq_upk (by omega)]
      have ck : k = 146 ∨ k = 147 ∨ k = 148 ∨ k = 149 ∨ k = 150 := by omega
      rcases ck with rfl | rfl | rfl | rfl | rfl
      · simp (disch := decide) only [tq_upk]; rw [tq_upj hj]
      · simp (disch := decide) only [tq_upk]; rw [tq_upj hj]; simp (disch := decide) only [tq_upk]
      · simp (disch := decide) only [tq_upk]; rw [tq_upj hj]; simp (disch := decide) only [tq_upk]
      · simp (disch := decide) only [tq_upk]; rw [tq_upj hj]; simp (disch := decide) only [tq_upk]
      · rw [tq_upj hj]; simp (disch := decide) only [tq_upk]
    · simp (disch := decide) only [tq_upk, tq_upe]
    · simp (disch := decide) only [tq_upk, tq_upe]
    · simp (disch := decide) only [tq_upk, tq_upe]
    · simp (disch := decide) only [tq_upk, tq_upe]; rw [h1 64 (by decide)]
    · simp (disch := decide) only [tq_upk, tq_upe]
  | m + 1, i, M2, hi, h1, h2, h3 => by
    have len := gK_len (M 150 0) i
    unfold wbX12_give_6 wbX12_give_99
    rw [h1 64 (by decide), hA, nI_clamp (show i < 2 ^ 31 by omega), h3 150 i (by decide) (by decide) (Nat.le_refl _), nI_1 i]
    refine tp_dF (nI_ge (by omega) (by omega)) ⟨vp_in_nI (by omega) (by decide), ?_⟩
    have gs := gK_s (M 150 0) i
    by_cases q : 5 ≤ M 150 0 i
    · rw [if_neg (by rw [tp_lt]; rw [tp_le] at q; omega), List.append_nil] at gs
      refine tp_dT q ?_
      rw [← gs]
      exact tp_giveM hA hA2 h m (i + 1) M2 (by omega) h1 (by rw [gs]; exact h2) (fun k j k1 k2 hj => h3 k j k1 k2 (by omega))
    · rw [if_pos (by rw [tp_lt]; rw [tp_le] at q; omega)] at gs
      have gl : (gK (M 150 0) (i + 1)).length = (gK (M 150 0) i).length + 1 := by rw [gs]; simp
      refine tp_dF q ⟨vp_in_nI (by omega) (by decide), tp_ae (tp_ae (tp_ae (tp_ae (tp_ae ?_))))⟩
      rw [nI_clamp (show (gK (M 150 0) i).length < 2 ^ 31 by omega), nI_1, ← gl]
      refine tp_giveM hA hA2 h m (i + 1) _ (by omega) (fun k hk => ?_) (fun k j a k1 k2 ha => ?_) (fun k j k1 k2 hj => ?_)
      · rw [tq_upk (by omega), tq_upk (by omega), tq_upk (by omega), tq_upk (by omega), tq_upk (by omega)]; exact h1 k hk
      · rw [gs] at ha
        have ck : k = 146 ∨ k = 147 ∨ k = 148 ∨ k = 149 ∨ k = 150 := by omega
        by_cases hj : j < (gK (M 150 0) i).length
        · rw [List.getElem?_append_left hj] at ha
          rw [← h2 k j a k1 k2 ha]
          have hne : j ≠ (gK (M 150 0) i).length := by omega
          rcases ck with rfl | rfl | rfl | rfl | rfl
          · simp (disch := decide) only [tq_upk]; rw [tq_upj hne]
          · simp (disch := decide) only [tq_upk]; rw [tq_upj hne]; simp (disch := decide) only [tq_upk]
          · simp (disch := decide) only [tq_upk]; rw [tq_upj hne]; simp (disch := decide) only [tq_upk]
          · simp (disch := decide) only [tq_upk]; rw [tq_upj hne]; simp (disch := decide) only [tq_upk]
          · rw [tq_upj hne]; simp (disch := decide) only [tq_upk]
        · have hj2 : j = (gK (M 150 0) i).length := by
            rw [List.getElem?_eq_some_iff] at ha
            obtain ⟨w1, _⟩ := ha
            simp at w1
            omega
          subst hj2
          have ea : i = a := by simpa using ha
          subst ea
          rcases ck with rfl | rfl | rfl | rfl | rfl
          · simp (disch := decide) only [tq_upk, tq_upe]; exact h3 146 i (by decide) (by decide) (Nat.le_refl _)
          · simp (disch := decide) only [tq_upk, tq_upe]; exact h3 147 i (by decide) (by decide) (Nat.le_refl _)
          · simp (disch := decide) only [tq_upk, tq_upe]; exact h3 148 i (by decide) (by decide) (Nat.le_refl _)
          · simp (disch := decide) only [tq_upk, tq_upe]; exact h3 149 i (by decide) (by decide) (Nat.le_refl _)
          · simp (disch := decide) only [tq_upk, tq_upe]; exact h3 150 i (by decide) (by decide) (Nat.le_refl _)
      · rw [← h3 k j k1 k2 (by omega)]
        have hne : j ≠ (gK (M 150 0) i).length := by omega
        have ck : k = 146 ∨ k = 147 ∨ k = 148 ∨ k = 149 ∨ k = 150 := by omega
        rcases ck with rfl | rfl | rfl | rfl | rfl
        · simp (disch := decide) only [tq_upk]; rw [tq_upj hne]
        · simp (disch := decide) only [tq_upk]; rw [tq_upj hne]; simp (disch := decide) only [tq_upk]
        · simp (disch := decide) only [tq_upk]; rw [tq_upj hne]; simp (disch := decide) only [tq_upk]
        · simp (disch := decide) only [tq_upk]; rw [tq_upj hne]; simp (disch := decide) only [tq_upk]
        · rw [tq_upj hne]; simp (disch := decide) only [tq_upk]
/-- other rows in the place of those of the advances -/
def ov (M X : tq_St) (v : Int32) : tq_St := fun k => if 146 ≤ k ∧ k ≤ 150 then X k else tq_up M 64 0 45 v k
theorem ovk {M X : tq_St} {v : Int32} {k : Nat} (h : k < 146 ∨ 150 < k) : ov M X v k = tq_up M 64 0 45 v k := by
  unfold ov
  rw [if_neg (by omega)]
theorem ovj {M X : tq_St} {v : Int32} {j : Nat} (h : j ≠ 45) : ov M X v 64 0 j = M 64 0 j := by
  rw [ovk (by decide), tq_upj h]
theorem ov_k {M X : tq_St} {v : Int32} {k : Nat} (h : k < 146 ∨ 150 < k) (h2 : k ≠ 64) : ov M X v k = M k := by
  rw [ovk h, tq_upk h2]
theorem ov_eq {M X : tq_St} {v : Int32} (h : ∀ k, (k < 146 ∨ 150 < k) → X k = tq_up M 64 0 45 v k) : ov M X v = X := by
  funext k
  unfold ov
  by_cases q : 146 ≤ k ∧ k ≤ 150
  · rw [if_pos q]
  · rw [if_neg q]; exact (h k (by omega)).symm
theorem RR_advs {c h w d pn P Sh V E A t r eb : Nat} {G : Nat → Nat → Nat → Nat} {C : Nat → Nat → Nat} {OL : Nat → List Nat} {N : tq_Nn} {S M : tq_St} (h0 : RR c h w d pn P Sh V E A t r eb G C OL N S M) {A1 : Nat} {X : tq_St} {p s : Nat} {u1 u2 u3 : Int32} (hA1 : A1 ≤ 17) (had1 : q_ad d w A1 (tq_up (tq_up (tq_up S 33 p s u1) 34 p s u2) 35 p s u3) (ov M X (nI A1))) : RR c h w d pn P Sh V E A1 t r eb G C OL N (tq_up (tq_up (tq_up S 33 p s u1) 34 p s u2) 35 p s u3) (ov M X (nI A1)) := by
  obtain ⟨hsc, hss, har, hpl, hlg, hsh, hpe, hmo, hpr, hsr, hpa, hkn, hst, hpm, hsi, hab, hsm, hvo, hvm, hbi, hlb, hiv, hod, hol, hoi, hfi, hli, had, hro⟩ := h0
  refine ⟨?_, ?_, ?_, ?_, ?_, ?_, ?_, ?_, ?_, ?_, ?_, ?_, ?_, ?_, ?_, ?_, ?_, ?_, ?_, ?_, ?_, ?_, ?_, ?_, ?_, ?_, ?_, ?_, ?_⟩
  · obtain ⟨a1, a2, a3, a4, a5, a6, a7, a8, a9, b1, b2, b3, b4, b5, b6, b7, b8, b9, e1, e2⟩ := hsc
    refine ⟨?_, ?_, ?_, ?_, ?_, ?_, ?_, ?_, ?_, b1, b2, b3, b4, b5, b6, b7, hA1, b9, e1, e2⟩
    · rw [ovj (by decide)]; exact a1
    · rw [ovj (by decide)]; exact a2
    · rw [ovj (by decide)]; exact a3
    · rw [ovj (by decide)]; exact a4
    · rw [ovj (by decide)]; exact a5
    · rw [ovj (by decide)]; exact a6
    · rw [ovk (by decide), tq_upe]
    · rw [ovj (by decide)]; exact a8
    · rw [ovj (by decide)]; exact a9
  · simpa (disch := decide) only [q_ss, tq_upk, tq_upj, tq_cpk, ov_k, ovj] using hss
  · simpa (disch := decide) only [q_ar, tq_upk, tq_upj, tq_cpk, ov_k, ovj] using har
  · simpa (disch := decide) only [q_pl, tq_upk, tq_upj, tq_cpk, ov_k, ovj] using hpl
  · simpa (disch := decide) only [q_lg, tq_upk, tq_upj, tq_cpk, ov_k, ovj] using hlg
  · simpa (disch := decide) only [q_sh, tq_upk, tq_upj, tq_cpk, ov_k, ovj] using hsh
  · simpa (disch := decide) only [q_pe, tq_upk, tq_upj, tq_cpk, ov_k, ovj] using hpe
  · simpa (disch := decide) only [q_mo, tq_upk, tq_upj, tq_cpk, ov_k, ovj] using hmo
  · simpa (disch := decide) only [q_pr, tq_upk, tq_upj, tq_cpk, ov_k, ovj] using hpr
  · simpa (disch := decide) only [q_sr, tq_upk, tq_upj, tq_cpk, ov_k, ovj] using hsr
  · simpa (disch := decide) only [q_pa, q_pb, tq_upk, tq_upj, tq_cpk, ov_k, ovj] using hpa
  · simpa (disch := decide) only [q_kn, tq_upk, tq_upj, tq_cpk, ov_k, ovj] using hkn
  · simpa (disch := decide) only [q_st, tq_upk, tq_upj, tq_cpk, ov_k, ovj] using hst
  · simpa (disch := decide) only [q_pm, q_pn, tq_upk, tq_upj, tq_cpk, ov_k, ovj] using hpm
  · simpa (disch := decide) only [q_si, tq_upk, tq_upj, tq_cpk, ov_k, ovj] using hsi
  · simpa (disch := decide) only [q_ab, tq_upk, tq_upj, tq_cpk, ov_k, ovj] using hab
  · simpa (disch := decide) only [q_sm, tq_upk, tq_upj, tq_cpk, ov_k, ovj] using hsm
  · simpa (disch := decide) only [q_vo, tq_upk, tq_upj, tq_cpk, ov_k, ovj] using hvo
  · simpa (disch := decide) only [q_vm, tq_upk, tq_upj, tq_cpk, ov_k, ovj] using hvm
  · simpa (disch := decide) only [q_bi, tq_upk, tq_upj, tq_cpk, ov_k, ovj] using hbi
  · simpa (disch := decide) only [q_lb, tq_upk, tq_upj, tq_cpk, ov_k, ovj] using hlb
  · simpa (disch := decide) only [q_iv, tq_upk, tq_upj, tq_cpk, ov_k, ovj] using hiv
  · simpa (disch := decide) only [q_od, tq_upk, tq_upj, tq_cpk, ov_k, ovj] using hod
  · simpa (disch := decide) only [q_ol, tq_upk, tq_upj, tq_cpk, ov_k, ovj] using hol
  · simpa (disch := decide) only [q_oi, tq_upk, tq_upj, tq_cpk, ov_k, ovj] using hoi
  · simpa (disch := decide) only [q_fi, tq_upk, tq_upj, tq_cpk, ov_k, ovj] using hfi
  · simpa (disch := decide) only [q_li, tq_upk, tq_upj, tq_cpk, ov_k, ovj] using hli
  · exact had1
  · simpa (disch := decide) only [q_ro, tq_upk, tq_upj, tq_cpk, ov_k, ovj] using hro
