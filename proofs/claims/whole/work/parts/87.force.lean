/-! pure: gather, force, forced -/
def tp_hd : List Nat → Int32
  | [] => -1
  | x :: _ => nI x
def tp_GM (P p d : Nat) (M : tq_St) (l : List Nat) : Prop := M 64 0 9 = nI P ∧ P ≤ 150 ∧ p < 5 ∧ M 64 0 0 = nI d ∧ d ≤ 2999 ∧ (∀ n, n < P → (M 115 n p).toInt ≤ d) ∧ (∀ n, n < P → M 110 0 n = 2 → ∃ g : Nat, g ≤ 6 ∧ M 117 0 n = nI g) ∧ (∀ n, n ∈ l ↔ tp_KO P p (M 110 0) (M 113 0) (M 115) n) ∧ l.Pairwise (tp_ah p (M 115))
theorem tp_GM.go {P p d : Nat} {M M1 : tq_St} {l : List Nat} (h : tp_GM P p d M l) (e : ∀ k, k ≠ 172 → M1 k = M k) : tp_GM P p d M1 l := by
  unfold tp_GM
  rw [e 64 (by decide), e 115 (by decide), e 110 (by decide), e 117 (by decide), e 113 (by decide)]
  exact h
noncomputable def tp_cs (U : Nat → Int32) (B : Nat → Nat → Int32) (x : Nat) (l : List Nat) (g : Nat) : Bool := @decide (∀ y ∈ l, ¬ tp_has U B x g y) (Classical.propDecidable _)
theorem tp_cs_iff {U : Nat → Int32} {B : Nat → Nat → Int32} {x : Nat} {l : List Nat} {g : Nat} : tp_cs U B x l g = true ↔ ∀ y ∈ l, ¬ tp_has U B x g y := by
  unfold tp_cs
  exact @decide_eq_true_iff _ (Classical.propDecidable _)
theorem tp_gat16 {post : tq_St → Int32 → Prop} {L9 : tq_St → Int32 → Int32 → Int32 → Prop} {P p d x gx : Nat} {M : tq_St} {pre suf : List Nat} (hG : tp_GM P p d M (pre ++ x :: suf)) (hgx : gx ≤ 6) (h117 : M 117 0 x = nI gx) : ∀ (k g n : Nat) (M' : tq_St), g + k = gx → n + k ≤ 900 → (∀ k, k ≠ 172 → M' k = M k) → (∀ M1 : tq_St, (∀ k, k ≠ 172 → M1 k = M k) → (∀ j, j < n → M1 172 0 j = M' 172 0 j) → (∀ j h : Nat, ((List.range' g k).filter (tp_cs (M 117 0) (M 118) x suf))[j]? = some h → M1 172 0 (n + j) = nI (10 * x + h)) → wpX12_nextOrder (fun M6 r7 => L9 M6 (nI p) (nI (n + ((List.range' g k).filter (tp_cs (M 117 0) (M 118) x suf)).length)) r7) M1 (nI x) (nI p)) → wbX12_gather_16 post L9 (k + 1) M' (nI p) (nI n) (nI x) (nI g)
  | 0, g, n, M', hg, hn, hM', hk => by
    have hx := ((hG.2.2.2.2.2.2.2.1 x).mp (by simp)).1
    have hP2 := hG.2.1
    have xc : (nI x).toNatClampNeg = x := nI_clamp (by omega)
    unfold wbX12_gather_16
    rw [xc, hM' 117 (by decide), h117]
    refine ⟨vp_in_nI (by omega) (by decide), tp_dT (nI_le (by omega) (by omega)) ?_⟩
    exact hk M' hM' (fun j _ => rfl) (fun j h hh => by simp at hh)
  | k + 1, g, n, M', hg, hn, hM', hk => by
    have hx := ((hG.2.2.2.2.2.2.2.1 x).mp (by simp)).1
    have hP2 := hG.2.1
    have xc : (nI x).toNatClampNeg = x := nI_clamp (by omega)
    obtain ⟨q1, q2, q3, q4, q5, q6, q7, q8, q9⟩ := hG.go hM'
    have key : (∀ y, tp_KO P p (M' 110 0) (M' 113 0) (M' 115) y → tp_ah p (M' 115) x y → ¬ tp_has (M' 117 0) (M' 118) x g y) ↔ tp_cs (M 117 0) (M 118) x suf g = true := by
      rw [tp_cs_iff]
      constructor
      · intro z y hy
        have hy2 : y ∈ pre ++ x :: suf := by simp [hy]
        have := z y ((q8 y).mp hy2) ((tp_suf q9 hy2).mpr hy)
        rw [hM' 117 (by decide), hM' 118 (by decide)] at this
        exact this
      · intro z y hy hxy
        have hy2 := (q8 y).mpr hy
        rw [hM' 117 (by decide), hM' 118 (by decide)]
        exact z y ((tp_suf q9 hy2).mp hxy)
    unfold wbX12_gather_16
    rw [xc, hM' 117 (by decide), h117]
    refine ⟨vp_in_nI (by omega) (by decide), tp_dF (nI_ge (by omega) (by omega)) (tp_standM (by omega) (by omega) q1 q2 q3 q4 (by omega) q6 q7 ?_)⟩
    simp only [wbX12_gather_54, nI_1]
    by_cases e : tp_cs (M 117 0) (M 118) x suf g = true
    · rw [tp_bt (key.mpr e)]
      have e10 : 10 * nI x + nI g = nI (10 * x + g) := by rw [show (10 : Int32) * nI x = nI (10 * x) from pk_mul 10 x, nI_add]
      refine tp_dF (by decide) ⟨vp_in_nI (by omega) (by decide), tp_ae ?_⟩
      rw [nI_clamp (by omega), e10]
      refine tp_gat16 hG hgx h117 k (g + 1) (n + 1) _ (by omega) (by omega) (fun k hk => by rw [tq_upk hk]; exact hM' k hk) (fun M1 z1 z2 z3 => ?_)
      have hl : (List.range' g (k + 1)).filter (tp_cs (M 117 0) (M 118) x suf) = g :: (List.range' (g + 1) k).filter (tp_cs (M 117 0) (M 118) x suf) := by
        rw [List.range'_succ, List.filter_cons, if_pos e]
      have := hk M1 z1 (fun j hj => by rw [z2 j (by omega), tq_upj (by omega)]) (fun j h hh => by
        rw [hl] at hh
        match j, hh with
        | 0, hh =>
          simp at hh
          subst hh
          have := z2 n (by omega)
          rw [tq_upe] at this
          exact this
        | j + 1, hh =>
          simp at hh
          have := z3 j h hh
          rw [show n + (j + 1) = n + 1 + j by omega]; exact this)
      rw [hl] at this
      simp only [List.length_cons] at this
      rw [show n + 1 + ((List.range' (g + 1) k).filter (tp_cs (M 117 0) (M 118) x suf)).length = n + (((List.range' (g + 1) k).filter (tp_cs (M 117 0) (M 118) x suf)).length + 1) by omega]
      exact this
    · rw [tp_bf (fun z => e (key.mp z))]
      have hl : (List.range' g (k + 1)).filter (tp_cs (M 117 0) (M 118) x suf) = (List.range' (g + 1) k).filter (tp_cs (M 117 0) (M 118) x suf) := by
        rw [List.range'_succ, List.filter_cons, if_neg e]
      rw [hl] at hk
      exact tp_dT rfl (tp_gat16 hG hgx h117 k (g + 1) n M' (by omega) (by omega) hM' hk)
theorem tp_FL_cons {U : Nat → Int32} {B : Nat → Nat → Int32} {x : Nat} {l : List Nat} : tp_FL U B (x :: l) = ((List.range' 0 (U x).toNatClampNeg).filter (tp_cs U B x l)).map (fun g => (x, g)) ++ tp_FL U B l := by
  simp only [tp_FL]
  rw [← List.range_eq_range']
  rfl
theorem tp_gat9 {post : tq_St → Int32 → Prop} {P p d : Nat} {M : tq_St} : ∀ (suf pre : List Nat) (n : Nat) (M' : tq_St), tp_GM P p d M (pre ++ suf) → n + 6 * suf.length ≤ 900 → (∀ k, k ≠ 172 → M' k = M k) → (∀ M1 : tq_St, (∀ k, k ≠ 172 → M1 k = M k) → (∀ j, j < n → M1 172 0 j = M' 172 0 j) → (∀ j x g : Nat, (tp_FL (M 117 0) (M 118) suf)[j]? = some (x, g) → M1 172 0 (n + j) = nI (10 * x + g)) → post M1 (nI (n + (tp_FL (M 117 0) (M 118) suf).length))) → wbX12_gather_9 post (suf.length + 1) M' (nI p) (nI n) (tp_hd suf)
  | [], pre, n, M', hG, hn, hM', hk => by
    unfold wbX12_gather_9
    refine tp_dT (by decide) ?_
    have := hk M' hM' (fun _ _ => rfl) (fun j x g hh => by simp [tp_FL] at hh)
    simpa [tp_FL] using this
  | x :: suf, pre, n, M', hG, hn, hM', hk => by
    have hK := (hG.2.2.2.2.2.2.2.1 x).mp (by simp)
    have hP2 := hG.2.1
    obtain ⟨gx, hgx, h117⟩ := hG.2.2.2.2.2.2.1 x hK.1 hK.2.1
    have gc : (M 117 0 x).toNatClampNeg = gx := by rw [h117]; exact nI_clamp (by omega)
    have hx := hK.1
    have hlen : (x :: suf).length = suf.length + 1 := rfl
    rw [hlen] at hn ⊢
    unfold wbX12_gather_9
    refine tp_dF (nI_pos (by omega)) ⟨gx + 1, tp_gat16 hG hgx h117 gx 0 n M' (by omega) (by omega) hM' (fun M1 z1 z2 z3 => ?_)⟩
    have fll : ((List.range' 0 gx).filter (tp_cs (M 117 0) (M 118) x suf)).length ≤ 6 := by
      have := List.length_filter_le (tp_cs (M 117 0) (M 118) x suf) (List.range' 0 gx)
      rw [List.length_range'] at this
      omega
    have ih := tp_gat9 (post := post) (M := M) suf (pre ++ [x]) (n + ((List.range' 0 gx).filter (tp_cs (M 117 0) (M 118) x suf)).length) M1 (by simpa using hG) (by omega) z1 (fun M2 y1 y2 y3 => by
      have eF : tp_FL (M 117 0) (M 118) (x :: suf) = ((List.range' 0 gx).filter (tp_cs (M 117 0) (M 118) x suf)).map (fun g => (x, g)) ++ tp_FL (M 117 0) (M 118) suf := by rw [tp_FL_cons, gc]
      have := hk M2 y1 (fun j hj => by rw [y2 j (by omega), z2 j hj]) (fun j x' g hh => by
        rw [eF] at hh
        by_cases e : j < ((List.range' 0 gx).filter (tp_cs (M 117 0) (M 118) x suf)).length
        · rw [List.getElem?_append_left (by simpa using e), List.getElem?_map] at hh
          cases q : ((List.range' 0 gx).filter (tp_cs (M 117 0) (M 118) x suf))[j]? with
          | none => rw [q] at hh; simp at hh
          | some h =>
            rw [q] at hh
            simp at hh
            obtain ⟨r1, r2⟩ := hh
            subst r1; subst r2
            rw [y2 (n + j) (by omega)]; exact z3 j h q
        · rw [List.getElem?_append_right (by simpa using Nat.le_of_not_lt e)] at hh
          simp only [List.length_map] at hh
          have := y3 _ x' g hh
          rw [← this]
          congr 1
          omega)
      rw [eF, List.length_append, List.length_map, ← Nat.add_assoc] at this
      exact this)
    obtain ⟨q1, q2, q3, q4, q5, q6, q7, q8, q9⟩ := hG.go z1
    have xc : (nI x).toNatClampNeg = x := nI_clamp (by omega)
    refine tp_nextM (Or.inr ⟨x, by omega, rfl⟩) q1 q2 q3 q4 (by omega) q6 (fun z => ?_) (fun z hz hz1 hz2 => ?_)
    · cases suf with
      | nil => exact ih
      | cons y suf =>
        exfalso
        have hy : y ∈ pre ++ x :: y :: suf := by simp
        refine z y ((q8 y).mp hy) (Or.inr ?_)
        rw [xc]
        exact (tp_suf q9 hy).mpr List.mem_cons_self
    · cases suf with
      | nil =>
        exfalso
        rcases hz1 with r | r
        · exact tp_nm1 (by omega) r
        · rw [xc] at r
          have := (tp_suf q9 ((q8 z).mpr hz)).mp r
          simp at this
      | cons y suf =>
        have hy : y ∈ pre ++ x :: y :: suf := by simp
        have hxy : tp_ah p (M1 115) x y := (tp_suf q9 hy).mpr List.mem_cons_self
        have : z = y := by
          rcases hz2 y ((q8 y).mp hy) (Or.inr (by rw [xc]; exact hxy)) with r | r
          · exact r.symm
          · exfalso
            rcases hz1 with r1 | r1
            · exact tp_nm1 (by omega) r1
            · rw [xc] at r1
              have h1 := (tp_suf q9 ((q8 z).mpr hz)).mp r1
              rcases List.mem_cons.mp h1 with r2 | r2
              · subst r2; exact tp_ah_irr r
              · have h2 : tp_ah p (M1 115) y z := by
                  have q9' := q9
                  rw [List.pairwise_append] at q9'
                  have q9'' := (List.pairwise_cons.mp q9'.2.1).2
                  exact (List.pairwise_cons.mp q9'').1 z r2
                exact tp_ah_asym h2 r
        subst this
        exact ih
theorem tp_gatherM {post : tq_St → Int32 → Prop} {P p d : Nat} {M : tq_St} {l : List Nat} (hG : tp_GM P p d M l) (h : ∀ M1 : tq_St, (∀ k, k ≠ 172 → M1 k = M k) → (∀ j x g : Nat, (tp_FL (M 117 0) (M 118) l)[j]? = some (x, g) → M1 172 0 j = nI (10 * x + g)) → (tp_FL (M 117 0) (M 118) l).length ≤ 900 → post M1 (nI (tp_FL (M 117 0) (M 118) l).length)) : wpX12_gather post M (nI p) := by
  obtain ⟨q1, q2, q3, q4, q5, q6, q7, q8, q9⟩ := id hG
  have hl : l.length ≤ P := tp_pwlen q9 (fun n hn => ((q8 n).mp hn).1)
  have fl : ∀ s : List Nat, (∀ x ∈ s, x ∈ l) → (tp_FL (M 117 0) (M 118) s).length ≤ 6 * s.length := by
    intro s
    induction s with
    | nil => intro _; simp [tp_FL]
    | cons x s ih =>
      intro hs
      have hK := (q8 x).mp (hs x List.mem_cons_self)
      obtain ⟨gx, hgx, h117⟩ := q7 x hK.1 hK.2.1
      have := ih (fun y hy => hs y (List.mem_cons_of_mem _ hy))
      rw [tp_FL_cons, List.length_append, List.length_map, List.length_cons]
      have h2 := List.length_filter_le (tp_cs (M 117 0) (M 118) x s) (List.range' 0 (M 117 0 x).toNatClampNeg)
      rw [List.length_range', h117, nI_clamp (by omega)] at h2
      rw [h117, nI_clamp (by omega)]
      omega
  have key : ∃ nq, wbX12_gather_9 post nq M (nI p) 0 (tp_hd l) := ⟨l.length + 1, tp_gat9 l [] 0 M hG (by omega) (fun _ _ => rfl) (fun M1 z1 z2 z3 => by
    have := h M1 z1 (fun j x g hh => by have := z3 j x g hh; rw [Nat.zero_add] at this; exact this) (by have := fl l (fun _ h => h); omega)
    rw [Nat.zero_add]; exact this)⟩
  unfold wpX12_gather
  refine tp_nextM (Or.inl rfl) q1 q2 q3 q4 (by omega) q6 (fun z => ?_) (fun z hz _ hz2 => ?_)
  · cases l with
    | nil => exact key
    | cons y l => exact absurd (Or.inl rfl) (z y ((q8 y).mp List.mem_cons_self))
  · cases l with
    | nil =>
      have := (q8 z).mpr hz
      simp at this
    | cons y l =>
      have : z = y := by
        rcases hz2 y ((q8 y).mp List.mem_cons_self) (Or.inl rfl) with r | r
        · exact r.symm
        · rcases List.mem_cons.mp ((q8 z).mpr hz) with r2 | r2
          · exact r2
          · exact absurd r (tp_ah_asym ((List.pairwise_cons.mp q9).1 z r2))
      subst this
      exact key
theorem RR.GM {c h w d pn P Sh V E A t r eb : Nat} {G : Nat → Nat → Nat → Nat} {C : Nat → Nat → Nat} {OL : Nat → List Nat} {N : tq_Nn} {S M : tq_St} (h0 : RR c h w d pn P Sh V E A t r eb G C OL N S M) {p : Nat} (hp : p < 5) : tp_GM P p d M (OL p) := by
  obtain ⟨hsc, hss, har, hpl, hlg, hsh, hpe, hmo, hpr, hsr, hpa, hkn, hst, hpm, hsi, hab, hsm, hvo, hvm, hbi, hlb, hiv, hod, hol, hoi, hfi, hli, had, hro⟩ := h0
  refine ⟨hsc.2.2.1, hsc.2.2.2.2.2.2.2.2.2.2.2.1, hp, hsc.1, hsc.2.2.2.2.2.2.2.2.2.1, fun n hn => (hpm.1 n hn).2.2.2.2.2.1 p hp, fun n hn hk => ?_, (hol p hp).1, (hol p hp).2⟩
  obtain ⟨g, a1, a2, a3, _⟩ := hod n hn hk
  exact ⟨g, a2, a3⟩
theorem sim_force {c : Nat} {N : tq_Nn} {S M : tq_St} {p0 : Int32} (hR : tp_R c N S M) (hc : c < 512) : wpX11_force N (fun S1 r => wpX12_force (fun M1 r1 => r = r1 ∧ tp_R (c + 1) N S1 M1) M p0) S p0 := by
  have hT := hR.tick hc
  obtain ⟨d, pn, P, Sh, V, E, A, t, r, G, C, OL, h0⟩ := id hR
  obtain ⟨hsc, hss, har, hpl, hlg, hsh, hpe, hmo, hpr, hsr, hpa, hkn, hst, hpm, hsi, hab, hsm, hvo, hvm, hbi, hlb, hiv, hod, hol, hoi, hfi, hli, had, hro⟩ := id h0
  obtain ⟨s1, s2, s3, s4, s5, s6, s7, s8, s9, b1, b2, b3, b4, b5, b6, b7, b8, b9, e1, e2⟩ := id hsc
  obtain ⟨x1, x2, x3, x4, x5, x6, x7⟩ := id hss
  obtain ⟨y1, y2, y3, y4, y5, y6, y7, y8, y9, y10, y11, y12, y13, y14, y15⟩ := id har
  obtain ⟨w1, w2, w3, w4, w5, w6⟩ := id hpl
  obtain ⟨l1, l2, l3, l4, l5, l6, l7, l8⟩ := id hli
  by_cases h1 : tp_i 1 4 p0
  · obtain ⟨ua, ua1, ua2, ua3, rfl⟩ := tp_i_fac h1
    have uac : (nI ua).toNatClampNeg = ua := nI_clamp (by omega)
    have uav : vp_in (nI ua) 5 := vp_in_nI ua3 (by decide)
    have ln := tp_len (l6 ua ua3)
    simp (disch := decide) only [wpX11_force, wbX11_force_23, wpX12_force, wbX12_force_16, tp_isFactory, tp_isPlace, tp_isSort, tp_isSheet, tp_isHolder, tp_isPerson, tp_isPaper, tp_isShip, tp_isVoyage, tp_within, tp_in, tp_mPlace, tp_mFactory, tp_mSort, tp_mBuyer, tp_b0, tp_b1, Classical.not_not, tp_nb0, tp_nb1, tp_nb, true_and, Int32.reduceToInt, uac, ln]
    repeat' (with_reducible first | refine tp_cT (by first | assumption | decide) ?_ | refine tp_cF (by first | assumption | decide) ?_ | refine tp_dT (by first | assumption | decide) ?_ | refine tp_dF (by first | assumption | decide) ?_ | refine And.intro (by first | assumption | decide) ?_ | refine tp_ae ?_)
    refine tp_gatherM (h0.GM ua3) (fun M1 z1 z2 z3 => ⟨rfl, ?_⟩)
    exact (h0.mf (fun j _ _ _ _ _ => by rw [z1 64 (by decide)]) (fun k _ _ _ _ _ _ k7 _ _ => z1 k k7) (fun n _ => by rw [z1 117 (by decide)]) (fun n _ => by rw [z1 118 (by decide)]) (fun n _ => by rw [z1 119 (by decide)])).R hc rfl rfl rfl
  · simp (disch := decide) only [wpX11_force, wbX11_force_23, wpX12_force, wbX12_force_16, tp_isFactory, tp_isPlace, tp_isSort, tp_isSheet, tp_isHolder, tp_isPerson, tp_isPaper, tp_isShip, tp_isVoyage, tp_within, tp_in, tp_mPlace, tp_mFactory, tp_mSort, tp_mBuyer, tp_b0, tp_b1, Classical.not_not, tp_nb0, tp_nb1, tp_nb, true_and, Int32.reduceToInt]
    repeat' (with_reducible first | refine tp_cT (by first | assumption | decide) ?_ | refine tp_cF (by first | assumption | decide) ?_ | refine tp_dT (by first | assumption | decide) ?_ | refine tp_dF (by first | assumption | decide) ?_ | refine And.intro (by first | assumption | decide) ?_ | refine tp_ae ?_)
    first | exact ⟨rfl, hT⟩ | exact hT
