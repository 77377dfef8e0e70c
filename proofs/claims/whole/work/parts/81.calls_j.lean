/-! pure: calls, the tenth: sale, taken -/
def tp_gc (W L : Nat → Nat → Int32) (s : Nat) (but : Int32) (i : Nat) (b : Int32) : Prop := ¬ nI i = but ∧ ¬ W i s ≤ 0 ∧ (b < 0 ∨ ¬ L i s ≤ L b.toNatClampNeg s)
noncomputable def tp_gr (W L : Nat → Nat → Int32) (s : Nat) (but : Int32) (i : Nat) (b : Int32) : Int32 := @ite _ (tp_gc W L s but i b) (Classical.propDecidable _) (nI i) b
theorem tp_gr_y {W L : Nat → Nat → Int32} {s i : Nat} {but b : Int32} (h : tp_gc W L s but i b) : tp_gr W L s but i b = nI i := by unfold tp_gr; rw [if_pos h]
theorem tp_gr_n {W L : Nat → Nat → Int32} {s i : Nat} {but b : Int32} (h : ¬ tp_gc W L s but i b) : tp_gr W L s but i b = b := by unfold tp_gr; rw [if_neg h]
noncomputable def tp_grt (W L : Nat → Nat → Int32) (s : Nat) (but : Int32) : Int32 := tp_it (tp_gr W L s but) 6 (-1)
theorem tp_gr_inv {W L : Nat → Nat → Int32} {s : Nat} {but : Int32} : ∀ k : Nat, tp_it (tp_gr W L s but) k (-1) = -1 ∨ ∃ j : Nat, j < k ∧ tp_it (tp_gr W L s but) k (-1) = nI j
  | 0 => Or.inl rfl
  | k + 1 => by
    simp only [tp_it]
    by_cases h : tp_gc W L s but k (tp_it (tp_gr W L s but) k (-1))
    · rw [tp_gr_y h]; exact Or.inr ⟨k, by omega, rfl⟩
    · rw [tp_gr_n h]
      rcases tp_gr_inv (W := W) (L := L) (s := s) (but := but) k with h | ⟨j, h1, h2⟩
      · exact Or.inl h
      · exact Or.inr ⟨j, by omega, h2⟩
theorem tp_grM {M : tq_St} {post : tq_St → Int32 → Prop} {s : Nat} {but : Int32} (hs : s < 4) (h : post M (tp_grt (M 151) (M 152) s but)) : wpX12_greatest post M (nI s) but := by
  refine ⟨7, tp_loop0 (W := fun m b i => wbX12_greatest_5 post m M (nI s) but b (nI i)) (n := 6) (f := tp_gr (M 151) (M 152) s but) (s0 := -1) (fun m => ?_) (fun m i hi hw => ?_)⟩
  · unfold wbX12_greatest_5
    exact tp_dT (by decide) h
  · have key := tp_gr_inv (W := M 151) (L := M 152) (s := s) (but := but) i
    simp only [tp_it] at hw
    generalize tp_it (tp_gr (M 151) (M 152) s but) i (-1) = b at key hw ⊢
    have ic : (nI i).toNatClampNeg = i := nI_clamp (by omega)
    have sc : (nI s).toNatClampNeg = s := nI_clamp (by omega)
    unfold wbX12_greatest_5
    refine tp_dF (nI_ge (a := i) (b := 6) hi (by decide)) ?_
    simp only [wbX12_greatest_54, wbX12_greatest_57, ic, sc, nI_1]
    by_cases e1 : nI i = but
    · rw [tp_gr_n (fun z => z.1 e1)] at hw
      exact tp_dT e1 hw
    · refine tp_dF e1 ⟨vp_in_nI hi (by decide), vp_in_nI hs (by decide), ?_⟩
      by_cases e2 : M 151 i s ≤ 0
      · rw [tp_gr_n (fun z => z.2.1 e2)] at hw
        exact tp_dT e2 hw
      · refine tp_dF e2 ?_
        rcases key with rfl | ⟨j, j1, rfl⟩
        · rw [tp_gr_y ⟨e1, e2, Or.inl (by decide)⟩] at hw
          exact tp_dT (by decide) hw
        · have jc : (nI j).toNatClampNeg = j := nI_clamp (by omega)
          refine tp_dF (nI_pos (by omega)) ⟨vp_in_nI (by omega) (by decide), ?_⟩
          rw [jc]
          by_cases e3 : M 152 i s ≤ M 152 j s
          · rw [tp_gr_n (fun z => z.2.2.elim (fun y => absurd y (nI_pos (by omega))) (fun y => y (by rw [jc]; exact e3)))] at hw
            exact tp_dT e3 hw
          · rw [tp_gr_y ⟨e1, e2, Or.inr (by rw [jc]; exact e3)⟩] at hw
            exact tp_dF e3 hw
theorem tp_grS {N : tq_Nn} {S M : tq_St} {post : tq_St → Int32 → Prop} {s : Nat} {but : Int32} (h43 : S 43 = M 151) (h45 : S 45 = M 152) (hs : s < 4) (h : post S (tp_grt (M 151) (M 152) s but)) : wpX2_greatest N post S (nI s) but := by
  refine ⟨7, tp_loop0 (W := fun m b i => wbX2_greatest_5 N post m S (nI s) but b (nI i)) (n := 6) (f := tp_gr (M 151) (M 152) s but) (s0 := -1) (fun m => ?_) (fun m i hi hw => ?_)⟩
  · unfold wbX2_greatest_5
    exact tp_dT (by decide) h
  · have key := tp_gr_inv (W := M 151) (L := M 152) (s := s) (but := but) i
    simp only [tp_it] at hw
    generalize tp_it (tp_gr (M 151) (M 152) s but) i (-1) = b at key hw ⊢
    have ic : (nI i).toNatClampNeg = i := nI_clamp (by omega)
    have sc : (nI s).toNatClampNeg = s := nI_clamp (by omega)
    unfold wbX2_greatest_5
    refine tp_dF (nI_ge (a := i) (b := 6) hi (by decide)) ?_
    simp only [wbX2_greatest_34, wbX2_greatest_35, wbX2_greatest_66, wbX2_greatest_69, ic, sc, nI_1, h43, h45]
    by_cases e1 : nI i = but
    · rw [tp_gr_n (fun z => z.1 e1)] at hw
      exact tp_dT e1 (tp_dT (by first | rfl | trivial) hw)
    · refine tp_dF e1 ⟨vp_in_nI hi (by decide), vp_in_nI hs (by decide), ?_⟩
      by_cases e2 : M 151 i s ≤ 0
      · rw [tp_gr_n (fun z => z.2.1 e2)] at hw
        exact tp_dT e2 (tp_dT (by first | rfl | trivial) hw)
      · refine tp_dF e2 (tp_dF (by decide) ?_)
        rcases key with rfl | ⟨j, j1, rfl⟩
        · rw [tp_gr_y ⟨e1, e2, Or.inl (by decide)⟩] at hw
          exact tp_dT (by decide) hw
        · have jc : (nI j).toNatClampNeg = j := nI_clamp (by omega)
          refine tp_dF (nI_pos (by omega)) ⟨vp_in_nI hi (by decide), vp_in_nI hs (by decide), vp_in_nI (by omega) (by decide), ?_⟩
          rw [jc]
          by_cases e3 : M 152 i s ≤ M 152 j s
          · rw [tp_gr_n (fun z => z.2.2.elim (fun y => absurd y (nI_pos (by omega))) (fun y => y (by rw [jc]; exact e3)))] at hw
            exact tp_dT e3 hw
          · rw [tp_gr_y ⟨e1, e2, Or.inr (by rw [jc]; exact e3)⟩] at hw
            exact tp_dF e3 hw
theorem RR_sell {c h w d pn P Sh V E A t r eb : Nat} {G : Nat → Nat → Nat → Nat} {C : Nat → Nat → Nat} {OL : Nat → List Nat} {N : tq_Nn} {S M : tq_St} (h0 : RR c h w d pn P Sh V E A t r eb G C OL N S M) {b s : Nat} {x y z u : Int32} : RR c h w d pn P Sh V E A t r eb G C OL N (tq_up (tq_up (tq_up (tq_up S 43 b s x) 46 0 b y) 47 0 b z) 30 0 s u) (tq_up (tq_up (tq_up (tq_up M 151 b s x) 102 0 s u) 153 0 b y) 154 0 b z) := by
  obtain ⟨hsc, hss, har, hpl, hlg, hsh, hpe, hmo, hpr, hsr, hpa, hkn, hst, hpm, hsi, hab, hsm, hvo, hvm, hbi, hlb, hiv, hod, hol, hoi, hfi, hli, had, hro⟩ := h0
  refine ⟨?_, ?_, ?_, ?_, ?_, ?_, ?_, ?_, ?_, ?_, ?_, ?_, ?_, ?_, ?_, ?_, ?_, ?_, ?_, ?_, ?_, ?_, ?_, ?_, ?_, ?_, ?_, ?_, ?_⟩
  · simpa (disch := decide) only [q_sc, tq_upk, tq_upj, tq_cpk] using hsc
  · simpa (disch := decide) only [q_ss, tq_upk, tq_upj, tq_cpk] using hss
  · obtain ⟨y1, y2, y3, y4, y5, y6, y7, y8, y9, y10, y11, y12, y13, y14, y15⟩ := har
    refine ⟨?_, ?_, ?_, ?_, ?_, ?_, ?_, ?_, ?_, ?_, ?_, ?_, ?_, ?_, ?_⟩
    · simpa (disch := decide) only [tq_upk, tq_upj, tq_cpk] using y1
    · simpa (disch := decide) only [tq_upk, tq_upj, tq_cpk] using y2
    · simpa (disch := decide) only [tq_upk, tq_upj, tq_cpk] using y3
    · simpa (disch := decide) only [tq_upk, tq_upj, tq_cpk] using y4
    · simpa (disch := decide) only [tq_upk, tq_upj, tq_cpk] using y5
    · simpa (disch := decide) only [tq_upk, tq_upj, tq_cpk] using y6
    · simp (disch := decide) only [tq_upk, tq_upk_in]
      exact tp_up2 y7
    · simpa (disch := decide) only [tq_upk, tq_upj, tq_cpk] using y8
    · simpa (disch := decide) only [tq_upk, tq_upj, tq_cpk] using y9
    · simp (disch := decide) only [tq_upk, tq_upk_in]
      exact tp_up2 y10
    · simpa (disch := decide) only [tq_upk, tq_upj, tq_cpk] using y11
    · simp (disch := decide) only [tq_upk, tq_upk_in]
      exact tp_up2 y12
    · simp (disch := decide) only [tq_upk, tq_upk_in]
      exact tp_up2 y13
    · simpa (disch := decide) only [tq_upk, tq_upj, tq_cpk] using y14
    · simpa (disch := decide) only [tq_upk, tq_upj, tq_cpk] using y15
  · simpa (disch := decide) only [q_pl, tq_upk, tq_upj, tq_cpk] using hpl
  · simpa (disch := decide) only [q_lg, tq_upk, tq_upj, tq_cpk] using hlg
  · simpa (disch := decide) only [q_sh, tq_upk, tq_upj, tq_cpk] using hsh
  · simpa (disch := decide) only [q_pe, tq_upk, tq_upj, tq_cpk] using hpe
  · simpa (disch := decide) only [q_mo, tq_upk, tq_upj, tq_cpk] using hmo
  · simpa (disch := decide) only [q_pr, tq_upk, tq_upj, tq_cpk] using hpr
  · simpa (disch := decide) only [q_sr, tq_upk, tq_upj, tq_cpk] using hsr
  · simpa (disch := decide) only [q_pa, q_pb, tq_upk, tq_upj, tq_cpk] using hpa
  · simpa (disch := decide) only [q_kn, tq_upk, tq_upj, tq_cpk] using hkn
  · simpa (disch := decide) only [q_st, tq_upk, tq_upj, tq_cpk] using hst
  · simpa (disch := decide) only [q_pm, q_pn, tq_upk, tq_upj, tq_cpk] using hpm
  · simpa (disch := decide) only [q_si, tq_upk, tq_upj, tq_cpk] using hsi
  · simpa (disch := decide) only [q_ab, tq_upk, tq_upj, tq_cpk] using hab
  · simpa (disch := decide) only [q_sm, tq_upk, tq_upj, tq_cpk] using hsm
  · simpa (disch := decide) only [q_vo, tq_upk, tq_upj, tq_cpk] using hvo
  · simpa (disch := decide) only [q_vm, tq_upk, tq_upj, tq_cpk] using hvm
  · simpa (disch := decide) only [q_bi, tq_upk, tq_upj, tq_cpk] using hbi
  · simpa (disch := decide) only [q_lb, tq_upk, tq_upj, tq_cpk] using hlb
  · simpa (disch := decide) only [q_iv, tq_upk, tq_upj, tq_cpk] using hiv
  · simpa (disch := decide) only [q_od, tq_upk, tq_upj, tq_cpk] using hod
  · simpa (disch := decide) only [q_ol, tq_upk, tq_upj, tq_cpk] using hol
  · simpa (disch := decide) only [q_oi, tq_upk, tq_upj, tq_cpk] using hoi
  · simpa (disch := decide) only [q_fi, tq_upk, tq_upj, tq_cpk] using hfi
  · simpa (disch := decide) only [q_li, tq_upk, tq_upj, tq_cpk] using hli
  · simpa (disch := decide) only [q_ad, tq_upk, tq_upj, tq_cpk] using had
  · simpa (disch := decide) only [q_ro, tq_upk, tq_upj, tq_cpk] using hro
theorem sale_aux {h w d pn P Sh V E A t r eb c : Nat} {G : Nat → Nat → Nat → Nat} {C : Nat → Nat → Nat} {OL : Nat → List Nat} {N : tq_Nn} {s n : Nat} (hs : s < 4) (hcc : c < 512) (hPP : P ≤ 150) : ∀ (k j y : Nat) (S M : tq_St), RR c h w d pn P Sh V E A t r eb G C OL N S M → j + k = n → n ≤ 99 → y ≤ 999 * j → wbX11_sale_48 N (fun S1 r1 => ∃ nq, wbX12_sale_42 (fun M1 r2 => r1 = r2 ∧ RR (c + 1) h w d pn P Sh V E A t r eb G C OL N S1 M1) nq M (nI s) (nI n) (nI y) (nI j)) (k + 1) S (nI s) (nI n) 0 (nI y) (nI j) := by
  have fin : ∀ (y : Nat) (S M : tq_St), RR c h w d pn P Sh V E A t r eb G C OL N S M → y ≤ 999 * 99 → (∀ post : tq_St → Int32 → Prop, post (tq_up (tq_up M 64 0 55 (M 64 0 55 + nI y)) 101 0 0 (M 101 0 0 + nI y)) (nI y) → wbX12_sale_152 post M (nI y)) ∧ ∀ post : tq_St → Int32 → Prop, (∀ S1, RR (c + 1) h w d pn P Sh V E A t r eb G C OL N S1 (tq_up (tq_up M 64 0 55 (M 64 0 55 + nI y)) 101 0 0 (M 101 0 0 + nI y)) → post S1 (nI y)) → wbX11_sale_104 N post S 0 (nI y) := by
    intro y S M h0 hy
    refine ⟨fun post hp => ?_, fun post hp => ?_⟩
    · unfold wbX12_sale_152
      refine tp_ae (tp_ae ?_)
      rw [tq_upk (by decide)]; exact hp
    · have m1 := (tp_mo h0.2.2.2.2.2.2.2.1 (by omega) hPP).1 0 (by decide)
      have w2 : S 2 0 1 = M 101 0 0 := h0.2.2.2.1.2.1 0 (by decide)
      have x6 : S 4 0 4 = M 64 0 55 := h0.2.1.2.2.2.2.2.1
      have yt := tp_ti (show y < 2 ^ 31 by omega)
      have z1 : (M 101 0 0 + nI y).toInt = (M 101 0 0).toInt + y := by rw [tp_add (by rw [yt]; omega) (by rw [yt]; omega), yt]
      unfold wbX11_sale_104
      refine ⟨by decide, tp_ae (tp_ae (hp _ ?_))⟩
      rw [tq_upk (by decide), w2, x6]
      have q := RR_sls (v := M 64 0 55 + nI y) (RR_coin (p := 0) (c' := c + 1) (v := M 101 0 0 + nI y) h0 (by decide) (by omega) (by rw [z1]; omega) (by omega) (by omega))
      rw [tq_up_cj (by decide)] at q
      exact q
  intro k
  induction k with
  | zero =>
    intro j y S M h0 hj hn hy
    unfold wbX11_sale_48
    refine tp_dT (nI_le (by omega) (by omega)) ((fin y S M h0 (by omega)).2 _ (fun S1 hS => ⟨1, ?_⟩))
    unfold wbX12_sale_42
    exact tp_dT (nI_le (by omega) (by omega)) ((fin y S M h0 (by omega)).1 _ ⟨rfl, hS⟩)
  | succ k ih =>
    intro j y S M h0 hj hn hy
    have y10 : S 43 = M 151 := h0.2.2.1.2.2.2.2.2.2.2.2.2.1
    have y11 : S 45 = M 152 := h0.2.2.1.2.2.2.2.2.2.2.2.2.2.1
    have y12 : S 46 = M 153 := h0.2.2.1.2.2.2.2.2.2.2.2.2.2.2.1
    have y13 : S 47 = M 154 := h0.2.2.1.2.2.2.2.2.2.2.2.2.2.2.2.1
    have y7 : S 30 = M 102 := h0.2.2.1.2.2.2.2.2.2.1
    have lim := h0.2.2.2.2.2.2.2.2.1.2.1
    have sc : (nI s).toNatClampNeg = s := nI_clamp (by omega)
    have inv1 : tp_grt (M 151) (M 152) s (-1) = -1 ∨ ∃ b : Nat, b < 6 ∧ tp_grt (M 151) (M 152) s (-1) = nI b := tp_gr_inv 6
    unfold wbX11_sale_48
    refine tp_dF (nI_ge (by omega) (by omega)) (tp_grS y10 y11 hs ?_)
    rcases inv1 with e | ⟨b, hb, e⟩
    · rw [e]
      refine tp_dF (by decide) ((fin y S M h0 (by omega)).2 _ (fun S1 hS => ⟨1, ?_⟩))
      unfold wbX12_sale_42
      refine tp_dF (nI_ge (by omega) (by omega)) (tp_grM hs ?_)
      rw [e]
      exact tp_dF (by decide) ((fin y S M h0 (by omega)).1 _ ⟨rfl, hS⟩)
    · rw [e]
      have bc : (nI b).toNatClampNeg = b := nI_clamp (by omega)
      have inv2 : tp_grt (M 151) (M 152) s (nI b) = -1 ∨ ∃ b2 : Nat, b2 < 6 ∧ tp_grt (M 151) (M 152) s (nI b) = nI b2 := tp_gr_inv 6
      have price : ∃ x : Nat, x ≤ 999 ∧ (∀ post : tq_St → Int32 → Prop, wbX2_sellOne_23 N post S (nI s) (nI b) (nI x) → wpX2_sellOne N post S (nI s) (nI b)) ∧ (∀ (post : tq_St → Int32 → Prop) (f : Nat), wbX12_sale_91 post (wbX12_sale_42 post f) M (nI s) (nI n) (nI y) (nI j) (nI b) (nI x) → wbX12_sale_42 post (f + 1) M (nI s) (nI n) (nI y) (nI j)) := by
        rcases inv2 with e2 | ⟨b2, hb2, e2⟩
        · refine ⟨0, by decide, fun post z => ?_, fun post f z => ?_⟩
          · unfold wpX2_sellOne
            refine tp_grS y10 y11 hs ?_
            rw [e2]
            exact tp_dF (by decide) z
          · unfold wbX12_sale_42
            refine tp_dF (nI_ge (by omega) (by omega)) (tp_grM hs ?_)
            rw [e]
            refine tp_dT (nI_pos' (by omega)) (tp_grM hs ?_)
            rw [e2]
            exact tp_dF (by decide) z
        · obtain ⟨x, x1, x2, x3⟩ := tp_nat (lim b2 s hb2 hs).1
          have xl := (lim b2 s hb2 hs).2
          have b2c : (nI b2).toNatClampNeg = b2 := nI_clamp (by omega)
          refine ⟨x, by omega, fun post z => ?_, fun post f z => ?_⟩
          · unfold wpX2_sellOne
            refine tp_grS y10 y11 hs ?_
            rw [e2]
            refine tp_dT (nI_pos' (by omega)) ⟨vp_in_nI hb2 (by decide), vp_in_nI hs (by decide), ?_⟩
            rw [b2c, sc, y11, x2]
            exact z
          · unfold wbX12_sale_42
            refine tp_dF (nI_ge (by omega) (by omega)) (tp_grM hs ?_)
            rw [e]
            refine tp_dT (nI_pos' (by omega)) (tp_grM hs ?_)
            rw [e2]
            refine tp_dT (nI_pos' (by omega)) ⟨vp_in_nI hb2 (by decide), vp_in_nI hs (by decide), ?_⟩
            rw [b2c, sc, x2]
            exact z
      obtain ⟨x, hx, pS, pM⟩ := price
      refine tp_dT (nI_pos' (by omega)) (pS _ ?_)
      unfold wbX2_sellOne_23
      refine ⟨vp_in_nI hb (by decide), vp_in_nI hs (by decide), tp_ae (tp_ae (tp_ae ⟨by decide, vp_in_nI hs (by decide), tp_ae ?_⟩))⟩
      rw [bc, sc, nI_add, nI_1]
      simp (disch := decide) only [tq_upk]
      rw [y10, y12, y13, y7]
      have h1 := ih (j + 1) (y + x) _ _ (RR_sell (b := b) (s := s) (x := M 151 b s - 1) (y := M 153 0 b + 1) (z := M 154 0 b + nI x) (u := M 102 0 s - 1) h0) (by omega) hn (by omega)
      refine mn_bX11_sale_48 _ _ _ _ _ _ _ _ _ (fun S1 r1 hh => ?_) h1
      obtain ⟨nq, hh⟩ := hh
      refine ⟨nq + 1, pM _ _ ?_⟩
      unfold wbX12_sale_91
      refine ⟨vp_in_nI hb (by decide), vp_in_nI hs (by decide), tp_ae (tp_ae (tp_ae (tp_ae ?_)))⟩
      rw [bc, sc, nI_add, nI_1]
      simp (disch := decide) only [tq_upk]
      exact hh
theorem sim_sale {c : Nat} {N : tq_Nn} {S M : tq_St} {p0 p1 : Int32} (hR : tp_R c N S M) (hc : c < 512) : wpX11_sale N (fun S1 r => wpX12_sale (fun M1 r1 => r = r1 ∧ tp_R (c + 1) N S1 M1) M p0 p1) S p0 p1 := by
  have hT := hR.tick hc
  obtain ⟨d, pn, P, Sh, V, E, A, t, r, G, C, OL, h0⟩ := id hR
  obtain ⟨hsc, hss, har, hpl, hlg, hsh, hpe, hmo, hpr, hsr, hpa, hkn, hst, hpm, hsi, hab, hsm, hvo, hvm, hbi, hlb, hiv, hod, hol, hoi, hfi, hli, had, hro⟩ := id h0
  obtain ⟨s1, s2, s3, s4, s5, s6, s7, s8, s9, b1, b2, b3, b4, b5, b6, b7, b8, b9, e1, e2⟩ := id hsc
  obtain ⟨x1, x2, x3, x4, x5, x6, x7⟩ := id hss
  obtain ⟨y1, y2, y3, y4, y5, y6, y7, y8, y9, y10, y11, y12, y13, y14, y15⟩ := id har
  obtain ⟨w1, w2, w3, w4, w5, w6⟩ := id hpl
  obtain ⟨l1, l2, l3, l4, l5, l6, l7, l8⟩ := id hli
  by_cases h1 : tp_i 0 3 p0
  · obtain ⟨s, s33, rfl⟩ := tp_i_lt (m := 4) h1 (by decide)
    have sv : vp_in (nI s) 4 := vp_in_nI s33 (by decide)
    have scc : (nI s).toNatClampNeg = s := nI_clamp (by omega)
    by_cases h2 : tp_i 1 99 p1
    · obtain ⟨n, n1, n2, n3⟩ := tp_nat (x := p1) (by have := h2.1; omega)
      subst n2
      have := h2.2
      have := h2.1
      simp (disch := decide) only [wpX11_sale, wpX12_sale, tp_isFactory, tp_isPlace, tp_isSort, tp_isSheet, tp_isHolder, tp_isPerson, tp_isPaper, tp_isShip, tp_isVoyage, tp_within, tp_in, tp_mPlace, tp_mFactory, tp_mSort, tp_mBuyer, tp_b0, tp_b1, Classical.not_not, tp_nb0, tp_nb1, tp_nb, true_and, Int32.reduceToInt, scc, y7]
      by_cases h3 : nI n ≤ M 102 0 s
      · repeat' (with_reducible first | refine tp_cT (by first | assumption | decide) ?_ | refine tp_cF (by first | assumption | decide) ?_ | refine tp_dT (by first | assumption | decide) ?_ | refine tp_dF (by first | assumption | decide) ?_ | refine And.intro (by first | assumption | decide) ?_ | refine tp_ae ?_)
        refine ⟨n + 1, mn_bX11_sale_48 _ _ _ _ _ _ _ _ _ (fun S1 r1 hh => ?_) (sale_aux s33 hc b3 n 0 0 S M h0 (by omega) (by omega) (by omega))⟩
        obtain ⟨nq, hh⟩ := hh
        repeat' (with_reducible first | refine tp_cT (by first | assumption | decide) ?_ | refine tp_cF (by first | assumption | decide) ?_ | refine tp_dT (by first | assumption | decide) ?_ | refine tp_dF (by first | assumption | decide) ?_ | refine And.intro (by first | assumption | decide) ?_ | refine tp_ae ?_)
        refine ⟨nq, ?_⟩
        obtain ⟨M1, r2, ⟨hq, hr⟩, kk⟩ := dt_bX12_sale_42 _ _ _ _ _ _ _ hh
        exact kk _ ⟨hq, d, pn, P, Sh, V, E, A, t, r, G, C, OL, hr.wk (by omega) (by omega) (by omega) (by omega)⟩
      · repeat' (with_reducible first | refine tp_cT (by first | assumption | decide) ?_ | refine tp_cF (by first | assumption | decide) ?_ | refine tp_dT (by first | assumption | decide) ?_ | refine tp_dF (by first | assumption | decide) ?_ | refine And.intro (by first | assumption | decide) ?_ | refine tp_ae ?_)
        first | exact ⟨rfl, hT⟩ | exact hT
    · simp (disch := decide) only [wpX11_sale, wpX12_sale, tp_isFactory, tp_isPlace, tp_isSort, tp_isSheet, tp_isHolder, tp_isPerson, tp_isPaper, tp_isShip, tp_isVoyage, tp_within, tp_in, tp_mPlace, tp_mFactory, tp_mSort, tp_mBuyer, tp_b0, tp_b1, Classical.not_not, tp_nb0, tp_nb1, tp_nb, true_and, Int32.reduceToInt]
      repeat' (with_reducible first | refine tp_cT (by first | assumption | decide) ?_ | refine tp_cF (by first | assumption | decide) ?_ | refine tp_dT (by first | assumption | decide) ?_ | refine tp_dF (by first | assumption | decide) ?_ | refine And.intro (by first | assumption | decide) ?_ | refine tp_ae ?_)
      first | exact ⟨rfl, hT⟩ | exact hT
  · simp (disch := decide) only [wpX11_sale, wpX12_sale, tp_isFactory, tp_isPlace, tp_isSort, tp_isSheet, tp_isHolder, tp_isPerson, tp_isPaper, tp_isShip, tp_isVoyage, tp_within, tp_in, tp_mPlace, tp_mFactory, tp_mSort, tp_mBuyer, tp_b0, tp_b1, Classical.not_not, tp_nb0, tp_nb1, tp_nb, true_and, Int32.reduceToInt]
    repeat' (with_reducible first | refine tp_cT (by first | assumption | decide) ?_ | refine tp_cF (by first | assumption | decide) ?_ | refine tp_dT (by first | assumption | decide) ?_ | refine tp_dF (by first | assumption | decide) ?_ | refine And.intro (by first | assumption | decide) ?_ | refine tp_ae ?_)
    first | exact ⟨rfl, hT⟩ | exact hT
