/-! pure: an order that is received -/
theorem q_pg.key {n g q n2 g2 q2 : Nat} {G : Nat → Nat → Nat → Nat} {C : Nat → Nat → Nat} {N : tq_Nn} {S10 S11 S59 S60 : Nat → Nat → Int32} {X X2 Y Y2 : Nat → Int32} (h : q_pg n g q G C N S10 S11 S59 S60 X Y) (h2 : q_pg n2 g2 q2 G C N S10 S11 S59 S60 X2 Y2) : (X (4 * g) = X2 (4 * g2) ∧ X (4 * g + 1) = X2 (4 * g2 + 1)) ↔ (S10 q 5).toNatClampNeg = (S10 q2 5).toNatClampNeg := by
  obtain ⟨_, _, _, ⟨a, a1, a2, _, _, a5, a6⟩, _⟩ := h
  obtain ⟨_, _, _, ⟨b, b1, b2, _, _, b5, b6⟩, _⟩ := h2
  have m1 : ∀ s : Nat, s < 4 → ¬ nI s = -1 := fun s hs z => by
    rw [tp_eq, tp_ti (by omega)] at z
    have : (-1 : Int32).toInt = -1 := by decide
    omega
  have ea : X (4 * g) = X2 (4 * g2) ↔ a = b := by
    rw [a2, b2]; exact nI_eq (by omega) (by omega)
  rw [ea]
  by_cases qa : a < 3
  · obtain ⟨s, s1, s2, s3⟩ := a5 qa
    rw [s3, nI_clamp (by omega), s2]
    by_cases qb : b < 3
    · obtain ⟨t, t1, t2, t3⟩ := b5 qb
      rw [t3, nI_clamp (by omega), t2]
      constructor
      · rintro ⟨rfl, z⟩
        have := (nI_eq (by omega) (by omega)).mp z
        omega
      · intro z
        have : a = b ∧ s = t := by omega
        exact ⟨this.1, by rw [this.2]⟩
    · obtain ⟨t2, t3⟩ := b6 (by omega)
      have hc : 12 ≤ 4 * (if b = 5 then 6 else b) ∧ 4 * (if b = 5 then 6 else b) ≤ 24 := by
        by_cases e : b = 5
        · rw [if_pos e]; omega
        · rw [if_neg e]; omega
      rw [t3, nI_clamp (by omega), t2]
      constructor
      · rintro ⟨z, _⟩; omega
      · intro z; omega
  · obtain ⟨s2, s3⟩ := a6 (by omega)
    have ha : 12 ≤ 4 * (if a = 5 then 6 else a) ∧ 4 * (if a = 5 then 6 else a) ≤ 24 := by
      by_cases e : a = 5
      · rw [if_pos e]; omega
      · rw [if_neg e]; omega
    rw [s3, nI_clamp (by omega), s2]
    by_cases qb : b < 3
    · obtain ⟨t, t1, t2, t3⟩ := b5 qb
      rw [t3, nI_clamp (by omega), t2]
      constructor
      · rintro ⟨z, _⟩; omega
      · intro z; omega
    · obtain ⟨t2, t3⟩ := b6 (by omega)
      have hc : 4 * (if b = 5 then 6 else b) ≤ 24 := by
        by_cases e : b = 5
        · rw [if_pos e]; omega
        · rw [if_neg e]; omega
      rw [t3, nI_clamp (by omega), t2]
      constructor
      · rintro ⟨rfl, _⟩; rfl
      · intro z
        refine ⟨?_, rfl⟩
        by_cases e : a = 5
        · by_cases e2 : b = 5
          · omega
          · rw [if_pos e, if_neg e2] at z; omega
        · by_cases e2 : b = 5
          · rw [if_neg e, if_pos e2] at z; omega
          · rw [if_neg e, if_neg e2] at z; omega
theorem q_pg.k28 {n g q : Nat} {G : Nat → Nat → Nat → Nat} {C : Nat → Nat → Nat} {N : tq_Nn} {S10 S11 S59 S60 : Nat → Nat → Int32} {X Y : Nat → Int32} (h : q_pg n g q G C N S10 S11 S59 S60 X Y) : S10 q 5 = nI (S10 q 5).toNatClampNeg ∧ (S10 q 5).toNatClampNeg < 28 := by
  obtain ⟨_, _, _, ⟨a, a1, a2, _, _, a5, a6⟩, _⟩ := h
  by_cases qa : a < 3
  · obtain ⟨s, s1, s2, s3⟩ := a5 qa
    rw [s3, nI_clamp (by omega)]
    exact ⟨rfl, by omega⟩
  · obtain ⟨s2, s3⟩ := a6 (by omega)
    have ha : 4 * (if a = 5 then 6 else a) ≤ 24 := by
      by_cases e : a = 5
      · rw [if_pos e]; omega
      · rw [if_neg e]; omega
    rw [s3, nI_clamp (by omega)]
    exact ⟨rfl, by omega⟩
/-- where it goes -/
theorem rc8 {post : tq_Nn → tq_St → Prop} {N : tq_Nn} {S : tq_St} {G : Nat → Nat → Nat → Nat} {C : Nat → Nat → Nat} {p n d e : Nat} {l : List Nat} {W : Nat → Nat → Int32} (hp : p < 5) (hl : l.length ≤ 150) (s20 : S 2 p 0 = nI p) (hL : tp_L N (S 36) (S 37) G C 36 37 7 p l.length) (hG : ∀ k x, l[k]? = some x → G 36 p k = G 15 0 x)
    (ho : ∀ x, x ∈ l → N 7 (G 15 0 x) = 1 ∧ N 50 (G 15 0 x) = 1 ∧ S 7 (G 15 0 x) 0 = nI x ∧ S 50 (G 15 0 x) p = W x p ∧ x < 2 ^ 31) (e7 : N 7 e = 1) (e50 : N 50 e = 1) (en : S 7 e 0 = nI n) (hn : n < 2 ^ 31) (ed : S 50 e p = nI d)
    (K : ∀ k, k ≤ l.length → (∀ j y, k ≤ j → l[j]? = some y → W y p = nI d ∧ n < y) → (k = 0 ∨ ∃ z, l[k - 1]? = some z ∧ ¬ (W z p = nI d ∧ n < z)) → wbX5_receiveOrder_39 post N S p e (nI k)) :
    ∀ k, k ≤ l.length → (∀ j y, k ≤ j → l[j]? = some y → W y p = nI d ∧ n < y) → wbX5_receiveOrder_8 post (k + 1) N S p e (nI k)
  | 0, hk, hs => by
    unfold wbX5_receiveOrder_8
    exact tp_dT (by decide) (K 0 hk hs (Or.inl rfl))
  | k + 1, hk, hs => by
    have hkl : k < l.length := by omega
    obtain ⟨z, hz⟩ : ∃ z, l[k]? = some z := ⟨_, List.getElem?_eq_getElem hkl⟩
    obtain ⟨g1, g2, g3⟩ := tp_get hL hkl
    rw [hG k z hz] at g2 g3
    obtain ⟨o1, o2, o3, o4, o5⟩ := ho z (List.mem_of_getElem? hz)
    have ek : nI (k + 1) - 1 = nI k := nI_pred k
    have ek2 : nI (k + 1) + (-1) = nI k := pk_m1 k
    have pc : (nI p).toNatClampNeg = p := nI_clamp (by omega)
    have pv : vp_in (nI p) 5 := vp_in_nI hp (by decide)
    unfold wbX5_receiveOrder_8 wpX5_comesBehind wbX5_comesBehind_36 wbX5_comesBehind_37
    rw [ek, g2, ek2, s20, pc, o3, o4, en, ed]
    refine tp_dF (nI_ge (a := 0) (by omega) (by omega)) ⟨hp, g1, o1, o1, hp, pv, o2, e7, e50, ?_⟩
    have stop : ¬ (W z p = nI d ∧ n < z) → wbX5_receiveOrder_39 post N S p e (nI (k + 1)) := fun w => K (k + 1) hk hs (Or.inr ⟨z, by rw [Nat.add_sub_cancel]; exact hz, w⟩)
    by_cases q1 : W z p = nI d
    · refine tp_cT q1 ?_
      by_cases q2 : nI z ≤ nI n
      · refine tp_dT q2 ⟨tp_nb0, tp_dT rfl (stop (fun w => ?_))⟩
        have := (nI_leI o5 hn).mp q2
        omega
      · refine tp_dF q2 ⟨tp_nb1, tp_dF (by decide) (rc8 hp hl s20 hL hG ho e7 e50 en hn ed K k (by omega) (fun j y hj hy => ?_))⟩
        by_cases e1 : j = k
        · rw [e1, hz] at hy
          have : z = y := Option.some.inj hy
          subst this
          refine ⟨q1, ?_⟩
          exact Nat.lt_of_not_le (fun w => q2 ((nI_leI o5 hn).mpr w))
        · exact hs j y (by omega) hy
    · exact tp_cF q1 ⟨tp_nb0, tp_dT rfl (stop (fun w => q1 w.1))⟩
theorem tq_clr0 {f : Nat → Int32} : tq_clr f 0 = f := by
  funext q
  unfold tq_clr
  rw [if_neg (by omega)]
/-- settleForce, as a whole -/
theorem tp_settle {post : tq_Nn → tq_St → Prop} {p n38 : Nat} {l : List Nat} {cnt : Nat → Nat} {ky : Nat → Nat → Nat} {N : tq_Nn} {S : tq_St} {G : Nat → Nat → Nat → Nat} {C : Nat → Nat → Nat} {U : Nat → Int32} {B : Nat → Nat → Int32} (hp : p < 5) (hb : stC p l cnt ky N G C S) (hl : l.length ≤ 150) (h38 : tp_L N (S 38) (S 39) G C 38 39 10 p n38) (hC : C 38 p ≤ 2400) (hU : ∀ x, x ∈ l → (U x).toNatClampNeg = cnt x) (hK : ∀ x g y, x ∈ l → y ∈ l → g < cnt x → (tp_has U B x g y ↔ khas cnt ky y (ky x g))) (r0 : N 0 0 + 10000 ≤ tq_CX) (r1 : N 0 1 + 50000 ≤ tq_CY)
    (k : ∀ (N1 : tq_Nn) (S1 : tq_St) (G1 : Nat → Nat → Nat → Nat) (C1 : Nat → Nat → Nat), aI p N (tq_clred (tq_cp S 40 p (prl cnt ky l 0 (S 40 p))) 38 39 p n38) G C N1 S1 G1 C1 ((tp_FL U B l).map (fun y => G 52 (G 15 0 y.1) y.2)) → post N1 S1) : wpX5_settleForce post N S p := by
  have hb0 : stC p l cnt ky N G C (tq_cp S 40 p (prl cnt ky l 0 (S 40 p))) := hb.go tp_mono.rf (fun k hk => by rw [tq_cpk (by omega)]) (fun _ _ _ _ => rfl) (fun _ _ _ => rfl)
  have h38b : tp_L N (tq_cp S 40 p (prl cnt ky l 0 (S 40 p)) 38) (tq_cp S 40 p (prl cnt ky l 0 (S 40 p)) 39) G C 38 39 10 p n38 := by
    rw [tq_cpk (by decide), tq_cpk (by decide)]; exact h38
  obtain ⟨c1, c2, c3⟩ := tp_L_clr h38b (by decide)
  have e40 : tq_clred (tq_cp S 40 p (prl cnt ky l 0 (S 40 p))) 38 39 p n38 40 p = prl cnt ky l 0 (S 40 p) := by
    rw [c2 40 p (fun w => absurd w.1 (by decide)) (fun w => absurd w.1 (by decide)), tq_cpe]
  have hb1 : stC p l cnt ky N G C (tq_clred (tq_cp S 40 p (prl cnt ky l 0 (S 40 p))) 38 39 p n38) := hb0.go tp_mono.rf (fun k hk => funext (fun i => c2 k i (by omega) (by omega))) (fun _ _ _ _ => rfl) (fun _ _ _ => rfl)
  unfold wpX5_settleForce
  refine ⟨l.length + 1, ?_⟩
  rw [show wbX5_settleForce_2 post (l.length + 1) N S p 0 = wbX5_settleForce_2 post (l.length + 1) N (tq_cp S 40 p (S 40 p)) p (nI 0) by rw [cp_id]; rfl]
  refine st2 hp hb hl l 0 (S 40 p) rfl (by omega) ⟨n38, C 38 p, h38b.1, tp_ae ⟨l.length + 1, ?_⟩⟩
  refine st79 (U := U) (B := B) hp hb1 hl hU (fun k x g hk hg => ?_) r0 r1 l 0 N _ G C [] rfl (by omega) (by simp) ⟨⟨c1, fun k q hk => by simp at hk⟩, tp_mono.rf, fun _ _ _ _ => rfl, fun z => Or.inr ⟨z, rfl⟩, ⟨Nat.le_refl _, hC, Nat.le_refl _, Nat.le_refl _, id⟩, fun _ _ _ _ => rfl, fun _ _ _ => rfl⟩ (fun N1 S1 G1 C1 h1 => k N1 S1 G1 C1 (by rw [List.nil_append] at h1; exact h1))
  rw [e40, prl_iff (by omega) hk hg, tp_cs_iff]
  constructor
  · intro z y hy hh
    obtain ⟨j, hj⟩ := List.mem_iff_getElem?.mp hy
    rw [List.getElem?_drop] at hj
    exact z (k + 1 + j) y (by omega) hj ((hK x g y (List.mem_of_getElem? hk) (List.mem_of_getElem? hj) hg).mp hh)
  · intro z k2 y2 h2 hj hh
    refine z y2 (List.mem_iff_getElem?.mpr ⟨k2 - (k + 1), ?_⟩) ((hK x g y2 (List.mem_of_getElem? hk) (List.mem_of_getElem? hj) hg).mpr hh)
    rw [List.getElem?_drop, show k + 1 + (k2 - (k + 1)) = k2 by omega]
    exact hj
