/-! pure: bales are bought -/
theorem RR_buy1 {c h w d pn P Sh V E A t r eb : Nat} {G : Nat → Nat → Nat → Nat} {C : Nat → Nat → Nat} {OL : Nat → List Nat} {N : tq_Nn} {S M : tq_St} (h0 : RR c h w d pn P Sh V E A t r eb G C OL N S M) {p s : Nat} {z u hh : Int32} (hp : p < 5) (hs : s < 4) (hz0 : 0 ≤ z.toInt) (hz : z.toInt + 1 ≤ (M 101 0 p).toInt) (hh1 : hh.toInt = (M 105 p s).toInt + 1) : RR c h w d pn P Sh V E A t r eb G C OL N (tq_up (tq_up (tq_up S 2 p 1 z) 30 p s u) 32 p s hh) (tq_up (tq_up (tq_up M 101 0 p z) 102 p s u) 105 p s hh) := by
  obtain ⟨hsc, hss, har, hpl, hlg, hsh, hpe, hmo, hpr, hsr, hpa, hkn, hst, hpm, hsi, hab, hsm, hvo, hvm, hbi, hlb, hiv, hod, hol, hoi, hfi, hli, had, hro⟩ := h0
  refine ⟨?_, ?_, ?_, ?_, ?_, ?_, ?_, ?_, ?_, ?_, ?_, ?_, ?_, ?_, ?_, ?_, ?_, ?_, ?_, ?_, ?_, ?_, ?_, ?_, ?_, ?_, ?_, ?_, ?_⟩
  · simpa (disch := decide) only [q_sc, tq_upk, tq_upj, tq_cpk] using hsc
  · simpa (disch := decide) only [q_ss, tq_upk, tq_upj, tq_cpk] using hss
  · obtain ⟨y1, y2, y3, y4, y5, y6, y7, y8, y9, y10, y11, y12, y13, y14, y15⟩ := har
    refine ⟨?_, ?_, ?_, ?_, ?_, ?_, ?_, ?_, ?_, ?_, ?_, ?_, ?_, ?_, ?_⟩
    · simpa (disch := decide) only [tq_upk, tq_upj, tq_cpk] using y1
    · simpa (disch := decide) only [tq_upk, tq_upj, tq_cpk] using y2
    · simpa (disch := decide) only [tq_upk, tq_upj, tq_cpk] using y3
    · simpa (disch := decide) only [tq_upk, tq_upj, tq_cpk] using y4
    · simpa (disch := decide) only [tq_upk, tq_upj, tq_cpk] using y5
    · simpa (disch := decide) only [tq_upk, tq_upj, tq_cpk] using y6
    · first | exact tp_up2 y7 | (simp (disch := decide) only [tq_upk, tq_cpk]; exact tp_up2 y7)
    · first | exact tp_up2 y8 | (simp (disch := decide) only [tq_upk, tq_cpk]; exact tp_up2 y8)
    · simpa (disch := decide) only [tq_upk, tq_upj, tq_cpk] using y9
    · simpa (disch := decide) only [tq_upk, tq_upj, tq_cpk] using y10
    · simpa (disch := decide) only [tq_upk, tq_upj, tq_cpk] using y11
    · simpa (disch := decide) only [tq_upk, tq_upj, tq_cpk] using y12
    · simpa (disch := decide) only [tq_upk, tq_upj, tq_cpk] using y13
    · simpa (disch := decide) only [tq_upk, tq_upj, tq_cpk] using y14
    · simpa (disch := decide) only [tq_upk, tq_upj, tq_cpk] using y15
  · obtain ⟨a1, a2, a3, a4, a5, a6⟩ := hpl
    refine ⟨?_, ?_, ?_, ?_, ?_, ?_⟩
    · simpa (disch := decide) only [tq_upk, tq_upj, tq_cpk] using a1
    · intro q h1
      simp (disch := decide) only [tq_upk]
      by_cases e : q = p
      · subst e; rw [tq_upe, tq_upe]
      · rw [tq_upi e, tq_upj e]; exact a2 q h1
    · simpa (disch := decide) only [tq_upk, tq_upj, tq_cpk] using a3
    · simpa (disch := decide) only [tq_upk, tq_upj, tq_cpk] using a4
    · simpa (disch := decide) only [tq_upk, tq_upj, tq_cpk] using a5
    · simpa (disch := decide) only [tq_upk, tq_upj, tq_cpk] using a6
  · simpa (disch := decide) only [q_lg, tq_upk, tq_upj, tq_cpk] using hlg
  · simpa (disch := decide) only [q_sh, tq_upk, tq_upj, tq_cpk] using hsh
  · simpa (disch := decide) only [q_pe, tq_upk, tq_upj, tq_cpk] using hpe
  · obtain ⟨a1, a2, a3, a4⟩ := hmo
    have g1 : ∀ x y : Nat, (tq_up (tq_up (tq_up M 101 0 p z) 102 p s u) 105 p s hh) 101 x y = tq_up M 101 0 p z 101 x y := fun x y => by simp (disch := decide) only [tq_upk]
    have g3 : ∀ x y : Nat, (tq_up (tq_up (tq_up M 101 0 p z) 102 p s u) 105 p s hh) 105 x y = tq_up M 105 p s hh 105 x y := fun x y => by
      by_cases e : x = p
      · subst e
        by_cases e2 : y = s
        · subst e2; rw [tq_upe, tq_upe]
        · rw [show tq_up M 105 x s hh 105 x y = M 105 x y from tq_upj e2, tq_upj e2]; simp (disch := decide) only [tq_upk]
      · rw [show tq_up M 105 p s hh 105 x = M 105 x from tq_upi e, tq_upi e]; simp (disch := decide) only [tq_upk]
    have g2 : (tq_up (tq_up (tq_up M 101 0 p z) 102 p s u) 105 p s hh) 128 = M 128 := by simp (disch := decide) only [tq_upk]
    unfold q_mo
    simp only [g1, g2, g3]
    refine ⟨?_, a2, ?_, ?_⟩
    · intro q h1
      by_cases e : q = p
      · subst e; rw [tq_upe]; exact hz0
      · rw [tq_upj e]; exact a1 q h1
    · intro q x h1 h2
      by_cases e : q = p
      · subst e
        by_cases e2 : x = s
        · subst e2; rw [tq_upe]; have := a3 q x h1 h2; omega
        · rw [tq_upj e2]; exact a3 q x h1 h2
      · rw [tq_upi e]; exact a3 q x h1 h2
    · have k1 := tp_sm_upd (n := 5) (f := fun q => (M 101 0 q).toInt) (g := fun q => (tq_up M 101 0 p z 101 0 q).toInt) hp (fun k _ hk => by show (tq_up M 101 0 p z 101 0 k).toInt = _; rw [tq_upj hk])
      have k2 : (tq_up M 101 0 p z 101 0 p).toInt = z.toInt := by rw [tq_upe]
      have k3 := tp_sm_upd (n := 4) (q := s) (f := fun x => (M 105 p x).toInt) (g := fun x => (tq_up M 105 p s hh 105 p x).toInt) hs (fun k _ hk => by show (tq_up M 105 p s hh 105 p k).toInt = _; rw [tq_upj hk])
      have k4 : (tq_up M 105 p s hh 105 p s).toInt = hh.toInt := by rw [tq_upe]
      have k5 := tp_sm_upd (n := 5) (q := p) (f := fun q => tp_sm (fun x => (M 105 q x).toInt) 4) (g := fun q => tp_sm (fun x => (tq_up M 105 p s hh 105 q x).toInt) 4) hp (fun k _ hk => by show tp_sm (fun x => (tq_up M 105 p s hh 105 k x).toInt) 4 = _; rw [tq_upi hk])
      omega
  · simpa (disch := decide) only [q_pr, tq_upk, tq_upj, tq_cpk] using hpr
  · simpa (disch := decide) only [q_sr, tq_upk, tq_upj, tq_cpk] using hsr
  · simpa (disch := decide) only [q_pa, q_pb, tq_upk, tq_upj, tq_cpk] using hpa
  · simpa (disch := decide) only [q_kn, tq_upk, tq_upj, tq_cpk] using hkn
  · simpa (disch := decide) only [q_st, tq_upk, tq_upj, tq_cpk] using hst
  · simpa (disch := decide) only [q_pm, q_pn, tq_upk, tq_upj, tq_cpk] using hpm
  · simpa (disch := decide) only [q_si, tq_upk, tq_upj, tq_cpk] using hsi
  · simpa (disch := decide) only [q_ab, tq_upk, tq_upj, tq_cpk] using hab
  · simpa (disch := decide) only [q_sm, tq_upk, tq_upj, tq_cpk] using hsm
  · simpa (disch := decide) only [q_vo, tq_upk, tq_upj, tq_cpk] using hvo
  · simpa (disch := decide) only [q_vm, tq_upk, tq_upj, tq_cpk] using hvm
  · simpa (disch := decide) only [q_bi, tq_upk, tq_upj, tq_cpk] using hbi
  · simpa (disch := decide) only [q_lb, tq_upk, tq_upj, tq_cpk] using hlb
  · simpa (disch := decide) only [q_iv, tq_upk, tq_upj, tq_cpk] using hiv
  · simpa (disch := decide) only [q_od, tq_upk, tq_upj, tq_cpk] using hod
  · simpa (disch := decide) only [q_ol, tq_upk, tq_upj, tq_cpk] using hol
  · simpa (disch := decide) only [q_oi, tq_upk, tq_upj, tq_cpk] using hoi
  · simpa (disch := decide) only [q_fi, tq_upk, tq_upj, tq_cpk] using hfi
  · simpa (disch := decide) only [q_li, tq_upk, tq_upj, tq_cpk] using hli
  · simpa (disch := decide) only [q_ad, tq_upk, tq_upj, tq_cpk] using had
  · simpa (disch := decide) only [q_ro, tq_upk, tq_upj, tq_cpk] using hro
theorem tp_price {c h w d pn P Sh V E A t r eb : Nat} {G : Nat → Nat → Nat → Nat} {C : Nat → Nat → Nat} {OL : Nat → List Nat} {N : tq_Nn} {S M : tq_St} (h0 : RR c h w d pn P Sh V E A t r eb G C OL N S M) {p s : Nat} (hp1 : 1 ≤ p) (hp : p < 5) (hs : s < 4) : 1 ≤ (M 104 p s + M 105 p s / 5).toInt ∧ (M 104 p s + M 105 p s / 5).toInt ≤ 112940969 := by
  obtain ⟨hsc, hss, har, hpl, hlg, hsh, hpe, hmo, hpr, hsr, hpa, hkn, hst, hpm, hsi, hab, hsm, hvo, hvm, hbi, hlb, hiv, hod, hol, hoi, hfi, hli, had, hro⟩ := h0
  have mo := (tp_mo hmo hsc.2.2.2.2.2.2.2.2.2.2.2.2.2.2.2.2.2.2.2 hsc.2.2.2.2.2.2.2.2.2.2.2.1).2.2.1 p s hp hs
  have pr := hpr.1 p s hp1 hp hs
  have nn : ¬ M 105 p s < 0 := by rw [tp_lt]; simp; omega
  obtain ⟨n, hn, e⟩ := nI_of nn
  rw [e] at mo ⊢
  rw [tp_ti hn] at mo
  have e5 : (nI n / 5 : Int32) = nI (n / 5) := pk_div (d := 5) hn (by decide) (by decide)
  have t5 : (nI (n / 5)).toInt = ((n / 5 : Nat) : Int) := tp_ti (by omega)
  rw [e5, tp_add (by omega) (by omega), t5]
  omega
def bm (M : tq_St) (X1 X2 X3 : Nat → Nat → Int32) (v : Int32) : tq_St := fun k => if k = 101 then X1 else if k = 102 then X2 else if k = 105 then X3 else tq_up M 64 0 73 v k
theorem tp_up_same {M : tq_St} {k i j : Nat} {v : Int32} (h : M k i j = v) : tq_up M k i j v = M := by
  funext a b x
  by_cases e : a = k
  · subst e
    by_cases e2 : b = i
    · subst e2
      by_cases e3 : x = j
      · subst e3; rw [tq_upe, h]
      · rw [tq_upj e3]
    · rw [tq_upi e2]
  · rw [tq_upk e]
theorem bm_same {M : tq_St} {v : Int32} (h : M 64 0 73 = v) : bm M (M 101) (M 102) (M 105) v = M := by
  funext k
  unfold bm
  rw [tp_up_same h]
  by_cases a : k = 101
  · rw [if_pos a, a]
  · rw [if_neg a]
    by_cases b : k = 102
    · rw [if_pos b, b]
    · rw [if_neg b]
      by_cases d : k = 105
      · rw [if_pos d, d]
      · rw [if_neg d]
theorem bm_off {M M1 : tq_St} {X1 X2 X3 : Nat → Nat → Int32} {v : Int32} (h : ∀ k, k ≠ 101 → k ≠ 102 → k ≠ 105 → k ≠ 64 → M1 k = M k) (h64 : ∀ i j, (i ≠ 0 ∨ j ≠ 73) → M1 64 i j = M 64 i j) : bm M1 X1 X2 X3 v = bm M X1 X2 X3 v := by
  funext k
  unfold bm
  by_cases a : k = 101
  · rw [if_pos a, if_pos a]
  · rw [if_neg a, if_neg a]
    by_cases b : k = 102
    · rw [if_pos b, if_pos b]
    · rw [if_neg b, if_neg b]
      by_cases d : k = 105
      · rw [if_pos d, if_pos d]
      · rw [if_neg d, if_neg d]
        by_cases q : k = 64
        · subst q
          funext i j
          by_cases e : i = 0
          · subst e
            by_cases e2 : j = 73
            · subst e2; rw [tq_upe, tq_upe]
            · rw [tq_upj e2, tq_upj e2]; exact h64 0 j (Or.inr e2)
          · rw [tq_upi e, tq_upi e]
            funext
            exact h64 i j (Or.inl e)
        · rw [tq_upk q, tq_upk q]; exact h k a b d q
theorem up_cong {A B : tq_St} {k0 i j : Nat} {v : Int32} {k : Nat} (h : A k = B k) : tq_up A k0 i j v k = tq_up B k0 i j v k := by
  by_cases e : k = k0
  · subst e
    funext a b
    by_cases e2 : a = i
    · subst e2
      by_cases e3 : b = j
      · subst e3; rw [tq_upe, tq_upe]
      · rw [tq_upj e3, tq_upj e3, h]
    · rw [tq_upi e2, tq_upi e2, h]
  · rw [tq_upk e, tq_upk e, h]
def tp_one (p s : Nat) (z v u hh : Int32) (M : tq_St) : tq_St := tq_up (tq_up (tq_up (tq_up M 101 0 p z) 64 0 73 v) 102 p s u) 105 p s hh
theorem tp_one_c {p s : Nat} {z v u hh : Int32} {A B : tq_St} {k : Nat} (h : A k = B k) : tp_one p s z v u hh A k = tp_one p s z v u hh B k := up_cong (up_cong (up_cong (up_cong h)))
theorem tp_one_k {p s : Nat} {z v u hh : Int32} {A : tq_St} {k : Nat} (h1 : k ≠ 101) (h2 : k ≠ 102) (h3 : k ≠ 105) (h4 : k ≠ 64) : tp_one p s z v u hh A k = A k := by
  unfold tp_one
  rw [tq_upk h3, tq_upk h2, tq_upk h4, tq_upk h1]
theorem tp_one_73 {p s : Nat} {z v u hh : Int32} {A : tq_St} : tp_one p s z v u hh A 64 0 73 = v := by
  unfold tp_one
  rw [tq_upk (by decide), tq_upk (by decide), tq_upe]
theorem tp_one_64 {p s : Nat} {z v u hh : Int32} {A : tq_St} {i j : Nat} (h : i ≠ 0 ∨ j ≠ 73) : tp_one p s z v u hh A 64 i j = A 64 i j := by
  unfold tp_one
  rw [tq_upk (by decide), tq_upk (by decide)]
  by_cases e : i = 0
  · subst e
    rw [tq_upj (h.resolve_left (fun z => z rfl)), tq_upk (by decide)]
  · rw [tq_upi e, tq_upk (by decide)]
theorem tp_buys {c h w d pn P Sh V E A t r eb : Nat} {G : Nat → Nat → Nat → Nat} {C : Nat → Nat → Nat} {OL : Nat → List Nat} {N : tq_Nn} {p s k keep : Nat} (hp1 : 1 ≤ p) (hp : p < 5) (hs : s < 4) (hk : k ≤ 9999) (hkp : keep ≤ 9999) : ∀ (m i : Nat) (sum : Int32) (S M : tq_St), i + m = k → RR c h w d pn P Sh V E A t r eb G C OL N S M → M 64 0 73 = sum → ∃ (S1 : tq_St) (X1 X2 X3 : Nat → Nat → Int32) (v : Int32) (j : Nat), i ≤ j ∧ j ≤ k ∧ RR c h w d pn P Sh V E A t r eb G C OL N S1 (bm M X1 X2 X3 v) ∧ (∀ q, q ≠ 2 → q ≠ 30 → q ≠ 32 → S1 q = S q) ∧ S1 30 p s = S 30 p s + nI (j - i) ∧ (∀ a b, b ≠ 1 → S1 2 a b = S 2 a b) ∧ (∀ post : tq_St → Int32 → Prop, post S1 v → wbX5_purchase_6 N post (m + 1) S p (nI s) (nI k) (nI keep) sum (nI i)) ∧ (∀ (M2 : tq_St) (post : tq_St → Int32 → Prop), M2 101 = M 101 → M2 102 = M 102 → M2 104 = M 104 → M2 105 = M 105 → M2 64 0 73 = sum → post (bm M2 X1 X2 X3 v) (nI j) → wbX12_buy_8 post (m + 1) M2 (nI p) (nI s) (nI k) (nI keep) (nI i)) := by
  have pc : (nI p).toNatClampNeg = p := nI_clamp (by omega)
  have sc : (nI s).toNatClampNeg = s := nI_clamp (by omega)
  have pv : vp_in (nI p) 5 := vp_in_nI hp (by decide)
  have sv : vp_in (nI s) 4 := vp_in_nI hs (by decide)
  intro m
  induction m with
  | zero =>
    intro i sum S M hi h0 h73
    refine ⟨S, M 101, M 102, M 105, sum, i, Nat.le_refl _, by omega, by rw [bm_same h73]; exact h0, fun _ _ _ _ => rfl, by rw [Nat.sub_self]; exact (Int32.add_zero _).symm, fun _ _ _ => rfl, fun post hpost => ?_, fun M2 post q1 q2 q3 q4 q5 hpost => ?_⟩
    · unfold wbX5_purchase_6 wbX5_purchase_77
      exact tp_dT (nI_le (by omega) (by omega)) hpost
    · unfold wbX12_buy_8 wbX12_buy_96
      rw [← q1, ← q2, ← q4, bm_same q5] at hpost
      exact tp_dT (nI_le (by omega) (by omega)) hpost
  | succ m ih =>
    intro i sum S M hi h0 h73
    have hpl := h0.2.2.2.1
    have har := h0.2.2.1
    have e2 : S 2 p 1 = M 101 0 p := hpl.2.1 p hp
    have e31 : S 31 p = M 104 p := hpl.2.2.2.2.2 p hp1 hp
    have e30 : S 30 = M 102 := har.2.2.2.2.2.2.1
    have e32 : S 32 = M 105 := har.2.2.2.2.2.2.2.1
    obtain ⟨v1, v2⟩ := tp_price h0 hp1 hp hs
    have mo := tp_mo h0.2.2.2.2.2.2.2.1 h0.1.2.2.2.2.2.2.2.2.2.2.2.2.2.2.2.2.2.2.2 h0.1.2.2.2.2.2.2.2.2.2.2.2.1
    have m1 := mo.1 p hp
    have m2 := mo.2.2.1 p s hp hs
    generalize hv : M 104 p s + M 105 p s / 5 = v0 at v1 v2
    have tk : (nI keep).toInt = (keep : Int) := tp_ti (by omega)
    have c1 : (v0 ≤ M 101 0 p - nI keep) ↔ v0.toInt ≤ (M 101 0 p).toInt - keep := by
      rw [tp_le, tp_sub (by omega) (by omega), tk]
    have c2 : (0 < lg_cmp v0.toInt64 ((M 101 0 p).toInt64 - (nI keep).toInt64)) ↔ ¬ v0.toInt ≤ (M 101 0 p).toInt - keep := by
      rw [lg_cmp_gt, tp_llt, tp_lsub (by rw [tp_l64, tp_l64]; omega) (by rw [tp_l64, tp_l64]; omega), tp_l64, tp_l64, tp_l64, tk]
      omega
    by_cases q : v0.toInt ≤ (M 101 0 p).toInt - keep
    · have z1 : (M 101 0 p - v0).toInt = (M 101 0 p).toInt - v0.toInt := tp_sub (by omega) (by omega)
      have z2 : (M 105 p s + 1).toInt = (M 105 p s).toInt + 1 := by
        rw [tp_add (by rw [show (1 : Int32).toInt = 1 by decide]; omega) (by rw [show (1 : Int32).toInt = 1 by decide]; omega)]; rfl
      have hb := RR_buy1 (z := M 101 0 p - v0) (u := M 102 p s + 1) h0 hp hs (by omega) (by omega) z2
      have hb4 : RR c h w d pn P Sh V E A t r eb G C OL N (tq_up (tq_up (tq_up S 2 p 1 (M 101 0 p - v0)) 30 p s (M 102 p s + 1)) 32 p s (M 105 p s + 1)) (tp_one p s (M 101 0 p - v0) (sum + v0) (M 102 p s + 1) (M 105 p s + 1) M) := by
        refine hb.mf (fun j _ _ _ j4 _ => ?_) (fun k k1 _ _ _ _ _ _ _ _ => ?_) (fun n _ => ?_) (fun n _ => ?_) (fun n _ => ?_)
        · rw [tp_one_64 (Or.inr j4)]; simp (disch := decide) only [tq_upk]
        · unfold tp_one
          refine up_cong (up_cong ?_)
          rw [tq_upk k1]
        · rw [tp_one_k (by decide) (by decide) (by decide) (by decide)]; simp (disch := decide) only [tq_upk]
        · rw [tp_one_k (by decide) (by decide) (by decide) (by decide)]; simp (disch := decide) only [tq_upk]
        · rw [tp_one_k (by decide) (by decide) (by decide) (by decide)]; simp (disch := decide) only [tq_upk]
      obtain ⟨S1, X1, X2, X3, v, j, j1, j2, j3, j4, j5, j8, j6, j7⟩ := ih (i + 1) (sum + v0) _ _ (by omega) hb4 tp_one_73
      refine ⟨S1, X1, X2, X3, v, j, by omega, j2, ?_, ?_, ?_, ?_, fun post hpost => ?_, fun M2 post q1 q2 q3 q4 q5 hpost => ?_⟩
      · rw [bm_off (M1 := tp_one p s (M 101 0 p - v0) (sum + v0) (M 102 p s + 1) (M 105 p s + 1) M) (M := M) (fun k a b d e => tp_one_k a b d e) (fun a b e => tp_one_64 e)] at j3
        exact j3
      · intro q a b d
        rw [j4 q a b d]
        rw [tq_upk d, tq_upk b, tq_upk a]
      · rw [j5, tq_upk (by decide), tq_upe, e30, Int32.add_assoc, Int32.add_comm 1, nI_1, show j - (i + 1) + 1 = j - i by omega]
      · intro a b b1
        rw [j8 a b b1, tq_upk (by decide), tq_upk (by decide)]
        by_cases qa : a = p
        · rw [qa, tq_upj b1]
        · rw [tq_upi qa]
      · unfold wbX5_purchase_6 wpX5_priceOf wbX5_purchase_77
        simp only [sc, e31, e32, hv, e2]
        refine tp_dF (nI_ge (by omega) (by omega)) ⟨hp, hp, sv, tp_dT (c1.mpr q) (tp_ae ⟨sv, tp_ae (tp_ae ?_)⟩)⟩
        simp (disch := decide) only [tq_upk, e30, e32, nI_1]
        exact j6 post hpost
      · unfold wbX12_buy_8 wpX12_priceOf
        simp only [pc, sc, q1, q3, q4, hv]
        refine tp_dF (nI_ge (by omega) (by omega)) ⟨pv, sv, pv, tp_dF (fun z => c2.mp z q) ⟨pv, sv, tp_ae (tp_ae ⟨sv, tp_ae (tp_ae ?_)⟩)⟩⟩
        simp (disch := decide) only [tq_upk, q1, q2, q3, q4, q5, hv, nI_1]
        refine j7 (tp_one p s (M 101 0 p - v0) (sum + v0) (M 102 p s + 1) (M 105 p s + 1) M2) post (tp_one_c q1) (tp_one_c q2) (tp_one_c q3) (tp_one_c q4) tp_one_73 ?_
        rw [bm_off (M1 := tp_one p s (M 101 0 p - v0) (sum + v0) (M 102 p s + 1) (M 105 p s + 1) M2) (M := M2) (fun k a b d e => tp_one_k a b d e) (fun a b e => tp_one_64 e)]
        exact hpost
    · refine ⟨S, M 101, M 102, M 105, sum, i, Nat.le_refl _, by omega, by rw [bm_same h73]; exact h0, fun _ _ _ _ => rfl, by rw [Nat.sub_self]; exact (Int32.add_zero _).symm, fun _ _ _ => rfl, fun post hpost => ?_, fun M2 post q1 q2 q3 q4 q5 hpost => ?_⟩
      · unfold wbX5_purchase_6 wpX5_priceOf wbX5_purchase_77
        simp only [sc, e31, e32, hv, e2]
        exact tp_dF (nI_ge (by omega) (by omega)) ⟨hp, hp, sv, tp_dF (fun z => q (c1.mp z)) hpost⟩
      · unfold wbX12_buy_8 wpX12_priceOf wbX12_buy_96
        rw [← q1, ← q2, ← q4, bm_same q5] at hpost
        simp only [pc, sc, q1, q3, q4, hv]
        exact tp_dF (nI_ge (by omega) (by omega)) ⟨pv, sv, pv, tp_dT (c2.mpr q) hpost⟩
