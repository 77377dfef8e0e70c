/-! pure: what a factory does: buy, keep -/
theorem RR_keep0 {c h w d pn P Sh V E A t r eb : Nat} {G : Nat → Nat → Nat → Nat} {C : Nat → Nat → Nat} {OL : Nat → List Nat} {N : tq_Nn} {S M : tq_St} (h0 : RR c h w d pn P Sh V E A t r eb G C OL N S M) {p : Nat} {v : Int32} : RR c h w d pn P Sh V E A t r eb G C OL N (tq_up S 2 p 8 v) M := by
  obtain ⟨hsc, hss, har, hpl, hlg, hsh, hpe, hmo, hpr, hsr, hpa, hkn, hst, hpm, hsi, hab, hsm, hvo, hvm, hbi, hlb, hiv, hod, hol, hoi, hfi, hli, had, hro⟩ := h0
  refine ⟨?_, ?_, ?_, ?_, ?_, ?_, ?_, ?_, ?_, ?_, ?_, ?_, ?_, ?_, ?_, ?_, ?_, ?_, ?_, ?_, ?_, ?_, ?_, ?_, ?_, ?_, ?_, ?_, ?_⟩
  · simpa (disch := decide) only [q_sc, tq_upk, tq_upj, tq_cpk] using hsc
  · simpa (disch := decide) only [q_ss, tq_upk, tq_upj, tq_cpk] using hss
  · simpa (disch := decide) only [q_ar, tq_upk, tq_upj, tq_cpk] using har
  · obtain ⟨a1, a2, a3, a4, a5, a6⟩ := hpl
    refine ⟨?_, ?_, ?_, ?_, ?_, ?_⟩
    · simpa (disch := decide) only [tq_upk, tq_upj, tq_cpk] using a1
    · simpa (disch := decide) only [tq_upk, tq_upj, tq_cpk] using a2
    · simpa (disch := decide) only [tq_upk, tq_upj, tq_cpk] using a3
    · simpa (disch := decide) only [tq_upk, tq_upj, tq_cpk] using a4
    · simpa (disch := decide) only [tq_upk, tq_upj, tq_cpk] using a5
    · simpa (disch := decide) only [tq_upk, tq_upj, tq_cpk] using a6
  · simpa (disch := decide) only [q_lg, tq_upk, tq_upj, tq_cpk] using hlg
  · simpa (disch := decide) only [q_sh, tq_upk, tq_upj, tq_cpk] using hsh
  · simpa (disch := decide) only [q_pe, tq_upk, tq_upj, tq_cpk] using hpe
  · simpa (disch := decide) only [q_mo, tq_upk, tq_upj, tq_cpk] using hmo
  · simpa (disch := decide) only [q_pr, tq_upk, tq_upj, tq_cpk] using hpr
  · simpa (disch := decide) only [q_sr, tq_upk, tq_upj, tq_cpk] using hsr
  · simpa (disch := decide) only [q_pa, q_pb, tq_upk, tq_upj, tq_cpk] using hpa
  · simpa (disch := decide) only [q_kn, tq_upk, tq_upj, tq_cpk] using hkn
  · simpa (disch := decide) only [q_st, tq_upk, tq_upj, tq_cpk] using hst
  · simpa (disch := decide) only [q_pm, q_pn, tq_upk, tq_upj, tq_cpk] using hpm
  · simpa (disch := decide) only [q_si, tq_upk, tq_upj, tq_cpk] using hsi
  · simpa (disch := decide) only [q_ab, tq_upk, tq_upj, tq_cpk] using hab
  · simpa (disch := decide) only [q_sm, tq_upk, tq_upj, tq_cpk] using hsm
  · simpa (disch := decide) only [q_vo, tq_upk, tq_upj, tq_cpk] using hvo
  · simpa (disch := decide) only [q_vm, tq_upk, tq_upj, tq_cpk] using hvm
  · simpa (disch := decide) only [q_bi, tq_upk, tq_upj, tq_cpk] using hbi
  · intro q h1 h2
    have e : tq_up S 2 p 8 v 2 q 15 = S 2 q 15 := by
      by_cases z : q = p
      · subst z; rw [tq_upj (by decide)]
      · rw [tq_upi z]
    rw [e]; exact hlb q h1 h2
  · refine ⟨hiv.1, fun q h1 h2 x hx => ?_⟩
    have e : tq_up S 2 p 8 v 2 q 16 = S 2 q 16 := by
      by_cases z : q = p
      · subst z; rw [tq_upj (by decide)]
      · rw [tq_upi z]
    rw [e]; exact hiv.2 q h1 h2 x hx
  · simpa (disch := decide) only [q_od, tq_upk, tq_upj, tq_cpk] using hod
  · simpa (disch := decide) only [q_ol, tq_upk, tq_upj, tq_cpk] using hol
  · simpa (disch := decide) only [q_oi, tq_upk, tq_upj, tq_cpk] using hoi
  · simpa (disch := decide) only [q_fi, tq_upk, tq_upj, tq_cpk] using hfi
  · simpa (disch := decide) only [q_li, tq_upk, tq_upj, tq_cpk] using hli
  · simpa (disch := decide) only [q_ad, tq_upk, tq_upj, tq_cpk] using had
  · simpa (disch := decide) only [q_ro, tq_upk, tq_upj, tq_cpk] using hro
/-- what an act leaves as it was -/
def aF (p P : Nat) (S S1 M M1 : tq_St) : Prop := S1 2 p 8 = S 2 p 8 ∧ M1 64 0 74 = M 64 0 74 ∧ M1 172 = M 172 ∧ ∀ n, n < P → M1 117 0 n = M 117 0 n ∧ M1 118 n = M 118 n
theorem aF.rf {p P : Nat} {S M : tq_St} : aF p P S S M M := ⟨rfl, rfl, rfl, fun _ _ => ⟨rfl, rfl⟩⟩
theorem aF.tr {p P P1 : Nat} {S S1 S2 M M1 M2 : tq_St} (h : aF p P S S1 M M1) (hP : P ≤ P1) (h2 : aF p P1 S1 S2 M1 M2) : aF p P S S2 M M2 := ⟨h2.1.trans h.1, h2.2.1.trans h.2.1, h2.2.2.1.trans h.2.2.1, fun n hn => ⟨(h2.2.2.2 n (by omega)).1.trans (h.2.2.2 n hn).1, (h2.2.2.2 n (by omega)).2.trans (h.2.2.2 n hn).2⟩⟩
theorem bm_k {M : tq_St} {X1 X2 X3 : Nat → Nat → Int32} {v : Int32} {k : Nat} (h1 : k ≠ 101) (h2 : k ≠ 102) (h3 : k ≠ 105) (h4 : k ≠ 64) : bm M X1 X2 X3 v k = M k := by
  unfold bm
  rw [if_neg h1, if_neg h2, if_neg h3, tq_upk h4]
theorem ac_buy {c w d pn P Sh V E A t r eb : Nat} {G : Nat → Nat → Nat → Nat} {C : Nat → Nat → Nat} {OL : Nat → List Nat} {N : tq_Nn} {S M : tq_St} {post : tq_St → Prop} {p s q x g num kp : Nat} (h0 : RR c 8 w d pn P Sh V E A t r eb G C OL N S M) (hp1 : 1 ≤ p) (hp : p < 5) (hs : s < 4) (hnum : num ≤ 9999) (hkp : kp ≤ 9999) (heb : eb + 1 ≤ 100000000) (hq : N 10 q = 1) (q0 : S 10 q 0 = nI x) (q1 : S 10 q 1 = nI g) (q2 : S 10 q 2 = nI 0) (q3 : S 10 q 3 = nI s) (q4 : S 10 q 4 = nI num) (hk8 : S 2 p 8 = nI kp) (hk74 : M 64 0 74 = nI kp)
    (k : ∀ (S1 M1 : tq_St) (E1 : Nat), RR c 8 w d pn P Sh V E1 A t r (eb + 1) G C OL N S1 M1 → aF p P S S1 M M1 → (∀ pm : tq_St → Prop, pm M1 → wpX12_doBuy pm M (nI p) (nI s) (nI num) (nI x) (nI g)) → post S1) : wpX11_buyBales N post S q p := by
  have w1 : S 2 p 0 = nI p := h0.2.2.2.1.1 p hp
  have sc : (nI s).toNatClampNeg = s := nI_clamp (by omega)
  have sv : vp_in (nI s) 4 := vp_in_nI hs (by decide)
  have h73 : RR c 8 w d pn P Sh V E A t r eb G C OL N S ((tq_up M 64 0 73 0)) := by
    refine h0.mf (fun j _ _ _ j4 _ => tq_upj j4) (fun k k1 _ _ _ _ _ _ _ _ => tq_upk k1) (fun n _ => ?_) (fun n _ => ?_) (fun n _ => ?_)
    · rw [tq_upk (by decide)]
    · rw [tq_upk (by decide)]
    · rw [tq_upk (by decide)]
  obtain ⟨S5, X1, X2, X3, v, j, j1, j2, j3, j4, j5, j8, j6, j7⟩ := tp_buys (k := num) (keep := kp) hp1 hp hs hnum hkp num 0 0 S _ (by omega) h73 tq_upe
  rw [bm_up73] at j3
  have k10 : S5 10 = S 10 := j4 10 (by decide) (by decide) (by decide)
  have fr : aF p P S S5 M (bm M X1 X2 X3 v) := ⟨j8 p 8 (by decide), bm_64 (by decide), bm_k (by decide) (by decide) (by decide) (by decide), fun n _ => ⟨by rw [bm_k (by decide) (by decide) (by decide) (by decide)], by rw [bm_k (by decide) (by decide) (by decide) (by decide)]⟩⟩
  have ref : ∀ pm : tq_St → Prop, ((nI j ≤ 0 → pm (bm M X1 X2 X3 v)) ∧ (¬ nI j ≤ 0 → wpX12_enter pm (bm M X1 X2 X3 v) (nI p) 0 (nI s) (nI j) v (nI x) (nI g))) → wpX12_doBuy pm M (nI p) (nI s) (nI num) (nI x) (nI g) := by
    intro pm hpm
    unfold wpX12_doBuy wbX12_doBuy_35 wpX12_buy
    rw [hk74]
    refine tp_ae ⟨num + 1, j7 _ _ rfl rfl rfl rfl tq_upe ?_⟩
    rw [bm_up73, bm_73]
    exact hpm
  unfold wpX11_buyBales wbX11_buyBales_56
  rw [q3, q4, hk8, sc]
  refine ⟨hp, hq, sv, num + 1, j6 _ ?_⟩
  rw [k10, q3, sc, j5, Nat.sub_zero, Int32.add_comm, Int32.add_sub_cancel]
  refine ⟨sv, ?_⟩
  by_cases h7 : j = 0
  · subst h7
    refine tp_dT (show nI 0 ≤ 0 by decide) (k S5 _ _ (j3.wk (Nat.le_refl _) (h0.1.2.2.2.2.2.2.2.2.2.2.2.2.2.2.2.2.2.2.2) (by omega) heb) fr (fun pm hpm => ref pm (tp_dT (show nI 0 ≤ 0 by decide) hpm)))
  · have g0 : ¬ nI j ≤ 0 := nI_ge (a := 0) (by omega) (by omega)
    obtain ⟨S6, M6, f1, f2, f3, f4, f5, f6, f7⟩ := tp_enter (v2 := 0) (v3 := nI s) (v4 := nI j) (v5 := v) (v6 := nI x) (v7 := nI g) j3 hp1 (by omega) heb
    refine tp_dF g0 ?_
    unfold wpX11_enterFor
    rw [k10, q0, q1, q2, q3, j8 p 0 (by decide), w1]
    refine ⟨hp, hq, f6 _ (k S6 M6 _ f1 (fr.tr (Nat.le_refl _) ⟨by rw [f2 2 (by decide) (by decide)], f4 74 (by decide), f3 172 (by decide) (by decide), fun n _ => ⟨by rw [f3 117 (by decide) (by decide)], by rw [f3 118 (by decide) (by decide)]⟩⟩) (fun pm hpm => ref pm (tp_dF g0 (f7 _ hpm))))⟩
