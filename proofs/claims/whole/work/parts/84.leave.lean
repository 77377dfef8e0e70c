/-! pure: ships that leave -/
/-- behind a Voyage's constructor -/
theorem tp_vinit {post : tq_Nn → tq_St → Prop} {N : tq_Nn} {S : tq_St} {o u : Nat} {p1 p3 p4 p5 : Int32} (h1 : ¬ o < 1) (h2 : N 1 o = 4) (h3 : N 0 0 = o + 1) (hu8 : N 8 u = 1) (hu54 : N 54 u = 1) (hz : ∀ t : Nat, S 1 o t = 0) (r0 : N 0 0 + 2 ≤ tq_CX) (r1 : N 0 1 + 8 ≤ tq_CY)
    (h : ∀ (N1 : tq_Nn) (S1 : tq_St), tp_mono N N1 → N1 9 o = 1 → N1 57 o = 1 → N1 58 o = 1 → N1 0 0 = N 0 0 + 2 → N1 0 1 = N 0 1 + 8 → (∀ k i : Nat, ¬ (i = o ∧ (k = 1 ∨ k = 9 ∨ k = 57 ∨ k = 58)) → S1 k i = S k i) → S1 9 o 0 = p1 → S1 9 o 1 = S 8 u 0 → S1 9 o 2 = S 8 u 3 → S1 9 o 3 = p3 → S1 9 o 4 = p4 → S1 9 o 5 = p5 → S1 9 o 8 = 0 → S1 9 o 9 = 0 → S1 9 o 10 = -1 → S1 57 o = S 54 u → S1 58 o = S 54 u → post N1 S1) : wpX10_init post N S o p1 u p3 p4 p5 := by
  unfold wpX10_init
  simp only [forall_eq, tp_na0, tp_na1]
  refine ⟨h1, h2, h3, hu8, hu54, by omega, by omega, ?_, ?_, by omega, by omega, ?_, ?_, ?_⟩
  · rw [tp_nak (by decide) (by decide)]; exact hu8
  · rw [tp_nak (by decide) (by decide)]; exact hu54
  · simp (disch := decide) only [tq_cpe, tq_upe, tq_upj, tq_upk, tq_cpk]; decide
  · simp (disch := decide) only [tq_cpe, tq_upe, tq_upj, tq_upk, tq_cpk]; decide
  refine h _ _ ?_ ?_ ?_ ?_ ?_ ?_ (fun k i q => ?_) ?_ ?_ ?_ ?_ ?_ ?_ ?_ ?_ ?_ ?_ ?_
  · exact (tp_mono_na.tr tp_mono_na).tr tp_mono_pr
  · exact tp_pre (by decide)
  · rw [tp_prk (by decide) (by decide), tp_nak (by decide) (by decide), tp_nae (by decide)]
  · rw [tp_prk (by decide) (by decide), tp_nae (by decide)]
  · rw [tp_prk (by decide) (by decide), tp_na0]
  · rw [tp_prk (by decide) (by decide), tp_na1, tp_na1]
  · have q1 : ¬ (k = 1 ∧ i = o) := fun z => q ⟨z.2, by simp [z.1]⟩
    have q7 : ¬ (k = 9 ∧ i = o) := fun z => q ⟨z.2, by simp [z.1]⟩
    have q50 : ¬ (k = 57 ∧ i = o) := fun z => q ⟨z.2, by simp [z.1]⟩
    have q51 : ¬ (k = 58 ∧ i = o) := fun z => q ⟨z.2, by simp [z.1]⟩
    simp only [tq_cp_out q7, tq_cp_out q50, tq_cp_out q51, tq_up_out q1]
  · simp (disch := decide) only [tq_cpe, tq_upe, tq_upj, tq_upk, tq_cpk, reduceIte, Nat.reduceEqDiff, hz]
  · simp (disch := decide) only [tq_cpe, tq_upe, tq_upj, tq_upk, tq_cpk, reduceIte, Nat.reduceEqDiff, hz]
  · simp (disch := decide) only [tq_cpe, tq_upe, tq_upj, tq_upk, tq_cpk, reduceIte, Nat.reduceEqDiff, hz]
  · simp (disch := decide) only [tq_cpe, tq_upe, tq_upj, tq_upk, tq_cpk, reduceIte, Nat.reduceEqDiff, hz]
  · simp (disch := decide) only [tq_cpe, tq_upe, tq_upj, tq_upk, tq_cpk, reduceIte, Nat.reduceEqDiff, hz]
  · simp (disch := decide) only [tq_cpe, tq_upe, tq_upj, tq_upk, tq_cpk, reduceIte, Nat.reduceEqDiff, hz]
  · simp (disch := decide) only [tq_cpe, tq_upe, tq_upj, tq_upk, tq_cpk, reduceIte, Nat.reduceEqDiff, hz]
  · simp (disch := decide) only [tq_cpe, tq_upe, tq_upj, tq_upk, tq_cpk, reduceIte, Nat.reduceEqDiff, hz]
  · simp (disch := decide) only [tq_cpe, tq_upe, tq_upj, tq_upk, tq_cpk, reduceIte, Nat.reduceEqDiff, hz]
  · simp (disch := decide) only [tq_cpe, tq_upe, tq_upj, tq_upk, tq_cpk, reduceIte, Nat.reduceEqDiff, hz]
  · simp (disch := decide) only [tq_cpe, tq_upe, tq_upj, tq_upk, tq_cpk, reduceIte, Nat.reduceEqDiff, hz]
def tp_lv (M : tq_St) (s V : Nat) (to comes bey : Int32) : tq_St :=
  tq_up (tq_up (tq_cp (tq_up (tq_up (tq_up (tq_up (tq_up (tq_up (tq_up (tq_up M 64 0 31 (nI (V + 1))) 132 0 V (nI s)) 133 0 V (M 124 0 s)) 134 0 V to) 135 0 V (M 64 0 0)) 136 0 V comes) 141 0 V (-1)) 142 0 V bey) 139 V (va_cpy (M 127 s) (M 139 V) 0 0 4)) 124 0 s (-1)) 130 0 s (nI V)
def tp_win (x : Int32) : Int32 := if x - x / 360 * 360 < 240 then 0 else 60
def tp_rig (M : tq_St) (f : Int32) (i : Nat) : Int32 := if M 107 0 i = f then M 108 0 i / 2 else 0
def tp_bey (M : tq_St) (s pn : Nat) : Int32 := if M 124 0 s = 0 then 0 else if bx_sum (M 129 s) pn - bx_sum (tp_rig M (M 124 0 s)) pn ≤ 0 then 0 else bx_sum (M 129 s) pn - bx_sum (tp_rig M (M 124 0 s)) pn
theorem tp_lv_end {M : tq_St} {post : tq_St → Int32 → Prop} {s V pn : Nat} {f : Int32} (hs : s < 8) (hV : V < 99) (hp : M 64 0 6 = nI pn) (hpn : pn ≤ 20) (h : post (tq_up (tq_up (tq_cp (tq_up M 142 0 V (if f = 0 then 0 else if bx_sum (M 129 s) pn - bx_sum (tp_rig M f) pn ≤ 0 then 0 else bx_sum (M 129 s) pn - bx_sum (tp_rig M f) pn)) 139 V (va_cpy (M 127 s) (M 139 V) 0 0 4)) 124 0 s (-1)) 130 0 s (nI V)) (nI V)) : ∃ nq, wbX12_leave_122 post nq M (nI s) (nI V) f 0 0 := by
  have sc : (nI s).toNatClampNeg = s := nI_clamp (by omega)
  have vc : (nI V).toNatClampNeg = V := nI_clamp (by omega)
  refine ⟨pn + 1, tp_loop0 (W := fun m a i => wbX12_leave_122 post m M (nI s) (nI V) f a (nI i)) (n := pn) (f := fun i a => a + tp_rig M f i) (s0 := 0) (fun m => ?_) (fun m i hi hw => ?_)⟩
  · unfold wbX12_leave_122
    refine tp_dT (by rw [hp]; exact nI_le (Nat.le_refl _) (by omega)) (tp_ownOn hs hp hpn ?_)
    rw [tp_it_sum]
    have e0 : (0 : Int32).toNatClampNeg = 0 := by decide
    have e4 : (4 : Int32).toNatClampNeg = 4 := by decide
    have fin : ∀ b : Int32, (b = if f = 0 then 0 else if bx_sum (M 129 s) pn - bx_sum (tp_rig M f) pn ≤ 0 then 0 else bx_sum (M 129 s) pn - bx_sum (tp_rig M f) pn) → wbX12_leave_198 post M (nI s) (nI V) b (nI V) := by
      intro b hb
      unfold wbX12_leave_198
      refine ⟨vp_in_nI hV (by decide), tp_ae ⟨vp_in_nI hs (by decide), vp_in_nI hV (by decide), ?_⟩⟩
      refine tp_ae (tp_ae (tp_ae ?_))
      rw [sc, vc, e0, e4]
      simp (disch := decide) only [tq_upk]
      rw [hb]
      exact h
    by_cases e1 : f = 0
    · refine tp_dT e1 ?_
      unfold wbX12_leave_197
      exact fin 0 (by rw [if_pos e1])
    · refine tp_dF e1 ?_
      by_cases e2 : bx_sum (M 129 s) pn - bx_sum (tp_rig M f) pn ≤ 0
      · refine tp_dT e2 ?_
        unfold wbX12_leave_197
        exact fin 0 (by rw [if_neg e1, if_pos e2])
      · exact tp_dF e2 (fin _ (by rw [if_neg e1, if_neg e2]))
  · unfold wbX12_leave_122
    refine tp_dF (by rw [hp]; exact nI_ge hi (by omega)) ⟨vp_in_nI (by omega) (by decide), ?_⟩
    unfold wbX12_leave_158
    rw [nI_clamp (by omega), nI_1]
    simp only [tp_it] at hw
    by_cases e : M 107 0 i = f
    · refine tp_cT e ?_
      simpa only [tp_rig, e, if_true] using hw
    · refine tp_cF e ?_
      simpa only [tp_rig, e, if_false] using hw
theorem tp_leaveM {M : tq_St} {post : tq_St → Int32 → Prop} {s V pn : Nat} {to days : Int32} (hs : s < 8) (hV : V < 99) (hv : M 64 0 31 = nI V) (hp : M 64 0 6 = nI pn) (hpn : pn ≤ 20) (hd : (M 124 0 s = 0 ∧ vp_in to 5 ∧ days = M 103 to.toNatClampNeg 0) ∨ (¬ M 124 0 s = 0 ∧ vp_in (M 124 0 s) 5 ∧ days = M 103 (M 124 0 s).toNatClampNeg 1)) (h : post (tp_lv M s V to (M 64 0 0 + days + tp_win (M 64 0 0)) (tp_bey M s pn)) (nI V)) : wpX12_leave post M (nI s) to := by
  have sc : (nI s).toNatClampNeg = s := nI_clamp (by omega)
  have vc : (nI V).toNatClampNeg = V := nI_clamp (by omega)
  unfold wpX12_leave
  refine tp_ae ⟨vp_in_nI hs (by decide), by rw [hv]; exact vp_in_nI hV (by decide), tp_ae (tp_ae (tp_ae (tp_ae ?_)))⟩
  rw [hv, vc, sc, nI_1]
  simp (disch := decide) only [tq_upk, tq_upj]
  have key : wbX12_leave_86 post (tq_up (tq_up (tq_up (tq_up (tq_up M 64 0 31 (nI (V + 1))) 132 0 V (nI s)) 133 0 V (M 124 0 s)) 134 0 V to) 135 0 V (M 64 0 0)) (nI s) (nI V) (M 124 0 s) days (M 64 0 0) (nI V) := by
    have k2 : ∀ win : Int32, win = tp_win (M 64 0 0) → wbX12_leave_107 post (tq_up (tq_up (tq_up (tq_up (tq_up M 64 0 31 (nI (V + 1))) 132 0 V (nI s)) 133 0 V (M 124 0 s)) 134 0 V to) 135 0 V (M 64 0 0)) (nI s) (nI V) (M 124 0 s) win (M 64 0 0 + days) (nI V) := by
      intro win hw
      unfold wbX12_leave_107
      refine ⟨vp_in_nI hV (by decide), tp_ae ⟨vp_in_nI hV (by decide), tp_ae ?_⟩⟩
      rw [vc, hw]
      refine tp_lv_end hs hV (by simp (disch := decide) only [tq_upk, tq_upj]; exact hp) hpn ?_
      have er : ∀ f, tp_rig (tq_up (tq_up (tq_up (tq_up (tq_up (tq_up (tq_up M 64 0 31 (nI (V + 1))) 132 0 V (nI s)) 133 0 V (M 124 0 s)) 134 0 V to) 135 0 V (M 64 0 0)) 136 0 V (M 64 0 0 + days + tp_win (M 64 0 0))) 141 0 V (-1)) f = tp_rig M f := by
        intro f; funext i; simp (disch := decide) only [tp_rig, tq_upk]
      rw [er]
      simp (disch := decide) only [tq_upk]
      exact h
    unfold wbX12_leave_86
    simp (disch := decide) only [tq_upk, tq_upj]
    by_cases e : M 64 0 0 - M 64 0 0 / 360 * 360 < 240
    · exact tp_dT e (k2 0 (by unfold tp_win; rw [if_pos e]))
    · exact tp_dF e (k2 60 (by unfold tp_win; rw [if_neg e]))
  rcases hd with ⟨a1, a2, a3⟩ | ⟨a1, a2, a3⟩
  · rw [a3] at key
    exact tp_cT a1 ⟨a2, key⟩
  · rw [a3] at key
    exact tp_cF a1 ⟨a2, key⟩
theorem tp_lvk {M : tq_St} {s V k : Nat} {to comes bey : Int32} (h : k ≠ 64 ∧ k ≠ 132 ∧ k ≠ 133 ∧ k ≠ 134 ∧ k ≠ 135 ∧ k ≠ 136 ∧ k ≠ 141 ∧ k ≠ 142 ∧ k ≠ 139 ∧ k ≠ 124 ∧ k ≠ 130) : tp_lv M s V to comes bey k = M k := by
  obtain ⟨h1, h2, h3, h4, h5, h6, h7, h8, h9, h10, h11⟩ := h
  unfold tp_lv
  rw [tq_upk h11, tq_upk h10, tq_cpk h9, tq_upk h8, tq_upk h7, tq_upk h6, tq_upk h5, tq_upk h4, tq_upk h3, tq_upk h2, tq_upk h1]
theorem RR_leave {c h w d pn P Sh V E A t r eb : Nat} {G : Nat → Nat → Nat → Nat} {C : Nat → Nat → Nat} {OL : Nat → List Nat} {N : tq_Nn} {S M : tq_St} {N2 : tq_Nn} {S2 : tq_St} {e c1 s p : Nat} {comes bey : Int32} (h0 : RR c h w d pn P Sh V E A t r eb G C OL N S M) (hs : s < Sh) (hshh : s ≠ h) (hV : V < 99) (hp : p < 5) (hm : tp_mono N N2) (hS : ∀ k i : Nat, (k ∈ tq_dyn → N k i = 1) → (k = 1 → i = 0) → k ≠ 22 → k ≠ 23 → S2 k i = S k i) (hL : tp_L N2 (S2 22) (S2 23) (tp_G G 22 0 V e) (tp_C C 22 0 c1) 22 23 9 0 (V + 1))
    (n1 : N2 57 e = 1) (n2 : N2 58 e = 1) (f0 : S2 9 e 0 = nI V) (f1 : S2 9 e 1 = nI s) (f2 : S2 9 e 2 = M 124 0 s) (f3 : S2 9 e 3 = nI p) (f4 : S2 9 e 4 = M 64 0 0) (f5 : S2 9 e 5 = comes) (f8 : S2 9 e 8 = 0) (f9 : S2 9 e 9 = 0) (f10 : S2 9 e 10 = -1) (f11 : S2 9 e 11 = bey) (g1 : S2 57 e = S 54 (G 19 0 s)) (g2 : S2 58 e = S 54 (G 19 0 s)) (hro2 : q_ro c P (V + 1) (tp_C C 22 0 c1) N2) : RR c h w d pn P Sh (V + 1) E A t r eb (tp_G G 22 0 V e) (tp_C C 22 0 c1) OL N2 (tq_up (tq_up (tq_up S2 8 (G 19 0 s) 3 (-1)) 8 (G 19 0 s) 4 comes) 8 (G 19 0 s) 6 (nI V)) (tp_lv M s V (nI p) comes bey) := by
  obtain ⟨hsc, hss, har, hpl, hlg, hsh, hpe, hmo, hpr, hsr, hpa, hkn, hst, hpm, hsi, hab, hsm, hvo, hvm, hbi, hlb, hiv, hod, hol, hoi, hfi, hli, had, hro⟩ := h0
  have b5 := hsc.2.2.2.2.2.2.2.2.2.2.2.2.2.1
  have b4 := hsc.2.2.2.2.2.2.2.2.2.2.2.2.1
  have st0 : ∀ k : Nat, k ∉ tq_dyn → k ≠ 1 → k ≠ 22 → S2 k = S k := fun k z1 z2 z3 => funext (fun i => hS k i (fun y => absurd y z1) (fun y => absurd y z2) z3 (fun y => z1 (by subst y; decide)))
  have st : ∀ k : Nat, k ∉ tq_dyn → k ≠ 1 → k ≠ 22 → (tq_up (tq_up (tq_up S2 8 (G 19 0 s) 3 (-1)) 8 (G 19 0 s) 4 comes) 8 (G 19 0 s) 6 (nI V)) k = S k := fun k z1 z2 z3 => by
    have z : k ≠ 8 := fun y => z1 (by subst y; decide)
    rw [tq_upk z, tq_upk z, tq_upk z]; exact st0 k z1 z2 z3
  have o1 : (tq_up (tq_up (tq_up S2 8 (G 19 0 s) 3 (-1)) 8 (G 19 0 s) 4 comes) 8 (G 19 0 s) 6 (nI V)) 1 0 = S 1 0 := by
    rw [tq_upk (by decide), tq_upk (by decide), tq_upk (by decide)]
    exact hS 1 0 (fun z => absurd z (by decide)) (fun _ => rfl) (by decide) (by decide)
  have dy : ∀ k : Nat, k ∈ tq_dyn → k ≠ 23 → k ≠ 8 → ∀ i, N k i = 1 → (tq_up (tq_up (tq_up S2 8 (G 19 0 s) 3 (-1)) 8 (G 19 0 s) 4 comes) 8 (G 19 0 s) 6 (nI V)) k i = S k i := fun k h1 h3 h8 i h2 => by
    rw [tq_upk h8, tq_upk h8, tq_upk h8]
    exact hS k i (fun _ => h2) (fun z => absurd h1 (by subst z; decide)) (fun z => absurd h1 (by subst z; decide)) h3
  have mo : ∀ k : Nat, k ∈ tq_dyn → ∀ i, N k i = 1 → N2 k i = 1 := fun k h1 i h2 => hm k i (fun z => absurd h1 (by subst z; decide)) (fun z => absurd h1 (by subst z; decide)) (fun z => absurd h1 (by subst z; decide)) h2
  obtain ⟨l1, l2, l3, l4, l5, l6, l7, l8⟩ := id hli
  have d8 : ∀ x, x < Sh → S2 8 (G 19 0 x) = S 8 (G 19 0 x) := fun x hx => hS 8 _ (fun _ => (l2.2 x hx).2.1) (fun z => absurd z (by decide)) (by decide) (by decide)
  have u8 : ∀ x j, x < Sh → j ≠ 3 → j ≠ 4 → j ≠ 6 → (tq_up (tq_up (tq_up S2 8 (G 19 0 s) 3 (-1)) 8 (G 19 0 s) 4 comes) 8 (G 19 0 s) 6 (nI V)) 8 (G 19 0 x) j = S 8 (G 19 0 x) j := fun x j hx z3 z4 z6 => by rw [tq_upj z6, tq_upj z4, tq_upj z3, d8 x hx]
  have v8 : ∀ x, x < Sh → x ≠ s → (tq_up (tq_up (tq_up S2 8 (G 19 0 s) 3 (-1)) 8 (G 19 0 s) 4 comes) 8 (G 19 0 s) 6 (nI V)) 8 (G 19 0 x) = S 8 (G 19 0 x) := fun x hx hxs => by
    have z : G 19 0 x ≠ G 19 0 s := fun z => hxs (hsi.inj b4 hx hs z)
    rw [tq_upi z, tq_upi z, tq_upi z, d8 x hx]
  have gg : ∀ a b y : Nat, a ≠ 22 → tp_G G 22 0 V e a b y = G a b y := fun a b y z => by simp [tp_G, z]
  have g22 : ∀ v, v < V → tp_G G 22 0 V e 22 0 v = G 22 0 v := fun v hv => by simp [tp_G, Nat.ne_of_lt hv]
  have g22e : tp_G G 22 0 V e 22 0 V = e := by simp [tp_G]
  have cc : ∀ a b : Nat, a ≠ 22 → tp_C C 22 0 c1 a b = C a b := fun a b z => by simp [tp_C, z]
  have sp : ∀ n : Nat, n < V + 1 → n < V ∨ n = V := fun n hn => by omega
  have z0 := hvm.2 V (Nat.le_refl _) hV
  have m64 : ∀ j, j ≠ 31 → (tp_lv M s V (nI p) comes bey) 64 0 j = M 64 0 j := fun j hj => by unfold tp_lv; simp (disch := decide) only [tq_upk, tq_cpk]; rw [tq_upj hj]
  have m31 : (tp_lv M s V (nI p) comes bey) 64 0 31 = nI (V + 1) := by unfold tp_lv; simp (disch := decide) only [tq_upk, tq_cpk, tq_upe]
  have mv : ∀ k v, k ∈ [132, 133, 134, 135, 136, 141, 142] → v ≠ V → (tp_lv M s V (nI p) comes bey) k 0 v = M k 0 v := fun k v hk hv => by
    simp only [List.mem_cons, List.not_mem_nil, or_false] at hk
    unfold tp_lv
    rw [tq_upk (by omega), tq_upk (by omega), tq_cpk (by omega), tq_upj hv, tq_upj hv, tq_upj hv, tq_upj hv, tq_upj hv, tq_upj hv, tq_upj hv, tq_upk (by omega)]
  have m139 : ∀ v, v ≠ V → (tp_lv M s V (nI p) comes bey) 139 v = M 139 v := fun v hv => by
    unfold tp_lv
    rw [tq_upk (by decide), tq_upk (by decide), tq_cpi hv, tq_upk (by decide), tq_upk (by decide), tq_upk (by decide), tq_upk (by decide), tq_upk (by decide), tq_upk (by decide), tq_upk (by decide), tq_upk (by decide)]
  have m139e : ∀ q, q < 4 → (tp_lv M s V (nI p) comes bey) 139 V q = M 127 s q := fun q hq => by
    unfold tp_lv
    rw [tq_upk (by decide), tq_upk (by decide), tq_cpe, pk_cpy_in (by omega) (by omega)]
    exact congrArg (M 127 s) (by omega)
  have m124 : ∀ x, x ≠ s → (tp_lv M s V (nI p) comes bey) 124 0 x = M 124 0 x := fun x hx => by
    unfold tp_lv
    rw [tq_upk (by decide), tq_upj hx, tq_cpk (by decide)]
    simp (disch := decide) only [tq_upk]
  have m124e : (tp_lv M s V (nI p) comes bey) 124 0 s = -1 := by unfold tp_lv; rw [tq_upk (by decide), tq_upe]
  have m130 : ∀ x, x ≠ s → (tp_lv M s V (nI p) comes bey) 130 0 x = M 130 0 x := fun x hx => by
    unfold tp_lv
    rw [tq_upj hx, tq_upk (by decide), tq_cpk (by decide)]
    simp (disch := decide) only [tq_upk]
  have m130e : (tp_lv M s V (nI p) comes bey) 130 0 s = nI V := by unfold tp_lv; rw [tq_upe]
  have m132 : (tp_lv M s V (nI p) comes bey) 132 0 V = nI s := by unfold tp_lv; simp (disch := decide) only [tq_upk, tq_cpk, tq_upe]
  have m133 : (tp_lv M s V (nI p) comes bey) 133 0 V = M 124 0 s := by unfold tp_lv; simp (disch := decide) only [tq_upk, tq_cpk, tq_upe]
  have m134 : (tp_lv M s V (nI p) comes bey) 134 0 V = nI p := by unfold tp_lv; simp (disch := decide) only [tq_upk, tq_cpk, tq_upe]
  have m135 : (tp_lv M s V (nI p) comes bey) 135 0 V = M 64 0 0 := by unfold tp_lv; simp (disch := decide) only [tq_upk, tq_cpk, tq_upe]
  have m136 : (tp_lv M s V (nI p) comes bey) 136 0 V = comes := by unfold tp_lv; simp (disch := decide) only [tq_upk, tq_cpk, tq_upe]
  have m141 : (tp_lv M s V (nI p) comes bey) 141 0 V = -1 := by unfold tp_lv; simp (disch := decide) only [tq_upk, tq_cpk, tq_upe]
  have m142 : (tp_lv M s V (nI p) comes bey) 142 0 V = bey := by unfold tp_lv; simp (disch := decide) only [tq_upk, tq_cpk, tq_upe]
  refine ⟨?_, ?_, ?_, ?_, ?_, ?_, ?_, ?_, ?_, ?_, ?_, ?_, ?_, ?_, ?_, ?_, ?_, ?_, ?_, ?_, ?_, ?_, ?_, ?_, ?_, ?_, ?_, ?_, hro2⟩
  · obtain ⟨a1, a2, a3, a4, a5, a6, a7, a8, a9, b1, b2, b3, b4, b5, b6⟩ := hsc
    refine ⟨?_, ?_, ?_, ?_, m31, ?_, ?_, ?_, ?_, b1, b2, b3, b4, by omega, b6⟩
    · rw [m64 0 (by decide)]; exact a1
    · rw [m64 6 (by decide)]; exact a2
    · rw [m64 9 (by decide)]; exact a3
    · rw [m64 21 (by decide)]; exact a4
    · rw [m64 43 (by decide)]; exact a6
    · rw [m64 45 (by decide)]; exact a7
    · rw [m64 61 (by decide)]; exact a8
    · rw [m64 66 (by decide)]; exact a9
  · unfold q_ss at hss ⊢
    rw [o1, st 3 (by decide) (by decide) (by decide), st 4 (by decide) (by decide) (by decide), st 5 (by decide) (by decide) (by decide), m64 0 (by decide), m64 6 (by decide), m64 43 (by decide), m64 58 (by decide), m64 61 (by decide), m64 55 (by decide), m64 66 (by decide)]; exact hss
  · unfold q_ar at har ⊢
    rw [st 13 (by decide) (by decide) (by decide), st 14 (by decide) (by decide) (by decide), st 21 (by decide) (by decide) (by decide), st 25 (by decide) (by decide) (by decide), st 26 (by decide) (by decide) (by decide), st 28 (by decide) (by decide) (by decide), st 30 (by decide) (by decide) (by decide), st 32 (by decide) (by decide) (by decide), st 41 (by decide) (by decide) (by decide), st 43 (by decide) (by decide) (by decide), st 45 (by decide) (by decide) (by decide), st 46 (by decide) (by decide) (by decide), st 47 (by decide) (by decide) (by decide), st 48 (by decide) (by decide) (by decide), st 49 (by decide) (by decide) (by decide), tp_lvk (M := M) (s := s) (V := V) (to := nI p) (comes := comes) (bey := bey) (k := 107) (by decide), tp_lvk (M := M) (s := s) (V := V) (to := nI p) (comes := comes) (bey := bey) (k := 108) (by decide), tp_lvk (M := M) (s := s) (V := V) (to := nI p) (comes := comes) (bey := bey) (k := 126) (by decide), tp_lvk (M := M) (s := s) (V := V) (to := nI p) (comes := comes) (bey := bey) (k := 156) (by decide), tp_lvk (M := M) (s := s) (V := V) (to := nI p) (comes := comes) (bey := bey) (k := 157) (by decide), tp_lvk (M := M) (s := s) (V := V) (to := nI p) (comes := comes) (bey := bey) (k := 159) (by decide), tp_lvk (M := M) (s := s) (V := V) (to := nI p) (comes := comes) (bey := bey) (k := 102) (by decide), tp_lvk (M := M) (s := s) (V := V) (to := nI p) (comes := comes) (bey := bey) (k := 105) (by decide), tp_lvk (M := M) (s := s) (V := V) (to := nI p) (comes := comes) (bey := bey) (k := 160) (by decide), tp_lvk (M := M) (s := s) (V := V) (to := nI p) (comes := comes) (bey := bey) (k := 151) (by decide), tp_lvk (M := M) (s := s) (V := V) (to := nI p) (comes := comes) (bey := bey) (k := 152) (by decide), tp_lvk (M := M) (s := s) (V := V) (to := nI p) (comes := comes) (bey := bey) (k := 153) (by decide), tp_lvk (M := M) (s := s) (V := V) (to := nI p) (comes := comes) (bey := bey) (k := 154) (by decide), tp_lvk (M := M) (s := s) (V := V) (to := nI p) (comes := comes) (bey := bey) (k := 165) (by decide), tp_lvk (M := M) (s := s) (V := V) (to := nI p) (comes := comes) (bey := bey) (k := 163) (by decide)]; exact har
  · unfold q_pl at hpl ⊢
    rw [st 2 (by decide) (by decide) (by decide), st 31 (by decide) (by decide) (by decide), tp_lvk (M := M) (s := s) (V := V) (to := nI p) (comes := comes) (bey := bey) (k := 101) (by decide), tp_lvk (M := M) (s := s) (V := V) (to := nI p) (comes := comes) (bey := bey) (k := 103) (by decide), tp_lvk (M := M) (s := s) (V := V) (to := nI p) (comes := comes) (bey := bey) (k := 104) (by decide)]; exact hpl
  · unfold q_lg at hlg ⊢
    rw [st 24 (by decide) (by decide) (by decide), tp_lvk (M := M) (s := s) (V := V) (to := nI p) (comes := comes) (bey := bey) (k := 144) (by decide)]; exact hlg
  · unfold q_sh at hsh ⊢
    rw [st 6 (by decide) (by decide) (by decide), tp_lvk (M := M) (s := s) (V := V) (to := nI p) (comes := comes) (bey := bey) (k := 162) (by decide), tp_lvk (M := M) (s := s) (V := V) (to := nI p) (comes := comes) (bey := bey) (k := 164) (by decide)]; exact hsh
  · unfold q_pe at hpe ⊢
    rw [tp_lvk (M := M) (s := s) (V := V) (to := nI p) (comes := comes) (bey := bey) (k := 108) (by decide)]; exact hpe
  · unfold q_mo at hmo ⊢
    rw [tp_lvk (M := M) (s := s) (V := V) (to := nI p) (comes := comes) (bey := bey) (k := 101) (by decide), tp_lvk (M := M) (s := s) (V := V) (to := nI p) (comes := comes) (bey := bey) (k := 128) (by decide), tp_lvk (M := M) (s := s) (V := V) (to := nI p) (comes := comes) (bey := bey) (k := 105) (by decide)]; exact hmo
  · unfold q_pr at hpr ⊢
    rw [tp_lvk (M := M) (s := s) (V := V) (to := nI p) (comes := comes) (bey := bey) (k := 104) (by decide), tp_lvk (M := M) (s := s) (V := V) (to := nI p) (comes := comes) (bey := bey) (k := 152) (by decide), tp_lvk (M := M) (s := s) (V := V) (to := nI p) (comes := comes) (bey := bey) (k := 103) (by decide), tp_lvk (M := M) (s := s) (V := V) (to := nI p) (comes := comes) (bey := bey) (k := 159) (by decide)]; exact hpr
  · unfold q_sr at hsr ⊢
    rw [tp_lvk (M := M) (s := s) (V := V) (to := nI p) (comes := comes) (bey := bey) (k := 156) (by decide)]; exact hsr
  · intro n hn
    have h7 := (l1.2 n hn).2.1
    obtain ⟨a1, a2, a3, a4⟩ := hpa n hn
    rw [gg 15 0 n (by decide)]
    unfold q_pb
    rw [dy 7 (by decide) (by decide) (by decide) _ h7, tp_lvk (M := M) (s := s) (V := V) (to := nI p) (comes := comes) (bey := bey) (k := 110) (by decide), tp_lvk (M := M) (s := s) (V := V) (to := nI p) (comes := comes) (bey := bey) (k := 111) (by decide), tp_lvk (M := M) (s := s) (V := V) (to := nI p) (comes := comes) (bey := bey) (k := 112) (by decide), tp_lvk (M := M) (s := s) (V := V) (to := nI p) (comes := comes) (bey := bey) (k := 113) (by decide), tp_lvk (M := M) (s := s) (V := V) (to := nI p) (comes := comes) (bey := bey) (k := 114) (by decide), tp_lvk (M := M) (s := s) (V := V) (to := nI p) (comes := comes) (bey := bey) (k := 116) (by decide), tp_lvk (M := M) (s := s) (V := V) (to := nI p) (comes := comes) (bey := bey) (k := 117) (by decide)]
    exact ⟨mo 50 (by decide) _ a1, mo 51 (by decide) _ a2, mo 52 (by decide) _ a3, a4⟩
  · intro n x hn hx
    rw [gg 15 0 n (by decide), dy 50 (by decide) (by decide) (by decide) _ (hpa n hn).1, tp_lvk (M := M) (s := s) (V := V) (to := nI p) (comes := comes) (bey := bey) (k := 115) (by decide)]
    exact hkn n x hn hx
  · intro n x hn hx hk
    rw [tp_lvk (M := M) (s := s) (V := V) (to := nI p) (comes := comes) (bey := bey) (k := 110) (by decide)] at hk
    rw [gg 15 0 n (by decide), dy 51 (by decide) (by decide) (by decide) _ (hpa n hn).2.1, tp_lvk (M := M) (s := s) (V := V) (to := nI p) (comes := comes) (bey := bey) (k := 116) (by decide)]; exact hst n x hn hx hk
  · unfold q_pm at hpm ⊢
    unfold q_pn at hpm ⊢
    rw [tp_lvk (M := M) (s := s) (V := V) (to := nI p) (comes := comes) (bey := bey) (k := 110) (by decide), tp_lvk (M := M) (s := s) (V := V) (to := nI p) (comes := comes) (bey := bey) (k := 111) (by decide), tp_lvk (M := M) (s := s) (V := V) (to := nI p) (comes := comes) (bey := bey) (k := 113) (by decide), tp_lvk (M := M) (s := s) (V := V) (to := nI p) (comes := comes) (bey := bey) (k := 112) (by decide), tp_lvk (M := M) (s := s) (V := V) (to := nI p) (comes := comes) (bey := bey) (k := 114) (by decide), tp_lvk (M := M) (s := s) (V := V) (to := nI p) (comes := comes) (bey := bey) (k := 115) (by decide), tp_lvk (M := M) (s := s) (V := V) (to := nI p) (comes := comes) (bey := bey) (k := 116) (by decide), tp_lvk (M := M) (s := s) (V := V) (to := nI p) (comes := comes) (bey := bey) (k := 120) (by decide)]; exact hpm
  · intro x hx
    obtain ⟨a1, a2, a3, a4, a5, a6, a7, a8, a9, a10⟩ := hsi x hx
    rw [gg 19 0 x (by decide), u8 x 0 hx (by decide) (by decide) (by decide), u8 x 1 hx (by decide) (by decide) (by decide), u8 x 2 hx (by decide) (by decide) (by decide), u8 x 5 hx (by decide) (by decide) (by decide), u8 x 7 hx (by decide) (by decide) (by decide), dy 54 (by decide) (by decide) (by decide) _ a1, dy 55 (by decide) (by decide) (by decide) _ a2, tp_lvk (M := M) (s := s) (V := V) (to := nI p) (comes := comes) (bey := bey) (k := 122) (by decide), tp_lvk (M := M) (s := s) (V := V) (to := nI p) (comes := comes) (bey := bey) (k := 123) (by decide), tp_lvk (M := M) (s := s) (V := V) (to := nI p) (comes := comes) (bey := bey) (k := 125) (by decide), tp_lvk (M := M) (s := s) (V := V) (to := nI p) (comes := comes) (bey := bey) (k := 128) (by decide), tp_lvk (M := M) (s := s) (V := V) (to := nI p) (comes := comes) (bey := bey) (k := 127) (by decide), tp_lvk (M := M) (s := s) (V := V) (to := nI p) (comes := comes) (bey := bey) (k := 129) (by decide)]
    refine ⟨mo 54 (by decide) _ a1, mo 55 (by decide) _ a2, mo 56 (by decide) _ a3, a4, a5, a6, ?_, a8, ?_, a10⟩
    · by_cases q : x = s
      · subst q; rw [m124e, tq_upj (by decide), tq_upj (by decide), tq_upe]
      · rw [m124 x q, v8 x hx q]; exact a7
    · by_cases q : x = s
      · subst q; rw [m130e, tq_upe]
      · rw [m130 x q, v8 x hx q]; exact a9
  · intro x n hx hn
    rw [gg 19 0 x (by decide), dy 56 (by decide) (by decide) (by decide) _ (hsi x hx).2.2.1, tp_lvk (M := M) (s := s) (V := V) (to := nI p) (comes := comes) (bey := bey) (k := 120) (by decide)]; exact hab x n hx hn
  · obtain ⟨a1, a2, a3⟩ := hsm
    refine ⟨fun x hx => ?_, ?_, fun x q1 q2 => ?_⟩
    · rw [gg 19 0 x (by decide)]
      by_cases q : x = s
      · replace q := q.symm
        subst q
        rw [m124e, m130e, tp_lvk (M := M) (s := s) (V := V) (to := nI p) (comes := comes) (bey := bey) (k := 122) (by decide), tp_lvk (M := M) (s := s) (V := V) (to := nI p) (comes := comes) (bey := bey) (k := 138) (by decide)]
        refine ⟨(a1 s hx).1, by decide, by decide, fun _ => ⟨V, by omega, rfl, ?_, m132, z0.2, fun q hq => (m139e q hq).symm⟩⟩
        rw [m136, tq_upj (by decide), tq_upe]
      · obtain ⟨d1, d2, d3, d4⟩ := a1 x hx
        rw [m124 x q, m130 x q, v8 x hx q, tp_lvk (M := M) (s := s) (V := V) (to := nI p) (comes := comes) (bey := bey) (k := 122) (by decide), tp_lvk (M := M) (s := s) (V := V) (to := nI p) (comes := comes) (bey := bey) (k := 138) (by decide), tp_lvk (M := M) (s := s) (V := V) (to := nI p) (comes := comes) (bey := bey) (k := 127) (by decide)]
        refine ⟨d1, d2, d3, fun z => ?_⟩
        obtain ⟨v, w1, w2, w3, w4, w5, w6⟩ := d4 z
        exact ⟨v, by omega, w2, by rw [mv 136 v (by decide) (by omega)]; exact w3, by rw [mv 132 v (by decide) (by omega)]; exact w4, w5, fun q hq => by rw [m139 v (by omega)]; exact w6 q hq⟩
    · rw [tp_lvk (M := M) (s := s) (V := V) (to := nI p) (comes := comes) (bey := bey) (k := 129) (by decide)]; exact a2
    · rw [m124 x (by omega), tp_lvk (M := M) (s := s) (V := V) (to := nI p) (comes := comes) (bey := bey) (k := 125) (by decide), tp_lvk (M := M) (s := s) (V := V) (to := nI p) (comes := comes) (bey := bey) (k := 128) (by decide), tp_lvk (M := M) (s := s) (V := V) (to := nI p) (comes := comes) (bey := bey) (k := 127) (by decide), tp_lvk (M := M) (s := s) (V := V) (to := nI p) (comes := comes) (bey := bey) (k := 129) (by decide), tp_lvk (M := M) (s := s) (V := V) (to := nI p) (comes := comes) (bey := bey) (k := 120) (by decide)]; exact a3 x q1 q2
  · intro v hv
    rcases sp v hv with hv | hq
    · have h9 := (l3.2 v hv).2.1
      obtain ⟨a1, a2, a4⟩ := hvo v hv
      rw [g22 v hv, dy 9 (by decide) (by decide) (by decide) _ h9, dy 57 (by decide) (by decide) (by decide) _ a1, dy 58 (by decide) (by decide) (by decide) _ a2, mv 132 v (by decide) (by omega), mv 133 v (by decide) (by omega), mv 134 v (by decide) (by omega), mv 135 v (by decide) (by omega), mv 136 v (by decide) (by omega), mv 141 v (by decide) (by omega), mv 142 v (by decide) (by omega), m139 v (by omega), tp_lvk (M := M) (s := s) (V := V) (to := nI p) (comes := comes) (bey := bey) (k := 137) (by decide), tp_lvk (M := M) (s := s) (V := V) (to := nI p) (comes := comes) (bey := bey) (k := 138) (by decide), tp_lvk (M := M) (s := s) (V := V) (to := nI p) (comes := comes) (bey := bey) (k := 140) (by decide)]
      exact ⟨mo 57 (by decide) _ a1, mo 58 (by decide) _ a2, a4⟩
    · replace hq := hq.symm
      subst hq
      rw [g22e]
      have h54 := ((hsi s hs).2.2.2.2.2.2.2.2.2 hshh).2.1
      simp (disch := decide) only [tq_upk]
      rw [g1, g2, m132, m133, m134, m135, m136, m141, m142, tp_lvk (M := M) (s := s) (V := V) (to := nI p) (comes := comes) (bey := bey) (k := 137) (by decide), tp_lvk (M := M) (s := s) (V := V) (to := nI p) (comes := comes) (bey := bey) (k := 138) (by decide), tp_lvk (M := M) (s := s) (V := V) (to := nI p) (comes := comes) (bey := bey) (k := 140) (by decide)]
      refine ⟨n1, n2, f0, f1, f2, f3, f4, f5, f8.trans z0.1.symm, f9.trans z0.2.symm, f10, f11, fun q hq => ?_, fun z => ?_, fun _ q hq => ?_⟩
      · rw [m139e q hq]; exact h54 q hq
      · rw [z0.2] at z; exact absurd z (by decide)
      · rw [m139e q hq]; exact h54 q hq
  · obtain ⟨a1, a2⟩ := hvm
    refine ⟨fun v hv => ?_, fun v q1 q2 => ?_⟩
    · rcases sp v hv with hv | hq
      · rw [mv 134 v (by decide) (by omega), tp_lvk (M := M) (s := s) (V := V) (to := nI p) (comes := comes) (bey := bey) (k := 138) (by decide)]; exact a1 v hv
      · replace hq := hq.symm
        subst hq
        rw [m134, tp_lvk (M := M) (s := s) (V := V) (to := nI p) (comes := comes) (bey := bey) (k := 138) (by decide)]; exact ⟨⟨p, hp, rfl⟩, 0, by decide, z0.2⟩
    · rw [tp_lvk (M := M) (s := s) (V := V) (to := nI p) (comes := comes) (bey := bey) (k := 137) (by decide), tp_lvk (M := M) (s := s) (V := V) (to := nI p) (comes := comes) (bey := bey) (k := 138) (by decide)]; exact a2 v (by omega) q2
  · intro k n hk
    rw [tp_lvk (M := M) (s := s) (V := V) (to := nI p) (comes := comes) (bey := bey) (k := 110) (by decide)] at hk
    rw [gg 17 0 k (by decide), gg 15 0 n (by decide)]; exact hbi k n hk
  · intro x h1 h2
    rw [st 2 (by decide) (by decide) (by decide), tp_lvk (M := M) (s := s) (V := V) (to := nI p) (comes := comes) (bey := bey) (k := 110) (by decide), tp_lvk (M := M) (s := s) (V := V) (to := nI p) (comes := comes) (bey := bey) (k := 111) (by decide), tp_lvk (M := M) (s := s) (V := V) (to := nI p) (comes := comes) (bey := bey) (k := 116) (by decide)]
    rcases hlb x h1 h2 with q | ⟨n, q1, q2, q3, q4, q5⟩
    · exact Or.inl q
    · exact Or.inr ⟨n, q1, q2, q3, by rw [gg 15 0 n (by decide)]; exact q4, q5⟩
  · unfold q_iv at hiv ⊢
    rw [st 2 (by decide) (by decide) (by decide), tp_lvk (M := M) (s := s) (V := V) (to := nI p) (comes := comes) (bey := bey) (k := 110) (by decide), tp_lvk (M := M) (s := s) (V := V) (to := nI p) (comes := comes) (bey := bey) (k := 111) (by decide), tp_lvk (M := M) (s := s) (V := V) (to := nI p) (comes := comes) (bey := bey) (k := 112) (by decide), tp_lvk (M := M) (s := s) (V := V) (to := nI p) (comes := comes) (bey := bey) (k := 113) (by decide), tp_lvk (M := M) (s := s) (V := V) (to := nI p) (comes := comes) (bey := bey) (k := 115) (by decide)]; exact hiv
  · intro n hn hk
    rw [tp_lvk (M := M) (s := s) (V := V) (to := nI p) (comes := comes) (bey := bey) (k := 110) (by decide)] at hk
    have hq := q_or_fr (hod n hn hk) (hpa n hn).2.2.1 hm (dy 10 (by decide) (by decide) (by decide)) (dy 11 (by decide) (by decide) (by decide)) (dy 52 (by decide) (by decide) (by decide)) (dy 53 (by decide) (by decide) (by decide)) (dy 59 (by decide) (by decide) (by decide)) (dy 60 (by decide) (by decide) (by decide))
    rw [gg 15 0 n (by decide), tp_lvk (M := M) (s := s) (V := V) (to := nI p) (comes := comes) (bey := bey) (k := 117) (by decide), tp_lvk (M := M) (s := s) (V := V) (to := nI p) (comes := comes) (bey := bey) (k := 118) (by decide), tp_lvk (M := M) (s := s) (V := V) (to := nI p) (comes := comes) (bey := bey) (k := 119) (by decide)]
    exact q_or_gc hq (fun a b x h1 => gg a b x (by omega)) (fun a b h1 => cc a b (by omega)) rfl rfl rfl
  · unfold q_ol at hol ⊢
    rw [tp_lvk (M := M) (s := s) (V := V) (to := nI p) (comes := comes) (bey := bey) (k := 110) (by decide), tp_lvk (M := M) (s := s) (V := V) (to := nI p) (comes := comes) (bey := bey) (k := 113) (by decide), tp_lvk (M := M) (s := s) (V := V) (to := nI p) (comes := comes) (bey := bey) (k := 115) (by decide)]; exact hol
  · intro x k n hx hk
    rw [gg 36 x k (by decide), gg 15 0 n (by decide)]; exact hoi x k n hx hk
  · intro x j y g hx hj
    rw [tp_lvk (M := M) (s := s) (V := V) (to := nI p) (comes := comes) (bey := bey) (k := 117) (by decide), tp_lvk (M := M) (s := s) (V := V) (to := nI p) (comes := comes) (bey := bey) (k := 118) (by decide)] at hj
    rw [gg 38 x j (by decide), gg 15 0 y (by decide), gg 52 _ g (by decide)]; exact hfi x j y g hx hj
  · unfold q_li
    rw [tp_lvk (M := M) (s := s) (V := V) (to := nI p) (comes := comes) (bey := bey) (k := 110) (by decide), tp_lvk (M := M) (s := s) (V := V) (to := nI p) (comes := comes) (bey := bey) (k := 117) (by decide), tp_lvk (M := M) (s := s) (V := V) (to := nI p) (comes := comes) (bey := bey) (k := 118) (by decide)]
    have lf : ∀ kl kd ek i n : Nat, kd ∈ tq_dyn → kd ≠ 23 → kd ≠ 8 → ek ∈ tq_dyn → kl ≠ 22 → kl ∉ tq_dyn → kl ≠ 1 → tp_L N (S kl) (S kd) G C kl kd ek i n → tp_L N2 ((tq_up (tq_up (tq_up S2 8 (G 19 0 s) 3 (-1)) 8 (G 19 0 s) 4 comes) 8 (G 19 0 s) 6 (nI V)) kl) ((tq_up (tq_up (tq_up S2 8 (G 19 0 s) 3 (-1)) 8 (G 19 0 s) 4 comes) 8 (G 19 0 s) 6 (nI V)) kd) (tp_G G 22 0 V e) (tp_C C 22 0 c1) kl kd ek i n := by
      intro kl kd ek i n h1 q1 q8 h2 q4 q5 q6 h5
      have h4 := st kl q5 q6 q4
      refine tp_L_fr h5 (by rw [h4]) (by rw [h4]) (fun z => dy kd h1 q1 q8 _ z) (mo kd h1) (mo ek h2) (fun j _ => gg kl i j q4) (cc kl i q4)
    have s36 := st 36 (by decide) (by decide) (by decide)
    have s38 := st 38 (by decide) (by decide) (by decide)
    refine ⟨lf 15 16 7 0 P (by decide) (by decide) (by decide) (by decide) (by decide) (by decide) (by decide) l1, lf 19 20 8 0 Sh (by decide) (by decide) (by decide) (by decide) (by decide) (by decide) (by decide) l2, ?_, lf 17 18 7 0 _ (by decide) (by decide) (by decide) (by decide) (by decide) (by decide) (by decide) l4, fun x hx => lf 36 37 7 x _ (by decide) (by decide) (by decide) (by decide) (by decide) (by decide) (by decide) (l5 x hx), fun x hx => lf 38 39 10 x _ (by decide) (by decide) (by decide) (by decide) (by decide) (by decide) (by decide) (l6 x hx), ?_, ?_⟩
    · simp (disch := decide) only [tq_upk]; exact hL
    · rw [s36]; exact l7
    · rw [s38]; exact l8
  · unfold q_ad at had ⊢
    rw [st 33 (by decide) (by decide) (by decide), st 34 (by decide) (by decide) (by decide), st 35 (by decide) (by decide) (by decide), tp_lvk (M := M) (s := s) (V := V) (to := nI p) (comes := comes) (bey := bey) (k := 146) (by decide), tp_lvk (M := M) (s := s) (V := V) (to := nI p) (comes := comes) (bey := bey) (k := 147) (by decide), tp_lvk (M := M) (s := s) (V := V) (to := nI p) (comes := comes) (bey := bey) (k := 148) (by decide), tp_lvk (M := M) (s := s) (V := V) (to := nI p) (comes := comes) (bey := bey) (k := 149) (by decide), tp_lvk (M := M) (s := s) (V := V) (to := nI p) (comes := comes) (bey := bey) (k := 150) (by decide)]; exact had
