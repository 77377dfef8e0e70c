/-! pure: a ship comes, both stores -/
theorem tp_it_cm {f : Nat → tq_St → tq_St} {g : tq_St → tq_St} (h : ∀ q T, f q (g T) = g (f q T)) : ∀ (n : Nat) (T : tq_St), tp_it f n (g T) = g (tp_it f n T)
  | 0, _ => rfl
  | n + 1, T => by
    show f n (tp_it f n (g T)) = g (f n (tp_it f n T))
    rw [tp_it_cm h n T, h]
theorem tp_it_k {f : Nat → tq_St → tq_St} {k : Nat} (h : ∀ q T, f q T k = T k) : ∀ (n : Nat) (T : tq_St), tp_it f n T k = T k
  | 0, _ => rfl
  | n + 1, T => by
    show f n (tp_it f n T) k = T k
    rw [h, tp_it_k h n T]
theorem tq_up_id {S : tq_St} {k i j : Nat} {v : Int32} (h : S k i j = v) : tq_up S k i j v = S := by
  funext a b c
  simp only [tq_up]
  by_cases q : a = k ∧ b = i ∧ c = j
  · rw [if_pos q, q.1, q.2.1, q.2.2, h]
  · rw [if_neg q]
theorem tq_cp_ow {S : tq_St} {k i j : Nat} {v : Int32} {f : Nat → Int32} : tq_cp (tq_up S k i j v) k i f = tq_cp S k i f := by
  funext a b
  by_cases q : a = k ∧ b = i
  · rw [q.1, q.2, tq_cpe, tq_cpe]
  · rw [tq_cp_out q, tq_cp_out q, tq_up_out q]
def fz (p s : Nat) (T : tq_St) : tq_St := if p = 0 then tq_up T 125 0 s 0 else T
def gz (p e : Nat) (S : tq_St) : tq_St := if p = 0 then tq_up S 8 e 5 0 else S
theorem fz_k {p s k : Nat} {T : tq_St} (h : k ≠ 125) : fz p s T k = T k := by
  unfold fz
  by_cases q : p = 0
  · rw [if_pos q, tq_upk h]
  · rw [if_neg q]
theorem fz_up {p s k i j : Nat} {v : Int32} {T : tq_St} (h : k ≠ 125) : fz p s (tq_up T k i j v) = tq_up (fz p s T) k i j v := by
  unfold fz
  by_cases q : p = 0
  · rw [if_pos q, if_pos q, tq_up_cj (fun z => h z.1)]
  · rw [if_neg q, if_neg q]
theorem gz_up {p e k i j : Nat} {v : Int32} {T : tq_St} (h : k ≠ 8) : gz p e (tq_up T k i j v) = tq_up (gz p e T) k i j v := by
  unfold gz
  by_cases q : p = 0
  · rw [if_pos q, if_pos q, tq_up_cj (fun z => h z.1)]
  · rw [if_neg q, if_neg q]
def I127 (s : Nat) (T : tq_St) : tq_St := tp_it (fun q T => tq_up T 127 s q 0) 4 T
def I129 (s : Nat) (T : tq_St) : tq_St := tp_it (fun q T => tq_up T 129 s q 0) 20 T
def em (s : Nat) (T : tq_St) : tq_St := tq_up (I129 s (I127 s T)) 128 0 s 0
def I120 (s n : Nat) (T : tq_St) : tq_St := tp_it (fun q T => tq_up T 120 q s 0) n T
theorem I127_cp {s : Nat} {T : tq_St} : I127 s T = tq_cp T 127 s (fun q => if q < 4 then 0 else T 127 s q) := tp_row T 127 s (fun _ => 0) 4
theorem I129_cp {s : Nat} {T : tq_St} : I129 s T = tq_cp T 129 s (fun q => if q < 20 then 0 else T 129 s q) := tp_row T 129 s (fun _ => 0) 20
theorem I127_cm {s : Nat} {T : tq_St} {g : tq_St → tq_St} (h : ∀ q T, tq_up (g T) 127 s q 0 = g (tq_up T 127 s q 0)) : I127 s (g T) = g (I127 s T) := tp_it_cm (f := fun q T => tq_up T 127 s q 0) h 4 T
theorem I129_cm {s : Nat} {T : tq_St} {g : tq_St → tq_St} (h : ∀ q T, tq_up (g T) 129 s q 0 = g (tq_up T 129 s q 0)) : I129 s (g T) = g (I129 s T) := tp_it_cm (f := fun q T => tq_up T 129 s q 0) h 20 T
theorem I120_cm {s n : Nat} {T : tq_St} {g : tq_St → tq_St} (h : ∀ q T, tq_up (g T) 120 q s 0 = g (tq_up T 120 q s 0)) : I120 s n (g T) = g (I120 s n T) := tp_it_cm (f := fun q T => tq_up T 120 q s 0) h n T
theorem em_in {s : Nat} {T : tq_St} : em s T = I129 s (I127 s (tq_up T 128 0 s 0)) := by
  unfold em
  rw [I127_cm (g := fun T => tq_up T 128 0 s 0) (fun q T => tq_up_cj (fun z => absurd z.1 (by decide))), I129_cm (g := fun T => tq_up T 128 0 s 0) (fun q T => tq_up_cj (fun z => absurd z.1 (by decide)))]
theorem em_up {s k i j : Nat} {v : Int32} {T : tq_St} (h1 : k ≠ 127) (h2 : k ≠ 128) (h3 : k ≠ 129) : em s (tq_up T k i j v) = tq_up (em s T) k i j v := by
  unfold em
  rw [I127_cm (g := fun T => tq_up T k i j v) (fun q T => tq_up_cj (fun z => h1 z.1)), I129_cm (g := fun T => tq_up T k i j v) (fun q T => tq_up_cj (fun z => h3 z.1))]
  exact tq_up_cj (fun z => h2 z.1)
theorem em_fz {s p : Nat} {T : tq_St} : em s (fz p s T) = fz p s (em s T) := by
  unfold em
  rw [I127_cm (g := fz p s) (fun q T => (fz_up (by decide)).symm), I129_cm (g := fz p s) (fun q T => (fz_up (by decide)).symm)]
  exact (fz_up (by decide)).symm
theorem em_k {s k : Nat} {T : tq_St} (h1 : k ≠ 127) (h2 : k ≠ 128) (h3 : k ≠ 129) : em s T k = T k := by
  unfold em
  rw [tq_upk h2, I129_cp, tq_cpk h3, I127_cp, tq_cpk h1]
theorem em_128 {s : Nat} {T : tq_St} : em s T 128 0 s = 0 := by
  unfold em
  rw [tq_upe]
theorem em_127 {s q : Nat} {T : tq_St} (hq : q < 4) : em s T 127 s q = 0 := by
  unfold em
  rw [tq_upk (by decide), I129_cp, tq_cpk (by decide), I127_cp, tq_cpe, if_pos hq]
theorem em_129 {s q : Nat} {T : tq_St} (hq : q < 20) : em s T 129 s q = 0 := by
  unfold em
  rw [tq_upk (by decide), I129_cp, tq_cpe, if_pos hq]
theorem tp_empty {M : tq_St} {pm : tq_St → Prop} {s : Nat} (hs : s < 8) (h : pm (em s M)) : wpX12_empty pm M (nI s) := by
  have sc : (nI s).toNatClampNeg = s := nI_clamp (by omega)
  unfold wpX12_empty
  refine ⟨5, tp_loop0 (W := fun m T i => wbX12_empty_2 pm m T (nI s) (nI i)) (n := 4) (f := fun q T => tq_up T 127 s q 0) (s0 := M) (fun m => ?_) (fun m i hi hw => ?_)⟩
  · unfold wbX12_empty_2
    refine tp_dT (show nI 4 ≤ nI 4 by decide) ⟨21, tp_loop0 (W := fun m T i => wbX12_empty_24 pm m T (nI s) (nI i)) (n := 20) (f := fun q T => tq_up T 129 s q 0) (s0 := tp_it (fun q T => tq_up T 127 s q 0) 4 M) (fun m => ?_) (fun m i hi hw => ?_)⟩
    · unfold wbX12_empty_24
      refine tp_dT (show nI 20 ≤ nI 20 by decide) ⟨vp_in_nI hs (by decide), tp_ae ?_⟩
      rw [sc]
      exact h
    · unfold wbX12_empty_24
      rw [nI_clamp (show i < 2 ^ 31 by omega), sc, nI_1]
      exact tp_dF (show ¬ nI 20 ≤ nI i from nI_ge hi (by decide)) ⟨vp_in_nI hs (by decide), vp_in_nI hi (by decide), tp_ae hw⟩
  · unfold wbX12_empty_2
    rw [nI_clamp (show i < 2 ^ 31 by omega), sc, nI_1]
    exact tp_dF (show ¬ nI 4 ≤ nI i from nI_ge hi (by decide)) ⟨vp_in_nI hs (by decide), vp_in_nI hi (by decide), tp_ae hw⟩
section
variable {c w d pn P Sh V E A t r eb : Nat} {G : Nat → Nat → Nat → Nat} {C : Nat → Nat → Nat} {OL : Nat → List Nat} {N : tq_Nn} {S M : tq_St} {s p v : Nat}
theorem RR_em (h0 : RR c s w d pn P Sh V E A t r eb G C OL N S M) (hs : s < Sh) (hat : ¬ M 124 0 s = -1) : RR c s w d pn P Sh V E A t r eb G C OL N S (I129 s (I127 s M)) := by
  rw [I129_cp]
  refine RR_e129 ?_ hs rfl (fun q hq => if_pos hq)
  rw [I127_cp]
  exact RR_e127 h0 hs rfl hat
theorem RR_z (h0 : RR c 8 w d pn P Sh V E A t r eb G C OL N S M) (hs : s < Sh) : RR c 8 w d pn P Sh V E A t r eb G C OL N (gz p (G 19 0 s) S) (fz p s M) := by
  unfold gz fz
  by_cases q : p = 0
  · rw [if_pos q, if_pos q]; exact RR_upz h0 hs
  · rw [if_neg q, if_neg q]; exact h0
def fS3 (e p q : Nat) (T : tq_St) : tq_St := tq_up T 30 p q (T 30 p q + T 54 e q)
def fM3 (s p v q : Nat) (T : tq_St) : tq_St := tq_up (tq_up T 102 p q (T 102 p q + T 127 s q)) 140 v q (T 127 s q)
theorem fM3_k {q k : Nat} {T : tq_St} (h1 : k ≠ 102) (h2 : k ≠ 140) : fM3 s p v q T k = T k := by
  unfold fM3
  rw [tq_upk h2, tq_upk h1]
theorem fM3_z {q : Nat} {T : tq_St} : fM3 s p v q (fz p s T) = fz p s (fM3 s p v q T) := by
  unfold fM3
  rw [fz_k (k := 102) (by decide), fz_k (k := 127) (by decide), fz_up (by decide), fz_up (by decide)]
theorem fM3_u {q k i j : Nat} {x : Int32} {T : tq_St} (h1 : k ≠ 102) (h2 : k ≠ 140) (h3 : k ≠ 127) : fM3 s p v q (tq_up T k i j x) = tq_up (fM3 s p v q T) k i j x := by
  unfold fM3
  rw [tq_upk (Ne.symm h1), tq_upk (Ne.symm h3), tq_up_cj (k := k) (k2 := 102) (fun z => h1 z.1), tq_up_cj (k := k) (k2 := 140) (fun z => h2 z.1)]
theorem fS3_u {e q k i j : Nat} {x : Int32} {T : tq_St} (h1 : k ≠ 30) (h2 : k ≠ 54) : fS3 e p q (tq_up T k i j x) = tq_up (fS3 e p q T) k i j x := by
  unfold fS3
  rw [tq_upk (Ne.symm h1), tq_upk (Ne.symm h2), tq_up_cj (k := k) (k2 := 30) (fun z => h1 z.1)]
theorem RR_land1 {q : Nat} (h0 : RR c 8 w d pn P Sh V E A t r eb G C OL N S M) (hs : s < Sh) (hq : q < 4) (h138 : M 138 0 v = 0) : RR c 8 w d pn P Sh V E A t r eb G C OL N (fS3 (G 19 0 s) p q S) (fM3 s p v q M) := by
  obtain ⟨hsc, hss, har, hpl, hlg, hsh, hpe, hmo, hpr, hsr, hpa, hkn, hst, hpm, hsi, hab, hsm, hvo, hvm, hbi, hlb, hiv, hod, hol, hoi, hfi, hli, had, hro⟩ := id h0
  have b4 := hsc.2.2.2.2.2.2.2.2.2.2.2.2.1
  have e30 : S 30 = M 102 := har.2.2.2.2.2.2.1
  have e54 : S 54 (G 19 0 s) q = M 127 s q := ((hsi s hs).2.2.2.2.2.2.2.2.2 (by omega)).2.1 q hq
  unfold fS3 fM3
  rw [e30, e54]
  exact RR_v140 (RR_stk h0) (by rw [tq_upk (by decide)]; exact h138)
theorem RR_land (h0 : RR c 8 w d pn P Sh V E A t r eb G C OL N S M) (hs : s < Sh) (h138 : M 138 0 v = 0) : ∀ i : Nat, i ≤ 4 → RR c 8 w d pn P Sh V E A t r eb G C OL N (tp_it (fS3 (G 19 0 s) p) i S) (tp_it (fM3 s p v) i M)
  | 0, _ => h0
  | i + 1, hi => RR_land1 (RR_land h0 hs h138 i (by omega)) hs (by omega) (by rw [tp_it_k (f := fM3 s p v) (fun q T => fM3_k (by decide) (by decide))]; exact h138)
theorem it140 : ∀ i q : Nat, q < i → tp_it (fM3 s p v) i M 140 v q = M 127 s q
  | 0, _, h => absurd h (by omega)
  | i + 1, q, h => by
    show fM3 s p v i (tp_it (fM3 s p v) i M) 140 v q = _
    unfold fM3
    by_cases e : q = i
    · subst e
      rw [tq_upe]
      exact congrFun (congrFun (tp_it_k (f := fM3 s p v) (k := 127) (fun q T => fM3_k (by decide) (by decide)) q M) s) q
    · rw [tq_upj e, tq_upk (by decide)]
      exact it140 i q (by omega)
end
def cM1 (M : tq_St) (s p v : Nat) : tq_St := tp_it (fM3 s p v) 4 (tq_up (tq_up M 124 0 s (nI p)) 138 0 v 1)
def cM2 (M : tq_St) (s p v : Nat) : tq_St := em s (tq_up (cM1 M s p v) 101 0 p (cM1 M s p v 101 0 p + cM1 M s p v 128 0 s))
def cS1 (S : tq_St) (e p : Nat) : tq_St := tp_it (fS3 e p) 4 (gz p e (tq_up S 8 e 3 (nI p)))
def cS2 (S : tq_St) (e p : Nat) : tq_St := tq_up (cS1 S e p) 2 p 1 (cS1 S e p 2 p 1 + cS1 S e p 8 e 7)
theorem cM1_o {M : tq_St} {s p v : Nat} : cM1 M s p v = tq_up (tp_it (fM3 s p v) 4 (tq_up M 124 0 s (nI p))) 138 0 v 1 := tp_it_cm (g := fun T => tq_up T 138 0 v 1) (fun q T => fM3_u (by decide) (by decide) (by decide)) 4 _
theorem cM1_k {M : tq_St} {s p v k : Nat} (h1 : k ≠ 102) (h2 : k ≠ 140) (h3 : k ≠ 124) (h4 : k ≠ 138) : cM1 M s p v k = M k := by
  unfold cM1
  rw [tp_it_k (fun q T => fM3_k h1 h2), tq_upk h4, tq_upk h3]
theorem cS1_o {S : tq_St} {e ev p : Nat} {x : Int32} : cS1 (tq_up S 9 ev 9 x) e p = tq_up (cS1 S e p) 9 ev 9 x := by
  unfold cS1
  rw [tq_up_cj (k := 9) (k2 := 8) (fun z => absurd z.1 (by decide)), gz_up (by decide)]
  exact tp_it_cm (g := fun T => tq_up T 9 ev 9 x) (fun q T => fS3_u (by decide) (by decide)) 4 _
theorem tp_arrS {N : tq_Nn} {S : tq_St} {post : tq_Nn → tq_St → Prop} {e p : Nat} (hp : p < 5) (e8 : N 8 e = 1) (e54 : N 54 e = 1) (s20 : S 2 p 0 = nI p) (h : ∃ nq, wbX11_arrive_63 post nq N (cS2 S e p) e p 0) : wpX11_arrive post N S e p := by
  have main : wbX11_arrive_20 post N (gz p e (tq_up S 8 e 3 (nI p))) e p := by
    unfold wbX11_arrive_20
    refine ⟨5, tp_loop0 (W := fun m T i => wbX11_arrive_22 post m N T e p (nI i)) (n := 4) (f := fS3 e p) (s0 := gz p e (tq_up S 8 e 3 (nI p))) (fun m => ?_) (fun m i hi hw => ?_)⟩
    · unfold wbX11_arrive_22
      exact tp_dT (show nI 4 ≤ nI 4 by decide) ⟨hp, e8, tp_ae h⟩
    · unfold wbX11_arrive_22
      rw [nI_clamp (show i < 2 ^ 31 by omega), nI_1]
      exact tp_dF (show ¬ nI 4 ≤ nI i from nI_ge hi (by decide)) ⟨hp, vp_in_nI hi (by decide), e8, e54, tp_ae hw⟩
  have key : tq_up S 8 e 3 (nI p) 2 p 0 = nI p := by rw [tq_upk (by decide)]; exact s20
  unfold wpX11_arrive
  rw [s20]
  refine ⟨hp, e8, tp_ae ?_⟩
  rw [key]
  unfold gz at main
  by_cases q : p = 0
  · rw [if_pos q] at main
    exact tp_cT (by rw [q]; rfl) (tp_ae main)
  · rw [if_neg q] at main
    exact tp_cF (fun z => q ((nI_eq (a := p) (b := 0) (by omega) (by omega)).mp z)) main
theorem tp_comesM {M : tq_St} {pm : tq_St → Prop} {s p v : Nat} (hs : s < 8) (hp : p < 5) (hv : v < 99) (h130 : M 130 0 s = nI v) (h134 : M 134 0 v = nI p) (h : ∃ nq, wbX12_comes_105 pm nq (cM2 M s p v) (nI s) (nI p) 0) : wpX12_comes pm M (nI s) := by
  have sc : (nI s).toNatClampNeg = s := nI_clamp (by omega)
  have vc : (nI v).toNatClampNeg = v := nI_clamp (by omega)
  have pc : (nI p).toNatClampNeg = p := nI_clamp (by omega)
  unfold wpX12_comes
  rw [sc, h130, vc, h134]
  refine ⟨vp_in_nI hs (by decide), vp_in_nI hv (by decide), tp_ae (tp_ae ⟨5, tp_loop0 (W := fun m T i => wbX12_comes_31 pm m T (nI s) (nI v) (nI p) (nI i)) (n := 4) (f := fM3 s p v) (s0 := tq_up (tq_up M 124 0 s (nI p)) 138 0 v 1) (fun m => ?_) (fun m i hi hw => ?_)⟩)⟩
  · unfold wbX12_comes_31
    rw [sc, pc]
    exact tp_dT (show nI 4 ≤ nI 4 by decide) ⟨vp_in_nI hp (by decide), vp_in_nI hs (by decide), tp_ae (tp_empty hs h)⟩
  · unfold wbX12_comes_31
    rw [nI_clamp (show i < 2 ^ 31 by omega), sc, pc, vc, nI_1]
    refine tp_dF (show ¬ nI 4 ≤ nI i from nI_ge hi (by decide)) ⟨vp_in_nI hp (by decide), vp_in_nI hi (by decide), vp_in_nI hs (by decide), tp_ae ⟨vp_in_nI hv (by decide), tp_ae ?_⟩⟩
    rw [tq_upk (show (127 : Nat) ≠ 102 by decide)]
    exact hw
