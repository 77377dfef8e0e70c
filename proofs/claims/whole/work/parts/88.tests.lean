/-! pure: tests hold; forced, holds -/
theorem tp_FL_mem2 {U : Nat → Int32} {B : Nat → Nat → Int32} {x g : Nat} : ∀ {l : List Nat}, (x, g) ∈ tp_FL U B l → g < (U x).toNatClampNeg
  | [], h => absurd h (by simp [tp_FL])
  | y :: l, h => by
    simp only [tp_FL, List.mem_append, List.mem_map, List.mem_filter] at h
    rcases h with ⟨q, hq1, hq⟩ | h
    · obtain ⟨r1, r2⟩ := Prod.mk.inj hq
      subst r1; subst r2
      exact List.mem_range.mp hq1.1
    · exact tp_FL_mem2 h
theorem RR.par {c h w d pn P Sh V E A t r eb : Nat} {G : Nat → Nat → Nat → Nat} {C : Nat → Nat → Nat} {OL : Nat → List Nat} {N : tq_Nn} {S M : tq_St} (h0 : RR c h w d pn P Sh V E A t r eb G C OL N S M) {p i x g : Nat} (hp : p < 5) (hi : (tp_FL (M 117 0) (M 118) (OL p))[i]? = some (x, g)) : x < P ∧ M 110 0 x = 2 ∧ g < 6 ∧ G 38 p i = G 52 (G 15 0 x) g ∧ tq_gok N S 38 39 p (nI i) ∧ tq_el S 38 39 p (nI i) = G 38 p i ∧ N 10 (G 38 p i) = 1 ∧ q_pg x g (G 38 p i) G C N (S 10) (S 11) (S 59) (S 60) (M 118 x) (M 119 x) := by
  obtain ⟨hsc, hss, har, hpl, hlg, hsh, hpe, hmo, hpr, hsr, hpa, hkn, hst, hpm, hsi, hab, hsm, hvo, hvm, hbi, hlb, hiv, hod, hol, hoi, hfi, hli, had, hro⟩ := h0
  have hm := List.mem_of_getElem? hi
  have hx := ((hol p hp).1 x).mp (tp_FL_mem hm)
  have hg := tp_FL_mem2 hm
  obtain ⟨gx, a1, a2, a3, a4, a5⟩ := hod x hx.1 hx.2.1
  rw [a3, nI_clamp (by omega)] at hg
  have e := hfi p i x g hp hi
  have hl : i < (tp_FL (M 117 0) (M 118) (OL p)).length := (List.getElem?_eq_some_iff.mp hi).1
  obtain ⟨g1, g2, g3⟩ := tp_get (hli.2.2.2.2.2.1 p hp) hl
  exact ⟨hx.1, hx.2.1, by omega, e, g1, g2, g3, by rw [e]; exact a5 g hg⟩
/-- what a field is -/
noncomputable def tp_fv (M : tq_St) (p Sh f : Nat) (s : Int32) : Int32 := if f = 0 then M 104 p s.toNatClampNeg + M 105 p s.toNatClampNeg / 5 else if f = 1 then M 102 p s.toNatClampNeg else if f = 2 then M 101 0 p else if f = 3 then tp_cnt (fun i => M 124 0 i = nI p) Sh else M 64 0 0 - M 64 0 0 / 360 * 360
theorem tp_fieldM {M : tq_St} {post : tq_St → Int32 → Prop} {p Sh f : Nat} {s : Int32} (hp : p < 5) (hf : f ≤ 4) (hs : f < 2 → vp_in s 4) (hS : M 64 0 21 = nI Sh) (hS8 : Sh ≤ 8) (h : post M (tp_fv M p Sh f s)) : wpX12_fieldOf post M (nI p) (nI f) s := by
  have pc : (nI p).toNatClampNeg = p := nI_clamp (by omega)
  have pv : vp_in (nI p) 5 := vp_in_nI hp (by decide)
  unfold wpX12_fieldOf wpX12_priceOf
  rw [pc]
  have hf : f = 0 ∨ f = 1 ∨ f = 2 ∨ f = 3 ∨ f = 4 := by omega
  rcases hf with rfl | rfl | rfl | rfl | rfl
  · exact tp_dT rfl ⟨pv, hs (by decide), h⟩
  · exact tp_dF (by decide) (tp_dT rfl ⟨pv, hs (by decide), h⟩)
  · exact tp_dF (by decide) (tp_dF (by decide) (tp_dT rfl ⟨pv, h⟩))
  · refine tp_dF (by decide) (tp_dF (by decide) (tp_dF (by decide) (tp_dT rfl ⟨Sh + 1, tp_loop0 (W := fun m a i => wbX12_fieldOf_61 post m M (nI p) a (nI i)) (n := Sh) (f := fun i a => a + tp_b (M 124 0 i = nI p)) (s0 := 0) (fun m => ?_) (fun m i hi hw => ?_)⟩)))
    · unfold wbX12_fieldOf_61
      refine tp_dT (by rw [hS]; exact nI_le (Nat.le_refl _) (by omega)) ?_
      have : ∀ k, tp_it (fun i a => a + tp_b (M 124 0 i = nI p)) k 0 = tp_cnt (fun i => M 124 0 i = nI p) k := by
        intro k
        induction k with
        | zero => rfl
        | succ k ih => simp only [tp_it, tp_cnt]; rw [ih]
      rw [this]; exact h
    · unfold wbX12_fieldOf_61
      refine tp_dF (by rw [hS]; exact nI_ge hi (by omega)) ⟨vp_in_nI (by omega) (by decide), ?_⟩
      rw [nI_clamp (by omega)]
      unfold wbX12_fieldOf_88
      rw [nI_1]
      by_cases e : M 124 0 i = nI p
      · refine tp_cT e ?_
        simpa only [tp_it, tp_bt e] using hw
      · refine tp_cF e ?_
        simpa only [tp_it, tp_bf e] using hw
  · exact tp_dF (by decide) (tp_dF (by decide) (tp_dF (by decide) (tp_dF (by decide) h)))
theorem tp_fieldS {c h w d pn P Sh V E A t r eb : Nat} {G : Nat → Nat → Nat → Nat} {C : Nat → Nat → Nat} {OL : Nat → List Nat} {N : tq_Nn} {S M : tq_St} {post : tq_St → Int32 → Prop} {p f u : Nat} {s : Int32} (h0 : RR c h w d pn P Sh V E A t r eb G C OL N S M) (hp1 : 1 ≤ p) (hp : p < 5) (hf : f ≤ 4) (hs : f < 2 → vp_in s 4) (hu : N 11 u = 1) (e2 : S 11 u 2 = nI f) (e3 : S 11 u 3 = s) (h : post S (tp_fv M p Sh f s)) : wpX11_fieldValue N post S u p := by
  obtain ⟨hsc, hss, har, hpl, hlg, hsh, hpe, hmo, hpr, hsr, hpa, hkn, hst, hpm, hsi, hab, hsm, hvo, hvm, hbi, hlb, hiv, hod, hol, hoi, hfi, hli, had, hro⟩ := h0
  have y7 := har.2.2.2.2.2.2.1
  have y8 := har.2.2.2.2.2.2.2.1
  unfold wpX11_fieldValue wpX5_priceOf
  rw [e2, e3]
  refine ⟨hu, ?_⟩
  have hf : f = 0 ∨ f = 1 ∨ f = 2 ∨ f = 3 ∨ f = 4 := by omega
  rcases hf with rfl | rfl | rfl | rfl | rfl
  · refine tp_dT rfl ⟨hp, hp, hs (by decide), ?_⟩
    rw [hpl.2.2.2.2.2 p hp1 hp, y8]; exact h
  · refine tp_dF (by decide) (tp_dT rfl ⟨hp, hs (by decide), ?_⟩)
    rw [y7]; exact h
  · refine tp_dF (by decide) (tp_dF (by decide) (tp_dT rfl ⟨hp, ?_⟩))
    rw [hpl.2.1 p hp]; exact h
  · refine tp_dF (by decide) (tp_dF (by decide) (tp_dF (by decide) (tp_dT rfl ⟨hp, ?_⟩)))
    rw [hpl.1 p hp]
    refine tp_shipsAt hli.2.1 hsc.2.2.2.2.2.2.2.2.2.2.2.2.1 ?_
    rw [tp_cnt_cong (c2 := fun i => M 124 0 i = nI p) (fun k hk => by rw [(hsi k hk).2.2.2.2.2.2.1])]
    exact h
  · refine tp_dF (by decide) (tp_dF (by decide) (tp_dF (by decide) (tp_dF (by decide) ?_)))
    rw [hss.1]; exact h
/-- a test -/
def tp_so (v num : Int32) (x : Nat) : Prop := (x = 60 ∧ v < num) ∨ (x = 61 ∧ v = num) ∨ (x = 62 ∧ num < v)
def tp_tt (v num neg : Int32) (x : Nat) : Prop := (tp_so v num x ∧ neg = 0) ∨ (¬ tp_so v num x ∧ neg = 1)
theorem tp_metS {N : tq_Nn} {S : tq_St} {post : tq_St → Int32 → Prop} {u x : Nat} {v num neg : Int32} (hu : N 11 u = 1) (hx : 60 ≤ x) (hx2 : x ≤ 62) (hn : neg = 0 ∨ neg = 1) (e1 : S 11 u 1 = neg) (e4 : S 11 u 4 = nI x - 61) (e5 : S 11 u 5 = num) (h : post S (tp_b (tp_tt v num neg x))) : wpX9_isMetBy N post S u v := by
  have fin : ∀ so : Prop, (so ↔ tp_so v num x) → wbX9_isMetBy_59 N post S u (tp_b so) := by
    intro so hso
    unfold wbX9_isMetBy_59 wbX9_isMetBy_73
    rw [e1]
    refine ⟨hu, ?_⟩
    by_cases q : so
    · rw [tp_bt q]
      rcases hn with rfl | rfl
      · rw [tp_bt (show tp_tt v num 0 x from Or.inl ⟨hso.mp q, rfl⟩)] at h
        exact tp_dF (by decide) ⟨tp_nb1, h⟩
      · rw [tp_bf (fun z => z.elim (fun z => absurd z.2 (by decide)) (fun z => z.1 (hso.mp q)))] at h
        exact tp_dT rfl ⟨tp_nb0, h⟩
    · rw [tp_bf q]
      rcases hn with rfl | rfl
      · rw [tp_bf (fun z => z.elim (fun z => q (hso.mpr z.1)) (fun z => absurd z.2 (by decide)))] at h
        exact tp_dT rfl ⟨tp_nb0, h⟩
      · rw [tp_bt (show tp_tt v num 1 x from Or.inr ⟨fun z => q (hso.mpr z), rfl⟩)] at h
        exact tp_dF (by decide) ⟨tp_nb1, h⟩
  have fT : tp_so v num x → wbX9_isMetBy_59 N post S u 1 := fun c => by
    have := fin True ⟨fun _ => c, fun _ => trivial⟩
    rw [tp_bt trivial] at this; exact this
  have fF : ¬ tp_so v num x → wbX9_isMetBy_59 N post S u 0 := fun c => by
    have := fin False ⟨fun z => z.elim, fun z => c z⟩
    rw [tp_bf (fun z => z)] at this; exact this
  have hx3 : x = 60 ∨ x = 61 ∨ x = 62 := by omega
  unfold wpX9_isMetBy
  rw [e4, e5]
  refine ⟨hu, ?_⟩
  unfold tp_so at fT fF
  simp only [tp_lt, tp_eq] at fT fF
  rcases hx3 with rfl | rfl | rfl
  · refine tp_dF (by decide) ?_
    by_cases a : num ≤ v
    · exact tp_dT a (fF (by rw [tp_le] at a; omega))
    · exact tp_dF a (fT (by rw [tp_le] at a; omega))
  · refine tp_dT (by decide) (tp_dT (by decide) ?_)
    by_cases a : v = num
    · exact tp_cT a (fT (by rw [tp_eq] at a; omega))
    · exact tp_cF a (fF (by rw [tp_eq] at a; omega))
  · refine tp_dT (by decide) (tp_dF (by decide) ?_)
    by_cases a : v ≤ num
    · exact tp_dT a (fF (by rw [tp_le] at a; omega))
    · exact tp_dF a (fT (by rw [tp_le] at a; omega))
theorem tp_oneM {M : tq_St} {post : tq_St → Int32 → Prop} {p n k Sh f x : Nat} {s num neg : Int32} (hp : p < 5) (hn : n < 150) (hk : k + 5 < 144) (hS : M 64 0 21 = nI Sh) (hS8 : Sh ≤ 8) (hf : f ≤ 4) (hs : f < 2 → vp_in s 4) (hx : 60 ≤ x) (hx2 : x ≤ 62) (hneg : neg = 0 ∨ neg = 1) (e0 : M 119 n k = neg) (e1 : M 119 n (k + 1) = nI f) (e2 : M 119 n (k + 2) = s) (e3 : M 119 n (k + 3) = nI x) (e4 : M 119 n (k + 4) = num) (h : post M (tp_b (tp_tt (tp_fv M p Sh f s) num neg x))) : wpX12_one post M (nI p) (nI n) (nI k) := by
  have nc : (nI n).toNatClampNeg = n := nI_clamp (by omega)
  have k0 : (nI k).toNatClampNeg = k := nI_clamp (by omega)
  have k1 : nI k + 1 = nI (k + 1) := nI_1 k
  have k2 : nI k + 2 = nI (k + 2) := nI_add k 2
  have k3 : nI k + 3 = nI (k + 3) := nI_add k 3
  have k4 : nI k + 4 = nI (k + 4) := nI_add k 4
  have c1 : (nI (k + 1)).toNatClampNeg = k + 1 := nI_clamp (by omega)
  have c2 : (nI (k + 2)).toNatClampNeg = k + 2 := nI_clamp (by omega)
  have c3 : (nI (k + 3)).toNatClampNeg = k + 3 := nI_clamp (by omega)
  have c4 : (nI (k + 4)).toNatClampNeg = k + 4 := nI_clamp (by omega)
  have vk : ∀ j, j < 144 → vp_in (nI j) 144 := fun j hj => vp_in_nI hj (by decide)
  unfold wpX12_one
  rw [k1, k2, k3, k4, c1, c2, c3, c4, nc, e1, e2]
  refine ⟨vp_in_nI hn (by decide), vk _ (by omega), vk _ (by omega), tp_fieldM hp hf hs hS hS8 ?_⟩
  rw [e3, e4]
  refine ⟨vk _ (by omega), ?_⟩
  generalize tp_fv M p Sh f s = v at h ⊢
  have fin : ∀ so : Prop, (so ↔ tp_so v num x) → wbX12_one_103 post M (nI k) n (tp_b so) := by
    intro so hso
    unfold wbX12_one_103 wbX12_one_120 wbX12_one_128
    rw [k0, e0]
    refine ⟨vk _ (by omega), hn, ?_⟩
    by_cases q : so
    · rw [tp_bt q]
      rcases hneg with rfl | rfl
      · rw [tp_bt (show tp_tt v num 0 x from Or.inl ⟨hso.mp q, rfl⟩)] at h
        exact tp_cF (by decide) (tp_dF (by decide) ⟨tp_nb1, h⟩)
      · rw [tp_bf (fun z => z.elim (fun z => absurd z.2 (by decide)) (fun z => z.1 (hso.mp q)))] at h
        exact tp_cT rfl (tp_dT rfl ⟨tp_nb0, h⟩)
    · rw [tp_bf q]
      rcases hneg with rfl | rfl
      · rw [tp_bf (fun z => z.elim (fun z => q (hso.mpr z.1)) (fun z => absurd z.2 (by decide)))] at h
        exact tp_cF (by decide) (tp_dT rfl ⟨tp_nb0, h⟩)
      · rw [tp_bt (show tp_tt v num 1 x from Or.inr ⟨fun z => q (hso.mpr z), rfl⟩)] at h
        exact tp_cT rfl (tp_dF (by decide) ⟨tp_nb1, h⟩)
  have y : tp_so v num x → wbX12_one_103 post M (nI k) n 1 := fun q => by
    have := fin True ⟨fun _ => q, fun _ => trivial⟩
    rw [tp_bt trivial] at this; exact this
  have no : ¬ tp_so v num x → wbX12_one_103 post M (nI k) n 0 := fun q => by
    have := fin False ⟨fun z => z.elim, q⟩
    rw [tp_bf (fun z => z)] at this; exact this
  have hx3 : x = 60 ∨ x = 61 ∨ x = 62 := by omega
  rcases hx3 with rfl | rfl | rfl
  · refine tp_cT rfl ⟨vk _ (by omega), ?_⟩
    by_cases q : num ≤ v
    · refine tp_dT q (no (fun z => ?_))
      unfold tp_so at z
      simp only [tp_lt, tp_eq] at z
      rw [tp_le] at q
      omega
    · exact tp_dF q (y (Or.inl ⟨rfl, by rw [tp_lt]; rw [tp_le] at q; omega⟩))
  · refine tp_cF (by decide) (tp_cT rfl ⟨vk _ (by omega), ?_⟩)
    by_cases q : v = num
    · exact tp_cT q (y (Or.inr (Or.inl ⟨rfl, q⟩)))
    · refine tp_cF q (no (fun z => ?_))
      unfold tp_so at z
      simp only [tp_lt, tp_eq] at z q
      omega
  · refine tp_cF (by decide) (tp_cF (by decide) ⟨vk _ (by omega), ?_⟩)
    by_cases q : v ≤ num
    · refine tp_dT q (no (fun z => ?_))
      unfold tp_so at z
      simp only [tp_lt, tp_eq] at z
      rw [tp_le] at q
      omega
    · exact tp_dF q (y (Or.inr (Or.inr ⟨rfl, by rw [tp_lt]; rw [tp_le] at q; omega⟩)))
/-- groups of tests -/
def tp_rz (J T : Nat → Prop) : Nat → Nat → Prop → Prop
  | 0, _, b => b
  | m + 1, k, b => (J k ∧ (b ∨ tp_rz J T m (k + 1) (T k))) ∨ (¬ J k ∧ tp_rz J T m (k + 1) (b ∧ T k))
theorem tp_bor (a b : Prop) : tp_b a ||| tp_b b = tp_b (a ∨ b) := by
  by_cases x : a
  · by_cases y : b
    · rw [tp_bt x, tp_bt y, tp_bt (Or.inl x)]; decide
    · rw [tp_bt x, tp_bf y, tp_bt (Or.inl x)]; decide
  · by_cases y : b
    · rw [tp_bf x, tp_bt y, tp_bt (Or.inr y)]; decide
    · rw [tp_bf x, tp_bf y, tp_bf (fun z => z.elim x y)]; decide
theorem tp_band (a b : Prop) : tp_b a &&& tp_b b = tp_b (a ∧ b) := by
  by_cases x : a
  · by_cases y : b
    · rw [tp_bt x, tp_bt y, tp_bt ⟨x, y⟩]; decide
    · rw [tp_bt x, tp_bf y, tp_bf (fun z => y z.2)]; decide
  · by_cases y : b
    · rw [tp_bf x, tp_bt y, tp_bf (fun z => x z.1)]; decide
    · rw [tp_bf x, tp_bf y, tp_bf (fun z => x z.1)]; decide
theorem tp_rz_cong {J T : Nat → Prop} {b c : Prop} (h : b ↔ c) : ∀ m k : Nat, (tp_rz J T m k b ↔ tp_rz J T m k c) := fun m k => by rw [propext h]
/-- the k-th test of the paragraph g of the order n, at the place p -/
def tp_J (M : tq_St) (n g : Nat) (k : Nat) : Prop := M 119 n (24 * g + 6 * k + 5) = 1
def tp_T (M : tq_St) (p Sh n g : Nat) (k : Nat) : Prop := tp_tt (tp_fv M p Sh (M 119 n (24 * g + 6 * k + 1)).toNatClampNeg (M 119 n (24 * g + 6 * k + 2))) (M 119 n (24 * g + 6 * k + 4)) (M 119 n (24 * g + 6 * k)) (M 119 n (24 * g + 6 * k + 3)).toNatClampNeg
def tp_H (M : tq_St) (p Sh n g : Nat) : Prop := tp_rz (tp_J M n g) (tp_T M p Sh n g) (M 118 n (4 * g + 3)).toNatClampNeg 0 True
theorem tp_holdM {M : tq_St} {post : tq_St → Int32 → Prop} {p n g Sh K : Nat} (hp : p < 5) (hn : n < 150) (hg : g < 6) (hS : M 64 0 21 = nI Sh) (hS8 : Sh ≤ 8) (hK : K ≤ 4) (eK : M 118 n (4 * g + 3) = nI K)
    (ht : ∀ k, k < K → (M 119 n (24 * g + 6 * k) = 0 ∨ M 119 n (24 * g + 6 * k) = 1) ∧ (∃ f : Nat, f ≤ 4 ∧ M 119 n (24 * g + 6 * k + 1) = nI f ∧ (f < 2 → ∃ s : Nat, s < 4 ∧ M 119 n (24 * g + 6 * k + 2) = nI s)) ∧ ∃ x : Nat, 60 ≤ x ∧ x ≤ 62 ∧ M 119 n (24 * g + 6 * k + 3) = nI x) (h : post M (tp_b (tp_H M p Sh n g))) : wpX12_hold post M (nI p) (nI n) (nI g) := by
  have nc : (nI n).toNatClampNeg = n := nI_clamp (by omega)
  have m4 : 4 * nI g + 3 = nI (4 * g + 3) := by rw [show (4 : Int32) * nI g = nI (4 * g) from pk_mul 4 g]; exact nI_add _ 3
  have c4 : (nI (4 * g + 3)).toNatClampNeg = 4 * g + 3 := nI_clamp (by omega)
  have Kc : (nI K).toNatClampNeg = K := nI_clamp (by omega)
  unfold tp_H at h
  rw [eK, Kc] at h
  unfold wpX12_hold
  rw [m4, c4, nc, eK]
  refine ⟨vp_in_nI hn (by decide), vp_in_nI (by omega) (by decide), ?_⟩
  by_cases e0 : K = 0
  · subst e0
    refine tp_cT rfl ?_
    unfold tp_rz at h
    rw [tp_bt trivial] at h; exact h
  · refine tp_cF (nI_ne0 (by omega) (by omega)) ?_
    have aux : ∀ m k : Nat, k + m = K → ∀ a b : Prop, post M (tp_b (a ∨ tp_rz (tp_J M n g) (tp_T M p Sh n g) m k b)) → wbX12_hold_30 post (m + 1) M (nI p) (nI n) (nI g) (nI K) (tp_b a) (tp_b b) (nI k) := by
      intro m
      induction m with
      | zero =>
        intro k hk a b hh
        unfold wbX12_hold_30
        rw [tp_bor]
        refine tp_dT (nI_le (by omega) (by omega)) ⟨by rw [tp_nb]; trivial, hh⟩
      | succ m ih =>
        intro k hk a b hh
        have e6 : 24 * nI g + 6 * nI k = nI (24 * g + 6 * k) := by rw [show (24 : Int32) * nI g = nI (24 * g) from pk_mul 24 g, show (6 : Int32) * nI k = nI (6 * k) from pk_mul 6 k, nI_add]
        have e65 : nI (24 * g + 6 * k) + 5 = nI (24 * g + 6 * k + 5) := nI_add _ 5
        have c65 : (nI (24 * g + 6 * k + 5)).toNatClampNeg = 24 * g + 6 * k + 5 := nI_clamp (by omega)
        obtain ⟨t1, ⟨f, f1, f2, f3⟩, x, x1, x2, x3⟩ := ht k (by omega)
        have one : ∀ q : tq_St → Int32 → Prop, q M (tp_b (tp_T M p Sh n g k)) → wpX12_one q M (nI p) (nI n) (nI (24 * g + 6 * k)) := by
          intro q hq
          refine tp_oneM hp hn (by omega) hS hS8 f1 (fun z => ?_) x1 x2 t1 rfl f2 rfl x3 rfl ?_
          · obtain ⟨s, s1, s2⟩ := f3 z
            rw [s2]; exact vp_in_nI s1 (by decide)
          · unfold tp_T at hq
            rw [f2, x3, nI_clamp (by omega), nI_clamp (by omega)] at hq
            exact hq
        unfold tp_rz at hh
        unfold wbX12_hold_30
        rw [e6, e65, c65, nc]
        refine tp_dF (nI_ge (by omega) (by omega)) ⟨vp_in_nI hn (by decide), vp_in_nI (by omega) (by decide), ?_⟩
        by_cases j : M 119 n (24 * g + 6 * k + 5) = 1
        · refine tp_cT j ?_
          unfold wbX12_hold_70
          rw [e6, nI_1]
          refine one _ ?_
          rw [tp_bor]
          have e1 : (1 : Int32) &&& tp_b (tp_T M p Sh n g k) = tp_b (tp_T M p Sh n g k) := by
            have := tp_band True (tp_T M p Sh n g k)
            rw [tp_bt trivial] at this
            rw [this]; congr 1; exact propext ⟨fun z => z.2, fun z => ⟨trivial, z⟩⟩
          rw [e1]
          refine ih (k + 1) (by omega) (a ∨ b) _ ?_
          have : (a ∨ ((tp_J M n g k ∧ (b ∨ tp_rz (tp_J M n g) (tp_T M p Sh n g) m (k + 1) (tp_T M p Sh n g k))) ∨ (¬ tp_J M n g k ∧ tp_rz (tp_J M n g) (tp_T M p Sh n g) m (k + 1) (b ∧ tp_T M p Sh n g k)))) = ((a ∨ b) ∨ tp_rz (tp_J M n g) (tp_T M p Sh n g) m (k + 1) (tp_T M p Sh n g k)) := by
            have hj : tp_J M n g k := j
            apply propext
            constructor
            · rintro (z | ⟨_, z | z⟩ | ⟨z, _⟩)
              · exact Or.inl (Or.inl z)
              · exact Or.inl (Or.inr z)
              · exact Or.inr z
              · exact absurd hj z
            · rintro ((z | z) | z)
              · exact Or.inl z
              · exact Or.inr (Or.inl ⟨hj, Or.inl z⟩)
              · exact Or.inr (Or.inl ⟨hj, Or.inr z⟩)
          rw [this] at hh; exact hh
        · refine tp_cF j ?_
          unfold wbX12_hold_70
          rw [e6, nI_1]
          refine one _ ?_
          rw [tp_band]
          refine ih (k + 1) (by omega) a _ ?_
          have : (a ∨ ((tp_J M n g k ∧ (b ∨ tp_rz (tp_J M n g) (tp_T M p Sh n g) m (k + 1) (tp_T M p Sh n g k))) ∨ (¬ tp_J M n g k ∧ tp_rz (tp_J M n g) (tp_T M p Sh n g) m (k + 1) (b ∧ tp_T M p Sh n g k)))) = (a ∨ tp_rz (tp_J M n g) (tp_T M p Sh n g) m (k + 1) (b ∧ tp_T M p Sh n g k)) := by
            have hj : ¬ tp_J M n g k := j
            apply propext
            constructor
            · rintro (z | ⟨z, _⟩ | ⟨_, z⟩)
              · exact Or.inl z
              · exact absurd z hj
              · exact Or.inr z
            · rintro (z | z)
              · exact Or.inl z
              · exact Or.inr (Or.inr ⟨hj, z⟩)
          rw [this] at hh; exact hh
    have := aux K 0 (by omega) False True (by
      have e : (False ∨ tp_rz (tp_J M n g) (tp_T M p Sh n g) K 0 True) = tp_rz (tp_J M n g) (tp_T M p Sh n g) K 0 True := propext ⟨fun z => z.elim (fun z => z.elim) (fun z => z), Or.inr⟩
      rw [e]; exact h)
    rw [tp_bf (fun z => z), tp_bt trivial] at this
    exact ⟨K + 1, this⟩
theorem tp_holdS {c h w d pn P Sh V E A t r eb : Nat} {G : Nat → Nat → Nat → Nat} {C : Nat → Nat → Nat} {OL : Nat → List Nat} {N : tq_Nn} {S M : tq_St} {post : tq_St → Int32 → Prop} {p n g q : Nat} (h0 : RR c h w d pn P Sh V E A t r eb G C OL N S M) (hp1 : 1 ≤ p) (hp : p < 5) (hq : N 10 q = 1) (hpg : q_pg n g q G C N (S 10) (S 11) (S 59) (S 60) (M 118 n) (M 119 n)) (h : post S (tp_b (tp_H M p Sh n g))) : wpX11_testsHold N post S q p := by
  obtain ⟨c1, c2, c3, c4, c5, c6, K, c7, c8, c9, c10⟩ := hpg
  have ln := tp_len c9
  have Kc : (nI K).toNatClampNeg = K := nI_clamp (by omega)
  unfold tp_H at h
  rw [c8, Kc] at h
  have aux : ∀ m k : Nat, k + m = K → ∀ b : Prop, post S (tp_b (tp_rz (tp_J M n g) (tp_T M p Sh n g) m k b)) → wbX11_testsHold_5 N post (m + 1) S q p (tp_b b) (nI k) := by
    intro m
    induction m with
    | zero =>
      intro k hk b hh
      unfold wbX11_testsHold_5
      rw [ln]
      exact ⟨hq, c1, tp_dT (nI_le (by omega) (by omega)) ⟨by rw [tp_nb]; trivial, hh⟩⟩
    | succ m ih =>
      intro k hk b hh
      obtain ⟨g1, g2, g3⟩ := tp_get c9 (show k < K by omega)
      obtain ⟨t0, t1, t2, t3, t4, t5, t6, t7, ⟨f, f1, f2, f3⟩, x, x1, x2, x3⟩ := c10 k (by omega)
      have ev : ∀ b2 : Prop, post S (tp_b (tp_rz (tp_J M n g) (tp_T M p Sh n g) m (k + 1) (b2 ∧ tp_T M p Sh n g k))) → wbX11_testsHold_47 N post (wbX11_testsHold_5 N post (m + 1)) S q p (tp_b b2) (nI k) (G 59 q k) := by
        intro b2 z
        unfold wbX11_testsHold_47
        by_cases y : b2
        · rw [tp_bt y]
          refine tp_dF (by decide) (tp_fieldS (s := M 119 n (24 * g + 6 * k + 2)) h0 hp1 hp f1 (fun z => ?_) g3 (t2.trans f2) t3 ⟨g3, tp_metS g3 x1 x2 t7 t1 (t4.trans (by rw [x3])) t5 ?_⟩)
          · obtain ⟨s, s1, s2⟩ := f3 z
            rw [s2]; exact vp_in_nI s1 (by decide)
          · unfold wbX11_testsHold_70 wbX11_testsHold_71
            rw [nI_1]
            have eT : tp_tt (tp_fv M p Sh f (M 119 n (24 * g + 6 * k + 2))) (M 119 n (24 * g + 6 * k + 4)) (M 119 n (24 * g + 6 * k)) x = tp_T M p Sh n g k := by
              unfold tp_T
              rw [f2, x3, nI_clamp (by omega), nI_clamp (by omega)]
            rw [eT]
            have z2 := ih (k + 1) (by omega) _ z
            by_cases w : tp_T M p Sh n g k
            · rw [tp_bt ⟨y, w⟩] at z2
              rw [tp_bt w]
              exact tp_dF (by decide) z2
            · rw [tp_bf (fun v => w v.2)] at z2
              rw [tp_bf w]
              exact tp_dT rfl z2
        · rw [tp_bf y]
          have z2 := ih (k + 1) (by omega) _ z
          rw [tp_bf (fun v => y v.1)] at z2
          refine tp_dT rfl ?_
          unfold wbX11_testsHold_70 wbX11_testsHold_71
          rw [nI_1]
          exact z2
      unfold tp_rz at hh
      unfold wbX11_testsHold_5
      rw [ln]
      refine ⟨hq, c1, tp_dF (nI_ge (by omega) (by omega)) ⟨g1, by rw [g2]; exact g3, ?_⟩⟩
      rw [g2, t0]
      by_cases j : M 119 n (24 * g + 6 * k + 5) = 1
      · have hj : tp_J M n g k := j
        refine tp_dF (by rw [j]; decide) ?_
        by_cases y : b
        · rw [tp_bt y]
          have : ((tp_J M n g k ∧ (b ∨ tp_rz (tp_J M n g) (tp_T M p Sh n g) m (k + 1) (tp_T M p Sh n g k))) ∨ (¬ tp_J M n g k ∧ tp_rz (tp_J M n g) (tp_T M p Sh n g) m (k + 1) (b ∧ tp_T M p Sh n g k))) := Or.inl ⟨hj, Or.inl y⟩
          rw [tp_bt this] at hh
          exact tp_dF (by decide) hh
        · rw [tp_bf y]
          refine tp_dT rfl ?_
          have e := ev True (by
            have : ((tp_J M n g k ∧ (b ∨ tp_rz (tp_J M n g) (tp_T M p Sh n g) m (k + 1) (tp_T M p Sh n g k))) ∨ (¬ tp_J M n g k ∧ tp_rz (tp_J M n g) (tp_T M p Sh n g) m (k + 1) (b ∧ tp_T M p Sh n g k))) = tp_rz (tp_J M n g) (tp_T M p Sh n g) m (k + 1) (True ∧ tp_T M p Sh n g k) := by
              rw [true_and]
              apply propext
              constructor
              · rintro (⟨_, z | z⟩ | ⟨z, _⟩)
                · exact absurd z y
                · exact z
                · exact absurd hj z
              · intro z; exact Or.inl ⟨hj, Or.inr z⟩
            rw [← this]; exact hh)
          rw [tp_bt trivial] at e
          exact e
      · have hj : ¬ tp_J M n g k := j
        have j0 : M 119 n (24 * g + 6 * k + 5) = 0 := t6.elim (fun z => z) (fun z => absurd z j)
        refine tp_dT j0 (ev b ?_)
        have : ((tp_J M n g k ∧ (b ∨ tp_rz (tp_J M n g) (tp_T M p Sh n g) m (k + 1) (tp_T M p Sh n g k))) ∨ (¬ tp_J M n g k ∧ tp_rz (tp_J M n g) (tp_T M p Sh n g) m (k + 1) (b ∧ tp_T M p Sh n g k))) = tp_rz (tp_J M n g) (tp_T M p Sh n g) m (k + 1) (b ∧ tp_T M p Sh n g k) := by
          apply propext
          constructor
          · rintro (⟨z, _⟩ | ⟨_, z⟩)
            · exact absurd z hj
            · exact z
          · intro z; exact Or.inr ⟨hj, z⟩
        rw [← this]; exact hh
  have := aux K 0 (by omega) True h
  rw [tp_bt trivial] at this
  exact ⟨K + 1, this⟩
theorem sim_forced {c : Nat} {N : tq_Nn} {S M : tq_St} {p0 p1 : Int32} (hR : tp_R c N S M) (hc : c < 512) : wpX11_forced N (fun S1 r => wpX12_forced (fun M1 r1 => r = r1 ∧ tp_R (c + 1) N S1 M1) M p0 p1) S p0 p1 := by
  have hT := hR.tick hc
  obtain ⟨d, pn, P, Sh, V, E, A, t, r, G, C, OL, h0⟩ := id hR
  obtain ⟨hsc, hss, har, hpl, hlg, hsh, hpe, hmo, hpr, hsr, hpa, hkn, hst, hpm, hsi, hab, hsm, hvo, hvm, hbi, hlb, hiv, hod, hol, hoi, hfi, hli, had, hro⟩ := id h0
  obtain ⟨s1, s2, s3, s4, s5, s6, s7, s8, s9, b1, b2, b3, b4, b5, b6, b7, b8, b9, e1, e2⟩ := id hsc
  obtain ⟨x1, x2, x3, x4, x5, x6, x7⟩ := id hss
  obtain ⟨y1, y2, y3, y4, y5, y6, y7, y8, y9, y10, y11, y12, y13, y14, y15⟩ := id har
  obtain ⟨w1, w2, w3, w4, w5, w6⟩ := id hpl
  obtain ⟨l1, l2, l3, l4, l5, l6, l7, l8⟩ := id hli
  by_cases h1 : tp_i 1 4 p0
  · obtain ⟨ua, ua1, ua2, ua3, rfl⟩ := tp_i_fac h1
    have uac : (nI ua).toNatClampNeg = ua := nI_clamp (by omega)
    have uav : vp_in (nI ua) 5 := vp_in_nI ua3 (by decide)
    have ln := tp_len (l6 ua ua3)
    have cap := (l6 ua ua3).1.2.1
    have cap2 := (l6 ua ua3).1.2.2.1
    have tickM : ∀ M1 : tq_St, (∀ k, k ≠ 172 → M1 k = M k) → tp_R (c + 1) N S M1 := fun M1 z1 => (h0.mf (fun j _ _ _ _ _ => by rw [z1 64 (by decide)]) (fun k _ _ _ _ _ _ k7 _ _ => z1 k k7) (fun n _ => by rw [z1 117 (by decide)]) (fun n _ => by rw [z1 118 (by decide)]) (fun n _ => by rw [z1 119 (by decide)])).R hc rfl rfl rfl
    generalize hF : (tp_FL (M 117 0) (M 118) (OL ua)).length = F at *
    have mt : (nI F - 1).toInt = (F : Int) - 1 := tp_mless rfl (by omega)
    simp (disch := decide) only [wpX11_forced, wpX11_isInForce, wbX11_isInForce_31, wbX11_isInForce_32, wpX12_forced, wbX12_forced_36, tp_isFactory, tp_isPlace, tp_isSort, tp_isSheet, tp_isHolder, tp_isPerson, tp_isPaper, tp_isShip, tp_isVoyage, tp_within, tp_in, tp_mPlace, tp_mFactory, tp_mSort, tp_mBuyer, tp_b0, tp_b1, Classical.not_not, tp_nb0, tp_nb1, tp_nb, true_and, Int32.reduceToInt, uac, ln]
    by_cases h2 : tp_i 0 ((F : Int) - 1) p1
    · obtain ⟨i, i3, rfl⟩ := tp_i_lt (m := F) h2 (by omega)
      have ic : (nI i).toNatClampNeg = i := nI_clamp (by omega)
      have k1 : ¬ nI i < 0 := nI_pos (by omega)
      have k2 : ¬ nI F ≤ nI i := nI_ge i3 (by omega)
      obtain ⟨⟨x, g⟩, hxg⟩ : ∃ y, (tp_FL (M 117 0) (M 118) (OL ua))[i]? = some y := ⟨_, List.getElem?_eq_getElem (by rw [hF]; exact i3)⟩
      obtain ⟨u1, u2, u3, u4, u5, u6, u7, u8⟩ := h0.par ua3 hxg
      have e10 : 10 * S 10 (G 38 ua i) 0 + S 10 (G 38 ua i) 1 = nI (10 * x + g) := by
        rw [u8.2.1, u8.2.2.1, show (10 : Int32) * nI x = nI (10 * x) from pk_mul 10 x, nI_add]
      rw [u6, e10]
      repeat' (with_reducible first | refine tp_cT (by first | assumption | decide) ?_ | refine tp_cF (by first | assumption | decide) ?_ | refine tp_dT (by first | assumption | decide) ?_ | refine tp_dF (by first | assumption | decide) ?_ | refine And.intro (by first | assumption | decide) ?_ | refine tp_ae ?_)
      refine tp_gatherM (h0.GM ua3) (fun M1 z1 z2 z3 => ?_)
      rw [hF, mt] at *
      refine tp_cT h2 ⟨vp_in_nI (by omega) (by decide), ?_⟩
      rw [ic, z2 i x g hxg]
      exact ⟨rfl, tickM M1 z1⟩
    · by_cases k1 : p1 < 0
      · repeat' (with_reducible first | refine tp_cT (by first | assumption | decide) ?_ | refine tp_cF (by first | assumption | decide) ?_ | refine tp_dT (by first | assumption | decide) ?_ | refine tp_dF (by first | assumption | decide) ?_ | refine And.intro (by first | assumption | decide) ?_ | refine tp_ae ?_)
        refine tp_gatherM (h0.GM ua3) (fun M1 z1 z2 z3 => ?_)
        rw [hF, mt]
        first | exact tp_cF h2 ⟨rfl, tickM M1 z1⟩ | exact tp_cF h2 (tickM M1 z1)
      · have k2 : nI F ≤ p1 := by
          rw [tp_le, tp_ti (by omega)]
          rw [tp_lt] at k1
          simp at k1
          unfold tp_i at h2
          omega
        repeat' (with_reducible first | refine tp_cT (by first | assumption | decide) ?_ | refine tp_cF (by first | assumption | decide) ?_ | refine tp_dT (by first | assumption | decide) ?_ | refine tp_dF (by first | assumption | decide) ?_ | refine And.intro (by first | assumption | decide) ?_ | refine tp_ae ?_)
        refine tp_gatherM (h0.GM ua3) (fun M1 z1 z2 z3 => ?_)
        rw [hF, mt]
        first | exact tp_cF h2 ⟨rfl, tickM M1 z1⟩ | exact tp_cF h2 (tickM M1 z1)
  · simp (disch := decide) only [wpX11_forced, wpX11_isInForce, wbX11_isInForce_31, wbX11_isInForce_32, wpX12_forced, wbX12_forced_36, tp_isFactory, tp_isPlace, tp_isSort, tp_isSheet, tp_isHolder, tp_isPerson, tp_isPaper, tp_isShip, tp_isVoyage, tp_within, tp_in, tp_mPlace, tp_mFactory, tp_mSort, tp_mBuyer, tp_b0, tp_b1, Classical.not_not, tp_nb0, tp_nb1, tp_nb, true_and, Int32.reduceToInt]
    repeat' (with_reducible first | refine tp_cT (by first | assumption | decide) ?_ | refine tp_cF (by first | assumption | decide) ?_ | refine tp_dT (by first | assumption | decide) ?_ | refine tp_dF (by first | assumption | decide) ?_ | refine And.intro (by first | assumption | decide) ?_ | refine tp_ae ?_)
    first | exact ⟨rfl, hT⟩ | exact hT
theorem tp_H_cong {M M1 : tq_St} {p Sh n g : Nat} (e : ∀ k, k ≠ 172 → M1 k = M k) : tp_H M1 p Sh n g = tp_H M p Sh n g := by
  have eT : tp_T M1 p Sh n g = tp_T M p Sh n g := by
    funext k
    unfold tp_T tp_fv
    rw [e 119 (by decide), e 104 (by decide), e 105 (by decide), e 102 (by decide), e 101 (by decide), e 124 (by decide), e 64 (by decide)]
  have eJ : tp_J M1 n g = tp_J M n g := by
    funext k
    unfold tp_J
    rw [e 119 (by decide)]
  unfold tp_H
  rw [eT, eJ, e 118 (by decide)]
theorem tp_holdM2 {M M1 : tq_St} {N : tq_Nn} {S : tq_St} {G : Nat → Nat → Nat → Nat} {C : Nat → Nat → Nat} {post : tq_St → Int32 → Prop} {p n g q Sh : Nat} (e : ∀ k, k ≠ 172 → M1 k = M k) (hp : p < 5) (hn : n < 150) (hg : g < 6) (hS : M 64 0 21 = nI Sh) (hS8 : Sh ≤ 8) (hpg : q_pg n g q G C N (S 10) (S 11) (S 59) (S 60) (M 118 n) (M 119 n)) (h : post M1 (tp_b (tp_H M p Sh n g))) : wpX12_hold post M1 (nI p) (nI n) (nI g) := by
  obtain ⟨c1, c2, c3, c4, c5, c6, K, c7, c8, c9, c10⟩ := hpg
  refine tp_holdM (Sh := Sh) (K := K) hp hn hg (by rw [e 64 (by decide)]; exact hS) hS8 c7 (by rw [e 118 (by decide)]; exact c8) (fun k hk => ?_) (by rw [tp_H_cong e]; exact h)
  obtain ⟨t0, t1, t2, t3, t4, t5, t6, t7, t8, t9⟩ := c10 k hk
  rw [e 119 (by decide)]
  exact ⟨t7, t8, t9⟩
theorem sim_holds {c : Nat} {N : tq_Nn} {S M : tq_St} {p0 p1 : Int32} (hR : tp_R c N S M) (hc : c < 512) : wpX11_holds N (fun S1 r => wpX12_holds (fun M1 r1 => r = r1 ∧ tp_R (c + 1) N S1 M1) M p0 p1) S p0 p1 := by
  have hT := hR.tick hc
  obtain ⟨d, pn, P, Sh, V, E, A, t, r, G, C, OL, h0⟩ := id hR
  obtain ⟨hsc, hss, har, hpl, hlg, hsh, hpe, hmo, hpr, hsr, hpa, hkn, hst, hpm, hsi, hab, hsm, hvo, hvm, hbi, hlb, hiv, hod, hol, hoi, hfi, hli, had, hro⟩ := id h0
  obtain ⟨s1, s2, s3, s4, s5, s6, s7, s8, s9, b1, b2, b3, b4, b5, b6, b7, b8, b9, e1, e2⟩ := id hsc
  obtain ⟨x1, x2, x3, x4, x5, x6, x7⟩ := id hss
  obtain ⟨y1, y2, y3, y4, y5, y6, y7, y8, y9, y10, y11, y12, y13, y14, y15⟩ := id har
  obtain ⟨w1, w2, w3, w4, w5, w6⟩ := id hpl
  obtain ⟨l1, l2, l3, l4, l5, l6, l7, l8⟩ := id hli
  by_cases h1 : tp_i 1 4 p0
  · obtain ⟨ua, ua1, ua2, ua3, rfl⟩ := tp_i_fac h1
    have uac : (nI ua).toNatClampNeg = ua := nI_clamp (by omega)
    have uav : vp_in (nI ua) 5 := vp_in_nI ua3 (by decide)
    have ln := tp_len (l6 ua ua3)
    have cap := (l6 ua ua3).1.2.1
    have cap2 := (l6 ua ua3).1.2.2.1
    have tickM : ∀ M1 : tq_St, (∀ k, k ≠ 172 → M1 k = M k) → tp_R (c + 1) N S M1 := fun M1 z1 => (h0.mf (fun j _ _ _ _ _ => by rw [z1 64 (by decide)]) (fun k _ _ _ _ _ _ k7 _ _ => z1 k k7) (fun n _ => by rw [z1 117 (by decide)]) (fun n _ => by rw [z1 118 (by decide)]) (fun n _ => by rw [z1 119 (by decide)])).R hc rfl rfl rfl
    generalize hF : (tp_FL (M 117 0) (M 118) (OL ua)).length = F at *
    have mt : (nI F - 1).toInt = (F : Int) - 1 := tp_mless rfl (by omega)
    simp (disch := decide) only [wpX11_holds, wpX11_isInForce, wbX11_isInForce_31, wbX11_isInForce_32, wbX11_holds_45, wpX12_holds, wpX12_forced, wbX12_forced_36, wbX12_holds_36, tp_isFactory, tp_isPlace, tp_isSort, tp_isSheet, tp_isHolder, tp_isPerson, tp_isPaper, tp_isShip, tp_isVoyage, tp_within, tp_in, tp_mPlace, tp_mFactory, tp_mSort, tp_mBuyer, tp_b0, tp_b1, Classical.not_not, tp_nb0, tp_nb1, tp_nb, true_and, Int32.reduceToInt, uac, ln]
    by_cases h2 : tp_i 0 ((F : Int) - 1) p1
    · obtain ⟨i, i3, rfl⟩ := tp_i_lt (m := F) h2 (by omega)
      have ic : (nI i).toNatClampNeg = i := nI_clamp (by omega)
      have k1 : ¬ nI i < 0 := nI_pos (by omega)
      have k2 : ¬ nI F ≤ nI i := nI_ge i3 (by omega)
      obtain ⟨⟨x, g⟩, hxg⟩ : ∃ y, (tp_FL (M 117 0) (M 118) (OL ua))[i]? = some y := ⟨_, List.getElem?_eq_getElem (by rw [hF]; exact i3)⟩
      obtain ⟨u1, u2, u3, u4, u5, u6, u7, u8⟩ := h0.par ua3 hxg
      have e10 : nI (10 * x + g) / 10 = nI x := by
        have := pk_div (a := 10 * x + g) (d := 10) (by omega) (by decide) (by decide)
        rw [show (10 * x + g) / 10 = x by omega] at this; exact this
      have e11 : nI (10 * x + g) - nI (10 * x + g) / 10 * 10 = nI g := by
        have := pk_rem (a := 10 * x + g) (d := 10) (by omega) (by decide) (by decide)
        rw [show (10 * x + g) % 10 = g by omega] at this; exact this
      rw [u6]
      repeat' (with_reducible first | refine tp_cT (by first | assumption | decide) ?_ | refine tp_cF (by first | assumption | decide) ?_ | refine tp_dT (by first | assumption | decide) ?_ | refine tp_dF (by first | assumption | decide) ?_ | refine And.intro (by first | assumption | decide) ?_ | refine tp_ae ?_)
      refine tp_holdS h0 ua1 ua3 u7 u8 ?_
      by_cases hh : tp_H M ua Sh x g
      · rw [tp_bt hh]
        repeat' (with_reducible first | refine tp_cT (by first | assumption | decide) ?_ | refine tp_cF (by first | assumption | decide) ?_ | refine tp_dT (by first | assumption | decide) ?_ | refine tp_dF (by first | assumption | decide) ?_ | refine And.intro (by first | assumption | decide) ?_ | refine tp_ae ?_)
        refine tp_gatherM (h0.GM ua3) (fun M1 z1 z2 z3 => ?_)
        rw [hF, mt] at *
        refine tp_cT h2 ⟨vp_in_nI (by omega) (by decide), ?_⟩
        rw [ic, z2 i x g hxg, e11, e10]
        refine tp_dT (nI_pos' (by omega)) (tp_holdM2 z1 ua3 (by omega) u3 s4 (by omega) u8 ?_)
        rw [tp_bt hh]
        repeat' (with_reducible first | refine tp_cT (by first | assumption | decide) ?_ | refine tp_cF (by first | assumption | decide) ?_ | refine tp_dT (by first | assumption | decide) ?_ | refine tp_dF (by first | assumption | decide) ?_ | refine And.intro (by first | assumption | decide) ?_ | refine tp_ae ?_)
        first | exact ⟨rfl, tickM M1 z1⟩ | exact tickM M1 z1
      · rw [tp_bf hh]
        repeat' (with_reducible first | refine tp_cT (by first | assumption | decide) ?_ | refine tp_cF (by first | assumption | decide) ?_ | refine tp_dT (by first | assumption | decide) ?_ | refine tp_dF (by first | assumption | decide) ?_ | refine And.intro (by first | assumption | decide) ?_ | refine tp_ae ?_)
        refine tp_gatherM (h0.GM ua3) (fun M1 z1 z2 z3 => ?_)
        rw [hF, mt] at *
        refine tp_cT h2 ⟨vp_in_nI (by omega) (by decide), ?_⟩
        rw [ic, z2 i x g hxg, e11, e10]
        refine tp_dT (nI_pos' (by omega)) (tp_holdM2 z1 ua3 (by omega) u3 s4 (by omega) u8 ?_)
        rw [tp_bf hh]
        repeat' (with_reducible first | refine tp_cT (by first | assumption | decide) ?_ | refine tp_cF (by first | assumption | decide) ?_ | refine tp_dT (by first | assumption | decide) ?_ | refine tp_dF (by first | assumption | decide) ?_ | refine And.intro (by first | assumption | decide) ?_ | refine tp_ae ?_)
        first | exact ⟨rfl, tickM M1 z1⟩ | exact tickM M1 z1
    · by_cases k1 : p1 < 0
      · repeat' (with_reducible first | refine tp_cT (by first | assumption | decide) ?_ | refine tp_cF (by first | assumption | decide) ?_ | refine tp_dT (by first | assumption | decide) ?_ | refine tp_dF (by first | assumption | decide) ?_ | refine And.intro (by first | assumption | decide) ?_ | refine tp_ae ?_)
        refine tp_gatherM (h0.GM ua3) (fun M1 z1 z2 z3 => ?_)
        rw [hF, mt]
        first | exact tp_cF h2 (tp_dF (by decide) ⟨rfl, tickM M1 z1⟩) | exact tp_cF h2 (tp_dF (by decide) (tickM M1 z1))
      · have k2 : nI F ≤ p1 := by
          rw [tp_le, tp_ti (by omega)]
          rw [tp_lt] at k1
          simp at k1
          unfold tp_i at h2
          omega
        repeat' (with_reducible first | refine tp_cT (by first | assumption | decide) ?_ | refine tp_cF (by first | assumption | decide) ?_ | refine tp_dT (by first | assumption | decide) ?_ | refine tp_dF (by first | assumption | decide) ?_ | refine And.intro (by first | assumption | decide) ?_ | refine tp_ae ?_)
        refine tp_gatherM (h0.GM ua3) (fun M1 z1 z2 z3 => ?_)
        rw [hF, mt]
        first | exact tp_cF h2 (tp_dF (by decide) ⟨rfl, tickM M1 z1⟩) | exact tp_cF h2 (tp_dF (by decide) (tickM M1 z1))
  · simp (disch := decide) only [wpX11_holds, wpX11_isInForce, wbX11_isInForce_31, wbX11_isInForce_32, wbX11_holds_45, wpX12_holds, wpX12_forced, wbX12_forced_36, wbX12_holds_36, tp_isFactory, tp_isPlace, tp_isSort, tp_isSheet, tp_isHolder, tp_isPerson, tp_isPaper, tp_isShip, tp_isVoyage, tp_within, tp_in, tp_mPlace, tp_mFactory, tp_mSort, tp_mBuyer, tp_b0, tp_b1, Classical.not_not, tp_nb0, tp_nb1, tp_nb, true_and, Int32.reduceToInt]
    repeat' (with_reducible first | refine tp_cT (by first | assumption | decide) ?_ | refine tp_cF (by first | assumption | decide) ?_ | refine tp_dT (by first | assumption | decide) ?_ | refine tp_dF (by first | assumption | decide) ?_ | refine And.intro (by first | assumption | decide) ?_ | refine tp_ae ?_)
    first | exact ⟨rfl, hT⟩ | exact hT
