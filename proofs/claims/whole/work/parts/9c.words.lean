/-! pure: reading a tape, the reference's first words -/
def mk (M : tq_St) (x f v : Int32) : tq_St := tq_up (tq_up (tq_up M 64 0 67 x) 64 0 68 f) 64 0 69 v
theorem mk_g67 {M : tq_St} {x f v : Int32} : mk M x f v 64 0 67 = x := by unfold mk; rw [tq_upj (by decide), tq_upj (by decide), tq_upe]
theorem mk_g68 {M : tq_St} {x f v : Int32} : mk M x f v 64 0 68 = f := by unfold mk; rw [tq_upj (by decide), tq_upe]
theorem mk_g69 {M : tq_St} {x f v : Int32} : mk M x f v 64 0 69 = v := by unfold mk; rw [tq_upe]
theorem mk_gj {M : tq_St} {x f v : Int32} {j : Nat} (h1 : j ≠ 67) (h2 : j ≠ 68) (h3 : j ≠ 69) : mk M x f v 64 0 j = M 64 0 j := by unfold mk; rw [tq_upj h3, tq_upj h2, tq_upj h1]
theorem mk_k {M : tq_St} {x f v : Int32} {k : Nat} (h : k ≠ 64) : mk M x f v k = M k := by unfold mk; rw [tq_upk h, tq_upk h, tq_upk h]
theorem mk_67 {M : tq_St} {x f v y : Int32} : tq_up (mk M x f v) 64 0 67 y = mk M y f v := by
  unfold mk
  rw [tq_up_cj (j := 69) (j2 := 67) (by decide), tq_up_cj (j := 68) (j2 := 67) (by decide), tq_up_ow]
theorem mk_68 {M : tq_St} {x f v y : Int32} : tq_up (mk M x f v) 64 0 68 y = mk M x y v := by
  unfold mk
  rw [tq_up_cj (j := 69) (j2 := 68) (by decide), tq_up_ow]
theorem mk_69 {M : tq_St} {x f v y : Int32} : tq_up (mk M x f v) 64 0 69 y = mk M x f y := by
  unfold mk
  rw [tq_up_ow]
theorem mk_up {M : tq_St} {x f v y : Int32} {k i j : Nat} (h : k ≠ 64) : tq_up (mk M x f v) k i j y = mk (tq_up M k i j y) x f v := by
  unfold mk
  rw [tq_up_cj (k2 := k) (fun z => h z.1.symm), tq_up_cj (k2 := k) (fun z => h z.1.symm), tq_up_cj (k2 := k) (fun z => h z.1.symm)]
theorem mk_cp {M : tq_St} {x f v : Int32} {k i : Nat} {g : Nat → Int32} (h : k ≠ 64) : tq_cp (mk M x f v) k i g = mk (tq_cp M k i g) x f v := by
  funext a b c
  unfold mk
  simp only [tq_cp, tq_up]
  by_cases q : a = k ∧ b = i
  · have : ¬ a = 64 := fun z => h (q.1.symm.trans z)
    simp [q.1, q.2, h]
  · simp [q]; rfl
section
variable {M : tq_St} {tp : Nat → Int32} {t x : Nat} {f v : Int32} {post : tq_St → Int32 → Prop}
theorem hereM (h61 : M 64 0 61 = nI t) (h160 : M 160 0 = tp) (ht : t ≤ 120) (hx : x ≤ t) (h : post (mk M (nI x) f v) (ph tp t x)) : wpX12_here post (mk M (nI x) f v) := by
  unfold wpX12_here wbX12_here_24
  rw [mk_g67, mk_gj (by decide) (by decide) (by decide), h61, mk_k (show 160 ≠ 64 by decide), nI_clamp (show x < 2 ^ 31 by omega), h160]
  unfold ph at h
  by_cases q : t ≤ x
  · rw [if_pos q] at h
    exact tp_dT (nI_le q (by omega)) h
  · rw [if_neg q] at h
    exact tp_dF (nI_ge (by omega) (by omega)) ⟨vp_in_nI (by omega) (by decide), h⟩
theorem wrongM {y : Int32} (h : post (mk M y y v) 0) : wpX12_wrong post (mk M y (-1) v) := by
  unfold wpX12_wrong wbX12_wrong_15
  rw [mk_g68, mk_g67, mk_68]
  exact tp_dF (by decide) (tp_ae h)
theorem wrongM2 {y : Int32} (h : post (mk M y y v) 0) : wpX12_wrong (fun M1 r => narrow .boolean (.int r) = .int r ∧ post M1 r) (mk M y (-1) v) := wrongM ⟨tp_nb0, h⟩
theorem wdM2 {w : Nat} (h61 : M 64 0 61 = nI t) (h160 : M 160 0 = tp) (ht : t ≤ 120) (hw : w < 28) : ∀ m k x : Nat, k + m = (ws w).length → x ≤ t → (∀ y, pw (ph tp t) ((ws w).drop k) x = .ok y → y ≤ t → post (mk M (nI y) (-1) v) 1) → (∀ f, pw (ph tp t) ((ws w).drop k) x = .error f → f ≤ t → post (mk M (nI f) (nI f) v) 0) → wbX12_word_2 post (m + 1) (mk M (nI x) (-1) v) w (nI k)
  | 0, k, x, hk, hx, a, b => by
    obtain ⟨a1, a2, _⟩ := ws_ok ⟨w, hw⟩
    unfold wbX12_word_2 wpJ0_length_8abf5
    have e : tq_len.getD w 0 = (ws w).length := a1
    have : (ws w).length ≤ 8 := a2
    rw [e]
    rw [List.drop_of_length_le (by omega)] at a
    exact ⟨hw, tp_dT (nI_le (by omega) (by omega)) (a x rfl hx)⟩
  | m + 1, k, x, hk, hx, a, b => by
    obtain ⟨a1, a2, _⟩ := ws_ok ⟨w, hw⟩
    unfold wbX12_word_2 wpJ0_length_8abf5
    have e : tq_len.getD w 0 = (ws w).length := a1
    have : (ws w).length ≤ 8 := a2
    obtain ⟨d1, d2⟩ := ws_drop (k := k) hw (by omega)
    rw [e]
    rw [d1] at a b
    unfold pw at a b
    refine ⟨hw, tp_dF (nI_ge (by omega) (by omega)) (hereM h61 h160 ht hx ?_)⟩
    unfold wpJ0_charAt_5068e
    rw [e]
    refine ⟨hw, vp_in_nI (by omega) (by omega), ?_⟩
    simp only [mk_g67, mk_67, nI_1]
    by_cases z : ph tp t x = tq_ch w (nI k)
    · rw [if_pos z] at a b
      have := ph_lt z d2
      exact tp_dT z (tp_ae (wdM2 h61 h160 ht hw m (k + 1) (x + 1) (by omega) (by omega) a b))
    · rw [if_neg z] at b
      exact tp_dF z (wrongM2 (b x rfl hx))
theorem wdM {w : Nat} (h61 : M 64 0 61 = nI t) (h160 : M 160 0 = tp) (ht : t ≤ 120) (hw : w < 28) (hx : x ≤ t) (a : ∀ y, pw (ph tp t) (ws w) x = .ok y → y ≤ t → post (mk M (nI y) (-1) v) 1) (b : ∀ f, pw (ph tp t) (ws w) x = .error f → f ≤ t → post (mk M (nI f) (nI f) v) 0) : wpX12_word post (mk M (nI x) (-1) v) w := ⟨(ws w).length + 1, wdM2 h61 h160 ht hw _ 0 x (by omega) hx a b⟩
theorem pso_r {h : Nat → Int32} {x : Nat} : (∃ s : Nat, s < 4 ∧ h x = nI (48 + s) ∧ pso h x = .ok (x + 1, s)) ∨ ((h x < 48 ∨ ¬ h x ≤ 51) ∧ pso h x = .error x) := by
  unfold pso
  by_cases z0 : h x = 48
  · exact Or.inl ⟨0, by decide, z0, if_pos z0⟩
  by_cases z1 : h x = 49
  · exact Or.inl ⟨1, by decide, z1, by rw [if_neg z0, if_pos z1]⟩
  by_cases z2 : h x = 50
  · exact Or.inl ⟨2, by decide, z2, by rw [if_neg z0, if_neg z1, if_pos z2]⟩
  by_cases z3 : h x = 51
  · exact Or.inl ⟨3, by decide, z3, by rw [if_neg z0, if_neg z1, if_neg z2, if_pos z3]⟩
  refine Or.inr ⟨?_, by rw [if_neg z0, if_neg z1, if_neg z2, if_neg z3]⟩
  rw [tp_eq] at z0 z1 z2 z3
  rw [tp_lt, tp_le]
  have a0 : (48 : Int32).toInt = 48 := by decide
  have a1 : (49 : Int32).toInt = 49 := by decide
  have a2 : (50 : Int32).toInt = 50 := by decide
  have a3 : (51 : Int32).toInt = 51 := by decide
  omega
theorem soM (h61 : M 64 0 61 = nI t) (h160 : M 160 0 = tp) (ht : t ≤ 120) (hx : x ≤ t) (a : ∀ y s, pso (ph tp t) x = .ok (y, s) → y ≤ t → s < 4 → post (mk M (nI y) (-1) (nI s)) 1) (b : pso (ph tp t) x = .error x → post (mk M (nI x) (nI x) v) 0) : wpX12_sortHere post (mk M (nI x) (-1) v) := by
  unfold wpX12_sortHere wbX12_sortHere_17
  refine hereM h61 h160 ht hx ?_
  rcases pso_r (h := ph tp t) (x := x) with ⟨s, s1, s2, s3⟩ | ⟨s1, s2⟩
  · have q := ph_lt s2 (by intro z; rw [tp_eq, tp_ti (by omega)] at z; have : (-1 : Int32).toInt = -1 := by decide
                           omega)
    rw [s2, show (48 : Int32) = nI 48 from rfl, show (51 : Int32) = nI 51 from rfl, pk_sub (by omega)]
    refine tp_dF (nI_nlt (by omega) (by omega)) (tp_dT (nI_le (by omega) (by omega)) (tp_ae (tp_ae ?_)))
    rw [mk_69, mk_g67, mk_67, nI_1, show 48 + s - 48 = s by omega]
    exact a (x + 1) s s3 (by omega) s1
  · rcases s1 with q | q
    · exact tp_dT q (wrongM2 (b s2))
    · by_cases q2 : ph tp t x < 48
      · exact tp_dT q2 (wrongM2 (b s2))
      · exact tp_dF q2 (tp_dF q (wrongM2 (b s2)))
theorem dg_iff {y : Int32} : (48 ≤ y ∧ y ≤ 57) ↔ (¬ y < 48 ∧ ¬ 57 < y) := by
  rw [tp_le, tp_le, tp_lt, tp_lt]; omega
theorem nuM2 (h61 : M 64 0 61 = nI t) (h160 : M 160 0 = tp) (ht : t ≤ 120) : ∀ (m i x : Nat) (v : Int32), i + m = 4 → x ≤ t → post (mk M (nI (pdi (ph tp t) m x v).1) (-1) (pdi (ph tp t) m x v).2) 1 → wbX12_numberHere_30 post (m + 1) (mk M (nI x) (-1) v) (nI i)
  | 0, i, x, v, hi, hx, h => by
    unfold wbX12_numberHere_30 wbX12_numberHere_88
    have : i = 4 := by omega
    subst this
    exact tp_dT (by decide) h
  | m + 1, i, x, v, hi, hx, h => by
    unfold wbX12_numberHere_30 wbX12_numberHere_88
    unfold pdi at h
    refine tp_dF (show ¬ nI 4 ≤ nI i from nI_ge (by omega) (by decide)) (hereM h61 h160 ht hx ?_)
    by_cases z : 48 ≤ ph tp t x ∧ ph tp t x ≤ 57
    · rw [if_pos z] at h
      have q : x < t := ph_lt (c := ph tp t x) rfl (fun y => by rw [y] at z; exact absurd z.1 (by decide))
      obtain ⟨z1, z2⟩ := dg_iff.mp z
      refine tp_dF z1 (hereM h61 h160 ht hx (tp_dF z2 (hereM h61 h160 ht hx (tp_ae (tp_ae ?_)))))
      rw [mk_69, mk_g69, mk_g67, mk_67, nI_1, nI_1]
      exact nuM2 h61 h160 ht m (i + 1) (x + 1) _ (by omega) (by omega) h
    · rw [if_neg z] at h
      by_cases z1 : ph tp t x < 48
      · exact tp_dT z1 h
      · refine tp_dF z1 (hereM h61 h160 ht hx ?_)
        by_cases z2 : 57 < ph tp t x
        · exact tp_dT z2 h
        · exact absurd (dg_iff.mpr ⟨z1, z2⟩) z
theorem nuM (h61 : M 64 0 61 = nI t) (h160 : M 160 0 = tp) (ht : t ≤ 120) (hx : x ≤ t) (a : ∀ y n, pnu (ph tp t) x = .ok (y, n) → y ≤ t → post (mk M (nI y) (-1) n) 1) (b : pnu (ph tp t) x = .error x → post (mk M (nI x) (nI x) v) 0) : wpX12_numberHere post (mk M (nI x) (-1) v) := by
  unfold wpX12_numberHere wbX12_numberHere_18
  unfold pnu at a b
  refine hereM h61 h160 ht hx ?_
  by_cases q : 48 ≤ ph tp t x ∧ ph tp t x ≤ 57
  · rw [if_pos q] at a
    obtain ⟨z1, z2⟩ := dg_iff.mp q
    refine tp_dF z1 (hereM h61 h160 ht hx (tp_dT q.2 (tp_ae ⟨5, ?_⟩)))
    rw [mk_69]
    exact nuM2 h61 h160 ht 4 0 x 0 (by omega) hx (a _ _ rfl (pdi_le 4 x 0 hx))
  · rw [if_neg q] at b
    by_cases z1 : ph tp t x < 48
    · exact tp_dT z1 (wrongM2 (b rfl))
    · refine tp_dF z1 (hereM h61 h160 ht hx (tp_dF (fun z2 => q (dg_iff.mpr ⟨z1, fun z => ?_⟩)) (wrongM2 (b rfl))))
      rw [tp_lt] at z
      rw [tp_le] at z2
      omega
end
/-! what a text says -/
def pac (h : Nat → Int32) (x : Nat) : Nat × Except Nat Nat :=
  if h x = 98 then (0, pw h (ws 2) (x + 1)) else if h x = 97 then (1, pw h (ws 3) (x + 1)) else if h x = 108 then (2, pw h (ws 4) (x + 1)) else if h x = 115 then (3, pw h (ws 5) (x + 1)) else if h x = 100 then (4, pw h (ws 6) (x + 1)) else (5, pw h (ws 7) x)
def phd (h : Nat → Int32) (x : Nat) : Except Nat (Nat × Nat × Int32 × Int32) :=
  match (pac h x).2 with
  | .error f => .error f
  | .ok y => if (pac h x).1 < 3 then
      (match pso h y with
      | .error f => .error f
      | .ok (z, s) => match pw h (ws 0) z with
        | .error f => .error f
        | .ok u => match pnu h u with
          | .error f => .error f
          | .ok (u2, n) => .ok (u2, (pac h x).1, nI s, n))
    else match pnu h y with
      | .error f => .error f
      | .ok (u2, n) => .ok (u2, (pac h x).1, -1, n)
def pne (h : Nat → Int32) (x : Nat) : Int32 × Except Nat Nat := if h x = 110 then (1, pw h (ws 10) (x + 1)) else (0, .ok x)
def pfi (h : Nat → Int32) (x : Nat) : Nat × Except Nat Nat :=
  if h x = 112 then (0, pw h (ws 11) (x + 1)) else if h x = 98 then (2, pw h (ws 12) (x + 1)) else if h x = 115 then (if h (x + 1) = 116 then (1, pw h (ws 13) (x + 2)) else (3, pw h (ws 14) (x + 1))) else (4, pw h (ws 15) x)
def psf (h : Nat → Int32) (f z : Nat) : Except Nat (Nat × Int32) :=
  if f < 2 then (match pso h z with
    | .error f => .error f
    | .ok (u, s) => .ok (u, nI s)) else .ok (z, -1)
def psn (h : Nat → Int32) (u : Nat) : Except Nat (Nat × Int32 × Int32) :=
  if h u = 60 ∨ h u = 61 ∨ h u = 62 then (match pnu h (u + 1) with
    | .error f => .error f
    | .ok (q, n) => .ok (q, h u, n)) else .error u
/-- a test: not, field, sort, sign, number, or -/
abbrev pT : Type := Int32 × Nat × Int32 × Int32 × Int32 × Int32
def pte (h : Nat → Int32) (o : Int32) (x : Nat) : Except Nat (Nat × pT) :=
  match (pne h x).2 with
  | .error f => .error f
  | .ok y => match (pfi h y).2 with
    | .error f => .error f
    | .ok z => match psf h (pfi h y).1 z with
      | .error f => .error f
      | .ok (u, s) => match psn h u with
        | .error f => .error f
        | .ok (q, c, n) => .ok (q, ((pne h x).1, (pfi h y).1, s, c, n, o))
def pts (h : Nat → Int32) : Nat → Int32 → Nat → Except Nat (Nat × List pT)
  | 0, _, x => .ok (x, [])
  | m + 1, o, x => match pte h o x with
    | .error f => .error f
    | .ok (y, r) => if m = 0 ∨ ¬ h y = 32 then .ok (y, [r]) else
      if h (y + 1) = 111 then (match pw h (ws 8) (y + 2) with
        | .error f => .error f
        | .ok z => match pts h m 1 z with
          | .error f => .error f
          | .ok (u, l) => .ok (u, r :: l))
      else match pw h (ws 9) (y + 1) with
        | .error f => .error f
        | .ok z => match pts h m 0 z with
          | .error f => .error f
          | .ok (u, l) => .ok (u, r :: l)
/-- a paragraph: act, sort, number, tests -/
abbrev pP : Type := Nat × Int32 × Int32 × List pT
def ppa (h : Nat → Int32) (x : Nat) : Except Nat (Nat × pP) :=
  match phd h x with
  | .error f => .error f
  | .ok (y, a, s, n) => if h y = 32 then (match pw h (ws 1) (y + 1) with
      | .error f => .error f
      | .ok z => match pts h 4 0 z with
        | .error f => .error f
        | .ok (u, l) => .ok (u, (a, s, n, l))) else .ok (y, (a, s, n, []))
def por (h : Nat → Int32) (t : Nat) : Nat → Nat → Except Nat (List pP)
  | 0, x => .error x
  | m + 1, x => match ppa h x with
    | .error f => .error f
    | .ok (y, p) => if y = t then .ok [p] else if m ≠ 0 ∧ h y = 59 then (match por h t m (y + 1) with
        | .error f => .error f
        | .ok l => .ok (p :: l)) else .error y
