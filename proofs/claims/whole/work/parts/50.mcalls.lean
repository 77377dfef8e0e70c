theorem tq_ev7 {cy : Nat → ClassId} {ad : Nat → Nat → Nat} (N : tq_Nn) (v : Nat) (f : Nat → Int32) (h : N 7 v = 1) : ∃ (ci : Nat) (vs : List Value) (r : vw_C), tq_mk cy ad N 7 v f = some (.inr (ci, vs)) ∧ vwCl[ci]? = some r ∧ (r.1, "java/lang/Object") ∈ tq_nC := by
  by_cases h0 : f 13 = 0
  · exact ⟨_, _, _, tq_mk_7 h h0, rfl, by decide +kernel⟩
  · exact ⟨_, _, _, tq_mk_7b h h0, rfl, by decide +kernel⟩
theorem tq_ev8 {cy : Nat → ClassId} {ad : Nat → Nat → Nat} (N : tq_Nn) (v : Nat) (f : Nat → Int32) (h : N 8 v = 1) : ∃ (ci : Nat) (vs : List Value) (r : vw_C), tq_mk cy ad N 8 v f = some (.inr (ci, vs)) ∧ vwCl[ci]? = some r ∧ (r.1, "java/lang/Object") ∈ tq_nC := ⟨_, _, _, tq_mk_8 h, rfl, by decide +kernel⟩
theorem tq_ev9 {cy : Nat → ClassId} {ad : Nat → Nat → Nat} (N : tq_Nn) (v : Nat) (f : Nat → Int32) (h : N 9 v = 1) : ∃ (ci : Nat) (vs : List Value) (r : vw_C), tq_mk cy ad N 9 v f = some (.inr (ci, vs)) ∧ vwCl[ci]? = some r ∧ (r.1, "java/lang/Object") ∈ tq_nC := ⟨_, _, _, tq_mk_9 h, rfl, by decide +kernel⟩
theorem tq_ev10 {cy : Nat → ClassId} {ad : Nat → Nat → Nat} (N : tq_Nn) (v : Nat) (f : Nat → Int32) (h : N 10 v = 1) : ∃ (ci : Nat) (vs : List Value) (r : vw_C), tq_mk cy ad N 10 v f = some (.inr (ci, vs)) ∧ vwCl[ci]? = some r ∧ (r.1, "java/lang/Object") ∈ tq_nC := ⟨_, _, _, tq_mk_10 h, rfl, by decide +kernel⟩
theorem tq_ev11 {cy : Nat → ClassId} {ad : Nat → Nat → Nat} (N : tq_Nn) (v : Nat) (f : Nat → Int32) (h : N 11 v = 1) : ∃ (ci : Nat) (vs : List Value) (r : vw_C), tq_mk cy ad N 11 v f = some (.inr (ci, vs)) ∧ vwCl[ci]? = some r ∧ (r.1, "java/lang/Object") ∈ tq_nC := ⟨_, _, _, tq_mk_11 h, rfl, by decide +kernel⟩
theorem tq_LK_15 {cy : Nat → ClassId} {z : Nat} {ad : Nat → Nat → Nat} {N : tq_Nn} {i : Nat} (ha : tq_adr z ad) (h : i < 1) : tq_LK cy z ad N 15 16 7 i := by
  obtain ⟨h1, h2, h3, h4, h5, h6, -⟩ := ha
  exact ⟨by decide, by decide, by decide, by decide, by decide, by decide, by decide, by decide, ⟨by decide, by decide⟩, fun f => tq_mk_15 h, fun i => (h6 i).1, fun N d f h => tq_mk_16 h, tq_ev7⟩
theorem tq_LK_17 {cy : Nat → ClassId} {z : Nat} {ad : Nat → Nat → Nat} {N : tq_Nn} {i : Nat} (ha : tq_adr z ad) (h : i < 1) : tq_LK cy z ad N 17 18 7 i := by
  obtain ⟨h1, h2, h3, h4, h5, h6, -⟩ := ha
  exact ⟨by decide, by decide, by decide, by decide, by decide, by decide, by decide, by decide, ⟨by decide, by decide⟩, fun f => tq_mk_17 h, fun i => (h6 i).2.1, fun N d f h => tq_mk_18 h, tq_ev7⟩
theorem tq_LK_19 {cy : Nat → ClassId} {z : Nat} {ad : Nat → Nat → Nat} {N : tq_Nn} {i : Nat} (ha : tq_adr z ad) (h : i < 1) : tq_LK cy z ad N 19 20 8 i := by
  obtain ⟨h1, h2, h3, h4, h5, h6, -⟩ := ha
  exact ⟨by decide, by decide, by decide, by decide, by decide, by decide, by decide, by decide, ⟨by decide, by decide⟩, fun f => tq_mk_19 h, fun i => (h6 i).2.2.1, fun N d f h => tq_mk_20 h, tq_ev8⟩
theorem tq_LK_22 {cy : Nat → ClassId} {z : Nat} {ad : Nat → Nat → Nat} {N : tq_Nn} {i : Nat} (ha : tq_adr z ad) (h : i < 1) : tq_LK cy z ad N 22 23 9 i := by
  obtain ⟨h1, h2, h3, h4, h5, h6, -⟩ := ha
  exact ⟨by decide, by decide, by decide, by decide, by decide, by decide, by decide, by decide, ⟨by decide, by decide⟩, fun f => tq_mk_22 h, fun i => (h6 i).2.2.2.1, fun N d f h => tq_mk_23 h, tq_ev9⟩
theorem tq_LK_36 {cy : Nat → ClassId} {z : Nat} {ad : Nat → Nat → Nat} {N : tq_Nn} {i : Nat} (ha : tq_adr z ad) (h : i < 5) : tq_LK cy z ad N 36 37 7 i := by
  obtain ⟨h1, h2, h3, h4, h5, h6, -⟩ := ha
  exact ⟨by decide, by decide, by decide, by decide, by decide, by decide, by decide, by decide, ⟨by decide, by decide⟩, fun f => tq_mk_36 h, fun i => (h6 i).2.2.2.2.1, fun N d f h => tq_mk_37 h, tq_ev7⟩
theorem tq_LK_38 {cy : Nat → ClassId} {z : Nat} {ad : Nat → Nat → Nat} {N : tq_Nn} {i : Nat} (ha : tq_adr z ad) (h : i < 5) : tq_LK cy z ad N 38 39 10 i := by
  obtain ⟨h1, h2, h3, h4, h5, h6, -⟩ := ha
  exact ⟨by decide, by decide, by decide, by decide, by decide, by decide, by decide, by decide, ⟨by decide, by decide⟩, fun f => tq_mk_38 h, fun i => (h6 i).2.2.2.2.2.1, fun N d f h => tq_mk_39 h, tq_ev10⟩
theorem tq_LK_52 {cy : Nat → ClassId} {z : Nat} {ad : Nat → Nat → Nat} {N : tq_Nn} {i : Nat} (ha : tq_adr z ad) (h : N 52 i = 1) : tq_LK cy z ad N 52 53 10 i := by
  obtain ⟨h1, h2, h3, h4, h5, h6, -⟩ := ha
  exact ⟨by decide, by decide, by decide, by decide, by decide, by decide, by decide, by decide, ⟨by decide, by decide⟩, fun f => tq_mk_52 h, fun i => (h6 i).2.2.2.2.2.2.1, fun N d f h => tq_mk_53 h, tq_ev10⟩
theorem tq_LK_59 {cy : Nat → ClassId} {z : Nat} {ad : Nat → Nat → Nat} {N : tq_Nn} {i : Nat} (ha : tq_adr z ad) (h : N 59 i = 1) : tq_LK cy z ad N 59 60 11 i := by
  obtain ⟨h1, h2, h3, h4, h5, h6, -⟩ := ha
  exact ⟨by decide, by decide, by decide, by decide, by decide, by decide, by decide, by decide, ⟨by decide, by decide⟩, fun f => tq_mk_59 h, fun i => (h6 i).2.2.2.2.2.2.2, fun N d f h => tq_mk_60 h, tq_ev11⟩
section TQI
variable {p : Program} {l : Launch} {e : Env} {s : State} {m : MethodId} {args : Array Value} {below : List Frame} {meth : Method} {c : Code} {H : Heap} {locs : List Loc} {Q : State → Prop} {g : JFrame}
variable {cc : ByteArray} {pc nL n index maxL fr lo fr0 lo0 : Nat} {ls : Array Slot} {rest st0 As : List Value} {D : va_G} {cy : Nat → ClassId} {z A0 : Nat} {H0 : Heap} {ad : Nat → Nat → Nat} {N : tq_Nn} {S M : tq_St} {Ts ws : List Cond} {own C : String} {y : MethodName} {bytes : ByteArray} {b : Nat}
theorem tqb_callIv {post : tq_Nn → tq_St → Prop} (hM : tq_bV l y ws fr lo D cy z A0 H0 ad N M S H.size (tq_all H) (.ref b :: As) post) (S0 : CallFix p m c cc nL s args Ts own) (cw : CallB (tq_rmB fr0 lo0 z A0 s.heap.size (tq_all s.heap)) s args own index y bytes maxL none ws (tq_rmB fr lo z A0 H.size (tq_all H)) (z + tq_CX - H.size) (A0 + tq_CY - tq_all H) n ∧ y.name = "<init>" ∧ (Cond.instanceMethod y).before args s = true) (hK : va_K D vwCl (tq_tys cy) s) (hG : tq_G z ad s) (hW : tq_wd D cy z H0 ad N (tq_mix S M) H) (hS : va_S (fun q => z ≤ q) s.heap H locs) (hn : As.length = n) (hsize : ls.size = nL) (hst : st0 = As.reverse ++ .ref b :: rest) (hW8 : (rest.map fun v => v.category).sum ≤ 8) (hdg : decode cc pc = .ok (.invokespecial index, 3)) (hN : tq_nb z A0 s N)
    (kk : ∀ (N1 : tq_Nn) (S1 : tq_St) (H1 : Heap) (locs1 : List Loc), post N1 S1 → tq_nb z A0 s N1 → tq_wd D cy z H0 ad N1 (tq_mix S1 M) H1 → va_S (fun q => z ≤ q) s.heap H1 locs1 → tq_Wb p l e fr0 lo0 s m args below meth c z A0 N1 H1 locs1 Q (F0 m (pc + 3) ls rest)) : tq_Wb p l e fr0 lo0 s m args below meth c z A0 N H locs Q (F0 m pc ls st0) := by
  obtain ⟨hs0, hs1, hx0, hx1⟩ := hN
  refine tq_facts2 (fun f1 f2 f3 f4 => ?_)
  refine tq_tight (c1 := H.size - s.heap.size) (n1 := tq_all H - tq_all s.heap) (by omega) (by omega) ?_
  refine va_callv (va_runI (As := As) (rest := rest) S0 hM cw ⟨tq_blindB, fun U hU hW1 => ⟨rfl, ⟨by rw [hU]; exact hW, va_K.moved hW1.alike hK, hG.go (fun a h1 h2 => by rw [hU]; exact hS.2.1 a h1 h2) hW1⟩, by rw [hU], by rw [hU], by omega, by omega, hx0, hx1⟩⟩ rfl hn hsize hst (lv_room hW8) hdg ⟨by show _ ≤ z + tq_CX - s.heap.size; omega, by show _ ≤ A0 + tq_CY - tq_all s.heap; omega⟩) hS (fun q _ h => h) (fun q h => h) (fun u t H1 locs1 ht hvm hw hB hz1 hk1 hS1 => ?_)
  · obtain ⟨b3, b4, b5, b6, b7⟩ := hB
    rw [ht] at b3 b4 b5
    have hz2 := hS1.1
    refine tq_facts2 (fun g1 g2 g3 g4 => ?_)
    refine tq_tight (c1 := z + u.1 0 0 - s.heap.size) (n1 := A0 + u.1 0 1 - tq_all s.heap) (by omega) (by omega) (kk u.1 u.2 H1 locs1 hw ⟨by omega, by omega, b6, b7⟩ b3 hS1)
/-- the last cell that was made lies at the heap's end -/
theorem tq_last {K o : Nat} {x : va_E} {R : Room} (hW : tq_wd D cy z H0 ad N (tq_mix S M) H) (hN : tq_nb z A0 s N) (hmk : tq_mk cy ad N K o (tq_mix S M K o) = some x) (ha : ad K o + 1 = z + N 0 0) (k : H.size = z + N 0 0 → W p l e R s m args below meth c H locs (z + N 0 0 - s.heap.size) (A0 + N 0 1 - tq_all s.heap) Q g) : W p l e R s m args below meth c H locs (z + N 0 0 - s.heap.size) (A0 + N 0 1 - tq_all s.heap) Q g := by
  refine tq_facts2 (fun f1 f2 f3 f4 => k ?_)
  have h1 := (hW.1 K o x hmk).lt
  have h2 : ad K o < H.size := h1
  have h3 := hN.1
  omega
end TQI
/-- behind a constructor: the object is one of its kind -/
def tq_pr (N : tq_Nn) (i K : Nat) : tq_Nn := fun k' i' => if k' = 1 ∧ i' = i then 0 else if k' = K ∧ i' = i then 1 else N k' i'
theorem tq_pr_ne {N : tq_Nn} {i K k' i' : Nat} (h1 : ¬ (k' = 1 ∧ i' = i)) (h2 : ¬ (k' = K ∧ i' = i)) : tq_pr N i K k' i' = N k' i' := by simp only [tq_pr]; rw [if_neg h1, if_neg h2]
theorem tq_pr_self {N : tq_Nn} {i K : Nat} (h : K ≠ 1) : tq_pr N i K K i = 1 := by simp [tq_pr, h]
theorem tq_wd.prom {D : va_G} {cy : Nat → ClassId} {z : Nat} {H0 : Heap} {ad : Nat → Nat → Nat} {N : tq_Nn} {S M : tq_St} {H : Heap} {i K : Nat} {x : va_E} {f : Nat → Int32} (h : tq_wd D cy z H0 ad N (tq_mix S M) H) (hi : ¬ i < 1) (hK : K < 64) (hK1 : K ≠ 1) (ha : ad K i = ad 1 i) (he : tq_pend ad (N 1 i) i (S 1 i) = some x) (he2 : ∀ N : tq_Nn, N K i = 1 → tq_mk cy ad N K i f = some x) : tq_wd D cy z H0 ad (tq_pr N i K) (tq_mix (tq_cp S K i f) M) H := by
  refine h.move (k := 1) (i := i) (k2 := K) (i2 := i) (e := x) ?_ ?_ ?_ ha (fun k' i' h1 h2 => ?_)
  · rw [tq_mixC _ _ (by decide), tq_mk_p hi]
    exact he
  · rw [tq_mixC _ _ hK, tq_cp_self]
    exact he2 _ (tq_pr_self hK1)
  · rw [tq_mk_p hi]
    simp [tq_pr, tq_pend]
  · rw [tq_mk_flag _ (tq_pr_ne h1 h2)]
    by_cases hk9 : k' < 64
    · rw [tq_mixC _ _ hk9, tq_mixC _ _ hk9, tq_cp_out h2]
    · rw [tq_mixM _ _ hk9, tq_mixM _ _ hk9]
theorem tq_ad1_7 {z : Nat} {ad : Nat → Nat → Nat} (ha : tq_adr z ad) {i : Nat} (h : ¬ i < 1) : ad 1 i = ad 7 i := by rw [(ha.2.2.2.2.2.2 i (by omega)).1, (ha.1 i).1]
theorem tq_ad1_8 {z : Nat} {ad : Nat → Nat → Nat} (ha : tq_adr z ad) {i : Nat} (h : ¬ i < 1) : ad 1 i = ad 8 i := by rw [(ha.2.2.2.2.2.2 i (by omega)).1, (ha.2.1 i).1]
theorem tq_ad1_9 {z : Nat} {ad : Nat → Nat → Nat} (ha : tq_adr z ad) {i : Nat} (h : ¬ i < 1) : ad 1 i = ad 9 i := by rw [(ha.2.2.2.2.2.2 i (by omega)).1, (ha.2.2.1 i).1]
theorem tq_ad1_10 {z : Nat} {ad : Nat → Nat → Nat} (ha : tq_adr z ad) {i : Nat} (h : ¬ i < 1) : ad 1 i = ad 10 i := by rw [(ha.2.2.2.2.2.2 i (by omega)).1, (ha.2.2.2.1 i).1]
theorem tq_ad1_11 {z : Nat} {ad : Nat → Nat → Nat} (ha : tq_adr z ad) {i : Nat} (h : ¬ i < 1) : ad 1 i = ad 11 i := by rw [(ha.2.2.2.2.2.2 i (by omega)).1, ha.2.2.2.2.1 i]
theorem tq_ads_50 {z : Nat} {ad : Nat → Nat → Nat} (ha : tq_adr z ad) (i : Nat) : ad 50 i = z + i + 1 := (ha.1 i).2.1
theorem tq_ads_52 {z : Nat} {ad : Nat → Nat → Nat} (ha : tq_adr z ad) (i : Nat) : ad 52 i = z + i + 2 := (ha.1 i).2.2.1
theorem tq_ads_51 {z : Nat} {ad : Nat → Nat → Nat} (ha : tq_adr z ad) (i : Nat) : ad 51 i = z + i + 3 := (ha.1 i).2.2.2
theorem tq_ads_54 {z : Nat} {ad : Nat → Nat → Nat} (ha : tq_adr z ad) (i : Nat) : ad 54 i = z + i + 1 := (ha.2.1 i).2.1
theorem tq_ads_55 {z : Nat} {ad : Nat → Nat → Nat} (ha : tq_adr z ad) (i : Nat) : ad 55 i = z + i + 2 := (ha.2.1 i).2.2.1
theorem tq_ads_56 {z : Nat} {ad : Nat → Nat → Nat} (ha : tq_adr z ad) (i : Nat) : ad 56 i = z + i + 3 := (ha.2.1 i).2.2.2
theorem tq_ads_57 {z : Nat} {ad : Nat → Nat → Nat} (ha : tq_adr z ad) (i : Nat) : ad 57 i = z + i + 1 := (ha.2.2.1 i).2.1
theorem tq_ads_58 {z : Nat} {ad : Nat → Nat → Nat} (ha : tq_adr z ad) (i : Nat) : ad 58 i = z + i + 2 := (ha.2.2.1 i).2.2
theorem tq_ads_59 {z : Nat} {ad : Nat → Nat → Nat} (ha : tq_adr z ad) (i : Nat) : ad 59 i = z + i + 1 := (ha.2.2.2.1 i).2
theorem tq_ads_1 {z : Nat} {ad : Nat → Nat → Nat} (ha : tq_adr z ad) {i : Nat} (h : ¬ i < 1) : ad 1 i = z + i := (ha.2.2.2.2.2.2 i (by omega)).1
theorem tq_pd_1 {ad : Nat → Nat → Nat} {i : Nat} {c : Nat → Int32} : tq_pend ad 1 i c = some (.inr (4, [.int (c 0), .int (c 1), .int (c 2), .int (c 3), .int (c 4), tq_pf (c 5) (ad 50 i), tq_pf (c 6) (ad 51 i), tq_pf (c 7) (ad 52 i), .int (c 8), .int (c 9)])) := rfl
theorem tq_pm_1 {cy : Nat → ClassId} {ad : Nat → Nat → Nat} {N : tq_Nn} {S M : tq_St} {i : Nat} (hi : ¬ i < 1) (h : N 1 i = 1) : tq_mk cy ad N 1 i (tq_mix S M 1 i) = some (.inr (4, [.int (S 1 i 0), .int (S 1 i 1), .int (S 1 i 2), .int (S 1 i 3), .int (S 1 i 4), tq_pf (S 1 i 5) (ad 50 i), tq_pf (S 1 i 6) (ad 51 i), tq_pf (S 1 i 7) (ad 52 i), .int (S 1 i 8), .int (S 1 i 9)])) := by rw [tq_mixC _ _ (by decide), tq_mk_p hi, h]; rfl
theorem tq_pd_2 {ad : Nat → Nat → Nat} {i : Nat} {c : Nat → Int32} : tq_pend ad 2 i c = some (.inr (2, [.int (c 0), .int (c 1), .int (c 2), .int (c 3), .int (c 4), tq_pf (c 5) (ad 50 i), tq_pf (c 6) (ad 51 i), tq_pf (c 7) (ad 52 i), .int (c 8), .int (c 9), .int (c 10), .int (c 11), .int (c 12)])) := rfl
theorem tq_pm_2 {cy : Nat → ClassId} {ad : Nat → Nat → Nat} {N : tq_Nn} {S M : tq_St} {i : Nat} (hi : ¬ i < 1) (h : N 1 i = 2) : tq_mk cy ad N 1 i (tq_mix S M 1 i) = some (.inr (2, [.int (S 1 i 0), .int (S 1 i 1), .int (S 1 i 2), .int (S 1 i 3), .int (S 1 i 4), tq_pf (S 1 i 5) (ad 50 i), tq_pf (S 1 i 6) (ad 51 i), tq_pf (S 1 i 7) (ad 52 i), .int (S 1 i 8), .int (S 1 i 9), .int (S 1 i 10), .int (S 1 i 11), .int (S 1 i 12)])) := by rw [tq_mixC _ _ (by decide), tq_mk_p hi, h]; rfl
theorem tq_pd_3 {ad : Nat → Nat → Nat} {i : Nat} {c : Nat → Int32} : tq_pend ad 3 i c = some (.inr (9, [.int (c 0), .int (c 1), .int (c 2), .int (c 3), .int (c 4), .int (c 5), .int (c 6), .int (c 7), tq_pf (c 8) (ad 54 i), tq_pf (c 9) (ad 55 i), tq_pf (c 10) (ad 56 i)])) := rfl
theorem tq_pm_3 {cy : Nat → ClassId} {ad : Nat → Nat → Nat} {N : tq_Nn} {S M : tq_St} {i : Nat} (hi : ¬ i < 1) (h : N 1 i = 3) : tq_mk cy ad N 1 i (tq_mix S M 1 i) = some (.inr (9, [.int (S 1 i 0), .int (S 1 i 1), .int (S 1 i 2), .int (S 1 i 3), .int (S 1 i 4), .int (S 1 i 5), .int (S 1 i 6), .int (S 1 i 7), tq_pf (S 1 i 8) (ad 54 i), tq_pf (S 1 i 9) (ad 55 i), tq_pf (S 1 i 10) (ad 56 i)])) := by rw [tq_mixC _ _ (by decide), tq_mk_p hi, h]; rfl
theorem tq_pd_4 {ad : Nat → Nat → Nat} {i : Nat} {c : Nat → Int32} : tq_pend ad 4 i c = some (.inr (11, [.int (c 0), .int (c 1), .int (c 2), .int (c 3), .int (c 4), .int (c 5), tq_pf (c 6) (ad 57 i), tq_pf (c 7) (ad 58 i), .int (c 8), .int (c 9), .int (c 10), .int (c 11)])) := rfl
theorem tq_pm_4 {cy : Nat → ClassId} {ad : Nat → Nat → Nat} {N : tq_Nn} {S M : tq_St} {i : Nat} (hi : ¬ i < 1) (h : N 1 i = 4) : tq_mk cy ad N 1 i (tq_mix S M 1 i) = some (.inr (11, [.int (S 1 i 0), .int (S 1 i 1), .int (S 1 i 2), .int (S 1 i 3), .int (S 1 i 4), .int (S 1 i 5), tq_pf (S 1 i 6) (ad 57 i), tq_pf (S 1 i 7) (ad 58 i), .int (S 1 i 8), .int (S 1 i 9), .int (S 1 i 10), .int (S 1 i 11)])) := by rw [tq_mixC _ _ (by decide), tq_mk_p hi, h]; rfl
theorem tq_pd_5 {ad : Nat → Nat → Nat} {i : Nat} {c : Nat → Int32} : tq_pend ad 5 i c = some (.inr (5, [.int (c 0), .int (c 1), .int (c 2), .int (c 3), .int (c 4), .int (c 5), tq_pf (c 6) (ad 59 i)])) := rfl
theorem tq_pm_5 {cy : Nat → ClassId} {ad : Nat → Nat → Nat} {N : tq_Nn} {S M : tq_St} {i : Nat} (hi : ¬ i < 1) (h : N 1 i = 5) : tq_mk cy ad N 1 i (tq_mix S M 1 i) = some (.inr (5, [.int (S 1 i 0), .int (S 1 i 1), .int (S 1 i 2), .int (S 1 i 3), .int (S 1 i 4), .int (S 1 i 5), tq_pf (S 1 i 6) (ad 59 i)])) := by rw [tq_mixC _ _ (by decide), tq_mk_p hi, h]; rfl
theorem tq_pd_6 {ad : Nat → Nat → Nat} {i : Nat} {c : Nat → Int32} : tq_pend ad 6 i c = some (.inr (10, [.int (c 0), .int (c 1), .int (c 2), .int (c 3), .int (c 4), .int (c 5)])) := rfl
theorem tq_pm_6 {cy : Nat → ClassId} {ad : Nat → Nat → Nat} {N : tq_Nn} {S M : tq_St} {i : Nat} (hi : ¬ i < 1) (h : N 1 i = 6) : tq_mk cy ad N 1 i (tq_mix S M 1 i) = some (.inr (10, [.int (S 1 i 0), .int (S 1 i 1), .int (S 1 i 2), .int (S 1 i 3), .int (S 1 i 4), .int (S 1 i 5)])) := by rw [tq_mixC _ _ (by decide), tq_mk_p hi, h]; rfl
theorem tq_pf1 {x : Int32} {a : Nat} (h : ¬ x = 0) : tq_pf x a = .ref a := if_neg h
theorem tq_fldN {ad : Nat → Nat → Nat} {i : Nat} {c : Nat → Int32} (h : c 15 < 1) : tq_fld ad 2 i c 15 = .null := by
  show va_rf (tq_nul ad 7 (c 15)) = .null
  simp only [tq_nul, if_pos h, va_rf]
theorem tq_fldR {ad : Nat → Nat → Nat} {i : Nat} {c : Nat → Int32} (h : ¬ c 15 < 1) : tq_fld ad 2 i c 15 = .ref (ad 7 ((c 15).toNatClampNeg - 1)) := by
  show va_rf (tq_nul ad 7 (c 15)) = _
  simp only [tq_nul, if_neg h, va_rf]
theorem tq_objset3 {ad : Nat → Nat → Nat} {k i nf t : Nat} {c : Nat → Int32} {x : Int32} {v : Value} (h0 : tq_val ad (tq_fty k t) i x = v) : ((List.range nf).map (tq_fld ad k i c)).set t v = (List.range nf).map (tq_fld ad k i (upd c t x)) := by
  apply List.ext_getElem?
  intro j
  by_cases hj : j < nf
  · by_cases hjt : j = t
    · subst hjt
      rw [List.getElem?_set_self (by simpa using hj), List.getElem?_map, List.getElem?_range hj]
      simp [tq_fld, h0, upd]
    · rw [List.getElem?_set_ne (Ne.symm hjt), List.getElem?_map, List.getElem?_map, List.getElem?_range hj]
      simp [tq_fld, upd, hjt]
  · rw [List.getElem?_eq_none (by simpa using Nat.le_of_not_lt hj), List.getElem?_eq_none (by simpa using Nat.le_of_not_lt hj)]
theorem tq_nulv {ad : Nat → Nat → Nat} {k b : Nat} (hb : b ≤ tq_CX) : va_rf (tq_nul ad k (nI (b + 1))) = .ref (ad k b) := by
  have hv31 : b + 1 < 2 ^ 31 := by unfold tq_CX at hb; omega
  have h1 : ¬ nI (b + 1) < 1 := nI_nlt (a := b + 1) (b := 1) (by omega) hv31
  simp only [tq_nul, if_neg h1, nI_clamp hv31, va_rf]
  rfl
theorem tq_mixT {S M : tq_St} {k i j : Nat} {x : Int32} (hk : k < 64) (k' i' : Nat) (h9 : ¬ (k' = k ∧ i' = i)) : tq_mix (tq_up S k i j x) M k' i' = tq_mix S M k' i' := by
  by_cases hk9 : k' < 64
  · rw [tq_mixC _ _ hk9, tq_mixC _ _ hk9, tq_up_out h9]
  · rw [tq_mixM _ _ hk9, tq_mixM _ _ hk9]
/-- a list that is cleared -/
def tq_clred (S : tq_St) (kl kd i n : Nat) : tq_St := tq_cp (tq_up (tq_up S kl i 0 (S kl i 0 + 1)) kl i 2 0) kd (S kl i 1).toNatClampNeg (tq_clr (S kd (S kl i 1).toNatClampNeg) n)
theorem kJl_clr {l : Launch} {D : va_G} {cy : Nat → ClassId} {z : Nat} {H0 : Heap} {ad : Nat → Nat → Nat} {M : tq_St} {post : tq_St → Prop} {N : tq_Nn} {S : tq_St} {kl kd ek i n c : Nat} (hL : tq_LK cy z ad N kl kd ek i) (hl : tq_lst N S kl kd i n c) (h : post (tq_clred S kl kd i n)) : tq_sV l yJx4a65c_clear_da8c8 (tq_ws yJx4a65c_clear_da8c8 cJx4a65c_clear_da8c8 4 none) 0 0 D cy z H0 ad N M S [.ref (ad kl i)] post := by
  obtain ⟨q1, q2, q3, q4, q5, q6, q7, q8, q8b, q9, q10, q11, q12⟩ := id hL
  obtain ⟨a1, a2, a3, a4⟩ := id hl
  refine kJl_clear (dd := (S kl i 1).toNatClampNeg) (ek := ek) rfl q1 q3 q5 q9 (fun h9 f => q11 N _ f h9) a1 (by omega) (fun h9 => ?_) h
  rcases a4 with ⟨f1, f2⟩ | ⟨f1, f2, f3, f4⟩
  · omega
  · refine ⟨fun q => by rw [q] at f1; exact absurd f1 (by decide), f2, ?_, ?_⟩
    · rw [f3, nI_clamp (by omega)]; exact a2
    · rw [f3, nI_clamp (by omega)]; omega
theorem tqb_vretP {p : Program} {l : Launch} {e : Env} {s : State} {m : MethodId} {args : Array Value} {below : List Frame} {meth : Method} {c : Code} {H : Heap} {locs : List Loc} {cc : ByteArray} {pc fr0 lo0 : Nat} {ls : Array Slot} {D : va_G} {cy : Nat → ClassId} {z A0 : Nat} {H0 : Heap} {ad : Nat → Nat → Nat} {N : tq_Nn} {S M : tq_St} {o K : Nat} {post : tq_Nn → tq_St → Prop} (hx : p.tables.exec = Jvm.exec) (hb : c.code = cc) (hr : meth.sig.returnType = none) (hN : tq_nb z A0 s N) (hK : K ≠ 0) (h : post (tq_pr N o K) S) (hW : tq_wd D cy z H0 ad (tq_pr N o K) (tq_mix S M) H) (hS : va_S (fun q => z ≤ q) s.heap H locs) (hdg : decode cc pc = .ok (.return_, 1)) (hlocks : meth.locks = false) : tq_Wb p l e fr0 lo0 s m args below meth c z A0 N H locs (MQ below (va_Qv (fun (u : tq_Nn × tq_St) => post u.1 u.2) (tq_PB D cy z A0 H0 ad M) (fun q => z ≤ q)) args s (z + tq_CX - s.heap.size) (A0 + tq_CY - tq_all s.heap) (fun q => z ≤ q)) (F0 m pc ls []) := by
  have e0 : tq_pr N o K 0 0 = N 0 0 := tq_pr_ne (fun q => absurd q.1 (by decide)) (fun q => hK q.1.symm)
  have e1 : tq_pr N o K 0 1 = N 0 1 := tq_pr_ne (fun q => absurd q.1 (by decide)) (fun q => hK q.1.symm)
  have hN' : tq_nb z A0 s (tq_pr N o K) := by
    unfold tq_nb
    rw [e0, e1]
    exact hN
  have q := tqb_vret (p := p) (l := l) (e := e) (m := m) (args := args) (below := below) (fr0 := fr0) (lo0 := lo0) (ls := ls) hx hb hr hN' h hW hS hdg hlocks
  unfold tq_Wb at q ⊢
  rw [e0, e1] at q
  exact q
theorem tq_mk_912 {cy : Nat → ClassId} {ad : Nat → Nat → Nat} {N : tq_Nn} {i : Nat} {c : Nat → Int32} (h : ¬ i < 1 ∧ N 12 i = 1) : tq_mk cy ad N 12 i c = some (.inl (cy 0, 5, .inl c)) := tq_mk_b h.1 h.2
/-- new int[5] of a method's own -/
theorem tqw_newt {p : Program} {l : Launch} {e : Env} {s : State} {m : MethodId} {args : Array Value} {below : List Frame} {meth : Method} {c : Code} {H : Heap} {locs : List Loc} {Q : State → Prop} {cc : ByteArray} {pc fr0 lo0 : Nat} {ls : Array Slot} {rest : List Value} {D : va_G} {cy : Nat → ClassId} {z A0 : Nat} {H0 : Heap} {ad : Nat → Nat → Nat} {N : tq_Nn} {S M : tq_St} (hx : p.tables.exec = Jvm.exec) (hb : c.code = cc) (harr : (Cond.arrayClass .int).before args s = true) (hK : va_K D vwCl (tq_tys cy) s) (hG : tq_G z ad s) (hW : tq_wd D cy z H0 ad N (tq_mix S M) H) (hS : va_S (fun q => z ≤ q) s.heap H locs) (hN : tq_nb z A0 s N) (h0 : N 0 0 + 1 ≤ tq_CX) (h1 : N 0 1 + 5 ≤ tq_CY) {v : Int32} (hv0 : ¬ v < 0) (hv : v.toNatClampNeg = 5) (hdg : decode cc pc = .ok (.newarray .int, 2))
    (kk : ∀ (i : Nat) (H1 : Heap), H1.size = H.size + 1 → ¬ i < 1 → i ≤ N 0 0 → tq_nb z A0 s (tq_na N (i + 1) 12 i 1 5) → tq_wd D cy z H0 ad (tq_na N (i + 1) 12 i 1 5) (tq_mix (tq_cp S 12 i (fun _ => 0)) M) H1 → va_S (fun q => z ≤ q) s.heap H1 locs → tq_Wb p l e fr0 lo0 s m args below meth c z A0 (tq_na N (i + 1) 12 i 1 5) H1 locs Q (F0 m (pc + 2) ls (.ref (ad 12 i) :: rest))) : tq_Wb p l e fr0 lo0 s m args below meth c z A0 N H locs Q (F0 m pc ls (.int v :: rest)) := by
  refine tq_facts2 (fun f1 f2 f3 f4 => ?_)
  have hpos := hW.pos
  have hn1 := hN.1
  obtain ⟨i, hi⟩ : ∃ i, H.size = z + i := ⟨H.size - z, by omega⟩
  have hi1 : ¬ i < 1 := by omega
  have ha : ad 12 i = H.size := by rw [(hG.adr.2.2.2.2.2.2 i (by omega)).2, hi]
  exact tqw_newa (k := 12) (i := i) (n := 5) (a := i + 1) hx hb harr hK hW hS hN (by decide) (by decide) (fun N f h9 => tq_mk_b hi1 h9) ha (by omega) (by omega) h1 hv0 hv (by decide) hdg (fun H1 z1 hN1 hW1 hS1 => kk i H1 z1 hi1 (by omega) hN1 hW1 hS1)
