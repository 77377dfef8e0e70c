/-! ArrayList.add and what it calls -/
/-- a list of the kind kl and its data, of the kind kd, with items of the kind ek -/
def tq_LK (cy : Nat → ClassId) (z : Nat) (ad : Nat → Nat → Nat) (N : tq_Nn) (kl kd ek i : Nat) : Prop := kl < 64 ∧ kl ≠ 0 ∧ kd < 64 ∧ kd ≠ 0 ∧ kl ≠ kd ∧ ek < 64 ∧ ek ≠ 0 ∧ ek ≠ kd ∧ (ek ≠ kl ∧ kd ∈ tq_dyn) ∧ (∀ f : Nat → Int32, tq_mk cy ad N kl i f = some (.inr (0, [.int (f 0), .ref (if f 1 = 0 then ad 0 0 else ad kd (f 1).toNatClampNeg), .int (f 2)]))) ∧ (∀ d : Nat, ad kd d = z + d) ∧ (∀ (N : tq_Nn) (d : Nat) (f : Nat → Int32), N kd d = 1 → tq_mk cy ad N kd d f = some (.inl (cy 5, (f 0).toNatClampNeg, .inr (.inr (.inr (.inr (fun j => tq_nul ad ek (f (j + 1))))))))) ∧ (∀ (N : tq_Nn) (v : Nat) (f : Nat → Int32), N ek v = 1 → ∃ (ci : Nat) (vs : List Value) (r : vw_C), tq_mk cy ad N ek v f = some (.inr (ci, vs)) ∧ vwCl[ci]? = some r ∧ (r.1, "java/lang/Object") ∈ tq_nC)
theorem tq_LK.na {cy : Nat → ClassId} {z : Nat} {ad : Nat → Nat → Nat} {N : tq_Nn} {kl kd ek i : Nat} (h : tq_LK cy z ad N kl kd ek i) (a d n : Nat) : tq_LK cy z ad (tq_na N a kd d 1 n) kl kd ek i := by
  obtain ⟨h1, h2, h3, h4, h5, h6, h7, h8, h8b, h9, h10⟩ := h
  exact ⟨h1, h2, h3, h4, h5, h6, h7, h8, h8b, fun f => (tq_mk_na f (fun q => h5 q.1)).trans (h9 f), h10⟩
/-- data of the capacity v, whose first c items are those of f -/
def tq_grw (f : Nat → Int32) (v : Int32) (c : Nat) : Nat → Int32 := fun q => if q = 0 then v else if q ≤ c then f q else 0
theorem tq_grw_cp (f : Nat → Int32) (v : Int32) (c : Nat) : tq_cpR f (fun q => if q = 0 then v else 0) 0 0 c = tq_grw f v c := by
  funext q
  cases q with
  | zero => rfl
  | succ q =>
    rw [tq_cpR_1]
    simp only [va_cpy, tq_grw]
    by_cases h : q < c
    · rw [if_pos (by omega), if_neg (by omega), if_pos (by omega)]
      congr 1
      omega
    · rw [if_neg (by omega), if_neg (by omega), if_neg (by omega), if_neg (by omega)]
theorem tq_grw_0 (f : Nat → Int32) (v : Int32) : (fun q => if q = 0 then v else 0) = tq_grw f v 0 := by
  funext q
  by_cases h : q = 0
  · simp [tq_grw, h]
  · simp only [tq_grw, if_neg h]
    rw [if_neg (by omega)]
def tq_cap (c : Nat) : Nat := if c = 0 then 10 else c + (if c / 2 ≤ 1 then 1 else c / 2)
def tq_lst (N : tq_Nn) (S : tq_St) (kl kd i n c : Nat) : Prop := S kl i 2 = nI n ∧ n ≤ c ∧ c ≤ 4000 ∧ ((S kl i 1 = 0 ∧ c = 0) ∨ (0 < S kl i 1 ∧ N kd (S kl i 1).toNatClampNeg = 1 ∧ S kd (S kl i 1).toNatClampNeg 0 = nI c ∧ 0 < c))
/-- the items that there are, are objects of the world -/
def tq_itm (N : tq_Nn) (S : tq_St) (kl kd ek i n : Nat) : Prop := ∀ j : Nat, j < n → ¬ S kd (S kl i 1).toNatClampNeg (j + 1) < 1 → N ek ((S kd (S kl i 1).toNatClampNeg (j + 1)).toNatClampNeg - 1) = 1
def tq_aok (N : tq_Nn) (S : tq_St) (kl kd ek i v : Nat) : Prop := ∃ n c : Nat, tq_lst N S kl kd i n c ∧ c ≤ 2500 ∧ N ek v = 1 ∧ v ≤ tq_CX ∧ tq_itm N S kl kd ek i n ∧ N 0 0 + 1 ≤ tq_CX ∧ N 0 1 + 4000 ≤ tq_CY
/-- behind add(v): what the list is, and all else as it was -/
def tq_added (N : tq_Nn) (S : tq_St) (kl kd i v : Nat) (N1 : tq_Nn) (S1 : tq_St) : Prop := ∃ n c c1 : Nat, tq_lst N S kl kd i n c ∧ tq_lst N1 S1 kl kd i (n + 1) c1 ∧ (∀ j : Nat, j < n → S1 kd (S1 kl i 1).toNatClampNeg (j + 1) = S kd (S kl i 1).toNatClampNeg (j + 1)) ∧ S1 kd (S1 kl i 1).toNatClampNeg (n + 1) = nI (v + 1) ∧ (∀ k' i' : Nat, ¬ (k' = kl ∧ i' = i) → ¬ (k' = kd ∧ i' = (S1 kl i 1).toNatClampNeg) → S1 k' i' = S k' i') ∧ ((N1 = N ∧ c1 = c ∧ n < c ∧ S1 kl i 1 = S kl i 1) ∨ (n = c ∧ c1 = tq_cap c ∧ tq_fr N (S1 kl i 1).toNatClampNeg ∧ (S1 kl i 1).toNatClampNeg ≤ N 0 0 ∧ N1 = tq_na N ((S1 kl i 1).toNatClampNeg + 1) kd (S1 kl i 1).toNatClampNeg 1 c1))
/-- behind add(at, v) -/
def tq_addedAt (N : tq_Nn) (S : tq_St) (kl kd i p v : Nat) (N1 : tq_Nn) (S1 : tq_St) : Prop := ∃ n c c1 : Nat, tq_lst N S kl kd i n c ∧ tq_lst N1 S1 kl kd i (n + 1) c1 ∧ (∀ j : Nat, j < p → S1 kd (S1 kl i 1).toNatClampNeg (j + 1) = S kd (S kl i 1).toNatClampNeg (j + 1)) ∧ S1 kd (S1 kl i 1).toNatClampNeg (p + 1) = nI (v + 1) ∧ (∀ j : Nat, p ≤ j → j < n → S1 kd (S1 kl i 1).toNatClampNeg (j + 1 + 1) = S kd (S kl i 1).toNatClampNeg (j + 1)) ∧ (∀ k' i' : Nat, ¬ (k' = kl ∧ i' = i) → ¬ (k' = kd ∧ i' = (S1 kl i 1).toNatClampNeg) → S1 k' i' = S k' i') ∧ ((N1 = N ∧ c1 = c ∧ n < c ∧ S1 kl i 1 = S kl i 1) ∨ (n = c ∧ c1 = tq_cap c ∧ tq_fr N (S1 kl i 1).toNatClampNeg ∧ (S1 kl i 1).toNatClampNeg ≤ N 0 0 ∧ N1 = tq_na N ((S1 kl i 1).toNatClampNeg + 1) kd (S1 kl i 1).toNatClampNeg 1 c1))
section
variable {l : Launch} {D : va_G} {cy : Nat → ClassId} {z A0 : Nat} {H0 : Heap} {ad : Nat → Nat → Nat} {M : tq_St}
set_option maxHeartbeats 4000000 in
set_option maxRecDepth 100000 in
theorem kJ7_copyOf3 {post : tq_Nn → tq_St → Nat → Prop} {N : tq_Nn} {S : tq_St} {sz sl kl kd ek i d0 c0 : Nat} {v : Int32} (hL : tq_LK cy z ad N kl kd ek i) (hd0 : N kd d0 = 1) (hc0 : S kd d0 0 = nI c0) (hv0 : ¬ v < 0) (hcv : c0 ≤ v.toNatClampNeg) (hv4 : v.toNatClampNeg ≤ 4000) (hit : ∀ j : Nat, j < c0 → ¬ S kd d0 (j + 1) < 1 → N ek ((S kd d0 (j + 1)).toNatClampNeg - 1) = 1) (hr0 : N 0 0 + 1 ≤ tq_CX) (hr1 : N 0 1 + 4000 ≤ tq_CY) (h : ∀ d1 : Nat, 1 ≤ d1 → d1 ≤ N 0 0 → tq_fr N d1 → ¬ N kd d1 = 1 → post (tq_na N (d1 + 1) kd d1 1 v.toNatClampNeg) (tq_cp S kd d1 (tq_grw (S kd d0) v c0)) d1) : tq_bR kd l yJ7_copyOf_6403c (tq_ws yJ7_copyOf_6403c cJ7_copyOf_6403c 4 (some (.array (.object "java/lang/Object")))) 1 60 D cy z A0 H0 ad N M S sz sl [.ref (ad kd d0), .int v, .ref (ad 63 2)] post := by
  obtain ⟨q1, q2, q3, q4, q5, q6, q7, q8, q8b, q9, q10, q11, q12⟩ := id hL
  refine Met.ofW (cc := cJ7_copyOf_6403c) (maxL := 4) (ret := (some (.array (.object "java/lang/Object")))) (by decide) rfl ?_
  intro p e s m args below meth c s₁ B hml hv
  obtain ⟨rfl, ⟨hW, hK, hG⟩, rfl, rfl, hN1, hN2, hN3, hN4⟩ := hv
  have hN : tq_nb z A0 s N := ⟨hN1, hN2, hN3, hN4⟩
  have hx := B.exec
  have hb := B.bytes
  have hr := B.returns
  have hts := atoms_spec (ws := (tq_ws yJ7_copyOf_6403c cJ7_copyOf_6403c 4 (some (.array (.object "java/lang/Object"))))) B.pre
  have hw : ∀ w ∈ tq_W, w.before _ s = true := fun w h => hts w (List.mem_cons_of_mem _ h)
  have hown : s.vm.findClass RJ7 = some m.cls := findClass_of_methodNamed B.named
  have hlocks := B.notSynchronized
  have hS : va_S (fun q => z ≤ q) s.heap s.heap [] := va_S.rf
  have hl := lv_entry ([.ref (ad kd d0), .int v, .ref (ad 63 2)]) (n := 4) (Nat.le_of_ble_eq_true rfl)
  rw [lg_entry_eq]
  generalize (lg_sl ([.ref (ad kd d0), .int v, .ref (ad 63 2)]) ++ List.replicate (4 - (lg_sl ([.ref (ad kd d0), .int v, .ref (ad 63 2)])).length) Slot.unset).toArray = ls at hl ⊢
  have hl : lv_has ls 4 [(0, .ref (ad kd d0)), (1, .int v), (2, .ref (ad 63 2))] := hl
  have hW : tq_wd D cy z H0 ad N (tq_mix S M) s.heap := hW
  refine tq_tight (c1 := z + N 0 0 - s.heap.size) (n1 := A0 + N 0 1 - tq_all s.heap) (by omega) (by omega) ?_
  refine lv_aload_n hx hb dJ7_copyOf_6403c_0 rfl (lv_at hl 2 rfl) ?_
  refine va_ldcM hx hb hown (hw _ tw_793) hG.2.2.2.2.2.2.2.2.2.2.2.2.2.2.1 dJ7_copyOf_6403c_1 ?_
  refine lv_acmp_ne (rx := some (ad 63 2)) (ry := some (ad 63 2)) (tgt := 13) hx hb dJ7_copyOf_6403c_3 (by decide) (fun q => absurd rfl q) (fun _ => ?_)
  refine lv_iload_n hx hb dJ7_copyOf_6403c_6 rfl (lv_at hl 1 rfl) ?_
  refine tqw_anew (kd := kd) (ek := ek) hx hb hown (hw _ tw_795) hK hG hW hS hN q3 q4 q10 q11 hv0 rfl (by omega) hr0 (by omega) dJ7_copyOf_6403c_7 (fun d1 H1 h1 h2 h3 hN9 hW9 hS9 => ?_)
  have hne : ¬ N kd d1 = 1 := h3 kd q8b.2
  have hdd : d0 ≠ d1 := fun q => hne (by rw [← q]; exact hd0)
  have hcl : c0 < 2 ^ 31 := by omega
  obtain ⟨N9, eN9⟩ : ∃ N9, N9 = tq_na N (d1 + 1) kd d1 1 v.toNatClampNeg := ⟨_, rfl⟩
  obtain ⟨S9, eS9⟩ : ∃ S9, S9 = tq_cp S kd d1 (fun q => if q = 0 then v else 0) := ⟨_, rfl⟩
  rw [← eN9] at hN9 hW9 ⊢
  rw [← eS9] at hW9
  have e0 : S9 kd d0 = S kd d0 := by rw [eS9, tq_cp_out (fun q => hdd q.2)]
  have e1 : S9 kd d1 = (fun q => if q = 0 then v else 0) := by rw [eS9, tq_cp_self]
  have n0 : N9 kd d0 = 1 := by rw [eN9, tq_na_ne q4 (fun q => hdd q.2)]; exact hd0
  have n1 : N9 kd d1 = 1 := by rw [eN9, tq_na_self _ _ _ _ _ _ q4]
  refine lv_goto (tgt := 24) hx hb dJ7_copyOf_6403c_10 (by decide) ?_
  refine lv_astore_n (lv' := [(3, .ref (ad kd d1)), (0, .ref (ad kd d0)), (1, .int v), (2, .ref (ad 63 2))]) hx hb dJ7_copyOf_6403c_24 rfl hl (by decide) rfl (fun ls hl => ?_)
  refine lv_aload_n hx hb dJ7_copyOf_6403c_25 rfl (lv_at hl 1 rfl) ?_
  refine lv_iconst (v := 0) hx hb dJ7_copyOf_6403c_26 (by decide) ?_
  refine lv_aload_n hx hb dJ7_copyOf_6403c_27 rfl (lv_at hl 0 rfl) ?_
  refine lv_iconst (v := 0) hx hb dJ7_copyOf_6403c_28 (by decide) ?_
  refine lv_aload_n hx hb dJ7_copyOf_6403c_29 rfl (lv_at hl 1 rfl) ?_
  refine tq_alen (v := nI c0) hx hb hK hW9 (by rw [tq_mixC _ _ q3]; exact q11 N9 d0 _ n0) 5 rfl (by show Int32.ofNat (S9 kd d0 0).toNatClampNeg = nI c0; rw [e0, hc0, nI_clamp hcl]; rfl) dJ7_copyOf_6403c_30 ?_
  refine lv_iload_n hx hb dJ7_copyOf_6403c_31 rfl (lv_at hl 2 rfl) ?_
  refine va_mmin hx hb (hml.trans hl.1.symm) hown (hw _ tw_796) (hw _ tw_797) (hw _ tw_132) (hw _ tw_798) (Nat.le_of_ble_eq_true rfl) (Nat.le_of_ble_eq_true rfl) (by have := hN9.f (fr := 1) (lo := 60); exact this.1) (by have := hN9.f (fr := 1) (lo := 60); exact this.2) dJ7_copyOf_6403c_32 ?_
  have emin : (if v < nI c0 then v else nI c0) = nI c0 := if_neg (fun q => by
    have h5 := Int32.lt_iff_toInt_lt.mp q
    rw [nI_toInt hcl] at h5
    have h6 : v.toInt = (v.toNatClampNeg : Int) := by
      have := Int32.not_lt.mp hv0
      have h7 := Int32.le_iff_toInt_le.mp this
      show v.toInt = ((v.toInt.toNat : Nat) : Int)
      simp at h7
      omega
    omega)
  rw [emin]
  refine tq_copyR (kd := kd) (ek := ek) (d0 := d0) (d1 := d1) hx hb (hml.trans hl.1.symm) hown (hw _ tw_799) (hw _ tw_801) (hw _ tw_800) (hw _ tw_135) hK hW9 hS9 q3 q6 (fun d9 f9 h9 => q11 N9 d9 f9 h9) n0 n1 (by decide) (by decide) (nI_pos hcl) (by rw [e0, hc0]; exact Nat.le_of_eq (Nat.zero_add _)) (by rw [e1, nI_clamp hcl]; show 0 + c0 ≤ v.toNatClampNeg; omega) (fun j hj hj1 => ?_) (Nat.le_of_ble_eq_true rfl) (Nat.le_of_ble_eq_true rfl) dJ7_copyOf_6403c_35 (fun H locs hW hS => ?_)
  · rw [nI_clamp hcl] at hj
    have ej : (0 : Int32).toNatClampNeg + j + 1 = j + 1 := by show 0 + j + 1 = j + 1; omega
    rw [ej, e0] at hj1 ⊢
    obtain ⟨ci, vs, r, r1, r2, r3⟩ := q12 N9 ((S kd d0 (j + 1)).toNatClampNeg - 1) (S9 ek ((S kd d0 (j + 1)).toNatClampNeg - 1)) (by rw [eN9, tq_na_ne q7 (fun q => q8 q.1)]; exact hit j hj hj1)
    exact ⟨ci, vs, r, r1, r2, hG.2.2.2.2.2.2.2.2.2.2.1 (r.1, "java/lang/Object") r3⟩
  have eS : tq_cp S9 kd d1 (tq_cpR (S9 kd d0) (S9 kd d1) (0 : Int32).toNatClampNeg (0 : Int32).toNatClampNeg (nI c0).toNatClampNeg) = tq_cp S kd d1 (tq_grw (S kd d0) v c0) := by
    rw [e0, e1, nI_clamp hcl]
    show tq_cp S9 kd d1 (tq_cpR (S kd d0) (fun q => if q = 0 then v else 0) 0 0 c0) = _
    rw [tq_grw_cp, eS9, tq_cp_cp]
  rw [eS] at hW
  refine lv_aload_n hx hb dJ7_copyOf_6403c_38 rfl (lv_at hl 0 rfl) ?_
  refine tqb_aret (k := kd) (i := d1) hx hb hr (Or.inr ⟨_, rfl⟩) hN9 ?_ hW hS dJ7_copyOf_6403c_39 hlocks
  rw [eN9]
  exact h d1 h1 h2 h3 hne
set_option maxHeartbeats 4000000 in
set_option maxRecDepth 100000 in
theorem kJ7_copyOf2 {post : tq_Nn → tq_St → Nat → Prop} {N : tq_Nn} {S : tq_St} {sz sl kl kd ek i d0 c0 : Nat} {v : Int32} (hL : tq_LK cy z ad N kl kd ek i) (hd0 : N kd d0 = 1) (hc0 : S kd d0 0 = nI c0) (hv0 : ¬ v < 0) (hcv : c0 ≤ v.toNatClampNeg) (hv4 : v.toNatClampNeg ≤ 4000) (hit : ∀ j : Nat, j < c0 → ¬ S kd d0 (j + 1) < 1 → N ek ((S kd d0 (j + 1)).toNatClampNeg - 1) = 1) (hr0 : N 0 0 + 1 ≤ tq_CX) (hr1 : N 0 1 + 4000 ≤ tq_CY) (h : ∀ d1 : Nat, 1 ≤ d1 → d1 ≤ N 0 0 → tq_fr N d1 → ¬ N kd d1 = 1 → post (tq_na N (d1 + 1) kd d1 1 v.toNatClampNeg) (tq_cp S kd d1 (tq_grw (S kd d0) v c0)) d1) : tq_bR kd l yJ7_copyOf_1904c (tq_ws yJ7_copyOf_1904c cJ7_copyOf_1904c 2 (some (.array (.object "java/lang/Object")))) 2 90 D cy z A0 H0 ad N M S sz sl [.ref (ad kd d0), .int v] post := by
  obtain ⟨q1, q2, q3, q4, q5, q6, q7, q8, q8b, q9, q10, q11, q12⟩ := id hL
  refine Met.ofW (cc := cJ7_copyOf_1904c) (maxL := 2) (ret := (some (.array (.object "java/lang/Object")))) (by decide) rfl ?_
  intro p e s m args below meth c s₁ B hml hv
  obtain ⟨rfl, ⟨hW, hK, hG⟩, rfl, rfl, hN1, hN2, hN3, hN4⟩ := hv
  have hN : tq_nb z A0 s N := ⟨hN1, hN2, hN3, hN4⟩
  have hx := B.exec
  have hb := B.bytes
  have hr := B.returns
  have hts := atoms_spec (ws := (tq_ws yJ7_copyOf_1904c cJ7_copyOf_1904c 2 (some (.array (.object "java/lang/Object"))))) B.pre
  have hw : ∀ w ∈ tq_W, w.before _ s = true := fun w h => hts w (List.mem_cons_of_mem _ h)
  have hown : s.vm.findClass RJ7 = some m.cls := findClass_of_methodNamed B.named
  have hlocks := B.notSynchronized
  have hS : va_S (fun q => z ≤ q) s.heap s.heap [] := va_S.rf
  have hl := lv_entry ([.ref (ad kd d0), .int v]) (n := 2) (Nat.le_of_ble_eq_true rfl)
  rw [lg_entry_eq]
  generalize (lg_sl ([.ref (ad kd d0), .int v]) ++ List.replicate (2 - (lg_sl ([.ref (ad kd d0), .int v])).length) Slot.unset).toArray = ls at hl ⊢
  have hl : lv_has ls 2 [(0, .ref (ad kd d0)), (1, .int v)] := hl
  have hW : tq_wd D cy z H0 ad N (tq_mix S M) s.heap := hW
  refine tq_tight (c1 := z + N 0 0 - s.heap.size) (n1 := A0 + N 0 1 - tq_all s.heap) (by omega) (by omega) ?_
  refine lv_aload_n hx hb dJ7_copyOf_1904c_0 rfl (lv_at hl 0 rfl) ?_
  refine lv_iload_n hx hb dJ7_copyOf_1904c_1 rfl (lv_at hl 1 rfl) ?_
  refine lv_aload_n hx hb dJ7_copyOf_1904c_2 rfl (lv_at hl 0 rfl) ?_
  have hcls : s.vm.findClass "[Ljava/lang/Object;" = some (cy 5) := by
    obtain ⟨kA', comp', k1, k2, k3, k4⟩ := (hK.2 5 _ rfl).2
    exact k4
  have hcell : s.heap[ad kd d0]? = some (vp_cell (cy 5) ((S kd d0 0).toNatClampNeg, .inr (.inr (.inr (.inr (fun j => tq_nul ad ek (S kd d0 (j + 1)))))))) := hW.1 kd d0 (.inl (cy 5, (S kd d0 0).toNatClampNeg, .inr (.inr (.inr (.inr (fun j => tq_nul ad ek (S kd d0 (j + 1)))))))) (by rw [tq_mixC _ _ q3]; exact q11 N d0 _ hd0)
  refine va_getC (C := "[Ljava/lang/Object;") hx hb (hml.trans hl.1.symm) hown (hw _ tw_772) hG.2.2.2.2.2.2.2.2.2.2.2.2.2.2.2.1.use (hw _ tw_2149) (hw _ tw_773) (hw _ tw_789) hG.2.2.2.2.2.2.2.2.2.2.2.2.2.2.1 ⟨_, hcell, rfl, hcls⟩ (Nat.le_of_ble_eq_true rfl) (Nat.le_of_ble_eq_true rfl) dJ7_copyOf_1904c_3 ?_
  refine tqb_callSr (kr := kd) (As := [.ref (ad kd d0), .int v, .ref (ad 63 2)]) (rest := []) (kJ7_copyOf3 (kl := kl) (i := i) hL hd0 hc0 hv0 hcv hv4 hit hr0 hr1 h) ⟨hx, hb, hml, hown, hts⟩ (va_cwS 3 hts (tq_goodS tw_790 tw_791 tw_124 tw_792) rfl rfl rfl (by decide +kernel) ⟨(Nat.le_of_ble_eq_true rfl), (Nat.le_of_ble_eq_true rfl)⟩) hK hG hW hS rfl hl.1 rfl (Nat.le_of_ble_eq_true rfl) dJ7_copyOf_1904c_6 hN (fun d1 N1 S1 H locs h hN hW hS => ?_)
  exact tqb_aret (k := kd) (i := d1) hx hb hr (Or.inr ⟨_, rfl⟩) hN h hW hS dJ7_copyOf_1904c_9 hlocks
set_option maxHeartbeats 4000000 in
set_option maxRecDepth 100000 in
theorem kJl_growI {post : tq_Nn → tq_St → Nat → Prop} {N : tq_Nn} {S : tq_St} {sz sl kl kd ek i c0 : Nat} (hL : tq_LK cy z ad N kl kd ek i) (hc0 : c0 ≤ 2500) (hf : (S kl i 1 = 0 ∧ c0 = 0) ∨ (0 < S kl i 1 ∧ N kd (S kl i 1).toNatClampNeg = 1 ∧ S kd (S kl i 1).toNatClampNeg 0 = nI c0 ∧ 0 < c0)) (hit : tq_itm N S kl kd ek i c0) (hr0 : N 0 0 + 1 ≤ tq_CX) (hr1 : N 0 1 + 4000 ≤ tq_CY) (h : ∀ d1 : Nat, 1 ≤ d1 → d1 ≤ N 0 0 → tq_fr N d1 → ¬ N kd d1 = 1 → post (tq_na N (d1 + 1) kd d1 1 (tq_cap c0)) (tq_up (tq_cp S kd d1 (tq_grw (S kd (S kl i 1).toNatClampNeg) (nI (tq_cap c0)) c0)) kl i 1 (nI d1)) d1) : tq_bR kd l yJx4a65c_grow_92f84 (tq_ws yJx4a65c_grow_92f84 cJx4a65c_grow_92f84 4 (some (.array (.object "java/lang/Object")))) 3 130 D cy z A0 H0 ad N M S sz sl [.ref (ad kl i), .int (nI (c0 + 1))] post := by
  obtain ⟨q1, q2, q3, q4, q5, q6, q7, q8, q8b, q9, q10, q11, q12⟩ := id hL
  have hcl : c0 < 2 ^ 31 := by omega
  refine Met.ofW (cc := cJx4a65c_grow_92f84) (maxL := 4) (ret := (some (.array (.object "java/lang/Object")))) (by decide) rfl ?_
  intro p e s m args below meth c s₁ B hml hv
  obtain ⟨rfl, ⟨hW, hK, hG⟩, rfl, rfl, hN1, hN2, hN3, hN4⟩ := hv
  have hN : tq_nb z A0 s N := ⟨hN1, hN2, hN3, hN4⟩
  have hx := B.exec
  have hb := B.bytes
  have hr := B.returns
  have hts := atoms_spec (ws := (tq_ws yJx4a65c_grow_92f84 cJx4a65c_grow_92f84 4 (some (.array (.object "java/lang/Object"))))) B.pre
  have hw : ∀ w ∈ tq_W, w.before _ s = true := fun w h => hts w (List.mem_cons_of_mem _ h)
  have hown : s.vm.findClass RJx4a65c = some m.cls := findClass_of_methodNamed B.named
  have hlocks := B.notSynchronized
  have hS : va_S (fun q => z ≤ q) s.heap s.heap [] := va_S.rf
  have hl := lv_entry ([.ref (ad kl i), .int (nI (c0 + 1))]) (n := 4) (Nat.le_of_ble_eq_true rfl)
  rw [lg_entry_eq]
  generalize (lg_sl ([.ref (ad kl i), .int (nI (c0 + 1))]) ++ List.replicate (4 - (lg_sl ([.ref (ad kl i), .int (nI (c0 + 1))])).length) Slot.unset).toArray = ls at hl ⊢
  have hl : lv_has ls 4 [(0, .ref (ad kl i)), (1, .int (nI (c0 + 1)))] := hl
  have hW : tq_wd D cy z H0 ad N (tq_mix S M) s.heap := hW
  refine tq_tight (c1 := z + N 0 0 - s.heap.size) (n1 := A0 + N 0 1 - tq_all s.heap) (by omega) (by omega) ?_
  refine lv_aload_n hx hb dJx4a65c_grow_92f84_0 rfl (lv_at hl 0 rfl) ?_
  rcases hf with ⟨hf1, rfl⟩ | ⟨hf1, hf2, hf3, hf4⟩
  · refine va_get (v := .ref (ad 0 0)) (ws := [(ad kl i, .inr (0, [.int (S kl i 0), .ref (if S kl i 1 = 0 then ad 0 0 else ad kd (S kl i 1).toNatClampNeg), .int (S kl i 2)]))]) hx hb hw tq_inJl hown hK (tq_one (hW.1 kl i _ (by rw [tq_mixC _ _ q1]; exact q9 _))) 0 rfl rfl 1 (by decide) (hw _ tw_165) (fun _ h9 => h9) (by simp [hf1]) dJx4a65c_grow_92f84_1 ?_
    refine va_tlen (v := 0) hx hb hG.2.2.2.2.2.2.1 hS rfl dJx4a65c_grow_92f84_4 ?_
    refine lv_istore_n (lv' := [(2, .int 0), (0, .ref (ad kl i)), (1, .int (nI (0 + 1)))]) hx hb dJx4a65c_grow_92f84_5 rfl hl (by decide) rfl (fun ls hl => ?_)
    refine lv_iload_n hx hb dJx4a65c_grow_92f84_6 rfl (lv_at hl 0 rfl) ?_
    refine lv_if_gt (tgt := 20) hx hb dJx4a65c_grow_92f84_7 (by decide) (fun q => absurd q (by decide)) (fun _ => ?_)
    refine lv_aload_n hx hb dJx4a65c_grow_92f84_10 rfl (lv_at hl 1 rfl) ?_
    refine va_get (v := .ref (ad 0 0)) (ws := [(ad kl i, .inr (0, [.int (S kl i 0), .ref (if S kl i 1 = 0 then ad 0 0 else ad kd (S kl i 1).toNatClampNeg), .int (S kl i 2)]))]) hx hb hw tq_inJl hown hK (tq_one (hW.1 kl i _ (by rw [tq_mixC _ _ q1]; exact q9 _))) 0 rfl rfl 1 (by decide) (hw _ tw_165) (fun _ h9 => h9) (by simp [hf1]) dJx4a65c_grow_92f84_11 ?_
    refine va_gets hx hb hG.2.2.2.2.2.1 hS hown (hw _ tw_163) (fun _ h9 => h9) dJx4a65c_grow_92f84_14 ?_
    refine lv_acmp_eq (rx := some (ad 0 0)) (ry := some (ad 0 0)) (tgt := 45) hx hb dJx4a65c_grow_92f84_17 (by decide) (fun _ => ?_) (fun q => absurd rfl q)
    refine lv_aload_n hx hb dJx4a65c_grow_92f84_45 rfl (lv_at hl 1 rfl) ?_
    refine lv_bipush (v := 10) hx hb dJx4a65c_grow_92f84_46 (by decide) ?_
    refine lv_iload_n hx hb dJx4a65c_grow_92f84_48 rfl (lv_at hl 2 rfl) ?_
    refine va_mmax hx hb (hml.trans hl.1.symm) hown (hw _ tw_802) (hw _ tw_660) (hw _ tw_132) (hw _ tw_661) (Nat.le_of_ble_eq_true rfl) (Nat.le_of_ble_eq_true rfl) (by have := hN.f (fr := 1) (lo := 60); exact this.1) (by have := hN.f (fr := 1) (lo := 60); exact this.2) dJx4a65c_grow_92f84_49 ?_
    have emax : (if (10 : Int32) < nI (0 + 1) then nI (0 + 1) else 10) = 10 := by decide
    rw [emax]
    refine tqw_anew (kd := kd) (ek := ek) hx hb hown (hw _ tw_803) hK hG hW hS hN q3 q4 q10 q11 (by decide) (n := 10) (by decide) (by decide) hr0 (by omega) dJx4a65c_grow_92f84_52 (fun d1 H1 h1 h2 h3 hN hW hS => ?_)
    have hne : ¬ N kd d1 = 1 := h3 kd q8b.2
    rw [tq_grw_0 (S kd (S kl i 1).toNatClampNeg)] at hW
    have hW : tq_wd D cy z H0 ad (tq_na N (d1 + 1) kd d1 1 (tq_cap 0)) (tq_mix (tq_cp S kd d1 (tq_grw (S kd (S kl i 1).toNatClampNeg) (nI (tq_cap 0)) 0)) M) H1 := hW
    have hN : tq_nb z A0 s (tq_na N (d1 + 1) kd d1 1 (tq_cap 0)) := hN
    show tq_Wb p l e 3 130 s m _ below meth c z A0 (tq_na N (d1 + 1) kd d1 1 (tq_cap 0)) H1 _ _ _
    have hd31 : d1 < 2 ^ 31 := by unfold tq_CX at hr0; omega
    have q9' := (hL.na (d1 + 1) d1 (tq_cap 0)).2.2.2.2.2.2.2.2.2.1
    obtain ⟨S8, eS8⟩ : ∃ S8, S8 = tq_cp S kd d1 (tq_grw (S kd (S kl i 1).toNatClampNeg) (nI (tq_cap 0)) 0) := ⟨_, rfl⟩
    obtain ⟨S9, eS9⟩ : ∃ S9, S9 = tq_up S8 kl i 1 (nI d1) := ⟨_, rfl⟩
    rw [← eS8] at hW
    refine lv_dup_x1 hx hb dJx4a65c_grow_92f84_55 rfl rfl ?_
    refine tq_putG (T1 := tq_mix S9 M) (v := .ref (ad kd d1)) (fs := [.int (S8 kl i 0), .ref (if S8 kl i 1 = 0 then ad 0 0 else ad kd (S8 kl i 1).toNatClampNeg), .int (S8 kl i 2)]) hx hb hw tq_inJl tyJx4a65c tyJx4a65c_ok nmJx4a65c hown hK hW hS (by rw [tq_mixC _ _ q1]; exact q9' _) rfl 1 (by decide) (hw _ tw_165) (fun _ h9 => h9) rfl rfl rfl (by simp) ?_ (by rw [tq_mixC _ _ q1, q9', eS9, tq_up_cell]; simp [upd, nI_ne0 (show 0 < d1 by omega) hd31, nI_clamp hd31]) dJx4a65c_grow_92f84_56 (fun H locs hW hS => ?_)
    · intro k' i' h9
      by_cases hk9 : k' < 64
      · rw [tq_mixC _ _ hk9, tq_mixC _ _ hk9, eS9, tq_up_out h9]
      · rw [tq_mixM _ _ hk9, tq_mixM _ _ hk9]
    refine tqb_aret (k := kd) (i := d1) hx hb hr (Or.inr ⟨_, rfl⟩) hN ?_ hW hS dJx4a65c_grow_92f84_59 hlocks
    rw [eS9, eS8]
    exact h d1 h1 h2 h3 hne
  · refine va_get (v := .ref (ad kd (S kl i 1).toNatClampNeg)) (ws := [(ad kl i, .inr (0, [.int (S kl i 0), .ref (if S kl i 1 = 0 then ad 0 0 else ad kd (S kl i 1).toNatClampNeg), .int (S kl i 2)]))]) hx hb hw tq_inJl hown hK (tq_one (hW.1 kl i _ (by rw [tq_mixC _ _ q1]; exact q9 _))) 0 rfl rfl 1 (by decide) (hw _ tw_165) (fun _ h9 => h9) (by rw [if_neg (fun q9 => by rw [q9] at hf1; exact absurd hf1 (by decide))]; rfl) dJx4a65c_grow_92f84_1 ?_
    refine tq_alen (v := nI c0) hx hb hK hW (by rw [tq_mixC _ _ q3]; exact q11 N _ _ hf2) 5 rfl (by show Int32.ofNat (S kd (S kl i 1).toNatClampNeg 0).toNatClampNeg = nI c0; rw [hf3, nI_clamp hcl]; rfl) dJx4a65c_grow_92f84_4 ?_
    refine lv_istore_n (lv' := [(2, .int (nI c0)), (0, .ref (ad kl i)), (1, .int (nI (c0 + 1)))]) hx hb dJx4a65c_grow_92f84_5 rfl hl (by decide) rfl (fun ls hl => ?_)
    refine lv_iload_n hx hb dJx4a65c_grow_92f84_6 rfl (lv_at hl 0 rfl) ?_
    refine lv_if_gt (tgt := 20) hx hb dJx4a65c_grow_92f84_7 (by decide) (fun _ => ?_) (fun q => absurd (by have := nI_lt (a := 0) (b := c0) hf4 hcl; exact this) q)
    refine lv_iload_n hx hb dJx4a65c_grow_92f84_20 rfl (lv_at hl 0 rfl) ?_
    refine lv_iload_n hx hb dJx4a65c_grow_92f84_21 rfl (lv_at hl 2 rfl) ?_
    refine lv_iload_n hx hb dJx4a65c_grow_92f84_22 rfl (lv_at hl 0 rfl) ?_
    refine lv_isub hx hb dJx4a65c_grow_92f84_23 ?_
    refine lv_iload_n hx hb dJx4a65c_grow_92f84_24 rfl (lv_at hl 0 rfl) ?_
    refine lv_iconst (v := 1) hx hb dJx4a65c_grow_92f84_25 (by decide) ?_
    refine lv_ishr hx hb dJx4a65c_grow_92f84_26 ?_
    have e1 : nI (c0 + 1) - nI c0 = nI 1 := by rw [pk_sub (by omega)]; congr 1; omega
    have e2 : nI c0 >>> ((1 : Int32) &&& 31) = nI (c0 / 2) := by rw [pk_shrN hcl _ 1 (by decide)]
    rw [e1, e2]
    have ecap : tq_cap c0 = c0 + (if c0 / 2 ≤ 1 then 1 else c0 / 2) := by unfold tq_cap; rw [if_neg (by omega)]
    have e3 : nI c0 + (if nI 1 < nI (c0 / 2) then nI (c0 / 2) else nI 1) = nI (tq_cap c0) := by
      rw [ecap]
      by_cases h9 : c0 / 2 ≤ 1
      · rw [if_neg (nI_nlt h9 (by omega)), if_pos h9, nI_add]
      · rw [if_pos (nI_lt (by omega) (by omega)), if_neg h9, nI_add]
    have hcap : tq_cap c0 ≤ 4000 ∧ c0 ≤ tq_cap c0 ∧ 0 < tq_cap c0 := by
      rw [ecap]
      split <;> omega
    refine tqc_callSi (As := [.int (nI c0), .int (nI 1), .int (nI (c0 / 2))]) (rest := []) (kJ8_newLength_cabcc (post := fun u r => u = S ∧ r = nI (tq_cap c0)) (by
      unfold wpJ8_newLength_cabcc
      rw [e3]
      refine ⟨fun q => absurd q (nI_nle hcap.2.2 (by omega)), fun _ => ⟨fun q => ?_, fun _ => ⟨rfl, rfl⟩⟩⟩
      exfalso
      have h5 := Int32.lt_iff_toInt_lt.mp q
      rw [nI_toInt (by omega)] at h5
      have h6 : (2147483639 : Int32).toInt = 2147483639 := by decide
      omega)) ⟨hx, hb, hml, hown, hts⟩ (va_cwS 3 hts (tq_goodS tw_761 tw_762 tw_134 tw_763) rfl rfl rfl (by decide +kernel) ⟨(Nat.le_of_ble_eq_true rfl), (Nat.le_of_ble_eq_true rfl)⟩) hK hG hW hS rfl hl.1 rfl (Nat.le_of_ble_eq_true rfl) dJx4a65c_grow_92f84_27 hN.f (fun r S1 H locs q9' hW hS => ?_)
    rw [q9'.1] at hW
    rw [q9'.2]
    refine lv_istore_n (lv' := [(3, .int (nI (tq_cap c0))), (2, .int (nI c0)), (0, .ref (ad kl i)), (1, .int (nI (c0 + 1)))]) hx hb dJx4a65c_grow_92f84_30 rfl hl (by decide) rfl (fun ls hl => ?_)
    refine lv_aload_n hx hb dJx4a65c_grow_92f84_31 rfl (lv_at hl 2 rfl) ?_
    refine lv_aload_n hx hb dJx4a65c_grow_92f84_32 rfl (lv_at hl 2 rfl) ?_
    refine va_get (v := .ref (ad kd (S kl i 1).toNatClampNeg)) (ws := [(ad kl i, .inr (0, [.int (S kl i 0), .ref (if S kl i 1 = 0 then ad 0 0 else ad kd (S kl i 1).toNatClampNeg), .int (S kl i 2)]))]) hx hb hw tq_inJl hown hK (tq_one (hW.1 kl i _ (by rw [tq_mixC _ _ q1]; exact q9 _))) 0 rfl rfl 1 (by decide) (hw _ tw_165) (fun _ h9 => h9) (by rw [if_neg (fun q9 => by rw [q9] at hf1; exact absurd hf1 (by decide))]; rfl) dJx4a65c_grow_92f84_33 ?_
    refine lv_iload_n hx hb dJx4a65c_grow_92f84_36 rfl (lv_at hl 0 rfl) ?_
    have hcc : (nI (tq_cap c0)).toNatClampNeg = tq_cap c0 := nI_clamp (by omega)
    refine tqb_callSr (kr := kd) (As := [.ref (ad kd (S kl i 1).toNatClampNeg), .int (nI (tq_cap c0))]) (rest := [.ref (ad kl i)]) (kJ7_copyOf2 (kl := kl) (i := i) (c0 := c0) (post := fun N1 S1 d1 => 1 ≤ d1 ∧ d1 ≤ N 0 0 ∧ tq_fr N d1 ∧ ¬ N kd d1 = 1 ∧ N1 = tq_na N (d1 + 1) kd d1 1 (tq_cap c0) ∧ S1 = tq_cp S kd d1 (tq_grw (S kd (S kl i 1).toNatClampNeg) (nI (tq_cap c0)) c0)) hL hf2 hf3 (nI_pos (by omega)) (by rw [hcc]; exact hcap.2.1) (by rw [hcc]; exact hcap.1) hit hr0 hr1 (fun d1 a1 a2 a3 a4 => ⟨a1, a2, a3, a4, by rw [hcc], rfl⟩)) ⟨hx, hb, hml, hown, hts⟩ (va_cwS 2 hts (tq_goodS tw_769 tw_770 tw_124 tw_771) rfl rfl rfl (by decide +kernel) ⟨(Nat.le_of_ble_eq_true rfl), (Nat.le_of_ble_eq_true rfl)⟩) hK hG hW hS rfl hl.1 rfl (Nat.le_of_ble_eq_true rfl) dJx4a65c_grow_92f84_37 hN (fun d1 N1 S1 H1 locs q hN hW hS => ?_)
    obtain ⟨h1, h2, h3, hne, rfl, rfl⟩ := q
    have hd31 : d1 < 2 ^ 31 := by unfold tq_CX at hr0; omega
    have q9' := (hL.na (d1 + 1) d1 (tq_cap c0)).2.2.2.2.2.2.2.2.2.1
    obtain ⟨S8, eS8⟩ : ∃ S8, S8 = tq_cp S kd d1 (tq_grw (S kd (S kl i 1).toNatClampNeg) (nI (tq_cap c0)) c0) := ⟨_, rfl⟩
    obtain ⟨S9, eS9⟩ : ∃ S9, S9 = tq_up S8 kl i 1 (nI d1) := ⟨_, rfl⟩
    rw [← eS8] at hW
    refine lv_dup_x1 hx hb dJx4a65c_grow_92f84_40 rfl rfl ?_
    refine tq_putG (T1 := tq_mix S9 M) (v := .ref (ad kd d1)) (fs := [.int (S8 kl i 0), .ref (if S8 kl i 1 = 0 then ad 0 0 else ad kd (S8 kl i 1).toNatClampNeg), .int (S8 kl i 2)]) hx hb hw tq_inJl tyJx4a65c tyJx4a65c_ok nmJx4a65c hown hK hW hS (by rw [tq_mixC _ _ q1]; exact q9' _) rfl 1 (by decide) (hw _ tw_165) (fun _ h9 => h9) rfl rfl rfl (by simp) ?_ (by rw [tq_mixC _ _ q1, q9', eS9, tq_up_cell]; simp [upd, nI_ne0 (show 0 < d1 by omega) hd31, nI_clamp hd31]) dJx4a65c_grow_92f84_41 (fun H locs hW hS => ?_)
    · intro k' i' h9
      by_cases hk9 : k' < 64
      · rw [tq_mixC _ _ hk9, tq_mixC _ _ hk9, eS9, tq_up_out h9]
      · rw [tq_mixM _ _ hk9, tq_mixM _ _ hk9]
    refine tqb_aret (k := kd) (i := d1) hx hb hr (Or.inr ⟨_, rfl⟩) hN ?_ hW hS dJx4a65c_grow_92f84_44 hlocks
    rw [eS9, eS8]
    exact h d1 h1 h2 h3 hne
set_option maxHeartbeats 4000000 in
set_option maxRecDepth 100000 in
theorem kJl_grow {post : tq_Nn → tq_St → Nat → Prop} {N : tq_Nn} {S : tq_St} {sz sl kl kd ek i c0 : Nat} (hsz : S kl i 2 = nI c0) (hL : tq_LK cy z ad N kl kd ek i) (hc0 : c0 ≤ 2500) (hf : (S kl i 1 = 0 ∧ c0 = 0) ∨ (0 < S kl i 1 ∧ N kd (S kl i 1).toNatClampNeg = 1 ∧ S kd (S kl i 1).toNatClampNeg 0 = nI c0 ∧ 0 < c0)) (hit : tq_itm N S kl kd ek i c0) (hr0 : N 0 0 + 1 ≤ tq_CX) (hr1 : N 0 1 + 4000 ≤ tq_CY) (h : ∀ d1 : Nat, 1 ≤ d1 → d1 ≤ N 0 0 → tq_fr N d1 → ¬ N kd d1 = 1 → post (tq_na N (d1 + 1) kd d1 1 (tq_cap c0)) (tq_up (tq_cp S kd d1 (tq_grw (S kd (S kl i 1).toNatClampNeg) (nI (tq_cap c0)) c0)) kl i 1 (nI d1)) d1) : tq_bR kd l yJx4a65c_grow_d5877 (tq_ws yJx4a65c_grow_d5877 cJx4a65c_grow_d5877 1 (some (.array (.object "java/lang/Object")))) 4 160 D cy z A0 H0 ad N M S sz sl [.ref (ad kl i)] post := by
  obtain ⟨q1, q2, q3, q4, q5, q6, q7, q8, q8b, q9, q10, q11, q12⟩ := id hL
  refine Met.ofW (cc := cJx4a65c_grow_d5877) (maxL := 1) (ret := (some (.array (.object "java/lang/Object")))) (by decide) rfl ?_
  intro p e s m args below meth c s₁ B hml hv
  obtain ⟨rfl, ⟨hW, hK, hG⟩, rfl, rfl, hN1, hN2, hN3, hN4⟩ := hv
  have hN : tq_nb z A0 s N := ⟨hN1, hN2, hN3, hN4⟩
  have hx := B.exec
  have hb := B.bytes
  have hr := B.returns
  have hts := atoms_spec (ws := (tq_ws yJx4a65c_grow_d5877 cJx4a65c_grow_d5877 1 (some (.array (.object "java/lang/Object"))))) B.pre
  have hw : ∀ w ∈ tq_W, w.before _ s = true := fun w h => hts w (List.mem_cons_of_mem _ h)
  have hown : s.vm.findClass RJx4a65c = some m.cls := findClass_of_methodNamed B.named
  have hlocks := B.notSynchronized
  have hS : va_S (fun q => z ≤ q) s.heap s.heap [] := va_S.rf
  have hl := lv_entry ([.ref (ad kl i)]) (n := 1) (Nat.le_of_ble_eq_true rfl)
  rw [lg_entry_eq]
  generalize (lg_sl ([.ref (ad kl i)]) ++ List.replicate (1 - (lg_sl ([.ref (ad kl i)])).length) Slot.unset).toArray = ls at hl ⊢
  have hl : lv_has ls 1 [(0, .ref (ad kl i))] := hl
  have hW : tq_wd D cy z H0 ad N (tq_mix S M) s.heap := hW
  refine tq_tight (c1 := z + N 0 0 - s.heap.size) (n1 := A0 + N 0 1 - tq_all s.heap) (by omega) (by omega) ?_
  refine lv_aload_n hx hb dJx4a65c_grow_d5877_0 rfl (lv_at hl 0 rfl) ?_
  refine lv_aload_n hx hb dJx4a65c_grow_d5877_1 rfl (lv_at hl 0 rfl) ?_
  refine va_get (v := .int (nI c0)) (ws := [(ad kl i, .inr (0, [.int (S kl i 0), .ref (if S kl i 1 = 0 then ad 0 0 else ad kd (S kl i 1).toNatClampNeg), .int (S kl i 2)]))]) hx hb hw tq_inJl hown hK (tq_one (hW.1 kl i _ (by rw [tq_mixC _ _ q1]; exact q9 _))) 0 rfl rfl 2 (by decide) (hw _ tw_166) (fun _ h9 => h9) (by rw [hsz]; rfl) dJx4a65c_grow_d5877_2 ?_
  refine lv_iconst (v := 1) hx hb dJx4a65c_grow_d5877_5 (by decide) ?_
  refine lv_iadd hx hb dJx4a65c_grow_d5877_6 ?_
  rw [nI_1]
  refine tqb_callVr (kr := kd) (C := RJx4a65c) (As := [.int (nI (c0 + 1))]) (rest := []) (kJl_growI (ek := ek) hL hc0 hf hit hr0 hr1 h) ⟨hx, hb, hml, hown, hts⟩ (cwV 1 hts (tq_goodV tw_757 tw_759 tw_16 tw_118 tw_760) rfl rfl rfl (by decide +kernel) ⟨(Nat.le_of_ble_eq_true rfl), (Nat.le_of_ble_eq_true rfl)⟩) (tq_recvL hK hW q1 (q9 _)) hK hG hW hS rfl hl.1 rfl (Nat.le_of_ble_eq_true rfl) dJx4a65c_grow_d5877_7 hN (fun d1 N1 S1 H locs h hN hW hS => ?_)
  exact tqb_aret (k := kd) (i := d1) hx hb hr (Or.inr ⟨_, rfl⟩) hN h hW hS dJx4a65c_grow_d5877_10 hlocks
end
theorem tq_nul_up {ad : Nat → Nat → Nat} {ek n v : Nat} {f : Nat → Int32} (hv : v ≤ tq_CX) : (fun j => tq_nul ad ek (upd f (n + 1) (nI (v + 1)) (j + 1))) = va_up (fun j => tq_nul ad ek (f (j + 1))) n (some (ad ek v)) := by
  have hv31 : v + 1 < 2 ^ 31 := by unfold tq_CX at hv; omega
  funext j
  by_cases h : j = n
  · subst h
    have h1 : ¬ nI (v + 1) < 1 := nI_nlt (a := v + 1) (b := 1) (by omega) hv31
    simp only [va_up, upd, if_true, tq_nul, if_neg h1, nI_clamp hv31]
    rfl
  · have h2 : ¬ j + 1 = n + 1 := by omega
    simp only [va_up, upd, if_neg h, if_neg h2]
theorem tq_addA {N : tq_Nn} {S : tq_St} {kl kd i n c v : Nat} {x : Int32} (hne : kl ≠ kd) (hl : tq_lst N S kl kd i n c) (hn : n < c) : tq_added N S kl kd i v N (tq_up (tq_up (tq_up S kl i 0 x) kd (S kl i 1).toNatClampNeg (n + 1) (nI (v + 1))) kl i 2 (nI (n + 1))) := by
  obtain ⟨a1, a2, a3, a4⟩ := id hl
  obtain ⟨d, hd⟩ : ∃ d, d = (S kl i 1).toNatClampNeg := ⟨_, rfl⟩
  obtain ⟨S1, eS1⟩ : ∃ S1, S1 = tq_up (tq_up (tq_up S kl i 0 x) kd (S kl i 1).toNatClampNeg (n + 1) (nI (v + 1))) kl i 2 (nI (n + 1)) := ⟨_, rfl⟩
  rw [← eS1]
  rw [← hd] at eS1
  have hne' : ¬ kd = kl := fun q => hne q.symm
  have b1 : S1 kl i 1 = S kl i 1 := by rw [eS1]; simp [tq_up, hne]
  have b2 : S1 kl i 2 = nI (n + 1) := by rw [eS1]; simp [tq_up]
  have b3 : ∀ q, ¬ q = n + 1 → S1 kd d q = S kd d q := fun q hq => by rw [eS1]; simp [tq_up, hne', hq]
  have b4 : S1 kd d (n + 1) = nI (v + 1) := by rw [eS1]; simp [tq_up, hne']
  refine ⟨n, c, c, hl, ⟨b2, by omega, a3, ?_⟩, fun j hj => ?_, ?_, fun k' i' h1 h2 => ?_, Or.inl ⟨rfl, rfl, hn, b1⟩⟩
  · rw [b1, ← hd]
    rw [← hd] at a4
    rcases a4 with a4 | ⟨c1, c2, c3, c4⟩
    · omega
    · exact Or.inr ⟨c1, c2, by rw [b3 0 (by omega)]; exact c3, c4⟩
  · rw [b1, ← hd]
    exact b3 _ (by omega)
  · rw [b1, ← hd]
    exact b4
  · rw [b1, ← hd] at h2
    funext q
    rw [eS1]
    simp only [tq_up]
    rw [if_neg (fun z => h1 ⟨z.1, z.2.1⟩), if_neg (fun z => h2 ⟨z.1, z.2.1⟩), if_neg (fun z => h1 ⟨z.1, z.2.1⟩)]
theorem tq_addB {N : tq_Nn} {S : tq_St} {kl kd i c v d1 : Nat} {x : Int32} (hne : kl ≠ kd) (hk0 : kl ≠ 0) (hkd0 : kd ≠ 0) (hl : tq_lst N S kl kd i c c) (hc : c ≤ 2500) (h1 : 1 ≤ d1) (h2 : d1 ≤ N 0 0) (h22 : N 0 0 ≤ tq_CX) (h3 : tq_fr N d1) (hnk : ¬ N kd d1 = 1) : tq_added N S kl kd i v (tq_na N (d1 + 1) kd d1 1 (tq_cap c)) (tq_up (tq_up (tq_up (tq_cp (tq_up S kl i 0 x) kd d1 (tq_grw (tq_up S kl i 0 x kd (tq_up S kl i 0 x kl i 1).toNatClampNeg) (nI (tq_cap c)) c)) kl i 1 (nI d1)) kd d1 (c + 1) (nI (v + 1))) kl i 2 (nI (c + 1))) := by
  obtain ⟨a1, a2, a3, a4⟩ := id hl
  have hd31 : d1 < 2 ^ 31 := by unfold tq_CX at h22; omega
  have hne' : ¬ kd = kl := fun q => hne q.symm
  have e0 : (tq_up S kl i 0 x kl i 1).toNatClampNeg = (S kl i 1).toNatClampNeg := by simp [tq_up]
  have e1 : tq_up S kl i 0 x kd (S kl i 1).toNatClampNeg = S kd (S kl i 1).toNatClampNeg := tq_up_out (fun q => hne' q.1)
  rw [e0, e1]
  obtain ⟨S1, eS1⟩ : ∃ S1, S1 = tq_up (tq_up (tq_up (tq_cp (tq_up S kl i 0 x) kd d1 (tq_grw (S kd (S kl i 1).toNatClampNeg) (nI (tq_cap c)) c)) kl i 1 (nI d1)) kd d1 (c + 1) (nI (v + 1))) kl i 2 (nI (c + 1)) := ⟨_, rfl⟩
  rw [← eS1]
  have hcap : c + 1 ≤ tq_cap c ∧ tq_cap c ≤ 4000 := by
    unfold tq_cap
    split
    · omega
    · split <;> omega
  have b1 : S1 kl i 1 = nI d1 := by rw [eS1]; simp [tq_up, hne]
  have bd : (S1 kl i 1).toNatClampNeg = d1 := by rw [b1, nI_clamp hd31]
  have b2 : S1 kl i 2 = nI (c + 1) := by rw [eS1]; simp [tq_up]
  have b3 : ∀ q, ¬ q = c + 1 → S1 kd d1 q = tq_grw (S kd (S kl i 1).toNatClampNeg) (nI (tq_cap c)) c q := fun q hq => by rw [eS1]; simp [tq_up, tq_cp, hne', hq]
  have b4 : S1 kd d1 (c + 1) = nI (v + 1) := by rw [eS1]; simp [tq_up, hne']
  refine ⟨c, c, tq_cap c, hl, ⟨b2, hcap.1, hcap.2, Or.inr ⟨?_, ?_, ?_, by omega⟩⟩, fun j hj => ?_, ?_, fun k' i' g1 g2 => ?_, Or.inr ⟨rfl, rfl, by rw [bd]; exact h3, by rw [bd]; exact h2, by rw [bd]⟩⟩
  · rw [b1]
    exact nI_lt (a := 0) (b := d1) (by omega) hd31
  · rw [bd]
    exact tq_na_self _ _ _ _ _ _ hkd0
  · rw [bd, b3 0 (by omega)]
    rfl
  · rw [bd, b3 _ (by omega)]
    simp only [tq_grw]
    rw [if_neg (by omega), if_pos (by omega)]
  · rw [bd]
    exact b4
  · rw [bd] at g2
    funext q
    rw [eS1]
    simp only [tq_up, tq_cp]
    rw [if_neg (fun z => g1 ⟨z.1, z.2.1⟩), if_neg (fun z => g2 ⟨z.1, z.2.1⟩), if_neg (fun z => g1 ⟨z.1, z.2.1⟩), if_neg g2]
    simp only [tq_up]
    rw [if_neg (fun z => g1 ⟨z.1, z.2.1⟩)]
section
variable {l : Launch} {D : va_G} {cy : Nat → ClassId} {z A0 : Nat} {H0 : Heap} {ad : Nat → Nat → Nat} {M : tq_St}
set_option maxHeartbeats 4000000 in
set_option maxRecDepth 100000 in
theorem bJl_add3 {p : Program} {e : Env} {s : State} {m : MethodId} {args : Array Value} {below : List Frame} {meth : Method} {c : Code} {post : tq_Nn → tq_St → Prop} {N : tq_Nn} {S : tq_St} {kl kd ek i n c0 v d : Nat} {H : Heap} {locs : List Loc} {ls : Array Slot} (C : tq_At p s m meth c args cJx4a65c_add_72be8 4 none (tq_ws yJx4a65c_add_72be8 cJx4a65c_add_72be8 4 none) RJx4a65c D cy z ad) (hL : tq_LK cy z ad N kl kd ek i) (hnd : N kd d = 1) (hcd : S kd d 0 = nI c0) (hnc : n < c0) (hc4 : c0 ≤ 4000) (hv : N ek v = 1) (hvx : v ≤ tq_CX) (h : post N (tq_up (tq_up S kd d (n + 1) (nI (v + 1))) kl i 2 (nI (n + 1)))) (hN : tq_nb z A0 s N) (hW : tq_wd D cy z H0 ad N (tq_mix S M) H) (hS : va_S (fun q => z ≤ q) s.heap H locs) (hl : lv_has ls 4 [(0, .ref (ad kl i)), (1, .ref (ad ek v)), (2, .ref (ad kd d)), (3, .int (nI n))]) : tq_Wb p l e 5 190 s m args below meth c z A0 N H locs (MQ below (va_Qv (fun (u : tq_Nn × tq_St) => post u.1 u.2) (tq_PB D cy z A0 H0 ad M) (fun q => z ≤ q)) args s (z + tq_CX - s.heap.size) (A0 + tq_CY - tq_all s.heap) (fun q => z ≤ q)) (F0 m 11 ls []) := by
  obtain ⟨hx, hb, hr, hml, hown, hts, hlocks, hK, hG⟩ := id C
  have hw : ∀ w ∈ tq_W, w.before args s = true := fun w h => hts w (List.mem_cons_of_mem _ h)
  obtain ⟨q1, q2, q3, q4, q5, q6, q7, q8, q8b, q9, q10, q11, q12⟩ := id hL
  refine lv_aload_n hx hb dJx4a65c_add_72be8_11 rfl (lv_at hl 2 rfl) ?_
  refine lv_iload_n hx hb dJx4a65c_add_72be8_12 rfl (lv_at hl 3 rfl) ?_
  refine lv_aload_n hx hb dJx4a65c_add_72be8_13 rfl (lv_at hl 1 rfl) ?_
  have hvv := q12 N v (S ek v) hv
  obtain ⟨ci9, vs9, r9, m1, m2, m3⟩ := hvv
  obtain ⟨S8, eS8⟩ : ∃ S8, S8 = tq_up S kd d (n + 1) (nI (v + 1)) := ⟨_, rfl⟩
  refine tq_aastO (T1 := tq_mix S8 M) (E := "java/lang/Object") (kv := ek) (iv := v) (ci := ci9) hx hb hK hW hS (by rw [tq_mixC _ _ q3]; exact q11 N d _ hnd) 5 rfl (by rw [tq_mixC _ _ q6]; exact m1) m2 (hG.2.2.2.2.2.2.2.2.2.2.1 (r9.1, "java/lang/Object") m3) (j := nI n) (by rw [hcd, nI_clamp (by omega)]; exact vp_in_nI hnc (by omega)) ?_ (by rw [tq_mixC _ _ q3, eS8, tq_up_cell, q11 N d _ hnd, tq_nul_up hvx, nI_clamp (show n < 2 ^ 31 by omega)]; simp [upd]) dJx4a65c_add_72be8_14 (fun H locs hW hS => ?_)
  · intro k' i' h9
    by_cases hk9 : k' < 64
    · rw [tq_mixC _ _ hk9, tq_mixC _ _ hk9, eS8, tq_up_out h9]
    · rw [tq_mixM _ _ hk9, tq_mixM _ _ hk9]
  refine lv_aload_n hx hb dJx4a65c_add_72be8_15 rfl (lv_at hl 0 rfl) ?_
  refine lv_iload_n hx hb dJx4a65c_add_72be8_16 rfl (lv_at hl 3 rfl) ?_
  refine lv_iconst (v := 1) hx hb dJx4a65c_add_72be8_17 (by decide) ?_
  refine lv_iadd hx hb dJx4a65c_add_72be8_18 ?_
  rw [nI_1]
  obtain ⟨S9, eS9⟩ : ∃ S9, S9 = tq_up S8 kl i 2 (nI (n + 1)) := ⟨_, rfl⟩
  refine tq_putG (T1 := tq_mix S9 M) (v := .int (nI (n + 1))) (fs := [.int (S8 kl i 0), .ref (if S8 kl i 1 = 0 then ad 0 0 else ad kd (S8 kl i 1).toNatClampNeg), .int (S8 kl i 2)]) hx hb hw tq_inJl tyJx4a65c tyJx4a65c_ok nmJx4a65c hown hK hW hS (by rw [tq_mixC _ _ q1]; exact q9 _) rfl 2 (by decide) (hw _ tw_166) (fun _ h9 => h9) rfl rfl rfl (by simp) ?_ (by rw [tq_mixC _ _ q1, q9, eS9, tq_up_cell]; rfl) dJx4a65c_add_72be8_19 (fun H locs hW hS => ?_)
  · intro k' i' h9
    by_cases hk9 : k' < 64
    · rw [tq_mixC _ _ hk9, tq_mixC _ _ hk9, eS9, tq_up_out h9]
    · rw [tq_mixM _ _ hk9, tq_mixM _ _ hk9]
  refine tqb_vret hx hb hr hN ?_ hW hS dJx4a65c_add_72be8_22 hlocks
  rw [eS9, eS8]
  exact h
set_option maxHeartbeats 4000000 in
set_option maxRecDepth 100000 in
theorem kJl_add3 {post : tq_Nn → tq_St → Prop} {N : tq_Nn} {S : tq_St} {sz sl kl kd ek i n c0 v : Nat} (hL : tq_LK cy z ad N kl kd ek i) (hlst : tq_lst N S kl kd i n c0) (hc25 : c0 ≤ 2500) (hv : N ek v = 1) (hvx : v ≤ tq_CX) (hit : tq_itm N S kl kd ek i n) (hr0 : N 0 0 + 1 ≤ tq_CX) (hr1 : N 0 1 + 4000 ≤ tq_CY) (hA : n < c0 → post N (tq_up (tq_up S kd (S kl i 1).toNatClampNeg (n + 1) (nI (v + 1))) kl i 2 (nI (n + 1)))) (hB : n = c0 → ∀ d1 : Nat, 1 ≤ d1 → d1 ≤ N 0 0 → tq_fr N d1 → ¬ N kd d1 = 1 → post (tq_na N (d1 + 1) kd d1 1 (tq_cap c0)) (tq_up (tq_up (tq_up (tq_cp S kd d1 (tq_grw (S kd (S kl i 1).toNatClampNeg) (nI (tq_cap c0)) c0)) kl i 1 (nI d1)) kd d1 (n + 1) (nI (v + 1))) kl i 2 (nI (n + 1)))) : tq_bV l yJx4a65c_add_72be8 (tq_ws yJx4a65c_add_72be8 cJx4a65c_add_72be8 4 none) 5 190 D cy z A0 H0 ad N M S sz sl [.ref (ad kl i), .ref (ad ek v), .ref (if S kl i 1 = 0 then ad 0 0 else ad kd (S kl i 1).toNatClampNeg), .int (nI n)] post := by
  obtain ⟨q1, q2, q3, q4, q5, q6, q7, q8, q8b, q9, q10, q11, q12⟩ := id hL
  obtain ⟨a1, a2, a3, a4⟩ := id hlst
  have hcl : c0 < 2 ^ 31 := by omega
  refine Met.ofW (cc := cJx4a65c_add_72be8) (maxL := 4) (ret := none) (by decide) rfl ?_
  intro p e s m args below meth c s₁ B hml hv
  obtain ⟨rfl, ⟨hW, hK, hG⟩, rfl, rfl, hN1, hN2, hN3, hN4⟩ := hv
  have hN : tq_nb z A0 s N := ⟨hN1, hN2, hN3, hN4⟩
  have hx := B.exec
  have hb := B.bytes
  have hr := B.returns
  have hts := atoms_spec (ws := (tq_ws yJx4a65c_add_72be8 cJx4a65c_add_72be8 4 none)) B.pre
  have hw : ∀ w ∈ tq_W, w.before _ s = true := fun w h => hts w (List.mem_cons_of_mem _ h)
  have hown : s.vm.findClass RJx4a65c = some m.cls := findClass_of_methodNamed B.named
  have hlocks := B.notSynchronized
  have hS : va_S (fun q => z ≤ q) s.heap s.heap [] := va_S.rf
  have hl := lv_entry ([.ref (ad kl i), .ref (ad ek v), .ref (if S kl i 1 = 0 then ad 0 0 else ad kd (S kl i 1).toNatClampNeg), .int (nI n)]) (n := 4) (Nat.le_of_ble_eq_true rfl)
  rw [lg_entry_eq]
  generalize (lg_sl ([.ref (ad kl i), .ref (ad ek v), .ref (if S kl i 1 = 0 then ad 0 0 else ad kd (S kl i 1).toNatClampNeg), .int (nI n)]) ++ List.replicate (4 - (lg_sl ([.ref (ad kl i), .ref (ad ek v), .ref (if S kl i 1 = 0 then ad 0 0 else ad kd (S kl i 1).toNatClampNeg), .int (nI n)])).length) Slot.unset).toArray = ls at hl ⊢
  have hl : lv_has ls 4 [(0, .ref (ad kl i)), (1, .ref (ad ek v)), (2, .ref (if S kl i 1 = 0 then ad 0 0 else ad kd (S kl i 1).toNatClampNeg)), (3, .int (nI n))] := hl
  have hW : tq_wd D cy z H0 ad N (tq_mix S M) s.heap := hW
  refine tq_tight (c1 := z + N 0 0 - s.heap.size) (n1 := A0 + N 0 1 - tq_all s.heap) (by omega) (by omega) ?_
  have C : tq_At p s m meth c [.ref (ad kl i), .ref (ad ek v), .ref (if S kl i 1 = 0 then ad 0 0 else ad kd (S kl i 1).toNatClampNeg), .int (nI n)].toArray cJx4a65c_add_72be8 4 none (tq_ws yJx4a65c_add_72be8 cJx4a65c_add_72be8 4 none) RJx4a65c D cy z ad := ⟨hx, hb, hr, hml, hown, hts, hlocks, hK, hG⟩
  refine lv_iload_n hx hb dJx4a65c_add_72be8_0 rfl (lv_at hl 3 rfl) ?_
  refine lv_aload_n hx hb dJx4a65c_add_72be8_1 rfl (lv_at hl 2 rfl) ?_
  have hlen : ∀ (k : tq_Wb p l e 5 190 s m [.ref (ad kl i), .ref (ad ek v), .ref (if S kl i 1 = 0 then ad 0 0 else ad kd (S kl i 1).toNatClampNeg), .int (nI n)].toArray below meth c z A0 N s.heap [] (MQ below (va_Qv (fun (u : tq_Nn × tq_St) => post u.1 u.2) (tq_PB D cy z A0 H0 ad M) (fun q => z ≤ q)) [.ref (ad kl i), .ref (ad ek v), .ref (if S kl i 1 = 0 then ad 0 0 else ad kd (S kl i 1).toNatClampNeg), .int (nI n)].toArray s (z + tq_CX - s.heap.size) (A0 + tq_CY - tq_all s.heap) (fun q => z ≤ q)) (F0 m 3 ls [.int (nI c0), .int (nI n)])), tq_Wb p l e 5 190 s m [.ref (ad kl i), .ref (ad ek v), .ref (if S kl i 1 = 0 then ad 0 0 else ad kd (S kl i 1).toNatClampNeg), .int (nI n)].toArray below meth c z A0 N s.heap [] (MQ below (va_Qv (fun (u : tq_Nn × tq_St) => post u.1 u.2) (tq_PB D cy z A0 H0 ad M) (fun q => z ≤ q)) [.ref (ad kl i), .ref (ad ek v), .ref (if S kl i 1 = 0 then ad 0 0 else ad kd (S kl i 1).toNatClampNeg), .int (nI n)].toArray s (z + tq_CX - s.heap.size) (A0 + tq_CY - tq_all s.heap) (fun q => z ≤ q)) (F0 m 2 ls [.ref (if S kl i 1 = 0 then ad 0 0 else ad kd (S kl i 1).toNatClampNeg), .int (nI n)]) := fun k => by
    rcases a4 with ⟨f1, f2⟩ | ⟨f1, f2, f3, f4⟩
    · subst f2
      refine W.eq (g2 := F0 m 2 ls [.ref (ad 0 0), .int (nI n)]) (by rw [if_pos f1]) ?_
      exact va_tlen (v := nI 0) hx hb hG.2.2.2.2.2.2.1 hS rfl dJx4a65c_add_72be8_2 k
    · refine W.eq (g2 := F0 m 2 ls [.ref (ad kd (S kl i 1).toNatClampNeg), .int (nI n)]) (by rw [if_neg (fun q9 => by rw [q9] at f1; exact absurd f1 (by decide))]) ?_
      exact tq_alen (v := nI c0) hx hb hK hW (by rw [tq_mixC _ _ q3]; exact q11 N _ _ f2) 5 rfl (by show Int32.ofNat (S kd (S kl i 1).toNatClampNeg 0).toNatClampNeg = nI c0; rw [f3, nI_clamp hcl]; rfl) dJx4a65c_add_72be8_2 k
  refine hlen ?_
  refine lv_icmp_ne (tgt := 11) hx hb dJx4a65c_add_72be8_3 (by decide) (fun hq => ?_) (fun hq => ?_)
  · have hnc : n < c0 := by
      rcases Nat.lt_or_ge n c0 with h9 | h9
      · exact h9
      · exact absurd (by rw [show n = c0 by omega]) hq
    rcases a4 with ⟨f1, f2⟩ | ⟨f1, f2, f3, f4⟩
    · omega
    · have f0 : ¬ S kl i 1 = 0 := fun q9 => by rw [q9] at f1; exact absurd f1 (by decide)
      rw [if_neg f0] at hl
      exact bJl_add3 C hL f2 f3 hnc (by omega) hv hvx (hA hnc) hN hW hS (lv_sub hl [0, 1, 2, 3] rfl)
  · have hnc : n = c0 := (nI_eq (by omega) hcl).mp hq
    refine lv_aload_n hx hb dJx4a65c_add_72be8_6 rfl (lv_at hl 0 rfl) ?_
    refine tqb_callVr (kr := kd) (C := RJx4a65c) (As := []) (rest := []) (kJl_grow (ek := ek) (c0 := c0) (post := fun N1 S1 d1 => 1 ≤ d1 ∧ d1 ≤ N 0 0 ∧ tq_fr N d1 ∧ ¬ N kd d1 = 1 ∧ N1 = tq_na N (d1 + 1) kd d1 1 (tq_cap c0) ∧ S1 = tq_up (tq_cp S kd d1 (tq_grw (S kd (S kl i 1).toNatClampNeg) (nI (tq_cap c0)) c0)) kl i 1 (nI d1)) (by rw [a1, hnc]) hL hc25 a4 (by rw [← hnc]; exact hit) hr0 hr1 (fun d1 b1 b2 b3 b4 => ⟨b1, b2, b3, b4, rfl, rfl⟩)) ⟨hx, hb, hml, hown, hts⟩ (cwV 0 hts (tq_goodV tw_753 tw_755 tw_15 tw_118 tw_756) rfl rfl rfl (by decide +kernel) ⟨(Nat.le_of_ble_eq_true rfl), (Nat.le_of_ble_eq_true rfl)⟩) (tq_recvL hK hW q1 (q9 _)) hK hG hW hS rfl hl.1 rfl (Nat.le_of_ble_eq_true rfl) dJx4a65c_add_72be8_7 hN (fun d1 N1 S1 H locs q hN hW hS => ?_)
    obtain ⟨h1, h2, h3, hne, rfl, rfl⟩ := q
    have hd31 : d1 < 2 ^ 31 := by unfold tq_CX at hr0; omega
    have hcap : c0 + 1 ≤ tq_cap c0 ∧ tq_cap c0 ≤ 4000 := by
      unfold tq_cap
      split
      · omega
      · split <;> omega
    refine lv_astore_n (lv' := [(2, .ref (ad kd d1)), (0, .ref (ad kl i)), (1, .ref (ad ek v)), (3, .int (nI n))]) hx hb dJx4a65c_add_72be8_10 rfl hl (by decide) rfl (fun ls hl => ?_)
    refine bJl_add3 (d := d1) (c0 := tq_cap c0) C (hL.na _ _ _) (tq_na_self _ _ _ _ _ _ q4) ?_ (by omega) hcap.2 (by rw [tq_na_ne q7 (fun q => q8 q.1)]; exact hv) hvx (hB hnc d1 h1 h2 h3 hne) hN hW hS (lv_sub hl [1, 2, 0, 3] rfl)
    rw [tq_up_out (fun q => q5 q.1.symm), tq_cp_self]
    rfl
set_option maxHeartbeats 4000000 in
set_option maxRecDepth 100000 in
theorem kJl_add {post : tq_Nn → tq_St → Int32 → Prop} {N : tq_Nn} {S : tq_St} {sz sl kl kd ek i v : Nat} (hL : tq_LK cy z ad N kl kd ek i) (hok : tq_aok N S kl kd ek i v) (h : ∀ (N1 : tq_Nn) (S1 : tq_St), tq_added N S kl kd i v N1 S1 → post N1 S1 1) : tq_bI l yJx4a65c_add_9ea2d (tq_ws yJx4a65c_add_9ea2d cJx4a65c_add_9ea2d 2 (some .boolean)) 6 220 D cy z A0 H0 ad N M S sz sl [.ref (ad kl i), .ref (ad ek v)] post := by
  obtain ⟨q1, q2, q3, q4, q5, q6, q7, q8, q8b, q9, q10, q11, q12⟩ := id hL
  obtain ⟨n, c0, hlst, hc25, hv, hvx, hit, hr0, hr1⟩ := hok
  obtain ⟨a1, a2, a3, a4⟩ := id hlst
  refine Met.ofW (cc := cJx4a65c_add_9ea2d) (maxL := 2) (ret := (some .boolean)) (by decide) rfl ?_
  intro p e s m args below meth c s₁ B hml hv
  obtain ⟨rfl, ⟨hW, hK, hG⟩, rfl, rfl, hN1, hN2, hN3, hN4⟩ := hv
  have hN : tq_nb z A0 s N := ⟨hN1, hN2, hN3, hN4⟩
  have hx := B.exec
  have hb := B.bytes
  have hr := B.returns
  have hts := atoms_spec (ws := (tq_ws yJx4a65c_add_9ea2d cJx4a65c_add_9ea2d 2 (some .boolean))) B.pre
  have hw : ∀ w ∈ tq_W, w.before _ s = true := fun w h => hts w (List.mem_cons_of_mem _ h)
  have hown : s.vm.findClass RJx4a65c = some m.cls := findClass_of_methodNamed B.named
  have hlocks := B.notSynchronized
  have hS : va_S (fun q => z ≤ q) s.heap s.heap [] := va_S.rf
  have hl := lv_entry ([.ref (ad kl i), .ref (ad ek v)]) (n := 2) (Nat.le_of_ble_eq_true rfl)
  rw [lg_entry_eq]
  generalize (lg_sl ([.ref (ad kl i), .ref (ad ek v)]) ++ List.replicate (2 - (lg_sl ([.ref (ad kl i), .ref (ad ek v)])).length) Slot.unset).toArray = ls at hl ⊢
  have hl : lv_has ls 2 [(0, .ref (ad kl i)), (1, .ref (ad ek v))] := hl
  have hW : tq_wd D cy z H0 ad N (tq_mix S M) s.heap := hW
  refine tq_tight (c1 := z + N 0 0 - s.heap.size) (n1 := A0 + N 0 1 - tq_all s.heap) (by omega) (by omega) ?_
  refine lv_aload_n hx hb dJx4a65c_add_9ea2d_0 rfl (lv_at hl 0 rfl) ?_
  refine lv_dup hx hb dJx4a65c_add_9ea2d_1 rfl ?_
  refine va_get (v := .int (S kl i 0)) (ws := [(ad kl i, .inr (0, [.int (S kl i 0), .ref (if S kl i 1 = 0 then ad 0 0 else ad kd (S kl i 1).toNatClampNeg), .int (S kl i 2)]))]) hx hb hw tq_inJl hown hK (tq_one (hW.1 kl i _ (by rw [tq_mixC _ _ q1]; exact q9 _))) 0 rfl rfl 0 (by decide) (hw _ tw_168) (fun x h9 => u_same (hw _ tw_169) x h9) rfl dJx4a65c_add_9ea2d_2 ?_
  refine lv_iconst (v := 1) hx hb dJx4a65c_add_9ea2d_5 (by decide) ?_
  refine lv_iadd hx hb dJx4a65c_add_9ea2d_6 ?_
  obtain ⟨S0, eS0⟩ : ∃ S0, S0 = tq_up S kl i 0 (S kl i 0 + 1) := ⟨_, rfl⟩
  refine tq_putG (T1 := tq_mix S0 M) (v := .int (S kl i 0 + 1)) (fs := [.int (S kl i 0), .ref (if S kl i 1 = 0 then ad 0 0 else ad kd (S kl i 1).toNatClampNeg), .int (S kl i 2)]) hx hb hw tq_inJl tyJx4a65c tyJx4a65c_ok nmJx4a65c hown hK hW hS (by rw [tq_mixC _ _ q1]; exact q9 _) rfl 0 (by decide) (hw _ tw_168) (fun x h9 => u_same (hw _ tw_169) x h9) rfl rfl rfl (by simp) ?_ (by rw [tq_mixC _ _ q1, q9, eS0, tq_up_cell]; rfl) dJx4a65c_add_9ea2d_7 (fun H locs hW hS => ?_)
  · intro k' i' h9
    by_cases hk9 : k' < 64
    · rw [tq_mixC _ _ hk9, tq_mixC _ _ hk9, eS0, tq_up_out h9]
    · rw [tq_mixM _ _ hk9, tq_mixM _ _ hk9]
  have z1 : S0 kl i 1 = S kl i 1 := by rw [eS0, tq_up_cell]; rfl
  have z2 : S0 kl i 2 = S kl i 2 := by rw [eS0, tq_up_cell]; rfl
  have zd : ∀ d9 : Nat, S0 kd d9 = S kd d9 := fun d9 => by rw [eS0, tq_up_out (fun q => q5 q.1.symm)]
  have hlst0 : tq_lst N S0 kl kd i n c0 := by
    unfold tq_lst
    rw [z1, z2, zd]
    exact hlst
  have hit0 : tq_itm N S0 kl kd ek i n := by
    unfold tq_itm
    rw [z1, zd]
    exact hit
  refine lv_aload_n hx hb dJx4a65c_add_9ea2d_10 rfl (lv_at hl 0 rfl) ?_
  refine lv_aload_n hx hb dJx4a65c_add_9ea2d_11 rfl (lv_at hl 1 rfl) ?_
  refine lv_aload_n hx hb dJx4a65c_add_9ea2d_12 rfl (lv_at hl 0 rfl) ?_
  refine va_get (v := .ref (if S0 kl i 1 = 0 then ad 0 0 else ad kd (S0 kl i 1).toNatClampNeg)) (ws := [(ad kl i, .inr (0, [.int (S0 kl i 0), .ref (if S0 kl i 1 = 0 then ad 0 0 else ad kd (S0 kl i 1).toNatClampNeg), .int (S0 kl i 2)]))]) hx hb hw tq_inJl hown hK (tq_one (hW.1 kl i _ (by rw [tq_mixC _ _ q1]; exact q9 _))) 0 rfl rfl 1 (by decide) (hw _ tw_165) (fun _ h9 => h9) rfl dJx4a65c_add_9ea2d_13 ?_
  refine lv_aload_n hx hb dJx4a65c_add_9ea2d_16 rfl (lv_at hl 0 rfl) ?_
  refine va_get (v := .int (nI n)) (ws := [(ad kl i, .inr (0, [.int (S0 kl i 0), .ref (if S0 kl i 1 = 0 then ad 0 0 else ad kd (S0 kl i 1).toNatClampNeg), .int (S0 kl i 2)]))]) hx hb hw tq_inJl hown hK (tq_one (hW.1 kl i _ (by rw [tq_mixC _ _ q1]; exact q9 _))) 0 rfl rfl 2 (by decide) (hw _ tw_166) (fun _ h9 => h9) (by rw [z2, a1]; rfl) dJx4a65c_add_9ea2d_17 ?_
  refine tqb_callVv (C := RJx4a65c) (As := [.ref (ad ek v), .ref (if S0 kl i 1 = 0 then ad 0 0 else ad kd (S0 kl i 1).toNatClampNeg), .int (nI n)]) (rest := []) (kJl_add3 (n := n) (c0 := c0) (post := fun N1 S1 => tq_added N S kl kd i v N1 S1) hL hlst0 hc25 hv hvx hit0 hr0 hr1 (fun hnc => by rw [z1, eS0]; exact tq_addA q5 hlst hnc) (fun hnc d1 b1 b2 b3 b4 => by subst hnc; rw [eS0]; exact tq_addB q5 q2 q4 hlst hc25 b1 b2 (by omega) b3 b4)) ⟨hx, hb, hml, hown, hts⟩ (cwV 3 hts (tq_goodV tw_749 tw_751 tw_14 tw_118 tw_752) rfl rfl rfl (by decide +kernel) ⟨(Nat.le_of_ble_eq_true rfl), (Nat.le_of_ble_eq_true rfl)⟩) (tq_recvL hK hW q1 (q9 _)) hK hG hW hS rfl hl.1 rfl (Nat.le_of_ble_eq_true rfl) dJx4a65c_add_9ea2d_20 hN (fun N1 S1 H locs q hN hW hS => ?_)
  refine lv_iconst (v := 1) hx hb dJx4a65c_add_9ea2d_23 (by decide) ?_
  exact tqb_zret hx hb hr rfl hN (h N1 S1 q) hW hS dJx4a65c_add_9ea2d_24 hlocks
end
