theorem tq_cpR_lo {f : Nat → Int32} {p n j : Nat} (h : j < p) : tq_cpR f f p (p + 1) n (j + 1) = f (j + 1) := by
  rw [tq_cpR_1]
  simp only [va_cpy]
  rw [if_neg (by omega)]
theorem tq_cpR_hi {f : Nat → Int32} {p n j : Nat} (h1 : p ≤ j) (h2 : j < p + n) : tq_cpR f f p (p + 1) n (j + 1 + 1) = f (j + 1) := by
  rw [tq_cpR_1]
  simp only [va_cpy]
  rw [if_pos (by omega)]
  congr 1
  omega
theorem tq_atA {N : tq_Nn} {S : tq_St} {kl kd i n c p v : Nat} {x : Int32} (hne : kl ≠ kd) (hl : tq_lst N S kl kd i n c) (hn : n < c) (hp : p ≤ n) : tq_addedAt N S kl kd i p v N (tq_up (tq_up (tq_cp (tq_up S kl i 0 x) kd (S kl i 1).toNatClampNeg (tq_cpR (tq_up S kl i 0 x kd (S kl i 1).toNatClampNeg) (tq_up S kl i 0 x kd (S kl i 1).toNatClampNeg) p (p + 1) (n - p))) kd (S kl i 1).toNatClampNeg (p + 1) (nI (v + 1))) kl i 2 (nI (n + 1))) := by
  obtain ⟨a1, a2, a3, a4⟩ := id hl
  obtain ⟨d, hd⟩ : ∃ d, d = (S kl i 1).toNatClampNeg := ⟨_, rfl⟩
  have hne' : ¬ kd = kl := fun q => hne q.symm
  rw [← hd, show tq_up S kl i 0 x kd d = S kd d from tq_up_out (fun q => hne' q.1)]
  obtain ⟨S1, eS1⟩ : ∃ S1, S1 = tq_up (tq_up (tq_cp (tq_up S kl i 0 x) kd d (tq_cpR (S kd d) (S kd d) p (p + 1) (n - p))) kd d (p + 1) (nI (v + 1))) kl i 2 (nI (n + 1)) := ⟨_, rfl⟩
  rw [← eS1]
  have b1 : S1 kl i 1 = S kl i 1 := by rw [eS1]; simp [tq_up, tq_cp, hne]
  have b2 : S1 kl i 2 = nI (n + 1) := by rw [eS1]; simp [tq_up]
  have b3 : ∀ q, ¬ q = p + 1 → S1 kd d q = tq_cpR (S kd d) (S kd d) p (p + 1) (n - p) q := fun q hq => by rw [eS1]; simp [tq_up, tq_cp, hne', hq]
  have b4 : S1 kd d (p + 1) = nI (v + 1) := by rw [eS1]; simp [tq_up, hne']
  refine ⟨n, c, c, hl, ⟨b2, by omega, a3, ?_⟩, fun j hj => ?_, ?_, fun j hj1 hj2 => ?_, fun k' i' h1 h2 => ?_, Or.inl ⟨rfl, rfl, hn, b1⟩⟩
  · rw [b1, ← hd]
    rw [← hd] at a4
    rcases a4 with a4 | ⟨c1, c2, c3, c4⟩
    · omega
    · exact Or.inr ⟨c1, c2, by rw [b3 0 (by omega)]; exact c3, c4⟩
  · rw [b1, ← hd, b3 _ (by omega)]
    exact tq_cpR_lo hj
  · rw [b1, ← hd]
    exact b4
  · rw [b1, ← hd, b3 _ (by omega)]
    exact tq_cpR_hi hj1 (by omega)
  · rw [b1, ← hd] at h2
    funext q
    rw [eS1]
    simp only [tq_up, tq_cp]
    rw [if_neg (fun z => h1 ⟨z.1, z.2.1⟩), if_neg (fun z => h2 ⟨z.1, z.2.1⟩), if_neg h2]
    simp only [tq_up]
    rw [if_neg (fun z => h1 ⟨z.1, z.2.1⟩)]
theorem tq_atB {N : tq_Nn} {S : tq_St} {kl kd i c p v d1 : Nat} {x : Int32} (hne : kl ≠ kd) (hk0 : kl ≠ 0) (hkd0 : kd ≠ 0) (hl : tq_lst N S kl kd i c c) (hc : c ≤ 2500) (hp : p ≤ c) (h1 : 1 ≤ d1) (h2 : d1 ≤ N 0 0) (h22 : N 0 0 ≤ tq_CX) (h3 : tq_fr N d1) {S8 : tq_St} (e8 : S8 = tq_up (tq_cp (tq_up S kl i 0 x) kd d1 (tq_grw (tq_up S kl i 0 x kd (tq_up S kl i 0 x kl i 1).toNatClampNeg) (nI (tq_cap c)) c)) kl i 1 (nI d1)) : tq_addedAt N S kl kd i p v (tq_na N (d1 + 1) kd d1 1 (tq_cap c)) (tq_up (tq_up (tq_cp S8 kd d1 (tq_cpR (S8 kd d1) (S8 kd d1) p (p + 1) (c - p))) kd d1 (p + 1) (nI (v + 1))) kl i 2 (nI (c + 1))) := by
  obtain ⟨a1, a2, a3, a4⟩ := id hl
  have hd31 : d1 < 2 ^ 31 := by unfold tq_CX at h22; omega
  have hne' : ¬ kd = kl := fun q => hne q.symm
  have e0 : (tq_up S kl i 0 x kl i 1).toNatClampNeg = (S kl i 1).toNatClampNeg := by simp [tq_up]
  have e1 : tq_up S kl i 0 x kd (S kl i 1).toNatClampNeg = S kd (S kl i 1).toNatClampNeg := tq_up_out (fun q => hne' q.1)
  rw [e0, e1] at e8
  have e9 : S8 kd d1 = tq_grw (S kd (S kl i 1).toNatClampNeg) (nI (tq_cap c)) c := by rw [e8, tq_up_out (fun q => hne' q.1), tq_cp_self]
  rw [e9]
  obtain ⟨g, hg⟩ : ∃ g, g = tq_grw (S kd (S kl i 1).toNatClampNeg) (nI (tq_cap c)) c := ⟨_, rfl⟩
  rw [← hg]
  obtain ⟨S1, eS1⟩ : ∃ S1, S1 = tq_up (tq_up (tq_cp S8 kd d1 (tq_cpR g g p (p + 1) (c - p))) kd d1 (p + 1) (nI (v + 1))) kl i 2 (nI (c + 1)) := ⟨_, rfl⟩
  rw [← eS1]
  have hcap : c + 1 ≤ tq_cap c ∧ tq_cap c ≤ 4000 := by
    unfold tq_cap
    split
    · omega
    · split <;> omega
  have hgj : ∀ j : Nat, j < c → g (j + 1) = S kd (S kl i 1).toNatClampNeg (j + 1) := fun j hj => by
    rw [hg]
    simp only [tq_grw]
    rw [if_neg (by omega), if_pos (by omega)]
  have b1 : S1 kl i 1 = nI d1 := by rw [eS1, e8]; simp [tq_up, tq_cp, hne]
  have bd : (S1 kl i 1).toNatClampNeg = d1 := by rw [b1, nI_clamp hd31]
  have b2 : S1 kl i 2 = nI (c + 1) := by rw [eS1]; simp [tq_up]
  have b3 : ∀ q, ¬ q = p + 1 → S1 kd d1 q = tq_cpR g g p (p + 1) (c - p) q := fun q hq => by rw [eS1]; simp [tq_up, tq_cp, hne', hq]
  have b4 : S1 kd d1 (p + 1) = nI (v + 1) := by rw [eS1]; simp [tq_up, hne']
  refine ⟨c, c, tq_cap c, hl, ⟨b2, hcap.1, hcap.2, Or.inr ⟨?_, ?_, ?_, by omega⟩⟩, fun j hj => ?_, ?_, fun j hj1 hj2 => ?_, fun k' i' g1 g2 => ?_, Or.inr ⟨rfl, rfl, by rw [bd]; exact h3, by rw [bd]; exact h2, by rw [bd]⟩⟩
  · rw [b1]
    exact nI_lt (a := 0) (b := d1) (by omega) hd31
  · rw [bd]
    exact tq_na_self _ _ _ _ _ _ hkd0
  · rw [bd, b3 0 (by omega), tq_cpR_0, hg]
    rfl
  · rw [bd, b3 _ (by omega), tq_cpR_lo hj]
    exact hgj j (by omega)
  · rw [bd]
    exact b4
  · rw [bd, b3 _ (by omega), tq_cpR_hi hj1 (by omega)]
    exact hgj j hj2
  · rw [bd] at g2
    funext q
    rw [eS1]
    simp only [tq_up, tq_cp]
    rw [if_neg (fun z => g1 ⟨z.1, z.2.1⟩), if_neg (fun z => g2 ⟨z.1, z.2.1⟩), if_neg g2, e8]
    simp only [tq_up, tq_cp]
    rw [if_neg (fun z => g1 ⟨z.1, z.2.1⟩), if_neg g2]
    simp only [tq_up]
    rw [if_neg (fun z => g1 ⟨z.1, z.2.1⟩)]
section
variable {l : Launch} {D : va_G} {cy : Nat → ClassId} {z A0 : Nat} {H0 : Heap} {ad : Nat → Nat → Nat} {M : tq_St}
set_option maxHeartbeats 4000000 in
set_option maxRecDepth 100000 in
theorem kJl_rangeA {post : tq_St → Prop} {N : tq_Nn} {S : tq_St} {kl i d9 : Nat} {j : Int32} (hk : kl < 64) (he : tq_mk cy ad N kl i (S kl i) = some (.inr (0, [.int (S kl i 0), .ref d9, .int (S kl i 2)]))) (h1 : ¬ S kl i 2 < j) (h2 : 0 ≤ j) (h : post S) : tq_sV l yJx4a65c_rangeCheckForAdd_d00df (tq_ws yJx4a65c_rangeCheckForAdd_d00df cJx4a65c_rangeCheckForAdd_d00df 2 none) 0 0 D cy z H0 ad N M S [.ref (ad kl i), .int j] post := by
  refine Met.ofW (cc := cJx4a65c_rangeCheckForAdd_d00df) (maxL := 2) (ret := none) (by decide) rfl ?_
  intro p e s m args below meth c s₁ B hml hv
  obtain ⟨rfl, hW, hK, hG⟩ := hv
  have hx := B.exec
  have hb := B.bytes
  have hr := B.returns
  have hts := atoms_spec (ws := tq_ws yJx4a65c_rangeCheckForAdd_d00df cJx4a65c_rangeCheckForAdd_d00df 2 none) B.pre
  have hw : ∀ w ∈ tq_W, w.before _ s = true := fun w h => hts w (List.mem_cons_of_mem _ h)
  have hown : s.vm.findClass RJx4a65c = some m.cls := findClass_of_methodNamed B.named
  have hlocks := B.notSynchronized
  have hS : va_S (fun q => z ≤ q) s.heap s.heap [] := va_S.rf
  have hl := lv_entry ([.ref (ad kl i), .int j]) (n := 2) (Nat.le_of_ble_eq_true rfl)
  rw [lg_entry_eq]
  generalize (lg_sl ([.ref (ad kl i), .int j]) ++ List.replicate (2 - (lg_sl ([.ref (ad kl i), .int j])).length) Slot.unset).toArray = ls at hl ⊢
  have hl : lv_has ls 2 [(0, .ref (ad kl i)), (1, .int j)] := hl
  have hW : tq_wd D cy z H0 ad N (tq_mix S M) s.heap := hW
  refine lv_iload_n hx hb dJx4a65c_rangeCheckForAdd_d00df_0 rfl (lv_at hl 1 rfl) ?_
  refine lv_aload_n hx hb dJx4a65c_rangeCheckForAdd_d00df_1 rfl (lv_at hl 0 rfl) ?_
  refine va_get (ws := [(ad kl i, .inr (0, [.int (S kl i 0), .ref d9, .int (S kl i 2)]))]) hx hb hw tq_inJl hown hK (tq_one (hW.1 kl i _ (by rw [tq_mixC S M hk]; exact he))) 0 rfl rfl 2 (by decide) (hw _ tw_166) (fun _ h9 => h9) rfl dJx4a65c_rangeCheckForAdd_d00df_2 ?_
  refine lv_icmp_gt (tgt := 12) hx hb dJx4a65c_rangeCheckForAdd_d00df_5 (by decide) (fun q => absurd q h1) (fun _ => ?_)
  refine lv_iload_n hx hb dJx4a65c_rangeCheckForAdd_d00df_8 rfl (lv_at hl 1 rfl) ?_
  refine lv_if_ge (tgt := 25) hx hb dJx4a65c_rangeCheckForAdd_d00df_9 (by decide) (fun _ => ?_) (fun q => absurd h2 q)
  exact W.vret hx hb hr (fun t ht hWm => ⟨⟨S, rfl, h, tq_pe ht hW⟩, hS.F ht⟩) hS.2.2 dJx4a65c_rangeCheckForAdd_d00df_25
set_option maxHeartbeats 4000000 in
set_option maxRecDepth 100000 in
theorem bJl_addAt {p : Program} {e : Env} {s : State} {m : MethodId} {args : Array Value} {below : List Frame} {meth : Method} {c : Code} {post : tq_Nn → tq_St → Prop} {N : tq_Nn} {S : tq_St} {kl kd ek i n c0 v d p9 : Nat} {H : Heap} {locs : List Loc} {ls : Array Slot} (C : tq_At p s m meth c args cJx4a65c_add_7a177 5 none (tq_ws yJx4a65c_add_7a177 cJx4a65c_add_7a177 5 none) RJx4a65c D cy z ad) (hL : tq_LK cy z ad N kl kd ek i) (hnd : N kd d = 1) (hcd : S kd d 0 = nI c0) (hnc : n < c0) (hc4 : c0 ≤ 4000) (hp : p9 ≤ n) (hv : N ek v = 1) (hvx : v ≤ tq_CX) (hit : ∀ j : Nat, j < n → ¬ S kd d (j + 1) < 1 → N ek ((S kd d (j + 1)).toNatClampNeg - 1) = 1) (h : post N (tq_up (tq_up (tq_cp S kd d (tq_cpR (S kd d) (S kd d) p9 (p9 + 1) (n - p9))) kd d (p9 + 1) (nI (v + 1))) kl i 2 (nI (n + 1)))) (hN : tq_nb z A0 s N) (hW : tq_wd D cy z H0 ad N (tq_mix S M) H) (hS : va_S (fun q => z ≤ q) s.heap H locs) (hl : lv_has ls 5 [(0, .ref (ad kl i)), (1, .int (nI p9)), (2, .ref (ad ek v)), (3, .int (nI n)), (4, .ref (ad kd d))]) : tq_Wb p l e 5 190 s m args below meth c z A0 N H locs (MQ below (va_Qv (fun (u : tq_Nn × tq_St) => post u.1 u.2) (tq_PB D cy z A0 H0 ad M) (fun q => z ≤ q)) args s (z + tq_CX - s.heap.size) (A0 + tq_CY - tq_all s.heap) (fun q => z ≤ q)) (F0 m 38 ls []) := by
  obtain ⟨hx, hb, hr, hml, hown, hts, hlocks, hK, hG⟩ := id C
  have hw : ∀ w ∈ tq_W, w.before args s = true := fun w h => hts w (List.mem_cons_of_mem _ h)
  obtain ⟨q1, q2, q3, q4, q5, q6, q7, q8, q8b, q9, q10, q11, q12⟩ := id hL
  refine lv_aload hx hb dJx4a65c_add_7a177_38 (lv_at hl 4 rfl) ?_
  refine lv_iload_n hx hb dJx4a65c_add_7a177_40 rfl (lv_at hl 1 rfl) ?_
  refine lv_aload hx hb dJx4a65c_add_7a177_41 (lv_at hl 4 rfl) ?_
  refine lv_iload_n hx hb dJx4a65c_add_7a177_43 rfl (lv_at hl 1 rfl) ?_
  refine lv_iconst (v := 1) hx hb dJx4a65c_add_7a177_44 (by decide) ?_
  refine lv_iadd hx hb dJx4a65c_add_7a177_45 ?_
  refine lv_iload_n hx hb dJx4a65c_add_7a177_46 rfl (lv_at hl 3 rfl) ?_
  refine lv_iload_n hx hb dJx4a65c_add_7a177_47 rfl (lv_at hl 1 rfl) ?_
  refine lv_isub hx hb dJx4a65c_add_7a177_48 ?_
  rw [nI_1, pk_sub hp]
  have t1 : (nI p9).toNatClampNeg = p9 := nI_clamp (by omega)
  have t2 : (nI (p9 + 1)).toNatClampNeg = p9 + 1 := nI_clamp (by omega)
  have t3 : (nI (n - p9)).toNatClampNeg = n - p9 := nI_clamp (by omega)
  have t4 : (S kd d 0).toNatClampNeg = c0 := by rw [hcd]; exact nI_clamp (by omega)
  refine tq_copyR (kd := kd) (ek := ek) (d0 := d) (d1 := d) hx hb (hml.trans hl.1.symm) hown (hw _ tw_1097) (hw _ tw_801) (hw _ tw_800) (hw _ tw_135) hK hW hS q3 q6 (fun d9 f9 h9 => q11 N d9 f9 h9) hnd hnd (nI_pos (by omega)) (nI_pos (by omega)) (nI_pos (by omega)) (by rw [t1, t3, t4]; omega) (by rw [t2, t3, t4]; omega) (fun j hj hj1 => ?_) (Nat.le_of_ble_eq_true rfl) (Nat.le_of_ble_eq_true rfl) dJx4a65c_add_7a177_49 (fun H locs hW hS => ?_)
  · rw [t3] at hj
    rw [t1] at hj1 ⊢
    obtain ⟨ci, vs, r, r1, r2, r3⟩ := q12 N ((S kd d (p9 + j + 1)).toNatClampNeg - 1) (S ek ((S kd d (p9 + j + 1)).toNatClampNeg - 1)) (hit (p9 + j) (by omega) hj1)
    exact ⟨ci, vs, r, r1, r2, hG.2.2.2.2.2.2.2.2.2.2.1 (r.1, "java/lang/Object") r3⟩
  rw [t1, t2, t3] at hW
  obtain ⟨S7, eS7⟩ : ∃ S7, S7 = tq_cp S kd d (tq_cpR (S kd d) (S kd d) p9 (p9 + 1) (n - p9)) := ⟨_, rfl⟩
  rw [← eS7] at hW h
  have hcd7 : S7 kd d 0 = nI c0 := by rw [eS7, tq_cp_self, tq_cpR_0]; exact hcd
  refine lv_aload hx hb dJx4a65c_add_7a177_52 (lv_at hl 4 rfl) ?_
  refine lv_iload_n hx hb dJx4a65c_add_7a177_54 rfl (lv_at hl 1 rfl) ?_
  refine lv_aload_n hx hb dJx4a65c_add_7a177_55 rfl (lv_at hl 2 rfl) ?_
  have hvv := q12 N v (S7 ek v) hv
  obtain ⟨ci9, vs9, r9, m1, m2, m3⟩ := hvv
  obtain ⟨S8, eS8⟩ : ∃ S8, S8 = tq_up S7 kd d (p9 + 1) (nI (v + 1)) := ⟨_, rfl⟩
  refine tq_aastO (T1 := tq_mix S8 M) (E := "java/lang/Object") (kv := ek) (iv := v) (ci := ci9) hx hb hK hW hS (by rw [tq_mixC _ _ q3]; exact q11 N d _ hnd) 5 rfl (by rw [tq_mixC _ _ q6]; exact m1) m2 (hG.2.2.2.2.2.2.2.2.2.2.1 (r9.1, "java/lang/Object") m3) (j := nI p9) (by rw [hcd7, nI_clamp (by omega)]; exact vp_in_nI (show p9 < c0 by omega) (by omega)) ?_ (by rw [tq_mixC _ _ q3, eS8, tq_up_cell, q11 N d _ hnd, tq_nul_up hvx, nI_clamp (show p9 < 2 ^ 31 by omega)]; simp [upd]) dJx4a65c_add_7a177_56 (fun H locs hW hS => ?_)
  · intro k' i' h9
    by_cases hk9 : k' < 64
    · rw [tq_mixC _ _ hk9, tq_mixC _ _ hk9, eS8, tq_up_out h9]
    · rw [tq_mixM _ _ hk9, tq_mixM _ _ hk9]
  refine lv_aload_n hx hb dJx4a65c_add_7a177_57 rfl (lv_at hl 0 rfl) ?_
  refine lv_iload_n hx hb dJx4a65c_add_7a177_58 rfl (lv_at hl 3 rfl) ?_
  refine lv_iconst (v := 1) hx hb dJx4a65c_add_7a177_59 (by decide) ?_
  refine lv_iadd hx hb dJx4a65c_add_7a177_60 ?_
  rw [nI_1]
  obtain ⟨S9, eS9⟩ : ∃ S9, S9 = tq_up S8 kl i 2 (nI (n + 1)) := ⟨_, rfl⟩
  refine tq_putG (T1 := tq_mix S9 M) (v := .int (nI (n + 1))) (fs := [.int (S8 kl i 0), .ref (if S8 kl i 1 = 0 then ad 0 0 else ad kd (S8 kl i 1).toNatClampNeg), .int (S8 kl i 2)]) hx hb hw tq_inJl tyJx4a65c tyJx4a65c_ok nmJx4a65c hown hK hW hS (by rw [tq_mixC _ _ q1]; exact q9 _) rfl 2 (by decide) (hw _ tw_166) (fun _ h9 => h9) rfl rfl rfl (by simp) ?_ (by rw [tq_mixC _ _ q1, q9, eS9, tq_up_cell]; rfl) dJx4a65c_add_7a177_61 (fun H locs hW hS => ?_)
  · intro k' i' h9
    by_cases hk9 : k' < 64
    · rw [tq_mixC _ _ hk9, tq_mixC _ _ hk9, eS9, tq_up_out h9]
    · rw [tq_mixM _ _ hk9, tq_mixM _ _ hk9]
  refine tqb_vret hx hb hr hN ?_ hW hS dJx4a65c_add_7a177_64 hlocks
  rw [eS9, eS8]
  exact h
set_option maxHeartbeats 4000000 in
set_option maxRecDepth 100000 in
theorem kJl_addAt {post : tq_Nn → tq_St → Prop} {N : tq_Nn} {S : tq_St} {sz sl kl kd ek i v n p9 : Nat} (hL : tq_LK cy z ad N kl kd ek i) (hok : tq_aok N S kl kd ek i v) (hn9 : S kl i 2 = nI n) (hn4 : n ≤ 4000) (hp : p9 ≤ n) (h : ∀ (N1 : tq_Nn) (S1 : tq_St), tq_addedAt N S kl kd i p9 v N1 S1 → post N1 S1) : tq_bV l yJx4a65c_add_7a177 (tq_ws yJx4a65c_add_7a177 cJx4a65c_add_7a177 5 none) 5 190 D cy z A0 H0 ad N M S sz sl [.ref (ad kl i), .int (nI p9), .ref (ad ek v)] post := by
  obtain ⟨q1, q2, q3, q4, q5, q6, q7, q8, q8b, q9, q10, q11, q12⟩ := id hL
  obtain ⟨n', c0, hlst, hc25, hv, hvx, hit, hr0, hr1⟩ := hok
  have hnn : n' = n := by
    have h5 := hlst.1
    have h6 := hlst.2.1
    rw [hn9] at h5
    exact ((nI_eq (by omega) (by omega)).mp h5).symm
  subst hnn
  obtain ⟨a1, a2, a3, a4⟩ := id hlst
  have hcl : c0 < 2 ^ 31 := by omega
  refine Met.ofW (cc := cJx4a65c_add_7a177) (maxL := 5) (ret := none) (by decide) rfl ?_
  intro p e s m args below meth c s₁ B hml hv
  obtain ⟨rfl, ⟨hW, hK, hG⟩, rfl, rfl, hN1, hN2, hN3, hN4⟩ := hv
  have hN : tq_nb z A0 s N := ⟨hN1, hN2, hN3, hN4⟩
  have hx := B.exec
  have hb := B.bytes
  have hr := B.returns
  have hts := atoms_spec (ws := (tq_ws yJx4a65c_add_7a177 cJx4a65c_add_7a177 5 none)) B.pre
  have hw : ∀ w ∈ tq_W, w.before _ s = true := fun w h => hts w (List.mem_cons_of_mem _ h)
  have hown : s.vm.findClass RJx4a65c = some m.cls := findClass_of_methodNamed B.named
  have hlocks := B.notSynchronized
  have hS : va_S (fun q => z ≤ q) s.heap s.heap [] := va_S.rf
  have hl := lv_entry ([.ref (ad kl i), .int (nI p9), .ref (ad ek v)]) (n := 5) (Nat.le_of_ble_eq_true rfl)
  rw [lg_entry_eq]
  generalize (lg_sl ([.ref (ad kl i), .int (nI p9), .ref (ad ek v)]) ++ List.replicate (5 - (lg_sl ([.ref (ad kl i), .int (nI p9), .ref (ad ek v)])).length) Slot.unset).toArray = ls at hl ⊢
  have hl : lv_has ls 5 [(0, .ref (ad kl i)), (1, .int (nI p9)), (2, .ref (ad ek v))] := hl
  have hW : tq_wd D cy z H0 ad N (tq_mix S M) s.heap := hW
  refine tq_tight (c1 := z + N 0 0 - s.heap.size) (n1 := A0 + N 0 1 - tq_all s.heap) (by omega) (by omega) ?_
  have C : tq_At p s m meth c [.ref (ad kl i), .int (nI p9), .ref (ad ek v)].toArray cJx4a65c_add_7a177 5 none (tq_ws yJx4a65c_add_7a177 cJx4a65c_add_7a177 5 none) RJx4a65c D cy z ad := ⟨hx, hb, hr, hml, hown, hts, hlocks, hK, hG⟩
  refine lv_aload_n hx hb dJx4a65c_add_7a177_0 rfl (lv_at hl 0 rfl) ?_
  refine lv_iload_n hx hb dJx4a65c_add_7a177_1 rfl (lv_at hl 1 rfl) ?_
  refine tqc_callVv (C := RJx4a65c) (As := [.int (nI p9)]) (rest := []) (kJl_rangeA (post := fun u => u = S) q1 (q9 _) (by rw [a1]; exact nI_nlt (by omega) (by omega)) (nI_pos' (by omega)) rfl) ⟨hx, hb, hml, hown, hts⟩ (cwV 1 hts (tq_goodV tw_1093 tw_1095 tw_32 tw_118 tw_1096) rfl rfl rfl (by decide +kernel) ⟨(Nat.le_of_ble_eq_true rfl), (Nat.le_of_ble_eq_true rfl)⟩) (tq_recvL hK hW q1 (q9 _)) hK hG hW hS rfl hl.1 rfl (Nat.le_of_ble_eq_true rfl) dJx4a65c_add_7a177_2 hN.f (fun S1 H locs q hW hS => ?_)
  rw [q] at hW
  refine lv_aload_n hx hb dJx4a65c_add_7a177_5 rfl (lv_at hl 0 rfl) ?_
  refine lv_dup hx hb dJx4a65c_add_7a177_6 rfl ?_
  refine va_get (v := .int (S kl i 0)) (ws := [(ad kl i, .inr (0, [.int (S kl i 0), .ref (if S kl i 1 = 0 then ad 0 0 else ad kd (S kl i 1).toNatClampNeg), .int (S kl i 2)]))]) hx hb hw tq_inJl hown hK (tq_one (hW.1 kl i _ (by rw [tq_mixC _ _ q1]; exact q9 _))) 0 rfl rfl 0 (by decide) (hw _ tw_168) (fun x h9 => u_same (hw _ tw_169) x h9) rfl dJx4a65c_add_7a177_7 ?_
  refine lv_iconst (v := 1) hx hb dJx4a65c_add_7a177_10 (by decide) ?_
  refine lv_iadd hx hb dJx4a65c_add_7a177_11 ?_
  obtain ⟨S0, eS0⟩ : ∃ S0, S0 = tq_up S kl i 0 (S kl i 0 + 1) := ⟨_, rfl⟩
  refine tq_putG (T1 := tq_mix S0 M) (v := .int (S kl i 0 + 1)) (fs := [.int (S kl i 0), .ref (if S kl i 1 = 0 then ad 0 0 else ad kd (S kl i 1).toNatClampNeg), .int (S kl i 2)]) hx hb hw tq_inJl tyJx4a65c tyJx4a65c_ok nmJx4a65c hown hK hW hS (by rw [tq_mixC _ _ q1]; exact q9 _) rfl 0 (by decide) (hw _ tw_168) (fun x h9 => u_same (hw _ tw_169) x h9) rfl rfl rfl (by simp) ?_ (by rw [tq_mixC _ _ q1, q9, eS0, tq_up_cell]; rfl) dJx4a65c_add_7a177_12 (fun H locs hW hS => ?_)
  · intro k' i' h9
    by_cases hk9 : k' < 64
    · rw [tq_mixC _ _ hk9, tq_mixC _ _ hk9, eS0, tq_up_out h9]
    · rw [tq_mixM _ _ hk9, tq_mixM _ _ hk9]
  have z1 : S0 kl i 1 = S kl i 1 := by rw [eS0, tq_up_cell]; rfl
  have z2 : S0 kl i 2 = S kl i 2 := by rw [eS0, tq_up_cell]; rfl
  have zd : ∀ d9 : Nat, S0 kd d9 = S kd d9 := fun d9 => by rw [eS0, tq_up_out (fun q => q5 q.1.symm)]
  have hlst0 : tq_lst N S0 kl kd i n' c0 := by
    unfold tq_lst
    rw [z1, z2, zd]
    exact hlst
  have hit0 : tq_itm N S0 kl kd ek i n' := by
    unfold tq_itm
    rw [z1, zd]
    exact hit
  have a40 := hlst0.2.2.2
  refine lv_aload_n hx hb dJx4a65c_add_7a177_15 rfl (lv_at hl 0 rfl) ?_
  refine va_get (v := .int (nI n')) (ws := [(ad kl i, .inr (0, [.int (S0 kl i 0), .ref (if S0 kl i 1 = 0 then ad 0 0 else ad kd (S0 kl i 1).toNatClampNeg), .int (S0 kl i 2)]))]) hx hb hw tq_inJl hown hK (tq_one (hW.1 kl i _ (by rw [tq_mixC _ _ q1]; exact q9 _))) 0 rfl rfl 2 (by decide) (hw _ tw_166) (fun _ h9 => h9) (by rw [z2, a1]; rfl) dJx4a65c_add_7a177_16 ?_
  refine lv_dup hx hb dJx4a65c_add_7a177_19 rfl ?_
  refine lv_istore_n (lv' := [(3, .int (nI n')), (0, .ref (ad kl i)), (1, .int (nI p9)), (2, .ref (ad ek v))]) hx hb dJx4a65c_add_7a177_20 rfl hl (by decide) rfl (fun ls hl => ?_)
  refine lv_aload_n hx hb dJx4a65c_add_7a177_21 rfl (lv_at hl 1 rfl) ?_
  refine va_get (v := .ref (if S0 kl i 1 = 0 then ad 0 0 else ad kd (S0 kl i 1).toNatClampNeg)) (ws := [(ad kl i, .inr (0, [.int (S0 kl i 0), .ref (if S0 kl i 1 = 0 then ad 0 0 else ad kd (S0 kl i 1).toNatClampNeg), .int (S0 kl i 2)]))]) hx hb hw tq_inJl hown hK (tq_one (hW.1 kl i _ (by rw [tq_mixC _ _ q1]; exact q9 _))) 0 rfl rfl 1 (by decide) (hw _ tw_165) (fun _ h9 => h9) rfl dJx4a65c_add_7a177_22 ?_
  refine lv_dup hx hb dJx4a65c_add_7a177_25 rfl ?_
  refine lv_astore (lv' := [(4, .ref (if S0 kl i 1 = 0 then ad 0 0 else ad kd (S0 kl i 1).toNatClampNeg)), (3, .int (nI n')), (0, .ref (ad kl i)), (1, .int (nI p9)), (2, .ref (ad ek v))]) hx hb dJx4a65c_add_7a177_26 hl (by decide) rfl (fun ls hl => ?_)
  have hlen : ∀ (k : tq_Wb p l e 5 190 s m [.ref (ad kl i), .int (nI p9), .ref (ad ek v)].toArray below meth c z A0 N H locs (MQ below (va_Qv (fun (u : tq_Nn × tq_St) => post u.1 u.2) (tq_PB D cy z A0 H0 ad M) (fun q => z ≤ q)) [.ref (ad kl i), .int (nI p9), .ref (ad ek v)].toArray s (z + tq_CX - s.heap.size) (A0 + tq_CY - tq_all s.heap) (fun q => z ≤ q)) (F0 m 29 ls [.int (nI c0), .int (nI n')])), tq_Wb p l e 5 190 s m [.ref (ad kl i), .int (nI p9), .ref (ad ek v)].toArray below meth c z A0 N H locs (MQ below (va_Qv (fun (u : tq_Nn × tq_St) => post u.1 u.2) (tq_PB D cy z A0 H0 ad M) (fun q => z ≤ q)) [.ref (ad kl i), .int (nI p9), .ref (ad ek v)].toArray s (z + tq_CX - s.heap.size) (A0 + tq_CY - tq_all s.heap) (fun q => z ≤ q)) (F0 m 28 ls [.ref (if S0 kl i 1 = 0 then ad 0 0 else ad kd (S0 kl i 1).toNatClampNeg), .int (nI n')]) := fun k => by
    rcases a40 with ⟨f1, f2⟩ | ⟨f1, f2, f3, f4⟩
    · subst f2
      refine W.eq (g2 := F0 m 28 ls [.ref (ad 0 0), .int (nI n')]) (by rw [if_pos f1]) ?_
      exact va_tlen (v := nI 0) hx hb hG.2.2.2.2.2.2.1 hS rfl dJx4a65c_add_7a177_28 k
    · refine W.eq (g2 := F0 m 28 ls [.ref (ad kd (S0 kl i 1).toNatClampNeg), .int (nI n')]) (by rw [if_neg (fun q9 => by rw [q9] at f1; exact absurd f1 (by decide))]) ?_
      exact tq_alen (v := nI c0) hx hb hK hW (by rw [tq_mixC _ _ q3]; exact q11 N _ _ f2) 5 rfl (by show Int32.ofNat (S0 kd (S0 kl i 1).toNatClampNeg 0).toNatClampNeg = nI c0; rw [f3, nI_clamp hcl]; rfl) dJx4a65c_add_7a177_28 k
  refine hlen ?_
  refine lv_icmp_ne (tgt := 38) hx hb dJx4a65c_add_7a177_29 (by decide) (fun hq => ?_) (fun hq => ?_)
  · have hnc : n' < c0 := by
      rcases Nat.lt_or_ge n' c0 with h9 | h9
      · exact h9
      · exact absurd (by rw [show n' = c0 by omega]) hq
    rcases a40 with ⟨f1, f2⟩ | ⟨f1, f2, f3, f4⟩
    · omega
    · have f0 : ¬ S0 kl i 1 = 0 := fun q9 => by rw [q9] at f1; exact absurd f1 (by decide)
      rw [if_neg f0] at hl
      refine bJl_addAt (p9 := p9) (n := n') C hL f2 f3 hnc (by omega) hp hv hvx hit0 ?_ hN hW hS (lv_sub hl [2, 3, 4, 1, 0] rfl)
      refine h _ _ ?_
      rw [z1, eS0]
      exact tq_atA q5 hlst hnc hp
  · have hnc : n' = c0 := (nI_eq (by omega) hcl).mp hq
    refine lv_aload_n hx hb dJx4a65c_add_7a177_32 rfl (lv_at hl 2 rfl) ?_
    refine tqb_callVr (kr := kd) (C := RJx4a65c) (As := []) (rest := []) (kJl_grow (ek := ek) (c0 := c0) (post := fun N1 S1 d1 => 1 ≤ d1 ∧ d1 ≤ N 0 0 ∧ tq_fr N d1 ∧ ¬ N kd d1 = 1 ∧ N1 = tq_na N (d1 + 1) kd d1 1 (tq_cap c0) ∧ S1 = tq_up (tq_cp S0 kd d1 (tq_grw (S0 kd (S0 kl i 1).toNatClampNeg) (nI (tq_cap c0)) c0)) kl i 1 (nI d1)) (by rw [z2, a1, hnc]) hL hc25 a40 (by rw [← hnc]; exact hit0) hr0 hr1 (fun d1 b1 b2 b3 b4 => ⟨b1, b2, b3, b4, rfl, rfl⟩)) ⟨hx, hb, hml, hown, hts⟩ (cwV 0 hts (tq_goodV tw_753 tw_755 tw_15 tw_118 tw_756) rfl rfl rfl (by decide +kernel) ⟨(Nat.le_of_ble_eq_true rfl), (Nat.le_of_ble_eq_true rfl)⟩) (tq_recvL hK hW q1 (q9 _)) hK hG hW hS rfl hl.1 rfl (Nat.le_of_ble_eq_true rfl) dJx4a65c_add_7a177_33 hN (fun d1 N1 S1 H locs q hN hW hS => ?_)
    obtain ⟨h1, h2, h3, hne, rfl, rfl⟩ := q
    have hd31 : d1 < 2 ^ 31 := by unfold tq_CX at hr0; omega
    have hcap : c0 + 1 ≤ tq_cap c0 ∧ tq_cap c0 ≤ 4000 := by
      unfold tq_cap
      split
      · omega
      · split <;> omega
    refine lv_astore (lv' := [(4, .ref (ad kd d1)), (3, .int (nI n')), (0, .ref (ad kl i)), (1, .int (nI p9)), (2, .ref (ad ek v))]) hx hb dJx4a65c_add_7a177_36 hl (by decide) rfl (fun ls hl => ?_)
    obtain ⟨S8, e8⟩ : ∃ S8, S8 = tq_up (tq_cp S0 kd d1 (tq_grw (S0 kd (S0 kl i 1).toNatClampNeg) (nI (tq_cap c0)) c0)) kl i 1 (nI d1) := ⟨_, rfl⟩
    rw [← e8] at hW
    have e9 : S8 kd d1 = tq_grw (S0 kd (S0 kl i 1).toNatClampNeg) (nI (tq_cap c0)) c0 := by rw [e8, tq_up_out (fun q => q5 q.1.symm), tq_cp_self]
    refine bJl_addAt (d := d1) (p9 := p9) (n := n') (c0 := tq_cap c0) C (hL.na _ _ _) (tq_na_self _ _ _ _ _ _ q4) (by rw [e9]; rfl) (by omega) hcap.2 hp (by rw [tq_na_ne q7 (fun q => q8 q.1)]; exact hv) hvx (fun j hj hj1 => ?_) ?_ hN hW hS (lv_sub hl [2, 3, 4, 1, 0] rfl)
    · have e10 : S8 kd d1 (j + 1) = S0 kd (S0 kl i 1).toNatClampNeg (j + 1) := by
        rw [e9]
        simp only [tq_grw]
        rw [if_neg (by omega), if_pos (by omega)]
      rw [e10] at hj1 ⊢
      rw [tq_na_ne q7 (fun q => q8 q.1)]
      exact hit0 j hj hj1
    · refine h _ _ ?_
      subst hnc
      refine tq_atB (x := S kl i 0 + 1) q5 q2 q4 hlst hc25 hp h1 h2 (by omega) h3 ?_
      rw [e8, eS0]
end
