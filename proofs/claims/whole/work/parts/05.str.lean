section
variable {p : Program} {l : Launch} {e : Env} {R : Room} {s : State} {m : MethodId} {args : Array Value} {below : List Frame} {meth : Method} {c : Code} {H : Heap} {locs : List Loc} {cells slots : Nat} {Q : State → Prop}
variable {cc : ByteArray} {pc nL n index maxL fr lo : Nat} {ls : Array Slot} {rest st0 As : List Value} {D : va_G} {cy : Nat → ClassId} {z : Nat} {H0 : Heap} {ad : Nat → Nat → Nat} {N : tq_Nn} {S M : tq_St} {Ts ws : List Cond} {own C : String} {y : MethodName} {bytes : ByteArray} {ret : Option FieldType} {b : Nat}
/-- a call at any receiver -/
theorem tq_callRi {post : tq_St → Int32 → Prop} (hM : tq_mI l y ws fr lo D cy z H0 ad N S M (.ref b :: As) post) (S0 : CallFix p m c cc nL s args Ts own) (cw : CallW R s args own C index y bytes maxL ret ws (tq_rm fr lo) 0 0 n) (hrc : ∃ cellB : Cell, H[b]? = some cellB ∧ cellB.vm.isStatics = false ∧ s.vm.findClass C = some cellB.cls) (hK : va_K D vwCl (tq_tys cy) s) (hG : tq_G z ad s) (hW : tq_wd D cy z H0 ad N (tq_mix S M) H) (hS : va_S (fun q => z ≤ q) s.heap H locs) (hn : As.length = n) (hsize : ls.size = nL) (hst : st0 = As.reverse ++ .ref b :: rest) (hW8 : (rest.map fun v => v.category).sum ≤ 8) (hdg : decode cc pc = .ok (.invokevirtual index, 3)) (hf : cells + 0 ≤ R.cells ∧ slots + 0 ≤ R.slots)
    (kk : ∀ (r : Int32) (M1 : tq_St) (H1 : Heap) (locs1 : List Loc), post M1 r → tq_wd D cy z H0 ad N (tq_mix S M1) H1 → va_S (fun q => z ≤ q) s.heap H1 locs1 → W p l e R s m args below meth c H1 locs1 cells slots Q (F0 m (pc + 3) ls (.int r :: rest))) : W p l e R s m args below meth c H locs cells slots Q (F0 m pc ls st0) := by
  refine va_calli (va_runV (As := As) (rest := rest) S0 hM cw ⟨tq_blind, hrc, fun U hU hW1 => ⟨rfl, by rw [hU]; exact hW, va_K.moved hW1.alike hK, hG.go (fun a h1 h2 => by rw [hU]; exact hS.2.1 a h1 h2) hW1⟩⟩ rfl hn hsize hst (lv_room hW8) hdg hf) hS (fun q _ h => h) (fun q h => h) (fun r u t H1 locs1 ht hvm hw hB hz1 hk1 hS1 => ?_)
  exact kk r u H1 locs1 hw (by rw [← ht]; exact hB) hS1
theorem tq_callSv {post : tq_St → Prop} (hM : tq_mV l y ws fr lo D cy z H0 ad N S M As post) (S0 : CallFix p m c cc nL s args Ts own) (cw : CallB R s args own index y bytes maxL ret ws (tq_rm fr lo) 0 0 n ∧ (Cond.static y).before args s = true) (hK : va_K D vwCl (tq_tys cy) s) (hG : tq_G z ad s) (hW : tq_wd D cy z H0 ad N (tq_mix S M) H) (hS : va_S (fun q => z ≤ q) s.heap H locs) (hn : As.length = n) (hsize : ls.size = nL) (hst : st0 = As.reverse ++ rest) (hW8 : (rest.map fun v => v.category).sum ≤ 8) (hdg : decode cc pc = .ok (.invokestatic index, 3)) (hf : cells + 0 ≤ R.cells ∧ slots + 0 ≤ R.slots)
    (kk : ∀ (M1 : tq_St) (H1 : Heap) (locs1 : List Loc), post M1 → tq_wd D cy z H0 ad N (tq_mix S M1) H1 → va_S (fun q => z ≤ q) s.heap H1 locs1 → W p l e R s m args below meth c H1 locs1 cells slots Q (F0 m (pc + 3) ls rest)) : W p l e R s m args below meth c H locs cells slots Q (F0 m pc ls st0) := by
  refine va_callv (va_runS (As := As) (rest := rest) S0 hM cw ⟨tq_blind, fun U hU hW1 => ⟨rfl, by rw [hU]; exact hW, va_K.moved hW1.alike hK, hG.go (fun a h1 h2 => by rw [hU]; exact hS.2.1 a h1 h2) hW1⟩⟩ rfl hn hsize hst (lv_room hW8) hdg hf) hS (fun q _ h => h) (fun q h => h) (fun u t H1 locs1 ht hvm hw hB hz1 hk1 hS1 => ?_)
  exact kk u H1 locs1 hw (by rw [← ht]; exact hB) hS1
end
variable {l : Launch} {D : va_G} {cy : Nat → ClassId} {z : Nat} {H0 : Heap} {ad : Nat → Nat → Nat} {N : tq_Nn} {S : tq_St}

set_option maxHeartbeats 4000000 in
set_option maxRecDepth 100000 in
theorem kJ3_checkIndex {post : tq_St → Int32 → Prop} {M : tq_St} {i n : Int32} {fv : Value} (hfv : fv = .null ∨ ∃ t : Nat, fv = .ref t) (h : ¬ i < 0 ∧ i < n ∧ post M i) : tq_mI l yJ3_checkIndex_8e157 (tq_ws yJ3_checkIndex_8e157 cJ3_checkIndex_8e157 3 (some .int)) 0 0 D cy z H0 ad N S M [.int i, .int n, fv] post := by
  obtain ⟨h0, h1, h⟩ := h
  rcases hfv with rfl | ⟨t, rfl⟩
  · refine Met.ofW (cc := cJ3_checkIndex_8e157) (maxL := 3) (ret := (some .int)) (by decide) rfl ?_
    intro p e s m args below meth c s₁ B hml hv
    obtain ⟨rfl, hW, hK, hG⟩ := hv
    have hx := B.exec
    have hb := B.bytes
    have hr := B.returns
    have hts := atoms_spec (ws := tq_ws yJ3_checkIndex_8e157 cJ3_checkIndex_8e157 3 (some .int)) B.pre
    have hw : ∀ w ∈ tq_W, w.before _ s = true := fun w h => hts w (List.mem_cons_of_mem _ h)
    have hown : s.vm.findClass RJ3 = some m.cls := findClass_of_methodNamed B.named
    have hlocks := B.notSynchronized
    have hS : va_S (fun q => z ≤ q) s.heap s.heap [] := va_S.rf
    have hl := lv_entry ([.int i, .int n, .null]) (n := 3) (Nat.le_of_ble_eq_true rfl)
    rw [lg_entry_eq]
    generalize (lg_sl ([.int i, .int n, .null]) ++ List.replicate (3 - (lg_sl ([.int i, .int n, .null])).length) Slot.unset).toArray = ls at hl ⊢
    have hl : lv_has ls 3 [(0, .int i), (1, .int n), (2, .null)] := hl
    have hW : tq_wd D cy z H0 ad N (tq_mix S M) s.heap := hW
    refine lv_iload_n hx hb dJ3_checkIndex_8e157_0 rfl (lv_at hl 0 rfl) ?_
    refine lv_if_lt (tgt := 9) hx hb dJ3_checkIndex_8e157_1 (by decide) (fun q => absurd q h0) (fun _ => ?_)
    refine lv_iload_n hx hb dJ3_checkIndex_8e157_4 rfl (lv_at hl 0 rfl) ?_
    refine lv_iload_n hx hb dJ3_checkIndex_8e157_5 rfl (lv_at hl 1 rfl) ?_
    refine lv_icmp_lt (tgt := 16) hx hb dJ3_checkIndex_8e157_6 (by decide) (fun _ => ?_) (fun q => absurd h1 q)
    refine lv_iload_n hx hb dJ3_checkIndex_8e157_16 rfl (lv_at hl 0 rfl) ?_
    exact W.iret (v := i) hx hb hr (fun t ht hWm => ⟨⟨_, M, rfl, h, tq_pe ht hW⟩, hS.F ht⟩) hS.2.2 dJ3_checkIndex_8e157_17
  · refine Met.ofW (cc := cJ3_checkIndex_8e157) (maxL := 3) (ret := (some .int)) (by decide) rfl ?_
    intro p e s m args below meth c s₁ B hml hv
    obtain ⟨rfl, hW, hK, hG⟩ := hv
    have hx := B.exec
    have hb := B.bytes
    have hr := B.returns
    have hts := atoms_spec (ws := tq_ws yJ3_checkIndex_8e157 cJ3_checkIndex_8e157 3 (some .int)) B.pre
    have hw : ∀ w ∈ tq_W, w.before _ s = true := fun w h => hts w (List.mem_cons_of_mem _ h)
    have hown : s.vm.findClass RJ3 = some m.cls := findClass_of_methodNamed B.named
    have hlocks := B.notSynchronized
    have hS : va_S (fun q => z ≤ q) s.heap s.heap [] := va_S.rf
    have hl := lv_entry ([.int i, .int n, .ref t]) (n := 3) (Nat.le_of_ble_eq_true rfl)
    rw [lg_entry_eq]
    generalize (lg_sl ([.int i, .int n, .ref t]) ++ List.replicate (3 - (lg_sl ([.int i, .int n, .ref t])).length) Slot.unset).toArray = ls at hl ⊢
    have hl : lv_has ls 3 [(0, .int i), (1, .int n), (2, .ref t)] := hl
    have hW : tq_wd D cy z H0 ad N (tq_mix S M) s.heap := hW
    refine lv_iload_n hx hb dJ3_checkIndex_8e157_0 rfl (lv_at hl 0 rfl) ?_
    refine lv_if_lt (tgt := 9) hx hb dJ3_checkIndex_8e157_1 (by decide) (fun q => absurd q h0) (fun _ => ?_)
    refine lv_iload_n hx hb dJ3_checkIndex_8e157_4 rfl (lv_at hl 0 rfl) ?_
    refine lv_iload_n hx hb dJ3_checkIndex_8e157_5 rfl (lv_at hl 1 rfl) ?_
    refine lv_icmp_lt (tgt := 16) hx hb dJ3_checkIndex_8e157_6 (by decide) (fun _ => ?_) (fun q => absurd h1 q)
    refine lv_iload_n hx hb dJ3_checkIndex_8e157_16 rfl (lv_at hl 0 rfl) ?_
    exact W.iret (v := i) hx hb hr (fun t ht hWm => ⟨⟨_, M, rfl, h, tq_pe ht hW⟩, hS.F ht⟩) hS.2.2 dJ3_checkIndex_8e157_17
set_option maxHeartbeats 4000000 in
set_option maxRecDepth 100000 in
theorem kJ0_checkIndex {post : tq_St → Prop} {M : tq_St} {i n : Int32} (h : ¬ i < 0 ∧ i < n ∧ post M) : tq_mV l yJ0_checkIndex_df160 (tq_ws yJ0_checkIndex_df160 cJ0_checkIndex_df160 2 none) 1 22 D cy z H0 ad N S M [.int i, .int n] post := by
  refine Met.ofW (cc := cJ0_checkIndex_df160) (maxL := 2) (ret := none) (by decide) rfl ?_
  intro p e s m args below meth c s₁ B hml hv
  obtain ⟨rfl, hW, hK, hG⟩ := hv
  have hx := B.exec
  have hb := B.bytes
  have hr := B.returns
  have hts := atoms_spec (ws := tq_ws yJ0_checkIndex_df160 cJ0_checkIndex_df160 2 none) B.pre
  have hw : ∀ w ∈ tq_W, w.before _ s = true := fun w h => hts w (List.mem_cons_of_mem _ h)
  have hown : s.vm.findClass RJ0 = some m.cls := findClass_of_methodNamed B.named
  have hlocks := B.notSynchronized
  have hS : va_S (fun q => z ≤ q) s.heap s.heap [] := va_S.rf
  have hl := lv_entry ([.int i, .int n]) (n := 2) (Nat.le_of_ble_eq_true rfl)
  rw [lg_entry_eq]
  generalize (lg_sl ([.int i, .int n]) ++ List.replicate (2 - (lg_sl ([.int i, .int n])).length) Slot.unset).toArray = ls at hl ⊢
  have hl : lv_has ls 2 [(0, .int i), (1, .int n)] := hl
  have hW : tq_wd D cy z H0 ad N (tq_mix S M) s.heap := hW
  refine lv_iload_n hx hb dJ0_checkIndex_df160_0 rfl (lv_at hl 0 rfl) ?_
  refine lv_iload_n hx hb dJ0_checkIndex_df160_1 rfl (lv_at hl 1 rfl) ?_
  obtain ⟨-, -, -, -, -, -, -, hq, -⟩ := id hG
  rcases hq with hZ | ⟨t9, hZ⟩
  · refine va_gets hx hb hZ hS hown (hw _ tw_605) (fun _ h9 => h9) dJ0_checkIndex_df160_2 ?_
    refine tq_callSi (As := [.int i, .int n, .null]) (rest := []) (kJ3_checkIndex (post := fun u _ => post u) (Or.inl rfl) h) ⟨hx, hb, hml, hown, hts⟩ (va_cwS 3 hts (tq_goodS tw_607 tw_608 tw_129 tw_609) rfl rfl rfl (by decide +kernel) ⟨(Nat.le_of_ble_eq_true rfl), (Nat.le_of_ble_eq_true rfl)⟩) hK hG hW hS rfl hl.1 rfl (Nat.le_of_ble_eq_true rfl) dJ0_checkIndex_df160_5 ⟨(Nat.le_of_ble_eq_true rfl), (Nat.le_of_ble_eq_true rfl)⟩ (fun r M1 H locs h hW hS => ?_)
    refine lv_pop hx hb dJ0_checkIndex_df160_8 rfl ?_
    exact W.vret hx hb hr (fun t ht hWm => ⟨⟨M1, rfl, h, tq_pe ht hW⟩, hS.F ht⟩) hS.2.2 dJ0_checkIndex_df160_9
  · refine va_gets hx hb hZ hS hown (hw _ tw_605) (fun _ h9 => h9) dJ0_checkIndex_df160_2 ?_
    refine tq_callSi (As := [.int i, .int n, .ref t9]) (rest := []) (kJ3_checkIndex (post := fun u _ => post u) (Or.inr ⟨t9, rfl⟩) h) ⟨hx, hb, hml, hown, hts⟩ (va_cwS 3 hts (tq_goodS tw_607 tw_608 tw_129 tw_609) rfl rfl rfl (by decide +kernel) ⟨(Nat.le_of_ble_eq_true rfl), (Nat.le_of_ble_eq_true rfl)⟩) hK hG hW hS rfl hl.1 rfl (Nat.le_of_ble_eq_true rfl) dJ0_checkIndex_df160_5 ⟨(Nat.le_of_ble_eq_true rfl), (Nat.le_of_ble_eq_true rfl)⟩ (fun r M1 H locs h hW hS => ?_)
    refine lv_pop hx hb dJ0_checkIndex_df160_8 rfl ?_
    exact W.vret hx hb hr (fun t ht hWm => ⟨⟨M1, rfl, h, tq_pe ht hW⟩, hS.F ht⟩) hS.2.2 dJ0_checkIndex_df160_9
/-- the char at k of the text w -/
def tq_ch (w : Nat) (k : Int32) : Int32 := (((tq_byt.getD w []).getD k.toNatClampNeg 0 &&& 255).toUInt32 % 65536).toInt32
theorem tq_lenlt {w : Nat} : tq_len.getD w 0 < 100 := by
  by_cases h : w < tq_len.length
  · have : ∀ x ∈ tq_len, x < 100 := by decide
    rw [List.getD_eq_getElem?_getD, List.getElem?_eq_getElem h]
    exact this _ (List.getElem_mem h)
  · rw [List.getD_eq_getElem?_getD, List.getElem?_eq_none (by omega)]
    decide
theorem tq_inlt {k : Int32} {n : Nat} (h : vp_in k n) (hn : n < 2 ^ 31) : ¬ k < 0 ∧ k < Int32.ofNat n := by
  obtain ⟨j, hj, rfl⟩ := vp_in_of h hn
  exact ⟨nI_pos (by omega), nI_lt hj hn⟩
set_option maxHeartbeats 4000000 in
set_option maxRecDepth 100000 in
theorem kJ1_charAt {post : tq_St → Int32 → Prop} {M : tq_St} {w : Nat} {k : Int32} (h : w < tq_nS ∧ vp_in k (tq_len.getD w 0) ∧ post M (tq_ch w k)) : tq_mI l yJ1_charAt_3b067 (tq_ws yJ1_charAt_3b067 cJ1_charAt_3b067 2 (some .char)) 2 43 D cy z H0 ad N S M [.ref (ad 62 w), .int k] post := by
  obtain ⟨hwn, hk, h⟩ := h
  refine Met.ofW (cc := cJ1_charAt_3b067) (maxL := 2) (ret := (some .char)) (by decide) rfl ?_
  intro p e s m args below meth c s₁ B hml hv
  obtain ⟨rfl, hW, hK, hG⟩ := hv
  have hx := B.exec
  have hb := B.bytes
  have hr := B.returns
  have hts := atoms_spec (ws := tq_ws yJ1_charAt_3b067 cJ1_charAt_3b067 2 (some .char)) B.pre
  have hw : ∀ w ∈ tq_W, w.before _ s = true := fun w h => hts w (List.mem_cons_of_mem _ h)
  have hown : s.vm.findClass RJ1 = some m.cls := findClass_of_methodNamed B.named
  have hlocks := B.notSynchronized
  have hS : va_S (fun q => z ≤ q) s.heap s.heap [] := va_S.rf
  have hl := lv_entry ([.ref (ad 62 w), .int k]) (n := 2) (Nat.le_of_ble_eq_true rfl)
  rw [lg_entry_eq]
  generalize (lg_sl ([.ref (ad 62 w), .int k]) ++ List.replicate (2 - (lg_sl ([.ref (ad 62 w), .int k])).length) Slot.unset).toArray = ls at hl ⊢
  have hl : lv_has ls 2 [(0, .ref (ad 62 w)), (1, .int k)] := hl
  have hW : tq_wd D cy z H0 ad N (tq_mix S M) s.heap := hW
  have hT := (hG.1.1 w hwn).2.2.2
  have hki := tq_inlt hk (Nat.lt_trans tq_lenlt (by decide))
  refine lv_iload_n hx hb dJ1_charAt_3b067_0 rfl (lv_at hl 1 rfl) ?_
  refine lv_aload_n hx hb dJ1_charAt_3b067_1 rfl (lv_at hl 0 rfl) ?_
  refine va_tlen hx hb hT hS rfl dJ1_charAt_3b067_2 ?_
  refine tq_callSv (As := [.int k, .int (Int32.ofNat (tq_len.getD w 0))]) (rest := []) (kJ0_checkIndex (post := fun u => post u (tq_ch w k)) ⟨hki.1, hki.2, h⟩) ⟨hx, hb, hml, hown, hts⟩ (va_cwS 2 hts (tq_goodS tw_602 tw_603 tw_127 tw_604) rfl rfl rfl (by decide +kernel) ⟨(Nat.le_of_ble_eq_true rfl), (Nat.le_of_ble_eq_true rfl)⟩) hK hG hW hS rfl hl.1 rfl (Nat.le_of_ble_eq_true rfl) dJ1_charAt_3b067_3 ⟨(Nat.le_of_ble_eq_true rfl), (Nat.le_of_ble_eq_true rfl)⟩ (fun M1 H locs h hW hS => ?_)
  refine lv_aload_n hx hb dJ1_charAt_3b067_6 rfl (lv_at hl 0 rfl) ?_
  refine lv_iload_n hx hb dJ1_charAt_3b067_7 rfl (lv_at hl 1 rfl) ?_
  refine va_tb hx hb hT hS hk rfl dJ1_charAt_3b067_8 ?_
  refine lv_sipush (v := 255) hx hb dJ1_charAt_3b067_9 (by decide) ?_
  refine lv_iand hx hb dJ1_charAt_3b067_12 ?_
  refine lv_i2c (v := tq_ch w k) hx hb dJ1_charAt_3b067_13 rfl ?_
  exact W.zret (v := tq_ch w k) hx hb hr (pk_nc _) (fun t ht hWm => ⟨⟨_, M1, rfl, h, tq_pe ht hW⟩, hS.F ht⟩) hS.2.2 dJ1_charAt_3b067_14
set_option maxHeartbeats 4000000 in
set_option maxRecDepth 100000 in
theorem kJ0_isLatin1 {post : tq_St → Int32 → Prop} {M : tq_St} {w : Nat} (h : w < tq_nS ∧ post M 1) : tq_mI l yJ0_isLatin1_aae02 (tq_ws yJ0_isLatin1_aae02 cJ0_isLatin1_aae02 1 (some .boolean)) 0 0 D cy z H0 ad N S M [.ref (ad 61 w)] post := by
  obtain ⟨hwn, h⟩ := h
  refine Met.ofW (cc := cJ0_isLatin1_aae02) (maxL := 1) (ret := (some .boolean)) (by decide) rfl ?_
  intro p e s m args below meth c s₁ B hml hv
  obtain ⟨rfl, hW, hK, hG⟩ := hv
  have hx := B.exec
  have hb := B.bytes
  have hr := B.returns
  have hts := atoms_spec (ws := tq_ws yJ0_isLatin1_aae02 cJ0_isLatin1_aae02 1 (some .boolean)) B.pre
  have hw : ∀ w ∈ tq_W, w.before _ s = true := fun w h => hts w (List.mem_cons_of_mem _ h)
  have hown : s.vm.findClass RJ0 = some m.cls := findClass_of_methodNamed B.named
  have hlocks := B.notSynchronized
  have hS : va_S (fun q => z ≤ q) s.heap s.heap [] := va_S.rf
  have hl := lv_entry ([.ref (ad 61 w)]) (n := 1) (Nat.le_of_ble_eq_true rfl)
  rw [lg_entry_eq]
  generalize (lg_sl ([.ref (ad 61 w)]) ++ List.replicate (1 - (lg_sl ([.ref (ad 61 w)])).length) Slot.unset).toArray = ls at hl ⊢
  have hl : lv_has ls 1 [(0, .ref (ad 61 w))] := hl
  have hW : tq_wd D cy z H0 ad N (tq_mix S M) s.heap := hW
  refine va_gets hx hb hG.2.2.1 hS hown (hw _ tw_589) (fun _ h9 => h9) dJ0_isLatin1_aae02_0 ?_
  refine lv_if_eq (tgt := 17) hx hb dJ0_isLatin1_aae02_3 (by decide) (fun q => absurd q (by decide)) (fun _ => ?_)
  refine lv_aload_n hx hb dJ0_isLatin1_aae02_6 rfl (lv_at hl 0 rfl) ?_
  refine vk_getf hx hb (hG.1.1 w hwn).2.1 hS hown (hw _ tw_2159) (fun _ h9 => h9) dJ0_isLatin1_aae02_7 ?_
  refine lv_if_ne (tgt := 17) hx hb dJ0_isLatin1_aae02_10 (by decide) (fun q => absurd rfl q) (fun _ => ?_)
  refine lv_iconst (v := 1) hx hb dJ0_isLatin1_aae02_13 (by decide) ?_
  refine lv_goto (tgt := 18) hx hb dJ0_isLatin1_aae02_14 (by decide) ?_
  exact W.zret (v := 1) hx hb hr rfl (fun t ht hWm => ⟨⟨_, M, rfl, h, tq_pe ht hW⟩, hS.F ht⟩) hS.2.2 dJ0_isLatin1_aae02_18
set_option maxHeartbeats 4000000 in
set_option maxRecDepth 100000 in
theorem kJ0_coder {post : tq_St → Int32 → Prop} {M : tq_St} {w : Nat} (h : w < tq_nS ∧ post M 0) : tq_mI l yJ0_coder_7d493 (tq_ws yJ0_coder_7d493 cJ0_coder_7d493 1 (some .byte)) 0 0 D cy z H0 ad N S M [.ref (ad 61 w)] post := by
  obtain ⟨hwn, h⟩ := h
  refine Met.ofW (cc := cJ0_coder_7d493) (maxL := 1) (ret := (some .byte)) (by decide) rfl ?_
  intro p e s m args below meth c s₁ B hml hv
  obtain ⟨rfl, hW, hK, hG⟩ := hv
  have hx := B.exec
  have hb := B.bytes
  have hr := B.returns
  have hts := atoms_spec (ws := tq_ws yJ0_coder_7d493 cJ0_coder_7d493 1 (some .byte)) B.pre
  have hw : ∀ w ∈ tq_W, w.before _ s = true := fun w h => hts w (List.mem_cons_of_mem _ h)
  have hown : s.vm.findClass RJ0 = some m.cls := findClass_of_methodNamed B.named
  have hlocks := B.notSynchronized
  have hS : va_S (fun q => z ≤ q) s.heap s.heap [] := va_S.rf
  have hl := lv_entry ([.ref (ad 61 w)]) (n := 1) (Nat.le_of_ble_eq_true rfl)
  rw [lg_entry_eq]
  generalize (lg_sl ([.ref (ad 61 w)]) ++ List.replicate (1 - (lg_sl ([.ref (ad 61 w)])).length) Slot.unset).toArray = ls at hl ⊢
  have hl : lv_has ls 1 [(0, .ref (ad 61 w))] := hl
  have hW : tq_wd D cy z H0 ad N (tq_mix S M) s.heap := hW
  refine va_gets hx hb hG.2.2.1 hS hown (hw _ tw_589) (fun _ h9 => h9) dJ0_coder_7d493_0 ?_
  refine lv_if_eq (tgt := 13) hx hb dJ0_coder_7d493_3 (by decide) (fun q => absurd q (by decide)) (fun _ => ?_)
  refine lv_aload_n hx hb dJ0_coder_7d493_6 rfl (lv_at hl 0 rfl) ?_
  refine vk_getf hx hb (hG.1.1 w hwn).2.1 hS hown (hw _ tw_2159) (fun _ h9 => h9) dJ0_coder_7d493_7 ?_
  refine lv_goto (tgt := 14) hx hb dJ0_coder_7d493_10 (by decide) ?_
  exact W.zret (v := 0) hx hb hr rfl (fun t ht hWm => ⟨⟨_, M, rfl, h, tq_pe ht hW⟩, hS.F ht⟩) hS.2.2 dJ0_coder_7d493_14
def wpJ0_length_8abf5 (post : tq_St → Int32 → Prop) (M : tq_St) (w : Nat) : Prop := w < tq_nS ∧ post M (nI (tq_len.getD w 0))
theorem tq_shr0 {n : Nat} (h : n < 2 ^ 31) : nI n >>> ((0 : Int32) &&& 31) = nI n := by
  have := pk_shrN h ((0 : Int32) &&& 31) 0 (by decide)
  simpa using this
set_option maxHeartbeats 4000000 in
set_option maxRecDepth 100000 in
theorem kJ0_length_8abf5 {post : tq_St → Int32 → Prop} {M : tq_St} {w : Nat} (h : wpJ0_length_8abf5 post M w) : tq_mI l yJ0_length_8abf5 (tq_ws yJ0_length_8abf5 cJ0_length_8abf5 1 (some .int)) 1 20 D cy z H0 ad N S M [.ref (ad 61 w)] post := by
  obtain ⟨hwn, h⟩ := h
  refine Met.ofW (cc := cJ0_length_8abf5) (maxL := 1) (ret := (some .int)) (by decide) rfl ?_
  intro p e s m args below meth c s₁ B hml hv
  obtain ⟨rfl, hW, hK, hG⟩ := hv
  have hx := B.exec
  have hb := B.bytes
  have hr := B.returns
  have hts := atoms_spec (ws := tq_ws yJ0_length_8abf5 cJ0_length_8abf5 1 (some .int)) B.pre
  have hw : ∀ w ∈ tq_W, w.before _ s = true := fun w h => hts w (List.mem_cons_of_mem _ h)
  have hown : s.vm.findClass RJ0 = some m.cls := findClass_of_methodNamed B.named
  have hlocks := B.notSynchronized
  have hS : va_S (fun q => z ≤ q) s.heap s.heap [] := va_S.rf
  have hl := lv_entry ([.ref (ad 61 w)]) (n := 1) (Nat.le_of_ble_eq_true rfl)
  rw [lg_entry_eq]
  generalize (lg_sl ([.ref (ad 61 w)]) ++ List.replicate (1 - (lg_sl ([.ref (ad 61 w)])).length) Slot.unset).toArray = ls at hl ⊢
  have hl : lv_has ls 1 [(0, .ref (ad 61 w))] := hl
  have hW : tq_wd D cy z H0 ad N (tq_mix S M) s.heap := hW
  refine lv_aload_n hx hb dJ0_length_8abf5_0 rfl (lv_at hl 0 rfl) ?_
  refine vk_getf hx hb (hG.1.1 w hwn).2.2.1 hS hown (hw _ tw_2158) (fun _ h9 => h9) dJ0_length_8abf5_1 ?_
  refine va_tlen (v := nI (tq_len.getD w 0)) hx hb (hG.1.1 w hwn).2.2.2 hS rfl dJ0_length_8abf5_4 ?_
  refine lv_aload_n hx hb dJ0_length_8abf5_5 rfl (lv_at hl 0 rfl) ?_
  refine tq_callRi (As := []) (rest := [.int (nI (tq_len.getD w 0))]) (kJ0_coder (post := fun u r => r = 0 ∧ post u (nI (tq_len.getD w 0))) ⟨hwn, rfl, h⟩) ⟨hx, hb, hml, hown, hts⟩ (cwV 0 hts (tq_goodV tw_585 tw_586 tw_587 tw_127 tw_588) rfl rfl rfl (by decide +kernel) ⟨(Nat.le_of_ble_eq_true rfl), (Nat.le_of_ble_eq_true rfl)⟩) (vk_recv hG.1 hwn hS) hK hG hW hS rfl hl.1 rfl (Nat.le_of_ble_eq_true rfl) dJ0_length_8abf5_6 ⟨(Nat.le_of_ble_eq_true rfl), (Nat.le_of_ble_eq_true rfl)⟩ (fun r M1 H locs e1 hW hS => ?_)
  obtain ⟨rfl, h⟩ := e1
  refine lv_ishr hx hb dJ0_length_8abf5_9 ?_
  rw [tq_shr0 (Nat.lt_trans tq_lenlt (by decide))]
  exact W.iret (v := nI (tq_len.getD w 0)) hx hb hr (fun t ht hWm => ⟨⟨_, M1, rfl, h, tq_pe ht hW⟩, hS.F ht⟩) hS.2.2 dJ0_length_8abf5_10
def wpJ0_charAt_5068e (post : tq_St → Int32 → Prop) (M : tq_St) (w : Nat) (k : Int32) : Prop := w < tq_nS ∧ vp_in k (tq_len.getD w 0) ∧ post M (tq_ch w k)
set_option maxHeartbeats 4000000 in
set_option maxRecDepth 100000 in
theorem kJ0_charAt_5068e {post : tq_St → Int32 → Prop} {M : tq_St} {w : Nat} {k : Int32} (h : wpJ0_charAt_5068e post M w k) : tq_mI l yJ0_charAt_5068e (tq_ws yJ0_charAt_5068e cJ0_charAt_5068e 2 (some .char)) 3 64 D cy z H0 ad N S M [.ref (ad 61 w), .int k] post := by
  obtain ⟨hwn, hk, h⟩ := h
  refine Met.ofW (cc := cJ0_charAt_5068e) (maxL := 2) (ret := (some .char)) (by decide) rfl ?_
  intro p e s m args below meth c s₁ B hml hv
  obtain ⟨rfl, hW, hK, hG⟩ := hv
  have hx := B.exec
  have hb := B.bytes
  have hr := B.returns
  have hts := atoms_spec (ws := tq_ws yJ0_charAt_5068e cJ0_charAt_5068e 2 (some .char)) B.pre
  have hw : ∀ w ∈ tq_W, w.before _ s = true := fun w h => hts w (List.mem_cons_of_mem _ h)
  have hown : s.vm.findClass RJ0 = some m.cls := findClass_of_methodNamed B.named
  have hlocks := B.notSynchronized
  have hS : va_S (fun q => z ≤ q) s.heap s.heap [] := va_S.rf
  have hl := lv_entry ([.ref (ad 61 w), .int k]) (n := 2) (Nat.le_of_ble_eq_true rfl)
  rw [lg_entry_eq]
  generalize (lg_sl ([.ref (ad 61 w), .int k]) ++ List.replicate (2 - (lg_sl ([.ref (ad 61 w), .int k])).length) Slot.unset).toArray = ls at hl ⊢
  have hl : lv_has ls 2 [(0, .ref (ad 61 w)), (1, .int k)] := hl
  have hW : tq_wd D cy z H0 ad N (tq_mix S M) s.heap := hW
  refine lv_aload_n hx hb dJ0_charAt_5068e_0 rfl (lv_at hl 0 rfl) ?_
  refine tq_callRi (As := []) (rest := []) (kJ0_isLatin1 (post := fun u r => r = 1 ∧ post u (tq_ch w k)) ⟨hwn, rfl, h⟩) ⟨hx, hb, hml, hown, hts⟩ (cwV 0 hts (tq_goodV tw_595 tw_596 tw_597 tw_127 tw_598) rfl rfl rfl (by decide +kernel) ⟨(Nat.le_of_ble_eq_true rfl), (Nat.le_of_ble_eq_true rfl)⟩) (vk_recv hG.1 hwn hS) hK hG hW hS rfl hl.1 rfl (Nat.le_of_ble_eq_true rfl) dJ0_charAt_5068e_1 ⟨(Nat.le_of_ble_eq_true rfl), (Nat.le_of_ble_eq_true rfl)⟩ (fun r M1 H locs e1 hW hS => ?_)
  obtain ⟨rfl, h⟩ := e1
  refine lv_if_eq (tgt := 16) hx hb dJ0_charAt_5068e_4 (by decide) (fun q => absurd q (by decide)) (fun _ => ?_)
  refine lv_aload_n hx hb dJ0_charAt_5068e_7 rfl (lv_at hl 0 rfl) ?_
  refine vk_getf hx hb (hG.1.1 w hwn).2.2.1 hS hown (hw _ tw_2158) (fun _ h9 => h9) dJ0_charAt_5068e_8 ?_
  refine lv_iload_n hx hb dJ0_charAt_5068e_11 rfl (lv_at hl 1 rfl) ?_
  refine tq_callSi (As := [.ref (ad 62 w), .int k]) (rest := []) (kJ1_charAt (post := fun u r => post u r ∧ r = tq_ch w k) ⟨hwn, hk, h, rfl⟩) ⟨hx, hb, hml, hown, hts⟩ (va_cwS 2 hts (tq_goodS tw_599 tw_600 tw_128 tw_601) rfl rfl rfl (by decide +kernel) ⟨(Nat.le_of_ble_eq_true rfl), (Nat.le_of_ble_eq_true rfl)⟩) hK hG hW hS rfl hl.1 rfl (Nat.le_of_ble_eq_true rfl) dJ0_charAt_5068e_12 ⟨(Nat.le_of_ble_eq_true rfl), (Nat.le_of_ble_eq_true rfl)⟩ (fun r M2 H locs e1 hW hS => ?_)
  obtain ⟨h, rfl⟩ := e1
  exact W.zret (v := tq_ch w k) hx hb hr (pk_nc _) (fun t ht hWm => ⟨⟨_, M2, rfl, h, tq_pe ht hW⟩, hS.F ht⟩) hS.2.2 dJ0_charAt_5068e_15
