variable {l : Launch} {D : va_G} {cy : Nat → ClassId} {z : Nat} {H0 : Heap} {ad : Nat → Nat → Nat} {N : tq_Nn} {M : tq_St}
-- X0 begins
def wbX0_begins_19 (N : tq_Nn) (post : tq_St → Prop)  (S : tq_St) : Prop :=
  (∀ S4, S4 = tq_up S 5 0 1 ((S 5 0 1) + 1) → (post S4))
def wpX0_begins (N : tq_Nn) (post : tq_St → Prop) (S : tq_St) (p0 : Int32) : Prop :=
  (20 ≤ (S 5 0 1) → (wbX0_begins_19 N post S )) ∧ (¬ 20 ≤ (S 5 0 1) → (vp_in (S 5 0 1) 20 ∧ (∀ S3, S3 = tq_up S 48 0 ((S 5 0 1).toNatClampNeg) p0 → (wbX0_begins_19 N post S3 ))))
set_option maxHeartbeats 4000000 in
set_option maxRecDepth 100000 in
theorem bX0_begins_19 {p : Program} {e : Env} {s : State} {m : MethodId} {args : Array Value} {below : List Frame} {meth : Method} {c : Code} {post : tq_St → Prop} (C : tq_At p s m meth c args cX0_begins 2 (none) ((tq_ws yX0_begins cX0_begins 2 none)) RX0 D cy z ad)  : ∀ (S : tq_St)  (H : Heap) (locs : List Loc) (ls : Array Slot), wbX0_begins_19 N post   S  → tq_wd D cy z H0 ad N (tq_mix S M) H → va_S (fun q => z ≤ q) s.heap H locs → lv_has ls 2 [(0, .ref (ad 5 0))] → W p l e (tq_rm 0 0) s m args below meth c H locs 0 0 (MQ below (va_Qv (fun u => post u) (fun u => tq_P D cy z H0 ad N u M) (fun q => z ≤ q)) args s 0 0 (fun q => z ≤ q)) (F0 m 19 ls []) := by
  obtain ⟨hx, hb, hr, hml, hown, hts, hlocks, hK, hG⟩ := id C
  have hw : ∀ w ∈ tq_W, w.before args s = true := fun w h => hts w (List.mem_cons_of_mem _ h)
  intro S  H locs ls h hW hS hl
  unfold wbX0_begins_19 at h
  refine lv_aload_n hx hb dX0_begins_19 rfl (lv_at hl 0 rfl) ?_
  refine lv_dup hx hb dX0_begins_20 rfl ?_
  refine tqc_get (v := .int (S 5 0 1)) hx hb hw tq_inX0 hown hK hW (by decide) (tq_mk_5 (by decide)) rfl 1 (by decide) (hw _ tw_235) (fun _ h9 => h9) rfl dX0_begins_21 ?_
  refine lv_iconst (v := 1) hx hb dX0_begins_24 (by decide) ?_
  refine lv_iadd hx hb dX0_begins_25 ?_
  refine tqc_put hx hb hw tq_inX0 tyX0 tyX0_ok nmX0 hown hK hW hS (by decide) (tq_mk_5 (by decide)) rfl 1 (by decide) (hw _ tw_235) (fun _ h9 => h9) rfl rfl rfl rfl (tq_mk_5 (by decide)) dX0_begins_26 (fun H locs hW hS => ?_)
  generalize eS4 : tq_up S 5 0 1 ((S 5 0 1) + 1) = S4 at hW
  have h := h S4 eS4.symm
  exact W.vret hx hb hr (fun t ht hWm => ⟨⟨S4, rfl, h, tq_pe ht hW⟩, hS.F ht⟩) hS.2.2 dX0_begins_29
set_option maxHeartbeats 4000000 in
set_option maxRecDepth 100000 in
theorem kX0_begins {post : tq_St → Prop} {S : tq_St} {p0 : Int32} (h : wpX0_begins N post S p0) : tq_sV l yX0_begins (tq_ws yX0_begins cX0_begins 2 none) 0 0 D cy z H0 ad N M S [.ref (ad 5 0), .int p0] post := by
  unfold wpX0_begins at h
  refine Met.ofW (cc := cX0_begins) (maxL := 2) (ret := none) (by decide) rfl ?_
  intro p e s m args below meth c s₁ B hml hv
  obtain ⟨rfl, hW, hK, hG⟩ := hv
  have hx := B.exec
  have hb := B.bytes
  have hr := B.returns
  have hts := atoms_spec (ws := (tq_ws yX0_begins cX0_begins 2 none)) B.pre
  have hw : ∀ w ∈ tq_W, w.before _ s = true := fun w h => hts w (List.mem_cons_of_mem _ h)
  have hown : s.vm.findClass RX0 = some m.cls := findClass_of_methodNamed B.named
  have hlocks := B.notSynchronized
  have C : tq_At p s m meth c [.ref (ad 5 0), .int p0].toArray cX0_begins 2 (none) ((tq_ws yX0_begins cX0_begins 2 none)) RX0 D cy z ad := ⟨hx, hb, hr, hml, hown, hts, hlocks, hK, hG⟩
  have hS : va_S (fun q => z ≤ q) s.heap s.heap [] := va_S.rf
  have hl := lv_entry ([.ref (ad 5 0), .int p0]) (n := 2) (Nat.le_of_ble_eq_true rfl)
  rw [lg_entry_eq]
  generalize (lg_sl ([.ref (ad 5 0), .int p0]) ++ List.replicate (2 - (lg_sl ([.ref (ad 5 0), .int p0])).length) Slot.unset).toArray = ls at hl ⊢
  have hl : lv_has ls 2 [(0, .ref (ad 5 0)), (1, .int p0)] := hl
  have hW : tq_wd D cy z H0 ad N (tq_mix S M) s.heap := hW
  refine lv_aload_n hx hb dX0_begins_0 rfl (lv_at hl 0 rfl) ?_
  refine tqc_get (v := .int (S 5 0 1)) hx hb hw tq_inX0 hown hK hW (by decide) (tq_mk_5 (by decide)) rfl 1 (by decide) (hw _ tw_235) (fun _ h9 => h9) rfl dX0_begins_1 ?_
  refine lv_bipush (v := 20) hx hb dX0_begins_4 (by decide) ?_
  refine lv_icmp_ge (tgt := 19) hx hb dX0_begins_6 (by decide) (fun c1 => ?_) (fun c1 => ?_)
  · have h := h.1 c1
    exact bX0_begins_19 C  _  _ _ _ h hW hS (lv_sub hl [0] rfl)
  · have h := h.2 c1
    refine lv_aload_n hx hb dX0_begins_9 rfl (lv_at hl 0 rfl) ?_
    refine tqc_get (v := .ref (ad 48 0)) hx hb hw tq_inX0 hown hK hW (by decide) (tq_mk_5 (by decide)) rfl 0 (by decide) (hw _ tw_233) (fun _ h9 => h9) rfl dX0_begins_10 ?_
    refine lv_aload_n hx hb dX0_begins_13 rfl (lv_at hl 0 rfl) ?_
    refine tqc_get (v := .int (S 5 0 1)) hx hb hw tq_inX0 hown hK hW (by decide) (tq_mk_5 (by decide)) rfl 1 (by decide) (hw _ tw_235) (fun _ h9 => h9) rfl dX0_begins_14 ?_
    refine lv_iload_n hx hb dX0_begins_17 rfl (lv_at hl 1 rfl) ?_
    obtain ⟨b2, h⟩ := h
    refine tqc_iast (jn := (S 5 0 1).toNatClampNeg) hx hb hK hW hS (by decide) (tq_mk_48 (by decide)) b2 rfl (tq_mk_48 (by decide)) dX0_begins_18 (fun H locs hW hS => ?_)
    generalize eS3 : tq_up S 48 0 ((S 5 0 1).toNatClampNeg) p0 = S3 at hW
    have h := h S3 eS3.symm
    exact bX0_begins_19 C  _  _ _ _ h hW hS (lv_sub hl [0] rfl)
-- X8 freeTons
def wpX8_freeTons (N : tq_Nn) (post : tq_St → Int32 → Prop) (S : tq_St) (o : Nat) : Prop :=
  N 8 o = 1 ∧ (N 54 o = 1 ∧ (N 55 o = 1 ∧ (post S (((S 8 o 2) - (bx_sum (S 54 o) 4)) - (bx_sum (S 55 o) 20)))))
set_option maxHeartbeats 4000000 in
set_option maxRecDepth 100000 in
theorem kX8_freeTons {post : tq_St → Int32 → Prop} {S : tq_St} {o : Nat} (h : wpX8_freeTons N post S o) : tq_sI l yX8_freeTons (tq_ws yX8_freeTons cX8_freeTons 1 (some .int)) 1 22 D cy z H0 ad N M S [.ref (ad 8 o)] post := by
  unfold wpX8_freeTons at h
  refine Met.ofW (cc := cX8_freeTons) (maxL := 1) (ret := (some .int)) (by decide) rfl ?_
  intro p e s m args below meth c s₁ B hml hv
  obtain ⟨rfl, hW, hK, hG⟩ := hv
  have hx := B.exec
  have hb := B.bytes
  have hr := B.returns
  have hts := atoms_spec (ws := (tq_ws yX8_freeTons cX8_freeTons 1 (some .int))) B.pre
  have hw : ∀ w ∈ tq_W, w.before _ s = true := fun w h => hts w (List.mem_cons_of_mem _ h)
  have hown : s.vm.findClass RX8 = some m.cls := findClass_of_methodNamed B.named
  have hlocks := B.notSynchronized
  have C : tq_At p s m meth c [.ref (ad 8 o)].toArray cX8_freeTons 1 ((some .int)) ((tq_ws yX8_freeTons cX8_freeTons 1 (some .int))) RX8 D cy z ad := ⟨hx, hb, hr, hml, hown, hts, hlocks, hK, hG⟩
  have hS : va_S (fun q => z ≤ q) s.heap s.heap [] := va_S.rf
  have hl := lv_entry ([.ref (ad 8 o)]) (n := 1) (Nat.le_of_ble_eq_true rfl)
  rw [lg_entry_eq]
  generalize (lg_sl ([.ref (ad 8 o)]) ++ List.replicate (1 - (lg_sl ([.ref (ad 8 o)])).length) Slot.unset).toArray = ls at hl ⊢
  have hl : lv_has ls 1 [(0, .ref (ad 8 o))] := hl
  have hW : tq_wd D cy z H0 ad N (tq_mix S M) s.heap := hW
  refine lv_aload_n hx hb dX8_freeTons_0 rfl (lv_at hl 0 rfl) ?_
  obtain ⟨b1, h⟩ := h
  refine tqc_get (v := .int (S 8 o 2)) hx hb hw tq_inX8 hown hK hW (by decide) (tq_mk_8 b1) rfl 2 (by decide) (hw _ tw_904) (fun _ h9 => h9) rfl dX8_freeTons_1 ?_
  refine lv_aload_n hx hb dX8_freeTons_4 rfl (lv_at hl 0 rfl) ?_
  refine tqc_get (v := .ref (ad 54 o)) hx hb hw tq_inX8 hown hK hW (by decide) (tq_mk_8 b1) rfl 8 (by decide) (hw _ tw_915) (fun _ h9 => h9) rfl dX8_freeTons_5 ?_
  obtain ⟨b2, h⟩ := h
  refine tqc_callSNi (As := [.ref (ad 54 o)]) (rest := [.int (S 8 o 2)]) (kX11_sumOf (n := 4) (post := fun u r => u = S ∧ r = bx_sum (S 54 o) 4) (by decide) (by decide) (fun f => tq_mk_54 b2) ⟨rfl, rfl⟩) ⟨hx, hb, hml, hown, hts⟩ (⟨va_cnB 1 hts (tq_goodO tw_972) rfl rfl rfl (hG.2.2.2.2.2.2.2.2.1 ("TwoSeas$Ship", 40, yX11_sumOf, "TwoSeas") (by decide)) (hw _ tw_115) (by decide +kernel) ⟨(Nat.le_of_ble_eq_true rfl), (Nat.le_of_ble_eq_true rfl)⟩, hw _ tw_971, trivial⟩) hK hG hW hS rfl hl.1 rfl (Nat.le_of_ble_eq_true rfl) dX8_freeTons_8 ⟨(Nat.le_of_ble_eq_true rfl), (Nat.le_of_ble_eq_true rfl)⟩ (fun r4 S3 H locs q9 hW hS => ?_)
  rw [q9.1] at hW
  rw [q9.2]
  refine lv_isub hx hb dX8_freeTons_11 ?_
  refine lv_aload_n hx hb dX8_freeTons_12 rfl (lv_at hl 0 rfl) ?_
  refine tqc_get (v := .ref (ad 55 o)) hx hb hw tq_inX8 hown hK hW (by decide) (tq_mk_8 b1) rfl 9 (by decide) (hw _ tw_918) (fun _ h9 => h9) rfl dX8_freeTons_13 ?_
  obtain ⟨b5, h⟩ := h
  refine tqc_callSNi (As := [.ref (ad 55 o)]) (rest := [.int ((S 8 o 2) - (bx_sum (S 54 o) 4))]) (kX11_sumOf (n := 20) (post := fun u r => u = S ∧ r = bx_sum (S 55 o) 20) (by decide) (by decide) (fun f => tq_mk_55 b5) ⟨rfl, rfl⟩) ⟨hx, hb, hml, hown, hts⟩ (⟨va_cnB 1 hts (tq_goodO tw_972) rfl rfl rfl (hG.2.2.2.2.2.2.2.2.1 ("TwoSeas$Ship", 40, yX11_sumOf, "TwoSeas") (by decide)) (hw _ tw_115) (by decide +kernel) ⟨(Nat.le_of_ble_eq_true rfl), (Nat.le_of_ble_eq_true rfl)⟩, hw _ tw_971, trivial⟩) hK hG hW hS rfl hl.1 rfl (Nat.le_of_ble_eq_true rfl) dX8_freeTons_16 ⟨(Nat.le_of_ble_eq_true rfl), (Nat.le_of_ble_eq_true rfl)⟩ (fun r7 S6 H locs q9 hW hS => ?_)
  rw [q9.1] at hW
  rw [q9.2]
  refine lv_isub hx hb dX8_freeTons_19 ?_
  exact W.iret (v := ((S 8 o 2) - (bx_sum (S 54 o) 4)) - (bx_sum (S 55 o) 20)) hx hb hr (fun t ht hWm => ⟨⟨_, S, rfl, h, tq_pe ht hW⟩, hS.F ht⟩) hS.2.2 dX8_freeTons_20
-- X8 clearHold
def wpX8_clearHold (N : tq_Nn) (post : tq_St → Prop) (S : tq_St) (o : Nat) : Prop :=
  N 8 o = 1 ∧ (∀ S2, S2 = tq_up S 8 o 7 0 → (N 54 o = 1 ∧ (∀ S4, S4 = tq_cp S2 54 o (tq_fl (S2 54 o) 4 0) → (N 55 o = 1 ∧ (∀ S6, S6 = tq_cp S4 55 o (tq_fl (S4 55 o) 20 0) → (post S6))))))
set_option maxHeartbeats 4000000 in
set_option maxRecDepth 100000 in
theorem kX8_clearHold {post : tq_St → Prop} {S : tq_St} {o : Nat} (h : wpX8_clearHold N post S o) : tq_sV l yX8_clearHold (tq_ws yX8_clearHold cX8_clearHold 1 none) 1 23 D cy z H0 ad N M S [.ref (ad 8 o)] post := by
  unfold wpX8_clearHold at h
  refine Met.ofW (cc := cX8_clearHold) (maxL := 1) (ret := none) (by decide) rfl ?_
  intro p e s m args below meth c s₁ B hml hv
  obtain ⟨rfl, hW, hK, hG⟩ := hv
  have hx := B.exec
  have hb := B.bytes
  have hr := B.returns
  have hts := atoms_spec (ws := (tq_ws yX8_clearHold cX8_clearHold 1 none)) B.pre
  have hw : ∀ w ∈ tq_W, w.before _ s = true := fun w h => hts w (List.mem_cons_of_mem _ h)
  have hown : s.vm.findClass RX8 = some m.cls := findClass_of_methodNamed B.named
  have hlocks := B.notSynchronized
  have C : tq_At p s m meth c [.ref (ad 8 o)].toArray cX8_clearHold 1 (none) ((tq_ws yX8_clearHold cX8_clearHold 1 none)) RX8 D cy z ad := ⟨hx, hb, hr, hml, hown, hts, hlocks, hK, hG⟩
  have hS : va_S (fun q => z ≤ q) s.heap s.heap [] := va_S.rf
  have hl := lv_entry ([.ref (ad 8 o)]) (n := 1) (Nat.le_of_ble_eq_true rfl)
  rw [lg_entry_eq]
  generalize (lg_sl ([.ref (ad 8 o)]) ++ List.replicate (1 - (lg_sl ([.ref (ad 8 o)])).length) Slot.unset).toArray = ls at hl ⊢
  have hl : lv_has ls 1 [(0, .ref (ad 8 o))] := hl
  have hW : tq_wd D cy z H0 ad N (tq_mix S M) s.heap := hW
  refine lv_aload_n hx hb dX8_clearHold_0 rfl (lv_at hl 0 rfl) ?_
  refine lv_iconst (v := 0) hx hb dX8_clearHold_1 (by decide) ?_
  obtain ⟨b1, h⟩ := h
  refine tqc_put hx hb hw tq_inX8 tyX8 tyX8_ok nmX8 hown hK hW hS (by decide) (tq_mk_8 b1) rfl 7 (by decide) (hw _ tw_913) (fun _ h9 => h9) rfl rfl rfl rfl (tq_mk_8 b1) dX8_clearHold_2 (fun H locs hW hS => ?_)
  generalize eS2 : tq_up S 8 o 7 0 = S2 at hW
  have h := h S2 eS2.symm
  refine lv_aload_n hx hb dX8_clearHold_5 rfl (lv_at hl 0 rfl) ?_
  refine tqc_get (v := .ref (ad 54 o)) hx hb hw tq_inX8 hown hK hW (by decide) (tq_mk_8 b1) rfl 8 (by decide) (hw _ tw_915) (fun _ h9 => h9) rfl dX8_clearHold_6 ?_
  refine lv_iconst (v := 0) hx hb dX8_clearHold_9 (by decide) ?_
  obtain ⟨b3, h⟩ := h
  refine tqc_callSv (As := [.ref (ad 54 o), .int 0]) (rest := []) (kJ7_fill (n := 4) (post := fun u => u = tq_cp S2 54 o (tq_fl (S2 54 o) 4 0)) (by decide) (by decide) (fun f => tq_mk_54 b3) rfl) ⟨hx, hb, hml, hown, hts⟩ (va_cwS 2 hts (tq_goodS tw_1116 tw_335 tw_124 tw_336) rfl rfl rfl (by decide +kernel) ⟨(Nat.le_of_ble_eq_true rfl), (Nat.le_of_ble_eq_true rfl)⟩) hK hG hW hS rfl hl.1 rfl (Nat.le_of_ble_eq_true rfl) dX8_clearHold_10 ⟨(Nat.le_of_ble_eq_true rfl), (Nat.le_of_ble_eq_true rfl)⟩ (fun S4 H locs q9 hW hS => ?_)
  have h := h S4 q9
  refine lv_aload_n hx hb dX8_clearHold_13 rfl (lv_at hl 0 rfl) ?_
  refine tqc_get (v := .ref (ad 55 o)) hx hb hw tq_inX8 hown hK hW (by decide) (tq_mk_8 b1) rfl 9 (by decide) (hw _ tw_918) (fun _ h9 => h9) rfl dX8_clearHold_14 ?_
  refine lv_iconst (v := 0) hx hb dX8_clearHold_17 (by decide) ?_
  obtain ⟨b5, h⟩ := h
  refine tqc_callSv (As := [.ref (ad 55 o), .int 0]) (rest := []) (kJ7_fill (n := 20) (post := fun u => u = tq_cp S4 55 o (tq_fl (S4 55 o) 20 0)) (by decide) (by decide) (fun f => tq_mk_55 b5) rfl) ⟨hx, hb, hml, hown, hts⟩ (va_cwS 2 hts (tq_goodS tw_1116 tw_335 tw_124 tw_336) rfl rfl rfl (by decide +kernel) ⟨(Nat.le_of_ble_eq_true rfl), (Nat.le_of_ble_eq_true rfl)⟩) hK hG hW hS rfl hl.1 rfl (Nat.le_of_ble_eq_true rfl) dX8_clearHold_18 ⟨(Nat.le_of_ble_eq_true rfl), (Nat.le_of_ble_eq_true rfl)⟩ (fun S6 H locs q9 hW hS => ?_)
  have h := h S6 q9
  exact W.vret hx hb hr (fun t ht hWm => ⟨⟨S6, rfl, h, tq_pe ht hW⟩, hS.F ht⟩) hS.2.2 dX8_clearHold_21
-- X11 trace
def wbX11_trace_33 (N : tq_Nn) (post : tq_St → Int32 → Prop)  (S : tq_St) (y0 : Int32) : Prop :=
  post S y0
def wbX11_trace_32 (N : tq_Nn) (post : tq_St → Int32 → Prop)  (S : tq_St) : Prop :=
  wbX11_trace_33 N post S ((-1))
def wpX11_trace (N : tq_Nn) (post : tq_St → Int32 → Prop) (S : tq_St) (p0 : Int32) : Prop :=
  (p0 < 0 → (wbX11_trace_32 N post S )) ∧ (¬ p0 < 0 → (((if 20 < (S 5 0 1) then 20 else (S 5 0 1)) ≤ p0 → (wbX11_trace_32 N post S )) ∧ (¬ (if 20 < (S 5 0 1) then 20 else (S 5 0 1)) ≤ p0 → (vp_in p0 20 ∧ (wbX11_trace_33 N post S (S 48 0 p0.toNatClampNeg))))))
set_option maxHeartbeats 4000000 in
set_option maxRecDepth 100000 in
theorem bX11_trace_33 {p : Program} {e : Env} {s : State} {m : MethodId} {args : Array Value} {below : List Frame} {meth : Method} {c : Code} {post : tq_St → Int32 → Prop} (C : tq_At p s m meth c args cX11_trace 2 ((some .int)) ((tq_ws yX11_trace cX11_trace 2 (some .int))) RX11 D cy z ad)  : ∀ (S : tq_St) (y0 : Int32) (H : Heap) (locs : List Loc) (ls : Array Slot), wbX11_trace_33 N post   S y0 → tq_wd D cy z H0 ad N (tq_mix S M) H → va_S (fun q => z ≤ q) s.heap H locs → lv_has ls 2 [] → W p l e (tq_rm 1 21) s m args below meth c H locs 0 0 (MQ below (va_Qi (fun r u => post u r) (fun u => tq_P D cy z H0 ad N u M) (fun q => z ≤ q)) args s 0 0 (fun q => z ≤ q)) (F0 m 33 ls [.int y0]) := by
  obtain ⟨hx, hb, hr, hml, hown, hts, hlocks, hK, hG⟩ := id C
  have hw : ∀ w ∈ tq_W, w.before args s = true := fun w h => hts w (List.mem_cons_of_mem _ h)
  intro S y0 H locs ls h hW hS hl
  unfold wbX11_trace_33 at h
  exact W.iret (v := y0) hx hb hr (fun t ht hWm => ⟨⟨_, S, rfl, h, tq_pe ht hW⟩, hS.F ht⟩) hS.2.2 dX11_trace_33
set_option maxHeartbeats 4000000 in
set_option maxRecDepth 100000 in
theorem bX11_trace_32 {p : Program} {e : Env} {s : State} {m : MethodId} {args : Array Value} {below : List Frame} {meth : Method} {c : Code} {post : tq_St → Int32 → Prop} (C : tq_At p s m meth c args cX11_trace 2 ((some .int)) ((tq_ws yX11_trace cX11_trace 2 (some .int))) RX11 D cy z ad)  : ∀ (S : tq_St)  (H : Heap) (locs : List Loc) (ls : Array Slot), wbX11_trace_32 N post   S  → tq_wd D cy z H0 ad N (tq_mix S M) H → va_S (fun q => z ≤ q) s.heap H locs → lv_has ls 2 [] → W p l e (tq_rm 1 21) s m args below meth c H locs 0 0 (MQ below (va_Qi (fun r u => post u r) (fun u => tq_P D cy z H0 ad N u M) (fun q => z ≤ q)) args s 0 0 (fun q => z ≤ q)) (F0 m 32 ls []) := by
  obtain ⟨hx, hb, hr, hml, hown, hts, hlocks, hK, hG⟩ := id C
  have hw : ∀ w ∈ tq_W, w.before args s = true := fun w h => hts w (List.mem_cons_of_mem _ h)
  intro S  H locs ls h hW hS hl
  unfold wbX11_trace_32 at h
  refine lv_iconst (v := (-1)) hx hb dX11_trace_32 (by decide) ?_
  exact bX11_trace_33 C  _ _ _ _ _ h hW hS (lv_sub hl [] rfl)
set_option maxHeartbeats 4000000 in
set_option maxRecDepth 100000 in
theorem kX11_trace {post : tq_St → Int32 → Prop} {S : tq_St} {p0 : Int32} (h : wpX11_trace N post S p0) : tq_sI l yX11_trace (tq_ws yX11_trace cX11_trace 2 (some .int)) 1 21 D cy z H0 ad N M S [.ref (ad 1 0), .int p0] post := by
  unfold wpX11_trace at h
  refine Met.ofW (cc := cX11_trace) (maxL := 2) (ret := (some .int)) (by decide) rfl ?_
  intro p e s m args below meth c s₁ B hml hv
  obtain ⟨rfl, hW, hK, hG⟩ := hv
  have hx := B.exec
  have hb := B.bytes
  have hr := B.returns
  have hts := atoms_spec (ws := (tq_ws yX11_trace cX11_trace 2 (some .int))) B.pre
  have hw : ∀ w ∈ tq_W, w.before _ s = true := fun w h => hts w (List.mem_cons_of_mem _ h)
  have hown : s.vm.findClass RX11 = some m.cls := findClass_of_methodNamed B.named
  have hlocks := B.notSynchronized
  have C : tq_At p s m meth c [.ref (ad 1 0), .int p0].toArray cX11_trace 2 ((some .int)) ((tq_ws yX11_trace cX11_trace 2 (some .int))) RX11 D cy z ad := ⟨hx, hb, hr, hml, hown, hts, hlocks, hK, hG⟩
  have hS : va_S (fun q => z ≤ q) s.heap s.heap [] := va_S.rf
  have hl := lv_entry ([.ref (ad 1 0), .int p0]) (n := 2) (Nat.le_of_ble_eq_true rfl)
  rw [lg_entry_eq]
  generalize (lg_sl ([.ref (ad 1 0), .int p0]) ++ List.replicate (2 - (lg_sl ([.ref (ad 1 0), .int p0])).length) Slot.unset).toArray = ls at hl ⊢
  have hl : lv_has ls 2 [(0, .ref (ad 1 0)), (1, .int p0)] := hl
  have hW : tq_wd D cy z H0 ad N (tq_mix S M) s.heap := hW
  refine lv_iload_n hx hb dX11_trace_0 rfl (lv_at hl 1 rfl) ?_
  refine lv_if_lt (tgt := 32) hx hb dX11_trace_1 (by decide) (fun c1 => ?_) (fun c1 => ?_)
  · have h := h.1 c1
    exact bX11_trace_32 C  _  _ _ _ h hW hS (lv_sub hl [] rfl)
  · have h := h.2 c1
    refine lv_iload_n hx hb dX11_trace_4 rfl (lv_at hl 1 rfl) ?_
    refine lv_aload_n hx hb dX11_trace_5 rfl (lv_at hl 0 rfl) ?_
    refine tqc_get (v := .ref (ad 5 0)) hx hb hw tq_inX11 hown hK hW (by decide) (tq_mk_1 (by decide)) rfl 18 (by decide) (hw _ tw_355) (fun _ h9 => h9) rfl dX11_trace_6 ?_
    refine tqc_get (v := .int (S 5 0 1)) hx hb hw tq_inX0 hown hK hW (by decide) (tq_mk_5 (by decide)) rfl 1 (by decide) (hw _ tw_236) (fun _ h9 => h9) rfl dX11_trace_9 ?_
    refine lv_bipush (v := 20) hx hb dX11_trace_12 (by decide) ?_
    refine va_mmin hx hb (hml.trans hl.1.symm) hown (hw _ tw_1170) (hw _ tw_797) (hw _ tw_132) (hw _ tw_798) (Nat.le_of_ble_eq_true rfl) (Nat.le_of_ble_eq_true rfl) (Nat.zero_le _) (Nat.zero_le _) dX11_trace_14 ?_
    refine lv_icmp_ge (tgt := 32) hx hb dX11_trace_17 (by decide) (fun c2 => ?_) (fun c2 => ?_)
    · have h := h.1 c2
      exact bX11_trace_32 C  _  _ _ _ h hW hS (lv_sub hl [] rfl)
    · have h := h.2 c2
      refine lv_aload_n hx hb dX11_trace_20 rfl (lv_at hl 0 rfl) ?_
      refine tqc_get (v := .ref (ad 5 0)) hx hb hw tq_inX11 hown hK hW (by decide) (tq_mk_1 (by decide)) rfl 18 (by decide) (hw _ tw_355) (fun _ h9 => h9) rfl dX11_trace_21 ?_
      refine tqc_get (v := .ref (ad 48 0)) hx hb hw tq_inX0 hown hK hW (by decide) (tq_mk_5 (by decide)) rfl 0 (by decide) (hw _ tw_234) (fun _ h9 => h9) rfl dX11_trace_24 ?_
      refine lv_iload_n hx hb dX11_trace_27 rfl (lv_at hl 1 rfl) ?_
      obtain ⟨b3, h⟩ := h
      refine tqc_iald (jn := p0.toNatClampNeg) hx hb hK hW (by decide) (tq_mk_48 (by decide)) b3 rfl dX11_trace_28 ?_
      refine lv_goto (tgt := 33) hx hb dX11_trace_29 (by decide) ?_
      exact bX11_trace_33 C  _ _ _ _ _ h hW hS (lv_sub hl [] rfl)
-- X11 within
def wbX11_within_15 (N : tq_Nn) (post : tq_St → Int32 → Prop)  (S : tq_St) (y0 : Int32) : Prop :=
  narrow .boolean (.int y0) = .int y0 ∧ post S y0
def wbX11_within_14 (N : tq_Nn) (post : tq_St → Int32 → Prop)  (S : tq_St) : Prop :=
  wbX11_within_15 N post S 0
def wpX11_within (N : tq_Nn) (post : tq_St → Int32 → Prop) (S : tq_St) (p0 : Int32) (p1 : Int32) (p2 : Int32) : Prop :=
  (p0 < p1 → (wbX11_within_14 N post S )) ∧ (¬ p0 < p1 → ((p2 < p0 → (wbX11_within_14 N post S )) ∧ (¬ p2 < p0 → (wbX11_within_15 N post S 1))))
set_option maxHeartbeats 4000000 in
set_option maxRecDepth 100000 in
theorem bX11_within_15 {p : Program} {e : Env} {s : State} {m : MethodId} {args : Array Value} {below : List Frame} {meth : Method} {c : Code} {post : tq_St → Int32 → Prop} (C : tq_At p s m meth c args cX11_within 3 ((some .boolean)) ((tq_ws yX11_within cX11_within 3 (some .boolean))) RX11 D cy z ad)  : ∀ (S : tq_St) (y0 : Int32) (H : Heap) (locs : List Loc) (ls : Array Slot), wbX11_within_15 N post   S y0 → tq_wd D cy z H0 ad N (tq_mix S M) H → va_S (fun q => z ≤ q) s.heap H locs → lv_has ls 3 [] → W p l e (tq_rm 0 0) s m args below meth c H locs 0 0 (MQ below (va_Qi (fun r u => post u r) (fun u => tq_P D cy z H0 ad N u M) (fun q => z ≤ q)) args s 0 0 (fun q => z ≤ q)) (F0 m 15 ls [.int y0]) := by
  obtain ⟨hx, hb, hr, hml, hown, hts, hlocks, hK, hG⟩ := id C
  have hw : ∀ w ∈ tq_W, w.before args s = true := fun w h => hts w (List.mem_cons_of_mem _ h)
  intro S y0 H locs ls h hW hS hl
  unfold wbX11_within_15 at h
  obtain ⟨b3, h⟩ := h
  exact W.zret (v := y0) hx hb hr b3 (fun t ht hWm => ⟨⟨_, S, rfl, h, tq_pe ht hW⟩, hS.F ht⟩) hS.2.2 dX11_within_15
set_option maxHeartbeats 4000000 in
set_option maxRecDepth 100000 in
theorem bX11_within_14 {p : Program} {e : Env} {s : State} {m : MethodId} {args : Array Value} {below : List Frame} {meth : Method} {c : Code} {post : tq_St → Int32 → Prop} (C : tq_At p s m meth c args cX11_within 3 ((some .boolean)) ((tq_ws yX11_within cX11_within 3 (some .boolean))) RX11 D cy z ad)  : ∀ (S : tq_St)  (H : Heap) (locs : List Loc) (ls : Array Slot), wbX11_within_14 N post   S  → tq_wd D cy z H0 ad N (tq_mix S M) H → va_S (fun q => z ≤ q) s.heap H locs → lv_has ls 3 [] → W p l e (tq_rm 0 0) s m args below meth c H locs 0 0 (MQ below (va_Qi (fun r u => post u r) (fun u => tq_P D cy z H0 ad N u M) (fun q => z ≤ q)) args s 0 0 (fun q => z ≤ q)) (F0 m 14 ls []) := by
  obtain ⟨hx, hb, hr, hml, hown, hts, hlocks, hK, hG⟩ := id C
  have hw : ∀ w ∈ tq_W, w.before args s = true := fun w h => hts w (List.mem_cons_of_mem _ h)
  intro S  H locs ls h hW hS hl
  unfold wbX11_within_14 at h
  refine lv_iconst (v := 0) hx hb dX11_within_14 (by decide) ?_
  exact bX11_within_15 C  _ _ _ _ _ h hW hS (lv_sub hl [] rfl)
set_option maxHeartbeats 4000000 in
set_option maxRecDepth 100000 in
theorem kX11_within {post : tq_St → Int32 → Prop} {S : tq_St} {p0 : Int32} {p1 : Int32} {p2 : Int32} (h : wpX11_within N post S p0 p1 p2) : tq_sI l yX11_within (tq_ws yX11_within cX11_within 3 (some .boolean)) 0 0 D cy z H0 ad N M S [.int p0, .int p1, .int p2] post := by
  unfold wpX11_within at h
  refine Met.ofW (cc := cX11_within) (maxL := 3) (ret := (some .boolean)) (by decide) rfl ?_
  intro p e s m args below meth c s₁ B hml hv
  obtain ⟨rfl, hW, hK, hG⟩ := hv
  have hx := B.exec
  have hb := B.bytes
  have hr := B.returns
  have hts := atoms_spec (ws := (tq_ws yX11_within cX11_within 3 (some .boolean))) B.pre
  have hw : ∀ w ∈ tq_W, w.before _ s = true := fun w h => hts w (List.mem_cons_of_mem _ h)
  have hown : s.vm.findClass RX11 = some m.cls := findClass_of_methodNamed B.named
  have hlocks := B.notSynchronized
  have C : tq_At p s m meth c [.int p0, .int p1, .int p2].toArray cX11_within 3 ((some .boolean)) ((tq_ws yX11_within cX11_within 3 (some .boolean))) RX11 D cy z ad := ⟨hx, hb, hr, hml, hown, hts, hlocks, hK, hG⟩
  have hS : va_S (fun q => z ≤ q) s.heap s.heap [] := va_S.rf
  have hl := lv_entry ([.int p0, .int p1, .int p2]) (n := 3) (Nat.le_of_ble_eq_true rfl)
  rw [lg_entry_eq]
  generalize (lg_sl ([.int p0, .int p1, .int p2]) ++ List.replicate (3 - (lg_sl ([.int p0, .int p1, .int p2])).length) Slot.unset).toArray = ls at hl ⊢
  have hl : lv_has ls 3 [(0, .int p0), (1, .int p1), (2, .int p2)] := hl
  have hW : tq_wd D cy z H0 ad N (tq_mix S M) s.heap := hW
  refine lv_iload_n hx hb dX11_within_0 rfl (lv_at hl 0 rfl) ?_
  refine lv_iload_n hx hb dX11_within_1 rfl (lv_at hl 1 rfl) ?_
  refine lv_icmp_lt (tgt := 14) hx hb dX11_within_2 (by decide) (fun c1 => ?_) (fun c1 => ?_)
  · have h := h.1 c1
    exact bX11_within_14 C  _  _ _ _ h hW hS (lv_sub hl [] rfl)
  · have h := h.2 c1
    refine lv_iload_n hx hb dX11_within_5 rfl (lv_at hl 0 rfl) ?_
    refine lv_iload_n hx hb dX11_within_6 rfl (lv_at hl 2 rfl) ?_
    refine lv_icmp_gt (tgt := 14) hx hb dX11_within_7 (by decide) (fun c2 => ?_) (fun c2 => ?_)
    · have h := h.1 c2
      exact bX11_within_14 C  _  _ _ _ h hW hS (lv_sub hl [] rfl)
    · have h := h.2 c2
      refine lv_iconst (v := 1) hx hb dX11_within_10 (by decide) ?_
      refine lv_goto (tgt := 15) hx hb dX11_within_11 (by decide) ?_
      exact bX11_within_15 C  _ _ _ _ _ h hW hS (lv_sub hl [] rfl)
-- X11 isPlace
def wbX11_isPlace_14 (N : tq_Nn) (post : tq_St → Int32 → Prop)  (S : tq_St) (y0 : Int32) : Prop :=
  narrow .boolean (.int y0) = .int y0 ∧ post S y0
def wbX11_isPlace_13 (N : tq_Nn) (post : tq_St → Int32 → Prop)  (S : tq_St) : Prop :=
  wbX11_isPlace_14 N post S 0
def wpX11_isPlace (N : tq_Nn) (post : tq_St → Int32 → Prop) (S : tq_St) (p0 : Int32) : Prop :=
  (p0 < 0 → (wbX11_isPlace_13 N post S )) ∧ (¬ p0 < 0 → ((5 ≤ p0 → (wbX11_isPlace_13 N post S )) ∧ (¬ 5 ≤ p0 → (wbX11_isPlace_14 N post S 1))))
set_option maxHeartbeats 4000000 in
set_option maxRecDepth 100000 in
theorem bX11_isPlace_14 {p : Program} {e : Env} {s : State} {m : MethodId} {args : Array Value} {below : List Frame} {meth : Method} {c : Code} {post : tq_St → Int32 → Prop} (C : tq_At p s m meth c args cX11_isPlace 1 ((some .boolean)) ((tq_ws yX11_isPlace cX11_isPlace 1 (some .boolean))) RX11 D cy z ad)  : ∀ (S : tq_St) (y0 : Int32) (H : Heap) (locs : List Loc) (ls : Array Slot), wbX11_isPlace_14 N post   S y0 → tq_wd D cy z H0 ad N (tq_mix S M) H → va_S (fun q => z ≤ q) s.heap H locs → lv_has ls 1 [] → W p l e (tq_rm 0 0) s m args below meth c H locs 0 0 (MQ below (va_Qi (fun r u => post u r) (fun u => tq_P D cy z H0 ad N u M) (fun q => z ≤ q)) args s 0 0 (fun q => z ≤ q)) (F0 m 14 ls [.int y0]) := by
  obtain ⟨hx, hb, hr, hml, hown, hts, hlocks, hK, hG⟩ := id C
  have hw : ∀ w ∈ tq_W, w.before args s = true := fun w h => hts w (List.mem_cons_of_mem _ h)
  intro S y0 H locs ls h hW hS hl
  unfold wbX11_isPlace_14 at h
  obtain ⟨b3, h⟩ := h
  exact W.zret (v := y0) hx hb hr b3 (fun t ht hWm => ⟨⟨_, S, rfl, h, tq_pe ht hW⟩, hS.F ht⟩) hS.2.2 dX11_isPlace_14
set_option maxHeartbeats 4000000 in
set_option maxRecDepth 100000 in
theorem bX11_isPlace_13 {p : Program} {e : Env} {s : State} {m : MethodId} {args : Array Value} {below : List Frame} {meth : Method} {c : Code} {post : tq_St → Int32 → Prop} (C : tq_At p s m meth c args cX11_isPlace 1 ((some .boolean)) ((tq_ws yX11_isPlace cX11_isPlace 1 (some .boolean))) RX11 D cy z ad)  : ∀ (S : tq_St)  (H : Heap) (locs : List Loc) (ls : Array Slot), wbX11_isPlace_13 N post   S  → tq_wd D cy z H0 ad N (tq_mix S M) H → va_S (fun q => z ≤ q) s.heap H locs → lv_has ls 1 [] → W p l e (tq_rm 0 0) s m args below meth c H locs 0 0 (MQ below (va_Qi (fun r u => post u r) (fun u => tq_P D cy z H0 ad N u M) (fun q => z ≤ q)) args s 0 0 (fun q => z ≤ q)) (F0 m 13 ls []) := by
  obtain ⟨hx, hb, hr, hml, hown, hts, hlocks, hK, hG⟩ := id C
  have hw : ∀ w ∈ tq_W, w.before args s = true := fun w h => hts w (List.mem_cons_of_mem _ h)
  intro S  H locs ls h hW hS hl
  unfold wbX11_isPlace_13 at h
  refine lv_iconst (v := 0) hx hb dX11_isPlace_13 (by decide) ?_
  exact bX11_isPlace_14 C  _ _ _ _ _ h hW hS (lv_sub hl [] rfl)
set_option maxHeartbeats 4000000 in
set_option maxRecDepth 100000 in
theorem kX11_isPlace {post : tq_St → Int32 → Prop} {S : tq_St} {p0 : Int32} (h : wpX11_isPlace N post S p0) : tq_sI l yX11_isPlace (tq_ws yX11_isPlace cX11_isPlace 1 (some .boolean)) 0 0 D cy z H0 ad N M S [.int p0] post := by
  unfold wpX11_isPlace at h
  refine Met.ofW (cc := cX11_isPlace) (maxL := 1) (ret := (some .boolean)) (by decide) rfl ?_
  intro p e s m args below meth c s₁ B hml hv
  obtain ⟨rfl, hW, hK, hG⟩ := hv
  have hx := B.exec
  have hb := B.bytes
  have hr := B.returns
  have hts := atoms_spec (ws := (tq_ws yX11_isPlace cX11_isPlace 1 (some .boolean))) B.pre
  have hw : ∀ w ∈ tq_W, w.before _ s = true := fun w h => hts w (List.mem_cons_of_mem _ h)
  have hown : s.vm.findClass RX11 = some m.cls := findClass_of_methodNamed B.named
  have hlocks := B.notSynchronized
  have C : tq_At p s m meth c [.int p0].toArray cX11_isPlace 1 ((some .boolean)) ((tq_ws yX11_isPlace cX11_isPlace 1 (some .boolean))) RX11 D cy z ad := ⟨hx, hb, hr, hml, hown, hts, hlocks, hK, hG⟩
  have hS : va_S (fun q => z ≤ q) s.heap s.heap [] := va_S.rf
  have hl := lv_entry ([.int p0]) (n := 1) (Nat.le_of_ble_eq_true rfl)
  rw [lg_entry_eq]
  generalize (lg_sl ([.int p0]) ++ List.replicate (1 - (lg_sl ([.int p0])).length) Slot.unset).toArray = ls at hl ⊢
  have hl : lv_has ls 1 [(0, .int p0)] := hl
  have hW : tq_wd D cy z H0 ad N (tq_mix S M) s.heap := hW
  refine lv_iload_n hx hb dX11_isPlace_0 rfl (lv_at hl 0 rfl) ?_
  refine lv_if_lt (tgt := 13) hx hb dX11_isPlace_1 (by decide) (fun c1 => ?_) (fun c1 => ?_)
  · have h := h.1 c1
    exact bX11_isPlace_13 C  _  _ _ _ h hW hS (lv_sub hl [] rfl)
  · have h := h.2 c1
    refine lv_iload_n hx hb dX11_isPlace_4 rfl (lv_at hl 0 rfl) ?_
    refine lv_iconst (v := 5) hx hb dX11_isPlace_5 (by decide) ?_
    refine lv_icmp_ge (tgt := 13) hx hb dX11_isPlace_6 (by decide) (fun c2 => ?_) (fun c2 => ?_)
    · have h := h.1 c2
      exact bX11_isPlace_13 C  _  _ _ _ h hW hS (lv_sub hl [] rfl)
    · have h := h.2 c2
      refine lv_iconst (v := 1) hx hb dX11_isPlace_9 (by decide) ?_
      refine lv_goto (tgt := 14) hx hb dX11_isPlace_10 (by decide) ?_
      exact bX11_isPlace_14 C  _ _ _ _ _ h hW hS (lv_sub hl [] rfl)
-- X11 isFactory
def wbX11_isFactory_14 (N : tq_Nn) (post : tq_St → Int32 → Prop)  (S : tq_St) (y0 : Int32) : Prop :=
  narrow .boolean (.int y0) = .int y0 ∧ post S y0
def wbX11_isFactory_13 (N : tq_Nn) (post : tq_St → Int32 → Prop)  (S : tq_St) : Prop :=
  wbX11_isFactory_14 N post S 0
def wpX11_isFactory (N : tq_Nn) (post : tq_St → Int32 → Prop) (S : tq_St) (p0 : Int32) : Prop :=
  (p0 ≤ 0 → (wbX11_isFactory_13 N post S )) ∧ (¬ p0 ≤ 0 → ((5 ≤ p0 → (wbX11_isFactory_13 N post S )) ∧ (¬ 5 ≤ p0 → (wbX11_isFactory_14 N post S 1))))
set_option maxHeartbeats 4000000 in
set_option maxRecDepth 100000 in
theorem bX11_isFactory_14 {p : Program} {e : Env} {s : State} {m : MethodId} {args : Array Value} {below : List Frame} {meth : Method} {c : Code} {post : tq_St → Int32 → Prop} (C : tq_At p s m meth c args cX11_isFactory 1 ((some .boolean)) ((tq_ws yX11_isFactory cX11_isFactory 1 (some .boolean))) RX11 D cy z ad)  : ∀ (S : tq_St) (y0 : Int32) (H : Heap) (locs : List Loc) (ls : Array Slot), wbX11_isFactory_14 N post   S y0 → tq_wd D cy z H0 ad N (tq_mix S M) H → va_S (fun q => z ≤ q) s.heap H locs → lv_has ls 1 [] → W p l e (tq_rm 0 0) s m args below meth c H locs 0 0 (MQ below (va_Qi (fun r u => post u r) (fun u => tq_P D cy z H0 ad N u M) (fun q => z ≤ q)) args s 0 0 (fun q => z ≤ q)) (F0 m 14 ls [.int y0]) := by
  obtain ⟨hx, hb, hr, hml, hown, hts, hlocks, hK, hG⟩ := id C
  have hw : ∀ w ∈ tq_W, w.before args s = true := fun w h => hts w (List.mem_cons_of_mem _ h)
  intro S y0 H locs ls h hW hS hl
  unfold wbX11_isFactory_14 at h
  obtain ⟨b3, h⟩ := h
  exact W.zret (v := y0) hx hb hr b3 (fun t ht hWm => ⟨⟨_, S, rfl, h, tq_pe ht hW⟩, hS.F ht⟩) hS.2.2 dX11_isFactory_14
set_option maxHeartbeats 4000000 in
set_option maxRecDepth 100000 in
theorem bX11_isFactory_13 {p : Program} {e : Env} {s : State} {m : MethodId} {args : Array Value} {below : List Frame} {meth : Method} {c : Code} {post : tq_St → Int32 → Prop} (C : tq_At p s m meth c args cX11_isFactory 1 ((some .boolean)) ((tq_ws yX11_isFactory cX11_isFactory 1 (some .boolean))) RX11 D cy z ad)  : ∀ (S : tq_St)  (H : Heap) (locs : List Loc) (ls : Array Slot), wbX11_isFactory_13 N post   S  → tq_wd D cy z H0 ad N (tq_mix S M) H → va_S (fun q => z ≤ q) s.heap H locs → lv_has ls 1 [] → W p l e (tq_rm 0 0) s m args below meth c H locs 0 0 (MQ below (va_Qi (fun r u => post u r) (fun u => tq_P D cy z H0 ad N u M) (fun q => z ≤ q)) args s 0 0 (fun q => z ≤ q)) (F0 m 13 ls []) := by
  obtain ⟨hx, hb, hr, hml, hown, hts, hlocks, hK, hG⟩ := id C
  have hw : ∀ w ∈ tq_W, w.before args s = true := fun w h => hts w (List.mem_cons_of_mem _ h)
  intro S  H locs ls h hW hS hl
  unfold wbX11_isFactory_13 at h
  refine lv_iconst (v := 0) hx hb dX11_isFactory_13 (by decide) ?_
  exact bX11_isFactory_14 C  _ _ _ _ _ h hW hS (lv_sub hl [] rfl)
set_option maxHeartbeats 4000000 in
set_option maxRecDepth 100000 in
theorem kX11_isFactory {post : tq_St → Int32 → Prop} {S : tq_St} {p0 : Int32} (h : wpX11_isFactory N post S p0) : tq_sI l yX11_isFactory (tq_ws yX11_isFactory cX11_isFactory 1 (some .boolean)) 0 0 D cy z H0 ad N M S [.int p0] post := by
  unfold wpX11_isFactory at h
  refine Met.ofW (cc := cX11_isFactory) (maxL := 1) (ret := (some .boolean)) (by decide) rfl ?_
  intro p e s m args below meth c s₁ B hml hv
  obtain ⟨rfl, hW, hK, hG⟩ := hv
  have hx := B.exec
  have hb := B.bytes
  have hr := B.returns
  have hts := atoms_spec (ws := (tq_ws yX11_isFactory cX11_isFactory 1 (some .boolean))) B.pre
  have hw : ∀ w ∈ tq_W, w.before _ s = true := fun w h => hts w (List.mem_cons_of_mem _ h)
  have hown : s.vm.findClass RX11 = some m.cls := findClass_of_methodNamed B.named
  have hlocks := B.notSynchronized
  have C : tq_At p s m meth c [.int p0].toArray cX11_isFactory 1 ((some .boolean)) ((tq_ws yX11_isFactory cX11_isFactory 1 (some .boolean))) RX11 D cy z ad := ⟨hx, hb, hr, hml, hown, hts, hlocks, hK, hG⟩
  have hS : va_S (fun q => z ≤ q) s.heap s.heap [] := va_S.rf
  have hl := lv_entry ([.int p0]) (n := 1) (Nat.le_of_ble_eq_true rfl)
  rw [lg_entry_eq]
  generalize (lg_sl ([.int p0]) ++ List.replicate (1 - (lg_sl ([.int p0])).length) Slot.unset).toArray = ls at hl ⊢
  have hl : lv_has ls 1 [(0, .int p0)] := hl
  have hW : tq_wd D cy z H0 ad N (tq_mix S M) s.heap := hW
  refine lv_iload_n hx hb dX11_isFactory_0 rfl (lv_at hl 0 rfl) ?_
  refine lv_if_le (tgt := 13) hx hb dX11_isFactory_1 (by decide) (fun c1 => ?_) (fun c1 => ?_)
  · have h := h.1 c1
    exact bX11_isFactory_13 C  _  _ _ _ h hW hS (lv_sub hl [] rfl)
  · have h := h.2 c1
    refine lv_iload_n hx hb dX11_isFactory_4 rfl (lv_at hl 0 rfl) ?_
    refine lv_iconst (v := 5) hx hb dX11_isFactory_5 (by decide) ?_
    refine lv_icmp_ge (tgt := 13) hx hb dX11_isFactory_6 (by decide) (fun c2 => ?_) (fun c2 => ?_)
    · have h := h.1 c2
      exact bX11_isFactory_13 C  _  _ _ _ h hW hS (lv_sub hl [] rfl)
    · have h := h.2 c2
      refine lv_iconst (v := 1) hx hb dX11_isFactory_9 (by decide) ?_
      refine lv_goto (tgt := 14) hx hb dX11_isFactory_10 (by decide) ?_
      exact bX11_isFactory_14 C  _ _ _ _ _ h hW hS (lv_sub hl [] rfl)
-- X11 isSort
def wbX11_isSort_14 (N : tq_Nn) (post : tq_St → Int32 → Prop)  (S : tq_St) (y0 : Int32) : Prop :=
  narrow .boolean (.int y0) = .int y0 ∧ post S y0
def wbX11_isSort_13 (N : tq_Nn) (post : tq_St → Int32 → Prop)  (S : tq_St) : Prop :=
  wbX11_isSort_14 N post S 0
def wpX11_isSort (N : tq_Nn) (post : tq_St → Int32 → Prop) (S : tq_St) (p0 : Int32) : Prop :=
  (p0 < 0 → (wbX11_isSort_13 N post S )) ∧ (¬ p0 < 0 → ((4 ≤ p0 → (wbX11_isSort_13 N post S )) ∧ (¬ 4 ≤ p0 → (wbX11_isSort_14 N post S 1))))
set_option maxHeartbeats 4000000 in
set_option maxRecDepth 100000 in
theorem bX11_isSort_14 {p : Program} {e : Env} {s : State} {m : MethodId} {args : Array Value} {below : List Frame} {meth : Method} {c : Code} {post : tq_St → Int32 → Prop} (C : tq_At p s m meth c args cX11_isSort 1 ((some .boolean)) ((tq_ws yX11_isSort cX11_isSort 1 (some .boolean))) RX11 D cy z ad)  : ∀ (S : tq_St) (y0 : Int32) (H : Heap) (locs : List Loc) (ls : Array Slot), wbX11_isSort_14 N post   S y0 → tq_wd D cy z H0 ad N (tq_mix S M) H → va_S (fun q => z ≤ q) s.heap H locs → lv_has ls 1 [] → W p l e (tq_rm 0 0) s m args below meth c H locs 0 0 (MQ below (va_Qi (fun r u => post u r) (fun u => tq_P D cy z H0 ad N u M) (fun q => z ≤ q)) args s 0 0 (fun q => z ≤ q)) (F0 m 14 ls [.int y0]) := by
  obtain ⟨hx, hb, hr, hml, hown, hts, hlocks, hK, hG⟩ := id C
  have hw : ∀ w ∈ tq_W, w.before args s = true := fun w h => hts w (List.mem_cons_of_mem _ h)
  intro S y0 H locs ls h hW hS hl
  unfold wbX11_isSort_14 at h
  obtain ⟨b3, h⟩ := h
  exact W.zret (v := y0) hx hb hr b3 (fun t ht hWm => ⟨⟨_, S, rfl, h, tq_pe ht hW⟩, hS.F ht⟩) hS.2.2 dX11_isSort_14
set_option maxHeartbeats 4000000 in
set_option maxRecDepth 100000 in
theorem bX11_isSort_13 {p : Program} {e : Env} {s : State} {m : MethodId} {args : Array Value} {below : List Frame} {meth : Method} {c : Code} {post : tq_St → Int32 → Prop} (C : tq_At p s m meth c args cX11_isSort 1 ((some .boolean)) ((tq_ws yX11_isSort cX11_isSort 1 (some .boolean))) RX11 D cy z ad)  : ∀ (S : tq_St)  (H : Heap) (locs : List Loc) (ls : Array Slot), wbX11_isSort_13 N post   S  → tq_wd D cy z H0 ad N (tq_mix S M) H → va_S (fun q => z ≤ q) s.heap H locs → lv_has ls 1 [] → W p l e (tq_rm 0 0) s m args below meth c H locs 0 0 (MQ below (va_Qi (fun r u => post u r) (fun u => tq_P D cy z H0 ad N u M) (fun q => z ≤ q)) args s 0 0 (fun q => z ≤ q)) (F0 m 13 ls []) := by
  obtain ⟨hx, hb, hr, hml, hown, hts, hlocks, hK, hG⟩ := id C
  have hw : ∀ w ∈ tq_W, w.before args s = true := fun w h => hts w (List.mem_cons_of_mem _ h)
  intro S  H locs ls h hW hS hl
  unfold wbX11_isSort_13 at h
  refine lv_iconst (v := 0) hx hb dX11_isSort_13 (by decide) ?_
  exact bX11_isSort_14 C  _ _ _ _ _ h hW hS (lv_sub hl [] rfl)
set_option maxHeartbeats 4000000 in
set_option maxRecDepth 100000 in
theorem kX11_isSort {post : tq_St → Int32 → Prop} {S : tq_St} {p0 : Int32} (h : wpX11_isSort N post S p0) : tq_sI l yX11_isSort (tq_ws yX11_isSort cX11_isSort 1 (some .boolean)) 0 0 D cy z H0 ad N M S [.int p0] post := by
  unfold wpX11_isSort at h
  refine Met.ofW (cc := cX11_isSort) (maxL := 1) (ret := (some .boolean)) (by decide) rfl ?_
  intro p e s m args below meth c s₁ B hml hv
  obtain ⟨rfl, hW, hK, hG⟩ := hv
  have hx := B.exec
  have hb := B.bytes
  have hr := B.returns
  have hts := atoms_spec (ws := (tq_ws yX11_isSort cX11_isSort 1 (some .boolean))) B.pre
  have hw : ∀ w ∈ tq_W, w.before _ s = true := fun w h => hts w (List.mem_cons_of_mem _ h)
  have hown : s.vm.findClass RX11 = some m.cls := findClass_of_methodNamed B.named
  have hlocks := B.notSynchronized
  have C : tq_At p s m meth c [.int p0].toArray cX11_isSort 1 ((some .boolean)) ((tq_ws yX11_isSort cX11_isSort 1 (some .boolean))) RX11 D cy z ad := ⟨hx, hb, hr, hml, hown, hts, hlocks, hK, hG⟩
  have hS : va_S (fun q => z ≤ q) s.heap s.heap [] := va_S.rf
  have hl := lv_entry ([.int p0]) (n := 1) (Nat.le_of_ble_eq_true rfl)
  rw [lg_entry_eq]
  generalize (lg_sl ([.int p0]) ++ List.replicate (1 - (lg_sl ([.int p0])).length) Slot.unset).toArray = ls at hl ⊢
  have hl : lv_has ls 1 [(0, .int p0)] := hl
  have hW : tq_wd D cy z H0 ad N (tq_mix S M) s.heap := hW
  refine lv_iload_n hx hb dX11_isSort_0 rfl (lv_at hl 0 rfl) ?_
  refine lv_if_lt (tgt := 13) hx hb dX11_isSort_1 (by decide) (fun c1 => ?_) (fun c1 => ?_)
  · have h := h.1 c1
    exact bX11_isSort_13 C  _  _ _ _ h hW hS (lv_sub hl [] rfl)
  · have h := h.2 c1
    refine lv_iload_n hx hb dX11_isSort_4 rfl (lv_at hl 0 rfl) ?_
    refine lv_iconst (v := 4) hx hb dX11_isSort_5 (by decide) ?_
    refine lv_icmp_ge (tgt := 13) hx hb dX11_isSort_6 (by decide) (fun c2 => ?_) (fun c2 => ?_)
    · have h := h.1 c2
      exact bX11_isSort_13 C  _  _ _ _ h hW hS (lv_sub hl [] rfl)
    · have h := h.2 c2
      refine lv_iconst (v := 1) hx hb dX11_isSort_9 (by decide) ?_
      refine lv_goto (tgt := 14) hx hb dX11_isSort_10 (by decide) ?_
      exact bX11_isSort_14 C  _ _ _ _ _ h hW hS (lv_sub hl [] rfl)
-- X11 isSheet
def wbX11_isSheet_14 (N : tq_Nn) (post : tq_St → Int32 → Prop)  (S : tq_St) (y0 : Int32) : Prop :=
  narrow .boolean (.int y0) = .int y0 ∧ post S y0
def wbX11_isSheet_13 (N : tq_Nn) (post : tq_St → Int32 → Prop)  (S : tq_St) : Prop :=
  wbX11_isSheet_14 N post S 0
def wpX11_isSheet (N : tq_Nn) (post : tq_St → Int32 → Prop) (S : tq_St) (p0 : Int32) : Prop :=
  (p0 < 0 → (wbX11_isSheet_13 N post S )) ∧ (¬ p0 < 0 → ((3 ≤ p0 → (wbX11_isSheet_13 N post S )) ∧ (¬ 3 ≤ p0 → (wbX11_isSheet_14 N post S 1))))
set_option maxHeartbeats 4000000 in
set_option maxRecDepth 100000 in
theorem bX11_isSheet_14 {p : Program} {e : Env} {s : State} {m : MethodId} {args : Array Value} {below : List Frame} {meth : Method} {c : Code} {post : tq_St → Int32 → Prop} (C : tq_At p s m meth c args cX11_isSheet 1 ((some .boolean)) ((tq_ws yX11_isSheet cX11_isSheet 1 (some .boolean))) RX11 D cy z ad)  : ∀ (S : tq_St) (y0 : Int32) (H : Heap) (locs : List Loc) (ls : Array Slot), wbX11_isSheet_14 N post   S y0 → tq_wd D cy z H0 ad N (tq_mix S M) H → va_S (fun q => z ≤ q) s.heap H locs → lv_has ls 1 [] → W p l e (tq_rm 0 0) s m args below meth c H locs 0 0 (MQ below (va_Qi (fun r u => post u r) (fun u => tq_P D cy z H0 ad N u M) (fun q => z ≤ q)) args s 0 0 (fun q => z ≤ q)) (F0 m 14 ls [.int y0]) := by
  obtain ⟨hx, hb, hr, hml, hown, hts, hlocks, hK, hG⟩ := id C
  have hw : ∀ w ∈ tq_W, w.before args s = true := fun w h => hts w (List.mem_cons_of_mem _ h)
  intro S y0 H locs ls h hW hS hl
  unfold wbX11_isSheet_14 at h
  obtain ⟨b3, h⟩ := h
  exact W.zret (v := y0) hx hb hr b3 (fun t ht hWm => ⟨⟨_, S, rfl, h, tq_pe ht hW⟩, hS.F ht⟩) hS.2.2 dX11_isSheet_14
set_option maxHeartbeats 4000000 in
set_option maxRecDepth 100000 in
theorem bX11_isSheet_13 {p : Program} {e : Env} {s : State} {m : MethodId} {args : Array Value} {below : List Frame} {meth : Method} {c : Code} {post : tq_St → Int32 → Prop} (C : tq_At p s m meth c args cX11_isSheet 1 ((some .boolean)) ((tq_ws yX11_isSheet cX11_isSheet 1 (some .boolean))) RX11 D cy z ad)  : ∀ (S : tq_St)  (H : Heap) (locs : List Loc) (ls : Array Slot), wbX11_isSheet_13 N post   S  → tq_wd D cy z H0 ad N (tq_mix S M) H → va_S (fun q => z ≤ q) s.heap H locs → lv_has ls 1 [] → W p l e (tq_rm 0 0) s m args below meth c H locs 0 0 (MQ below (va_Qi (fun r u => post u r) (fun u => tq_P D cy z H0 ad N u M) (fun q => z ≤ q)) args s 0 0 (fun q => z ≤ q)) (F0 m 13 ls []) := by
  obtain ⟨hx, hb, hr, hml, hown, hts, hlocks, hK, hG⟩ := id C
  have hw : ∀ w ∈ tq_W, w.before args s = true := fun w h => hts w (List.mem_cons_of_mem _ h)
  intro S  H locs ls h hW hS hl
  unfold wbX11_isSheet_13 at h
  refine lv_iconst (v := 0) hx hb dX11_isSheet_13 (by decide) ?_
  exact bX11_isSheet_14 C  _ _ _ _ _ h hW hS (lv_sub hl [] rfl)
set_option maxHeartbeats 4000000 in
set_option maxRecDepth 100000 in
theorem kX11_isSheet {post : tq_St → Int32 → Prop} {S : tq_St} {p0 : Int32} (h : wpX11_isSheet N post S p0) : tq_sI l yX11_isSheet (tq_ws yX11_isSheet cX11_isSheet 1 (some .boolean)) 0 0 D cy z H0 ad N M S [.int p0] post := by
  unfold wpX11_isSheet at h
  refine Met.ofW (cc := cX11_isSheet) (maxL := 1) (ret := (some .boolean)) (by decide) rfl ?_
  intro p e s m args below meth c s₁ B hml hv
  obtain ⟨rfl, hW, hK, hG⟩ := hv
  have hx := B.exec
  have hb := B.bytes
  have hr := B.returns
  have hts := atoms_spec (ws := (tq_ws yX11_isSheet cX11_isSheet 1 (some .boolean))) B.pre
  have hw : ∀ w ∈ tq_W, w.before _ s = true := fun w h => hts w (List.mem_cons_of_mem _ h)
  have hown : s.vm.findClass RX11 = some m.cls := findClass_of_methodNamed B.named
  have hlocks := B.notSynchronized
  have C : tq_At p s m meth c [.int p0].toArray cX11_isSheet 1 ((some .boolean)) ((tq_ws yX11_isSheet cX11_isSheet 1 (some .boolean))) RX11 D cy z ad := ⟨hx, hb, hr, hml, hown, hts, hlocks, hK, hG⟩
  have hS : va_S (fun q => z ≤ q) s.heap s.heap [] := va_S.rf
  have hl := lv_entry ([.int p0]) (n := 1) (Nat.le_of_ble_eq_true rfl)
  rw [lg_entry_eq]
  generalize (lg_sl ([.int p0]) ++ List.replicate (1 - (lg_sl ([.int p0])).length) Slot.unset).toArray = ls at hl ⊢
  have hl : lv_has ls 1 [(0, .int p0)] := hl
  have hW : tq_wd D cy z H0 ad N (tq_mix S M) s.heap := hW
  refine lv_iload_n hx hb dX11_isSheet_0 rfl (lv_at hl 0 rfl) ?_
  refine lv_if_lt (tgt := 13) hx hb dX11_isSheet_1 (by decide) (fun c1 => ?_) (fun c1 => ?_)
  · have h := h.1 c1
    exact bX11_isSheet_13 C  _  _ _ _ h hW hS (lv_sub hl [] rfl)
  · have h := h.2 c1
    refine lv_iload_n hx hb dX11_isSheet_4 rfl (lv_at hl 0 rfl) ?_
    refine lv_iconst (v := 3) hx hb dX11_isSheet_5 (by decide) ?_
    refine lv_icmp_ge (tgt := 13) hx hb dX11_isSheet_6 (by decide) (fun c2 => ?_) (fun c2 => ?_)
    · have h := h.1 c2
      exact bX11_isSheet_13 C  _  _ _ _ h hW hS (lv_sub hl [] rfl)
    · have h := h.2 c2
      refine lv_iconst (v := 1) hx hb dX11_isSheet_9 (by decide) ?_
      refine lv_goto (tgt := 14) hx hb dX11_isSheet_10 (by decide) ?_
      exact bX11_isSheet_14 C  _ _ _ _ _ h hW hS (lv_sub hl [] rfl)
-- X11 isHolder
def wbX11_isHolder_15 (N : tq_Nn) (post : tq_St → Int32 → Prop)  (S : tq_St) (y0 : Int32) : Prop :=
  narrow .boolean (.int y0) = .int y0 ∧ post S y0
def wbX11_isHolder_14 (N : tq_Nn) (post : tq_St → Int32 → Prop)  (S : tq_St) : Prop :=
  wbX11_isHolder_15 N post S 0
def wpX11_isHolder (N : tq_Nn) (post : tq_St → Int32 → Prop) (S : tq_St) (p0 : Int32) : Prop :=
  (p0 < 0 → (wbX11_isHolder_14 N post S )) ∧ (¬ p0 < 0 → ((8 ≤ p0 → (wbX11_isHolder_14 N post S )) ∧ (¬ 8 ≤ p0 → (wbX11_isHolder_15 N post S 1))))
set_option maxHeartbeats 4000000 in
set_option maxRecDepth 100000 in
theorem bX11_isHolder_15 {p : Program} {e : Env} {s : State} {m : MethodId} {args : Array Value} {below : List Frame} {meth : Method} {c : Code} {post : tq_St → Int32 → Prop} (C : tq_At p s m meth c args cX11_isHolder 1 ((some .boolean)) ((tq_ws yX11_isHolder cX11_isHolder 1 (some .boolean))) RX11 D cy z ad)  : ∀ (S : tq_St) (y0 : Int32) (H : Heap) (locs : List Loc) (ls : Array Slot), wbX11_isHolder_15 N post   S y0 → tq_wd D cy z H0 ad N (tq_mix S M) H → va_S (fun q => z ≤ q) s.heap H locs → lv_has ls 1 [] → W p l e (tq_rm 0 0) s m args below meth c H locs 0 0 (MQ below (va_Qi (fun r u => post u r) (fun u => tq_P D cy z H0 ad N u M) (fun q => z ≤ q)) args s 0 0 (fun q => z ≤ q)) (F0 m 15 ls [.int y0]) := by
  obtain ⟨hx, hb, hr, hml, hown, hts, hlocks, hK, hG⟩ := id C
  have hw : ∀ w ∈ tq_W, w.before args s = true := fun w h => hts w (List.mem_cons_of_mem _ h)
  intro S y0 H locs ls h hW hS hl
  unfold wbX11_isHolder_15 at h
  obtain ⟨b3, h⟩ := h
  exact W.zret (v := y0) hx hb hr b3 (fun t ht hWm => ⟨⟨_, S, rfl, h, tq_pe ht hW⟩, hS.F ht⟩) hS.2.2 dX11_isHolder_15
set_option maxHeartbeats 4000000 in
set_option maxRecDepth 100000 in
theorem bX11_isHolder_14 {p : Program} {e : Env} {s : State} {m : MethodId} {args : Array Value} {below : List Frame} {meth : Method} {c : Code} {post : tq_St → Int32 → Prop} (C : tq_At p s m meth c args cX11_isHolder 1 ((some .boolean)) ((tq_ws yX11_isHolder cX11_isHolder 1 (some .boolean))) RX11 D cy z ad)  : ∀ (S : tq_St)  (H : Heap) (locs : List Loc) (ls : Array Slot), wbX11_isHolder_14 N post   S  → tq_wd D cy z H0 ad N (tq_mix S M) H → va_S (fun q => z ≤ q) s.heap H locs → lv_has ls 1 [] → W p l e (tq_rm 0 0) s m args below meth c H locs 0 0 (MQ below (va_Qi (fun r u => post u r) (fun u => tq_P D cy z H0 ad N u M) (fun q => z ≤ q)) args s 0 0 (fun q => z ≤ q)) (F0 m 14 ls []) := by
  obtain ⟨hx, hb, hr, hml, hown, hts, hlocks, hK, hG⟩ := id C
  have hw : ∀ w ∈ tq_W, w.before args s = true := fun w h => hts w (List.mem_cons_of_mem _ h)
  intro S  H locs ls h hW hS hl
  unfold wbX11_isHolder_14 at h
  refine lv_iconst (v := 0) hx hb dX11_isHolder_14 (by decide) ?_
  exact bX11_isHolder_15 C  _ _ _ _ _ h hW hS (lv_sub hl [] rfl)
set_option maxHeartbeats 4000000 in
set_option maxRecDepth 100000 in
theorem kX11_isHolder {post : tq_St → Int32 → Prop} {S : tq_St} {p0 : Int32} (h : wpX11_isHolder N post S p0) : tq_sI l yX11_isHolder (tq_ws yX11_isHolder cX11_isHolder 1 (some .boolean)) 0 0 D cy z H0 ad N M S [.int p0] post := by
  unfold wpX11_isHolder at h
  refine Met.ofW (cc := cX11_isHolder) (maxL := 1) (ret := (some .boolean)) (by decide) rfl ?_
  intro p e s m args below meth c s₁ B hml hv
  obtain ⟨rfl, hW, hK, hG⟩ := hv
  have hx := B.exec
  have hb := B.bytes
  have hr := B.returns
  have hts := atoms_spec (ws := (tq_ws yX11_isHolder cX11_isHolder 1 (some .boolean))) B.pre
  have hw : ∀ w ∈ tq_W, w.before _ s = true := fun w h => hts w (List.mem_cons_of_mem _ h)
  have hown : s.vm.findClass RX11 = some m.cls := findClass_of_methodNamed B.named
  have hlocks := B.notSynchronized
  have C : tq_At p s m meth c [.int p0].toArray cX11_isHolder 1 ((some .boolean)) ((tq_ws yX11_isHolder cX11_isHolder 1 (some .boolean))) RX11 D cy z ad := ⟨hx, hb, hr, hml, hown, hts, hlocks, hK, hG⟩
  have hS : va_S (fun q => z ≤ q) s.heap s.heap [] := va_S.rf
  have hl := lv_entry ([.int p0]) (n := 1) (Nat.le_of_ble_eq_true rfl)
  rw [lg_entry_eq]
  generalize (lg_sl ([.int p0]) ++ List.replicate (1 - (lg_sl ([.int p0])).length) Slot.unset).toArray = ls at hl ⊢
  have hl : lv_has ls 1 [(0, .int p0)] := hl
  have hW : tq_wd D cy z H0 ad N (tq_mix S M) s.heap := hW
  refine lv_iload_n hx hb dX11_isHolder_0 rfl (lv_at hl 0 rfl) ?_
  refine lv_if_lt (tgt := 14) hx hb dX11_isHolder_1 (by decide) (fun c1 => ?_) (fun c1 => ?_)
  · have h := h.1 c1
    exact bX11_isHolder_14 C  _  _ _ _ h hW hS (lv_sub hl [] rfl)
  · have h := h.2 c1
    refine lv_iload_n hx hb dX11_isHolder_4 rfl (lv_at hl 0 rfl) ?_
    refine lv_bipush (v := 8) hx hb dX11_isHolder_5 (by decide) ?_
    refine lv_icmp_ge (tgt := 14) hx hb dX11_isHolder_7 (by decide) (fun c2 => ?_) (fun c2 => ?_)
    · have h := h.1 c2
      exact bX11_isHolder_14 C  _  _ _ _ h hW hS (lv_sub hl [] rfl)
    · have h := h.2 c2
      refine lv_iconst (v := 1) hx hb dX11_isHolder_10 (by decide) ?_
      refine lv_goto (tgt := 15) hx hb dX11_isHolder_11 (by decide) ?_
      exact bX11_isHolder_15 C  _ _ _ _ _ h hW hS (lv_sub hl [] rfl)
-- X11 isPerson
def wbX11_isPerson_17 (N : tq_Nn) (post : tq_St → Int32 → Prop)  (S : tq_St) (y0 : Int32) : Prop :=
  narrow .boolean (.int y0) = .int y0 ∧ post S y0
def wbX11_isPerson_16 (N : tq_Nn) (post : tq_St → Int32 → Prop)  (S : tq_St) : Prop :=
  wbX11_isPerson_17 N post S 0
def wpX11_isPerson (N : tq_Nn) (post : tq_St → Int32 → Prop) (S : tq_St) (p0 : Int32) : Prop :=
  (p0 < 0 → (wbX11_isPerson_16 N post S )) ∧ (¬ p0 < 0 → (((S 1 0 2) ≤ p0 → (wbX11_isPerson_16 N post S )) ∧ (¬ (S 1 0 2) ≤ p0 → (wbX11_isPerson_17 N post S 1))))
set_option maxHeartbeats 4000000 in
set_option maxRecDepth 100000 in
theorem bX11_isPerson_17 {p : Program} {e : Env} {s : State} {m : MethodId} {args : Array Value} {below : List Frame} {meth : Method} {c : Code} {post : tq_St → Int32 → Prop} (C : tq_At p s m meth c args cX11_isPerson 2 ((some .boolean)) ((tq_ws yX11_isPerson cX11_isPerson 2 (some .boolean))) RX11 D cy z ad)  : ∀ (S : tq_St) (y0 : Int32) (H : Heap) (locs : List Loc) (ls : Array Slot), wbX11_isPerson_17 N post   S y0 → tq_wd D cy z H0 ad N (tq_mix S M) H → va_S (fun q => z ≤ q) s.heap H locs → lv_has ls 2 [] → W p l e (tq_rm 0 0) s m args below meth c H locs 0 0 (MQ below (va_Qi (fun r u => post u r) (fun u => tq_P D cy z H0 ad N u M) (fun q => z ≤ q)) args s 0 0 (fun q => z ≤ q)) (F0 m 17 ls [.int y0]) := by
  obtain ⟨hx, hb, hr, hml, hown, hts, hlocks, hK, hG⟩ := id C
  have hw : ∀ w ∈ tq_W, w.before args s = true := fun w h => hts w (List.mem_cons_of_mem _ h)
  intro S y0 H locs ls h hW hS hl
  unfold wbX11_isPerson_17 at h
  obtain ⟨b3, h⟩ := h
  exact W.zret (v := y0) hx hb hr b3 (fun t ht hWm => ⟨⟨_, S, rfl, h, tq_pe ht hW⟩, hS.F ht⟩) hS.2.2 dX11_isPerson_17
set_option maxHeartbeats 4000000 in
set_option maxRecDepth 100000 in
theorem bX11_isPerson_16 {p : Program} {e : Env} {s : State} {m : MethodId} {args : Array Value} {below : List Frame} {meth : Method} {c : Code} {post : tq_St → Int32 → Prop} (C : tq_At p s m meth c args cX11_isPerson 2 ((some .boolean)) ((tq_ws yX11_isPerson cX11_isPerson 2 (some .boolean))) RX11 D cy z ad)  : ∀ (S : tq_St)  (H : Heap) (locs : List Loc) (ls : Array Slot), wbX11_isPerson_16 N post   S  → tq_wd D cy z H0 ad N (tq_mix S M) H → va_S (fun q => z ≤ q) s.heap H locs → lv_has ls 2 [] → W p l e (tq_rm 0 0) s m args below meth c H locs 0 0 (MQ below (va_Qi (fun r u => post u r) (fun u => tq_P D cy z H0 ad N u M) (fun q => z ≤ q)) args s 0 0 (fun q => z ≤ q)) (F0 m 16 ls []) := by
  obtain ⟨hx, hb, hr, hml, hown, hts, hlocks, hK, hG⟩ := id C
  have hw : ∀ w ∈ tq_W, w.before args s = true := fun w h => hts w (List.mem_cons_of_mem _ h)
  intro S  H locs ls h hW hS hl
  unfold wbX11_isPerson_16 at h
  refine lv_iconst (v := 0) hx hb dX11_isPerson_16 (by decide) ?_
  exact bX11_isPerson_17 C  _ _ _ _ _ h hW hS (lv_sub hl [] rfl)
set_option maxHeartbeats 4000000 in
set_option maxRecDepth 100000 in
theorem kX11_isPerson {post : tq_St → Int32 → Prop} {S : tq_St} {p0 : Int32} (h : wpX11_isPerson N post S p0) : tq_sI l yX11_isPerson (tq_ws yX11_isPerson cX11_isPerson 2 (some .boolean)) 0 0 D cy z H0 ad N M S [.ref (ad 1 0), .int p0] post := by
  unfold wpX11_isPerson at h
  refine Met.ofW (cc := cX11_isPerson) (maxL := 2) (ret := (some .boolean)) (by decide) rfl ?_
  intro p e s m args below meth c s₁ B hml hv
  obtain ⟨rfl, hW, hK, hG⟩ := hv
  have hx := B.exec
  have hb := B.bytes
  have hr := B.returns
  have hts := atoms_spec (ws := (tq_ws yX11_isPerson cX11_isPerson 2 (some .boolean))) B.pre
  have hw : ∀ w ∈ tq_W, w.before _ s = true := fun w h => hts w (List.mem_cons_of_mem _ h)
  have hown : s.vm.findClass RX11 = some m.cls := findClass_of_methodNamed B.named
  have hlocks := B.notSynchronized
  have C : tq_At p s m meth c [.ref (ad 1 0), .int p0].toArray cX11_isPerson 2 ((some .boolean)) ((tq_ws yX11_isPerson cX11_isPerson 2 (some .boolean))) RX11 D cy z ad := ⟨hx, hb, hr, hml, hown, hts, hlocks, hK, hG⟩
  have hS : va_S (fun q => z ≤ q) s.heap s.heap [] := va_S.rf
  have hl := lv_entry ([.ref (ad 1 0), .int p0]) (n := 2) (Nat.le_of_ble_eq_true rfl)
  rw [lg_entry_eq]
  generalize (lg_sl ([.ref (ad 1 0), .int p0]) ++ List.replicate (2 - (lg_sl ([.ref (ad 1 0), .int p0])).length) Slot.unset).toArray = ls at hl ⊢
  have hl : lv_has ls 2 [(0, .ref (ad 1 0)), (1, .int p0)] := hl
  have hW : tq_wd D cy z H0 ad N (tq_mix S M) s.heap := hW
  refine lv_iload_n hx hb dX11_isPerson_0 rfl (lv_at hl 1 rfl) ?_
  refine lv_if_lt (tgt := 16) hx hb dX11_isPerson_1 (by decide) (fun c1 => ?_) (fun c1 => ?_)
  · have h := h.1 c1
    exact bX11_isPerson_16 C  _  _ _ _ h hW hS (lv_sub hl [] rfl)
  · have h := h.2 c1
    refine lv_iload_n hx hb dX11_isPerson_4 rfl (lv_at hl 1 rfl) ?_
    refine lv_aload_n hx hb dX11_isPerson_5 rfl (lv_at hl 0 rfl) ?_
    refine tqc_get (v := .int (S 1 0 2)) hx hb hw tq_inX11 hown hK hW (by decide) (tq_mk_1 (by decide)) rfl 2 (by decide) (hw _ tw_339) (fun _ h9 => h9) rfl dX11_isPerson_6 ?_
    refine lv_icmp_ge (tgt := 16) hx hb dX11_isPerson_9 (by decide) (fun c2 => ?_) (fun c2 => ?_)
    · have h := h.1 c2
      exact bX11_isPerson_16 C  _  _ _ _ h hW hS (lv_sub hl [] rfl)
    · have h := h.2 c2
      refine lv_iconst (v := 1) hx hb dX11_isPerson_12 (by decide) ?_
      refine lv_goto (tgt := 17) hx hb dX11_isPerson_13 (by decide) ?_
      exact bX11_isPerson_17 C  _ _ _ _ _ h hW hS (lv_sub hl [] rfl)
