variable {l : Launch} {D : va_G} {cy : Nat → ClassId} {z : Nat} {H0 : Heap} {ad : Nat → Nat → Nat} {N : tq_Nn} {S : tq_St}
-- doBuy
def wbX12_doBuy_35 (post : tq_St → Prop)  (M : tq_St) : Prop :=
  post M
def wpX12_doBuy (post : tq_St → Prop) (M : tq_St) (p0 : Int32) (p1 : Int32) (p2 : Int32) (p3 : Int32) (p4 : Int32) : Prop :=
  wpX12_buy (fun M1 r2 => (r2 ≤ 0 → (wbX12_doBuy_35 post M1 )) ∧ (¬ r2 ≤ 0 → (wpX12_enter (fun M4 => wbX12_doBuy_35 post M4 ) M1 p0 0 p1 r2 (M1 64 0 73) p3 p4))) M p0 p1 p2 (M 64 0 74)
set_option maxHeartbeats 4000000 in
set_option maxRecDepth 100000 in
theorem bX12_doBuy_35 {p : Program} {e : Env} {s : State} {m : MethodId} {args : Array Value} {below : List Frame} {meth : Method} {c : Code} {post : tq_St → Prop} (C : tq_At p s m meth c args cX12_doBuy 7 (none) ((tq_ws yX12_doBuy cX12_doBuy 7 none)) RX12 D cy z ad)  : ∀ (M : tq_St)  (H : Heap) (locs : List Loc) (ls : Array Slot), wbX12_doBuy_35 post   M  → tq_wd D cy z H0 ad N (tq_mix S M) H → va_S (fun q => z ≤ q) s.heap H locs → lv_has ls 7 [] → W p l e (tq_rm 2 48) s m args below meth c H locs 0 0 (MQ below (va_Qv (fun u => post u) (tq_P D cy z H0 ad N S) (fun q => z ≤ q)) args s 0 0 (fun q => z ≤ q)) (F0 m 35 ls []) := by
  obtain ⟨hx, hb, hr, hml, hown, hts, hlocks, hK, hG⟩ := id C
  have hw : ∀ w ∈ tq_W, w.before args s = true := fun w h => hts w (List.mem_cons_of_mem _ h)
  intro M  H locs ls h hW hS hl
  unfold wbX12_doBuy_35 at h
  exact W.vret hx hb hr (fun t ht hWm => ⟨⟨M, rfl, h, tq_pe ht hW⟩, hS.F ht⟩) hS.2.2 dX12_doBuy_35
set_option maxHeartbeats 4000000 in
set_option maxRecDepth 100000 in
theorem kX12_doBuy {post : tq_St → Prop} {M : tq_St} {p0 : Int32} {p1 : Int32} {p2 : Int32} {p3 : Int32} {p4 : Int32} (h : wpX12_doBuy post M p0 p1 p2 p3 p4) : tq_mV l yX12_doBuy (tq_ws yX12_doBuy cX12_doBuy 7 none) 2 48 D cy z H0 ad N S M [.ref (ad 64 0), .int p0, .int p1, .int p2, .int p3, .int p4] post := by
  unfold wpX12_doBuy at h
  refine Met.ofW (cc := cX12_doBuy) (maxL := 7) (ret := none) (by decide) rfl ?_
  intro p e s m args below meth c s₁ B hml hv
  obtain ⟨rfl, hW, hK, hG⟩ := hv
  have hx := B.exec
  have hb := B.bytes
  have hr := B.returns
  have hts := atoms_spec (ws := (tq_ws yX12_doBuy cX12_doBuy 7 none)) B.pre
  have hw : ∀ w ∈ tq_W, w.before _ s = true := fun w h => hts w (List.mem_cons_of_mem _ h)
  have hown : s.vm.findClass RX12 = some m.cls := findClass_of_methodNamed B.named
  have hlocks := B.notSynchronized
  have C : tq_At p s m meth c [.ref (ad 64 0), .int p0, .int p1, .int p2, .int p3, .int p4].toArray cX12_doBuy 7 (none) ((tq_ws yX12_doBuy cX12_doBuy 7 none)) RX12 D cy z ad := ⟨hx, hb, hr, hml, hown, hts, hlocks, hK, hG⟩
  have hS : va_S (fun q => z ≤ q) s.heap s.heap [] := va_S.rf
  have hl := lv_entry ([.ref (ad 64 0), .int p0, .int p1, .int p2, .int p3, .int p4]) (n := 7) (Nat.le_of_ble_eq_true rfl)
  rw [lg_entry_eq]
  generalize (lg_sl ([.ref (ad 64 0), .int p0, .int p1, .int p2, .int p3, .int p4]) ++ List.replicate (7 - (lg_sl ([.ref (ad 64 0), .int p0, .int p1, .int p2, .int p3, .int p4])).length) Slot.unset).toArray = ls at hl ⊢
  have hl : lv_has ls 7 [(0, .ref (ad 64 0)), (1, .int p0), (2, .int p1), (3, .int p2), (4, .int p3), (5, .int p4)] := hl
  have hW : tq_wd D cy z H0 ad N (tq_mix S M) s.heap := hW
  refine lv_aload_n hx hb dX12_doBuy_0 rfl (lv_at hl 0 rfl) ?_
  refine lv_iload_n hx hb dX12_doBuy_1 rfl (lv_at hl 1 rfl) ?_
  refine lv_iload_n hx hb dX12_doBuy_2 rfl (lv_at hl 2 rfl) ?_
  refine lv_iload_n hx hb dX12_doBuy_3 rfl (lv_at hl 3 rfl) ?_
  refine lv_aload_n hx hb dX12_doBuy_4 rfl (lv_at hl 0 rfl) ?_
  refine tqm_get (v := .int (M 64 0 74)) hx hb hw tq_inX12 hown hK hW (by decide) (tq_mk_64 (by decide)) rfl 74 (by decide) (hw _ tw_1482) (fun _ h9 => h9) rfl dX12_doBuy_5 ?_
  refine tq_callVi (As := [.int p0, .int p1, .int p2, .int (M 64 0 74)]) (rest := []) (kX12_buy h) ⟨hx, hb, hml, hown, hts⟩ (cwV 4 hts (tq_goodV tw_1955 tw_1957 tw_97 tw_125 tw_1958) rfl rfl rfl (by decide +kernel) ⟨Nat.le_of_ble_eq_true rfl, Nat.le_of_ble_eq_true rfl⟩) hK hG hW hS rfl hl.1 rfl (Nat.le_of_ble_eq_true rfl) dX12_doBuy_8 ⟨Nat.le_of_ble_eq_true rfl, Nat.le_of_ble_eq_true rfl⟩ (fun r2 M1 H locs h hW hS => ?_)
  refine lv_istore (lv' := [(6, .int r2), (0, .ref (ad 64 0)), (1, .int p0), (2, .int p1), (3, .int p2), (4, .int p3), (5, .int p4)]) hx hb dX12_doBuy_11 hl (by decide) rfl (fun ls hl => ?_)
  refine lv_iload hx hb dX12_doBuy_13 (lv_at hl 0 rfl) ?_
  refine lv_if_le (tgt := 35) hx hb dX12_doBuy_15 (by decide) (fun c3 => ?_) (fun c3 => ?_)
  · have h := h.1 c3
    exact bX12_doBuy_35 C  _  _ _ _ h hW hS (lv_sub hl [] rfl)
  · have h := h.2 c3
    refine lv_aload_n hx hb dX12_doBuy_18 rfl (lv_at hl 1 rfl) ?_
    refine lv_iload_n hx hb dX12_doBuy_19 rfl (lv_at hl 2 rfl) ?_
    refine lv_iconst (v := 0) hx hb dX12_doBuy_20 (by decide) ?_
    refine lv_iload_n hx hb dX12_doBuy_21 rfl (lv_at hl 3 rfl) ?_
    refine lv_iload hx hb dX12_doBuy_22 (lv_at hl 0 rfl) ?_
    refine lv_aload_n hx hb dX12_doBuy_24 rfl (lv_at hl 1 rfl) ?_
    refine tqm_get (v := .int (M1 64 0 73)) hx hb hw tq_inX12 hown hK hW (by decide) (tq_mk_64 (by decide)) rfl 73 (by decide) (hw _ tw_1481) (fun _ h9 => h9) rfl dX12_doBuy_25 ?_
    refine lv_iload hx hb dX12_doBuy_28 (lv_at hl 5 rfl) ?_
    refine lv_iload hx hb dX12_doBuy_30 (lv_at hl 6 rfl) ?_
    refine tq_callVv (As := [.int p0, .int 0, .int p1, .int r2, .int (M1 64 0 73), .int p3, .int p4]) (rest := []) (kX12_enter h) ⟨hx, hb, hml, hown, hts⟩ (cwV 7 hts (tq_goodV tw_1959 tw_1961 tw_98 tw_125 tw_1962) rfl rfl rfl (by decide +kernel) ⟨Nat.le_of_ble_eq_true rfl, Nat.le_of_ble_eq_true rfl⟩) hK hG hW hS rfl hl.1 rfl (Nat.le_of_ble_eq_true rfl) dX12_doBuy_32 ⟨Nat.le_of_ble_eq_true rfl, Nat.le_of_ble_eq_true rfl⟩ (fun M4 H locs h hW hS => ?_)
    exact bX12_doBuy_35 C  _  _ _ _ h hW hS (lv_sub hl [] rfl)
-- doAdvance
def wbX12_doAdvance_86 (post : tq_St → Prop)  (M : tq_St) : Prop :=
  post M
def wpX12_doAdvance (post : tq_St → Prop) (M : tq_St) (p0 : Int32) (p1 : Int32) (p2 : Int32) (p3 : Int32) (p4 : Int32) : Prop :=
  wpX12_priceOf (fun M1 r2 => (p2 ≤ 0 → (wbX12_doAdvance_86 post M1 )) ∧ (¬ p2 ≤ 0 → (wpX12_anyOpen (fun M4 r5 => (¬ r5 = 0 → (wbX12_doAdvance_86 post M4 )) ∧ (r5 = 0 → (vp_in p0 5 ∧ ((0 < (lg_cmp (((p2.toInt64 * r2.toInt64) * ((9))) / ((10))) (((M4 101 0 p0.toNatClampNeg).toInt64) - ((M4 64 0 74).toInt64))) → (wbX12_doAdvance_86 post M4 )) ∧ (¬ 0 < (lg_cmp (((p2.toInt64 * r2.toInt64) * ((9))) / ((10))) (((M4 101 0 p0.toNatClampNeg).toInt64) - ((M4 64 0 74).toInt64))) → (∀ M9, M9 = tq_up M4 101 0 p0.toNatClampNeg ((M4 101 0 p0.toNatClampNeg) - ((((p2.toInt64 * r2.toInt64) * ((9))) / ((10))).toInt32)) → (wpX12_give (fun M10 => wpX12_enter (fun M11 => wbX12_doAdvance_86 post M11 ) M10 p0 1 p1 p2 ((((p2.toInt64 * r2.toInt64) * ((9))) / ((10))).toInt32) p3 p4) M9 p0 p1 p2))))))) M1 p0 p1))) M p0 p1
set_option maxHeartbeats 4000000 in
set_option maxRecDepth 100000 in
theorem bX12_doAdvance_86 {p : Program} {e : Env} {s : State} {m : MethodId} {args : Array Value} {below : List Frame} {meth : Method} {c : Code} {post : tq_St → Prop} (C : tq_At p s m meth c args cX12_doAdvance 8 (none) ((tq_ws yX12_doAdvance cX12_doAdvance 8 none)) RX12 D cy z ad)  : ∀ (M : tq_St)  (H : Heap) (locs : List Loc) (ls : Array Slot), wbX12_doAdvance_86 post   M  → tq_wd D cy z H0 ad N (tq_mix S M) H → va_S (fun q => z ≤ q) s.heap H locs → lv_has ls 8 [] → W p l e (tq_rm 1 28) s m args below meth c H locs 0 0 (MQ below (va_Qv (fun u => post u) (tq_P D cy z H0 ad N S) (fun q => z ≤ q)) args s 0 0 (fun q => z ≤ q)) (F0 m 86 ls []) := by
  obtain ⟨hx, hb, hr, hml, hown, hts, hlocks, hK, hG⟩ := id C
  have hw : ∀ w ∈ tq_W, w.before args s = true := fun w h => hts w (List.mem_cons_of_mem _ h)
  intro M  H locs ls h hW hS hl
  unfold wbX12_doAdvance_86 at h
  exact W.vret hx hb hr (fun t ht hWm => ⟨⟨M, rfl, h, tq_pe ht hW⟩, hS.F ht⟩) hS.2.2 dX12_doAdvance_86
set_option maxHeartbeats 4000000 in
set_option maxRecDepth 100000 in
theorem kX12_doAdvance {post : tq_St → Prop} {M : tq_St} {p0 : Int32} {p1 : Int32} {p2 : Int32} {p3 : Int32} {p4 : Int32} (h : wpX12_doAdvance post M p0 p1 p2 p3 p4) : tq_mV l yX12_doAdvance (tq_ws yX12_doAdvance cX12_doAdvance 8 none) 1 28 D cy z H0 ad N S M [.ref (ad 64 0), .int p0, .int p1, .int p2, .int p3, .int p4] post := by
  unfold wpX12_doAdvance at h
  refine Met.ofW (cc := cX12_doAdvance) (maxL := 8) (ret := none) (by decide) rfl ?_
  intro p e s m args below meth c s₁ B hml hv
  obtain ⟨rfl, hW, hK, hG⟩ := hv
  have hx := B.exec
  have hb := B.bytes
  have hr := B.returns
  have hts := atoms_spec (ws := (tq_ws yX12_doAdvance cX12_doAdvance 8 none)) B.pre
  have hw : ∀ w ∈ tq_W, w.before _ s = true := fun w h => hts w (List.mem_cons_of_mem _ h)
  have hown : s.vm.findClass RX12 = some m.cls := findClass_of_methodNamed B.named
  have hlocks := B.notSynchronized
  have C : tq_At p s m meth c [.ref (ad 64 0), .int p0, .int p1, .int p2, .int p3, .int p4].toArray cX12_doAdvance 8 (none) ((tq_ws yX12_doAdvance cX12_doAdvance 8 none)) RX12 D cy z ad := ⟨hx, hb, hr, hml, hown, hts, hlocks, hK, hG⟩
  have hS : va_S (fun q => z ≤ q) s.heap s.heap [] := va_S.rf
  have hl := lv_entry ([.ref (ad 64 0), .int p0, .int p1, .int p2, .int p3, .int p4]) (n := 8) (Nat.le_of_ble_eq_true rfl)
  rw [lg_entry_eq]
  generalize (lg_sl ([.ref (ad 64 0), .int p0, .int p1, .int p2, .int p3, .int p4]) ++ List.replicate (8 - (lg_sl ([.ref (ad 64 0), .int p0, .int p1, .int p2, .int p3, .int p4])).length) Slot.unset).toArray = ls at hl ⊢
  have hl : lv_has ls 8 [(0, .ref (ad 64 0)), (1, .int p0), (2, .int p1), (3, .int p2), (4, .int p3), (5, .int p4)] := hl
  have hW : tq_wd D cy z H0 ad N (tq_mix S M) s.heap := hW
  refine lv_iload_n hx hb dX12_doAdvance_0 rfl (lv_at hl 3 rfl) ?_
  refine lv_i2l (v := p2.toInt64) hx hb dX12_doAdvance_1 rfl ?_
  refine lv_aload_n hx hb dX12_doAdvance_2 rfl (lv_at hl 0 rfl) ?_
  refine lv_iload_n hx hb dX12_doAdvance_3 rfl (lv_at hl 1 rfl) ?_
  refine lv_iload_n hx hb dX12_doAdvance_4 rfl (lv_at hl 2 rfl) ?_
  refine tq_callVi (As := [.int p0, .int p1]) (rest := [.long p2.toInt64]) (kX12_priceOf h) ⟨hx, hb, hml, hown, hts⟩ (cwV 2 hts (tq_goodV tw_1662 tw_1664 tw_56 tw_125 tw_1665) rfl rfl rfl (by decide +kernel) ⟨Nat.le_of_ble_eq_true rfl, Nat.le_of_ble_eq_true rfl⟩) hK hG hW hS rfl hl.1 rfl (Nat.le_of_ble_eq_true rfl) dX12_doAdvance_5 ⟨Nat.le_of_ble_eq_true rfl, Nat.le_of_ble_eq_true rfl⟩ (fun r2 M1 H locs h hW hS => ?_)
  refine lv_i2l (v := r2.toInt64) hx hb dX12_doAdvance_8 rfl ?_
  refine lv_lmul hx hb dX12_doAdvance_9 ?_
  refine lv_ldc2 hx hb hown (hw _ tw_1967) dX12_doAdvance_10 ?_
  refine lv_lmul hx hb dX12_doAdvance_13 ?_
  refine lv_ldc2 hx hb hown (hw _ tw_1968) dX12_doAdvance_14 ?_
  refine lv_ldiv hx hb dX12_doAdvance_17 (by decide) ?_
  refine lv_lstore (lv' := [(6, .long (((p2.toInt64 * r2.toInt64) * ((9))) / ((10)))), (0, .ref (ad 64 0)), (1, .int p0), (2, .int p1), (3, .int p2), (4, .int p3), (5, .int p4)]) hx hb dX12_doAdvance_18 hl (by decide) rfl (fun ls hl => ?_)
  refine lv_iload_n hx hb dX12_doAdvance_20 rfl (lv_at hl 4 rfl) ?_
  refine lv_if_le (tgt := 86) hx hb dX12_doAdvance_21 (by decide) (fun c3 => ?_) (fun c3 => ?_)
  · have h := h.1 c3
    exact bX12_doAdvance_86 C  _  _ _ _ h hW hS (lv_sub hl [] rfl)
  · have h := h.2 c3
    refine lv_aload_n hx hb dX12_doAdvance_24 rfl (lv_at hl 1 rfl) ?_
    refine lv_iload_n hx hb dX12_doAdvance_25 rfl (lv_at hl 2 rfl) ?_
    refine lv_iload_n hx hb dX12_doAdvance_26 rfl (lv_at hl 3 rfl) ?_
    refine tq_callVi (As := [.int p0, .int p1]) (rest := []) (kX12_anyOpen h) ⟨hx, hb, hml, hown, hts⟩ (cwV 2 hts (tq_goodV tw_1969 tw_1971 tw_100 tw_125 tw_1972) rfl rfl rfl (by decide +kernel) ⟨Nat.le_of_ble_eq_true rfl, Nat.le_of_ble_eq_true rfl⟩) hK hG hW hS rfl hl.1 rfl (Nat.le_of_ble_eq_true rfl) dX12_doAdvance_27 ⟨Nat.le_of_ble_eq_true rfl, Nat.le_of_ble_eq_true rfl⟩ (fun r5 M4 H locs h hW hS => ?_)
    refine lv_if_ne (tgt := 86) hx hb dX12_doAdvance_30 (by decide) (fun c6 => ?_) (fun c6 => ?_)
    · have h := h.1 c6
      exact bX12_doAdvance_86 C  _  _ _ _ h hW hS (lv_sub hl [] rfl)
    · have h := h.2 c6
      refine lv_lload hx hb dX12_doAdvance_33 (lv_at hl 0 rfl) ?_
      refine lv_aload_n hx hb dX12_doAdvance_35 rfl (lv_at hl 1 rfl) ?_
      refine tqm_get (v := .ref (ad 101 0)) hx hb hw tq_inX12 hown hK hW (by decide) (tq_mk_64 (by decide)) rfl 1 (by decide) (hw _ tw_1409) (fun _ h9 => h9) rfl dX12_doAdvance_36 ?_
      refine lv_iload_n hx hb dX12_doAdvance_39 rfl (lv_at hl 2 rfl) ?_
      obtain ⟨b7, h⟩ := h
      refine tqm_iald (jn := p0.toNatClampNeg) hx hb hK hW (by decide) (tq_mk_101 (by decide)) b7 rfl dX12_doAdvance_40 ?_
      refine lv_i2l (v := (M4 101 0 p0.toNatClampNeg).toInt64) hx hb dX12_doAdvance_41 rfl ?_
      refine lv_aload_n hx hb dX12_doAdvance_42 rfl (lv_at hl 1 rfl) ?_
      refine tqm_get (v := .int (M4 64 0 74)) hx hb hw tq_inX12 hown hK hW (by decide) (tq_mk_64 (by decide)) rfl 74 (by decide) (hw _ tw_1482) (fun _ h9 => h9) rfl dX12_doAdvance_43 ?_
      refine lv_i2l (v := (M4 64 0 74).toInt64) hx hb dX12_doAdvance_46 rfl ?_
      refine lv_lsub hx hb dX12_doAdvance_47 ?_
      refine W.lcmp hx hb dX12_doAdvance_48 ?_
      refine lv_if_gt (tgt := 86) hx hb dX12_doAdvance_49 (by decide) (fun c8 => ?_) (fun c8 => ?_)
      · have h := h.1 c8
        exact bX12_doAdvance_86 C  _  _ _ _ h hW hS (lv_sub hl [] rfl)
      · have h := h.2 c8
        refine lv_aload_n hx hb dX12_doAdvance_52 rfl (lv_at hl 1 rfl) ?_
        refine tqm_get (v := .ref (ad 101 0)) hx hb hw tq_inX12 hown hK hW (by decide) (tq_mk_64 (by decide)) rfl 1 (by decide) (hw _ tw_1409) (fun _ h9 => h9) rfl dX12_doAdvance_53 ?_
        refine lv_iload_n hx hb dX12_doAdvance_56 rfl (lv_at hl 2 rfl) ?_
        refine lv_dup2_11 hx hb dX12_doAdvance_57 rfl rfl ?_
        refine tqm_iald (jn := p0.toNatClampNeg) hx hb hK hW (by decide) (tq_mk_101 (by decide)) b7 rfl dX12_doAdvance_58 ?_
        refine lv_lload hx hb dX12_doAdvance_59 (lv_at hl 0 rfl) ?_
        refine lv_l2i (v := (((p2.toInt64 * r2.toInt64) * ((9))) / ((10))).toInt32) hx hb dX12_doAdvance_61 rfl ?_
        refine lv_isub hx hb dX12_doAdvance_62 ?_
        refine tqm_iast (jn := p0.toNatClampNeg) hx hb hK hW hS (by decide) (tq_mk_101 (by decide)) b7 rfl (tq_mk_101 (by decide)) dX12_doAdvance_63 (fun H locs hW hS => ?_)
        generalize eM9 : tq_up M4 101 0 p0.toNatClampNeg ((M4 101 0 p0.toNatClampNeg) - ((((p2.toInt64 * r2.toInt64) * ((9))) / ((10))).toInt32)) = M9 at hW
        have h := h M9 eM9.symm
        refine lv_aload_n hx hb dX12_doAdvance_64 rfl (lv_at hl 1 rfl) ?_
        refine lv_iload_n hx hb dX12_doAdvance_65 rfl (lv_at hl 2 rfl) ?_
        refine lv_iload_n hx hb dX12_doAdvance_66 rfl (lv_at hl 3 rfl) ?_
        refine lv_iload_n hx hb dX12_doAdvance_67 rfl (lv_at hl 4 rfl) ?_
        refine tq_callVv (As := [.int p0, .int p1, .int p2]) (rest := []) (kX12_give h) ⟨hx, hb, hml, hown, hts⟩ (cwV 3 hts (tq_goodV tw_1973 tw_1975 tw_101 tw_125 tw_1976) rfl rfl rfl (by decide +kernel) ⟨Nat.le_of_ble_eq_true rfl, Nat.le_of_ble_eq_true rfl⟩) hK hG hW hS rfl hl.1 rfl (Nat.le_of_ble_eq_true rfl) dX12_doAdvance_68 ⟨Nat.le_of_ble_eq_true rfl, Nat.le_of_ble_eq_true rfl⟩ (fun M10 H locs h hW hS => ?_)
        refine lv_aload_n hx hb dX12_doAdvance_71 rfl (lv_at hl 1 rfl) ?_
        refine lv_iload_n hx hb dX12_doAdvance_72 rfl (lv_at hl 2 rfl) ?_
        refine lv_iconst (v := 1) hx hb dX12_doAdvance_73 (by decide) ?_
        refine lv_iload_n hx hb dX12_doAdvance_74 rfl (lv_at hl 3 rfl) ?_
        refine lv_iload_n hx hb dX12_doAdvance_75 rfl (lv_at hl 4 rfl) ?_
        refine lv_lload hx hb dX12_doAdvance_76 (lv_at hl 0 rfl) ?_
        refine lv_l2i (v := (((p2.toInt64 * r2.toInt64) * ((9))) / ((10))).toInt32) hx hb dX12_doAdvance_78 rfl ?_
        refine lv_iload hx hb dX12_doAdvance_79 (lv_at hl 5 rfl) ?_
        refine lv_iload hx hb dX12_doAdvance_81 (lv_at hl 6 rfl) ?_
        refine tq_callVv (As := [.int p0, .int 1, .int p1, .int p2, .int ((((p2.toInt64 * r2.toInt64) * ((9))) / ((10))).toInt32), .int p3, .int p4]) (rest := []) (kX12_enter h) ⟨hx, hb, hml, hown, hts⟩ (cwV 7 hts (tq_goodV tw_1959 tw_1961 tw_98 tw_125 tw_1962) rfl rfl rfl (by decide +kernel) ⟨Nat.le_of_ble_eq_true rfl, Nat.le_of_ble_eq_true rfl⟩) hK hG hW hS rfl hl.1 rfl (Nat.le_of_ble_eq_true rfl) dX12_doAdvance_83 ⟨Nat.le_of_ble_eq_true rfl, Nat.le_of_ble_eq_true rfl⟩ (fun M11 H locs h hW hS => ?_)
        exact bX12_doAdvance_86 C  _  _ _ _ h hW hS (lv_sub hl [] rfl)
-- doLade
def wbX12_doLade_105 (post : tq_St → Prop)  (M : tq_St) : Prop :=
  post M
def wbX12_doLade_106 (post : tq_St → Prop) (L3 : tq_St → Int32 → Int32 → Int32 → Int32 → Int32 → Int32 → Prop) (M : tq_St) (x1 : Int32) (x2 : Int32) (x3 : Int32) (x4 : Int32) (x5 : Int32) (x6 : Int32) : Prop :=
  L3 M x1 x2 x3 x4 x5 (x6 + 1)
def wbX12_doLade_3 (post : tq_St → Prop) : Nat → tq_St → Int32 → Int32 → Int32 → Int32 → Int32 → Int32 → Prop
  | 0, _, _, _, _, _, _, _ => False
  | n + 1, M, x1, x2, x3, x4, x5, x6 =>
    ((M 64 0 21) ≤ x6 → (post M)) ∧ (¬ (M 64 0 21) ≤ x6 → (vp_in x6 8 ∧ ((¬ (M 124 0 x6.toNatClampNeg) = x1 → (wbX12_doLade_106 post  (wbX12_doLade_3 post n) M x1 x2 x3 x4 x5 x6)) ∧ ((M 124 0 x6.toNatClampNeg) = x1 → ((¬ (M 125 0 x6.toNatClampNeg) = 0 → (vp_in x1 5 ∧ (vp_in x2 4 ∧ (wpX12_free (fun M7 r8 => ((if (if r8 < (M 102 x1.toNatClampNeg x2.toNatClampNeg) then r8 else (M 102 x1.toNatClampNeg x2.toNatClampNeg)) < x3 then (if r8 < (M 102 x1.toNatClampNeg x2.toNatClampNeg) then r8 else (M 102 x1.toNatClampNeg x2.toNatClampNeg)) else x3) ≤ 0 → (wbX12_doLade_105 post M7 )) ∧ (¬ (if (if r8 < (M 102 x1.toNatClampNeg x2.toNatClampNeg) then r8 else (M 102 x1.toNatClampNeg x2.toNatClampNeg)) < x3 then (if r8 < (M 102 x1.toNatClampNeg x2.toNatClampNeg) then r8 else (M 102 x1.toNatClampNeg x2.toNatClampNeg)) else x3) ≤ 0 → (∀ M10, M10 = tq_up M7 102 x1.toNatClampNeg x2.toNatClampNeg ((M7 102 x1.toNatClampNeg x2.toNatClampNeg) - (if (if r8 < (M 102 x1.toNatClampNeg x2.toNatClampNeg) then r8 else (M 102 x1.toNatClampNeg x2.toNatClampNeg)) < x3 then (if r8 < (M 102 x1.toNatClampNeg x2.toNatClampNeg) then r8 else (M 102 x1.toNatClampNeg x2.toNatClampNeg)) else x3)) → (∀ M11, M11 = tq_up M10 127 x6.toNatClampNeg x2.toNatClampNeg ((M10 127 x6.toNatClampNeg x2.toNatClampNeg) + (if (if r8 < (M 102 x1.toNatClampNeg x2.toNatClampNeg) then r8 else (M 102 x1.toNatClampNeg x2.toNatClampNeg)) < x3 then (if r8 < (M 102 x1.toNatClampNeg x2.toNatClampNeg) then r8 else (M 102 x1.toNatClampNeg x2.toNatClampNeg)) else x3)) → (wpX12_enter (fun M12 => wbX12_doLade_105 post M12 ) M11 x1 2 x2 (if (if r8 < (M 102 x1.toNatClampNeg x2.toNatClampNeg) then r8 else (M 102 x1.toNatClampNeg x2.toNatClampNeg)) < x3 then (if r8 < (M 102 x1.toNatClampNeg x2.toNatClampNeg) then r8 else (M 102 x1.toNatClampNeg x2.toNatClampNeg)) else x3) 0 x4 x5))))) M x6)))) ∧ ((M 125 0 x6.toNatClampNeg) = 0 → (wbX12_doLade_106 post  (wbX12_doLade_3 post n) M x1 x2 x3 x4 x5 x6)))))))
def wpX12_doLade (post : tq_St → Prop) (M : tq_St) (p0 : Int32) (p1 : Int32) (p2 : Int32) (p3 : Int32) (p4 : Int32) : Prop :=
  ∃ nq, wbX12_doLade_3 post nq M p0 p1 p2 p3 p4 0
set_option maxHeartbeats 4000000 in
set_option maxRecDepth 100000 in
theorem bX12_doLade_105 {p : Program} {e : Env} {s : State} {m : MethodId} {args : Array Value} {below : List Frame} {meth : Method} {c : Code} {post : tq_St → Prop} (C : tq_At p s m meth c args cX12_doLade 8 (none) ((tq_ws yX12_doLade cX12_doLade 8 none)) RX12 D cy z ad)  : ∀ (M : tq_St)  (H : Heap) (locs : List Loc) (ls : Array Slot), wbX12_doLade_105 post   M  → tq_wd D cy z H0 ad N (tq_mix S M) H → va_S (fun q => z ≤ q) s.heap H locs → lv_has ls 8 [] → W p l e (tq_rm 2 44) s m args below meth c H locs 0 0 (MQ below (va_Qv (fun u => post u) (tq_P D cy z H0 ad N S) (fun q => z ≤ q)) args s 0 0 (fun q => z ≤ q)) (F0 m 105 ls []) := by
  obtain ⟨hx, hb, hr, hml, hown, hts, hlocks, hK, hG⟩ := id C
  have hw : ∀ w ∈ tq_W, w.before args s = true := fun w h => hts w (List.mem_cons_of_mem _ h)
  intro M  H locs ls h hW hS hl
  unfold wbX12_doLade_105 at h
  exact W.vret hx hb hr (fun t ht hWm => ⟨⟨M, rfl, h, tq_pe ht hW⟩, hS.F ht⟩) hS.2.2 dX12_doLade_105
set_option maxHeartbeats 4000000 in
set_option maxRecDepth 100000 in
theorem bX12_doLade_106 {p : Program} {e : Env} {s : State} {m : MethodId} {args : Array Value} {below : List Frame} {meth : Method} {c : Code} {post : tq_St → Prop} (C : tq_At p s m meth c args cX12_doLade 8 (none) ((tq_ws yX12_doLade cX12_doLade 8 none)) RX12 D cy z ad) {L3 : tq_St → Int32 → Int32 → Int32 → Int32 → Int32 → Int32 → Prop} (hL3 : ∀ (M : tq_St) (x1 : Int32) (x2 : Int32) (x3 : Int32) (x4 : Int32) (x5 : Int32) (x6 : Int32) (H : Heap) (locs : List Loc) (ls : Array Slot), L3 M x1 x2 x3 x4 x5 x6 → tq_wd D cy z H0 ad N (tq_mix S M) H → va_S (fun q => z ≤ q) s.heap H locs → lv_has ls 8 [(0, .ref (ad 64 0)), (1, .int x1), (2, .int x2), (3, .int x3), (4, .int x4), (5, .int x5), (6, .int x6)] → W p l e (tq_rm 2 44) s m args below meth c H locs 0 0 (MQ below (va_Qv (fun u => post u) (tq_P D cy z H0 ad N S) (fun q => z ≤ q)) args s 0 0 (fun q => z ≤ q)) (F0 m 3 ls [])) : ∀ (M : tq_St) (x1 : Int32) (x2 : Int32) (x3 : Int32) (x4 : Int32) (x5 : Int32) (x6 : Int32) (H : Heap) (locs : List Loc) (ls : Array Slot), wbX12_doLade_106 post  L3 M x1 x2 x3 x4 x5 x6 → tq_wd D cy z H0 ad N (tq_mix S M) H → va_S (fun q => z ≤ q) s.heap H locs → lv_has ls 8 [(0, .ref (ad 64 0)), (1, .int x1), (2, .int x2), (3, .int x3), (4, .int x4), (5, .int x5), (6, .int x6)] → W p l e (tq_rm 2 44) s m args below meth c H locs 0 0 (MQ below (va_Qv (fun u => post u) (tq_P D cy z H0 ad N S) (fun q => z ≤ q)) args s 0 0 (fun q => z ≤ q)) (F0 m 106 ls []) := by
  obtain ⟨hx, hb, hr, hml, hown, hts, hlocks, hK, hG⟩ := id C
  have hw : ∀ w ∈ tq_W, w.before args s = true := fun w h => hts w (List.mem_cons_of_mem _ h)
  intro M x1 x2 x3 x4 x5 x6 H locs ls h hW hS hl
  unfold wbX12_doLade_106 at h
  refine lv_iinc (v := x6 + 1) (lv' := [(6, .int (x6 + 1)), (0, .ref (ad 64 0)), (1, .int x1), (2, .int x2), (3, .int x3), (4, .int x4), (5, .int x5)]) hx hb dX12_doLade_106 hl (k := 6) rfl rfl (by decide) rfl (fun ls hl => ?_)
  refine lv_goto (tgt := 3) hx hb dX12_doLade_109 (by decide) ?_
  exact hL3 _ _ _ _ _ _ _ _ _ _ h hW hS (lv_sub hl [1, 2, 3, 4, 5, 6, 0] rfl)
set_option maxHeartbeats 4000000 in
set_option maxRecDepth 100000 in
theorem bX12_doLade_3 {p : Program} {e : Env} {s : State} {m : MethodId} {args : Array Value} {below : List Frame} {meth : Method} {c : Code} {post : tq_St → Prop} (C : tq_At p s m meth c args cX12_doLade 8 (none) ((tq_ws yX12_doLade cX12_doLade 8 none)) RX12 D cy z ad)  : ∀ n : Nat, ∀ (M : tq_St) (x1 : Int32) (x2 : Int32) (x3 : Int32) (x4 : Int32) (x5 : Int32) (x6 : Int32) (H : Heap) (locs : List Loc) (ls : Array Slot), wbX12_doLade_3 post   n M x1 x2 x3 x4 x5 x6 → tq_wd D cy z H0 ad N (tq_mix S M) H → va_S (fun q => z ≤ q) s.heap H locs → lv_has ls 8 [(0, .ref (ad 64 0)), (1, .int x1), (2, .int x2), (3, .int x3), (4, .int x4), (5, .int x5), (6, .int x6)] → W p l e (tq_rm 2 44) s m args below meth c H locs 0 0 (MQ below (va_Qv (fun u => post u) (tq_P D cy z H0 ad N S) (fun q => z ≤ q)) args s 0 0 (fun q => z ≤ q)) (F0 m 3 ls []) := by
  obtain ⟨hx, hb, hr, hml, hown, hts, hlocks, hK, hG⟩ := id C
  have hw : ∀ w ∈ tq_W, w.before args s = true := fun w h => hts w (List.mem_cons_of_mem _ h)
  intro n
  induction n with
  | zero =>
    intro M x1 x2 x3 x4 x5 x6 H locs ls h
    exact absurd h (by unfold wbX12_doLade_3; exact id)
  | succ n ih =>
    intro M x1 x2 x3 x4 x5 x6 H locs ls h hW hS hl
    unfold wbX12_doLade_3 at h
    refine lv_iload hx hb dX12_doLade_3 (lv_at hl 6 rfl) ?_
    refine lv_aload_n hx hb dX12_doLade_5 rfl (lv_at hl 0 rfl) ?_
    refine tqm_get (v := .int (M 64 0 21)) hx hb hw tq_inX12 hown hK hW (by decide) (tq_mk_64 (by decide)) rfl 21 (by decide) (hw _ tw_1429) (fun _ h9 => h9) rfl dX12_doLade_6 ?_
    refine lv_icmp_ge (tgt := 112) hx hb dX12_doLade_9 (by decide) (fun c1 => ?_) (fun c1 => ?_)
    · have h := h.1 c1
      exact W.vret hx hb hr (fun t ht hWm => ⟨⟨M, rfl, h, tq_pe ht hW⟩, hS.F ht⟩) hS.2.2 dX12_doLade_112
    · have h := h.2 c1
      refine lv_aload_n hx hb dX12_doLade_12 rfl (lv_at hl 0 rfl) ?_
      refine tqm_get (v := .ref (ad 124 0)) hx hb hw tq_inX12 hown hK hW (by decide) (tq_mk_64 (by decide)) rfl 24 (by decide) (hw _ tw_1432) (fun _ h9 => h9) rfl dX12_doLade_13 ?_
      refine lv_iload hx hb dX12_doLade_16 (lv_at hl 6 rfl) ?_
      obtain ⟨b2, h⟩ := h
      refine tqm_iald (jn := x6.toNatClampNeg) hx hb hK hW (by decide) (tq_mk_124 (by decide)) b2 rfl dX12_doLade_18 ?_
      refine lv_iload_n hx hb dX12_doLade_19 rfl (lv_at hl 1 rfl) ?_
      refine lv_icmp_ne (tgt := 106) hx hb dX12_doLade_20 (by decide) (fun c3 => ?_) (fun c3 => ?_)
      · have h := h.1 c3
        exact bX12_doLade_106 C (fun M9 a09 a19 a29 a39 a49 a59 H9 q9 ls9 h9 hW9 hS9 hl9 => ih M9 a09 a19 a29 a39 a49 a59 H9 q9 ls9 h9 hW9 hS9 hl9) _ _ _ _ _ _ _ _ _ _ h hW hS (lv_sub hl [0, 1, 2, 3, 4, 5, 6] rfl)
      · have h := h.2 c3
        refine lv_aload_n hx hb dX12_doLade_23 rfl (lv_at hl 0 rfl) ?_
        refine tqm_get (v := .ref (ad 125 0)) hx hb hw tq_inX12 hown hK hW (by decide) (tq_mk_64 (by decide)) rfl 25 (by decide) (hw _ tw_1433) (fun _ h9 => h9) rfl dX12_doLade_24 ?_
        refine lv_iload hx hb dX12_doLade_27 (lv_at hl 6 rfl) ?_
        refine tqm_zald (jn := x6.toNatClampNeg) hx hb hK hW (by decide) (tq_mk_125 (by decide)) b2 rfl dX12_doLade_29 ?_
        refine lv_if_ne (tgt := 36) hx hb dX12_doLade_30 (by decide) (fun c4 => ?_) (fun c4 => ?_)
        · have h := h.1 c4
          refine lv_iload_n hx hb dX12_doLade_36 rfl (lv_at hl 3 rfl) ?_
          refine lv_aload_n hx hb dX12_doLade_37 rfl (lv_at hl 0 rfl) ?_
          refine tqm_get (v := .ref (ad 202 0)) hx hb hw tq_inX12 hown hK hW (by decide) (tq_mk_64 (by decide)) rfl 2 (by decide) (hw _ tw_1410) (fun _ h9 => h9) rfl dX12_doLade_38 ?_
          refine lv_iload_n hx hb dX12_doLade_41 rfl (lv_at hl 1 rfl) ?_
          obtain ⟨b5, h⟩ := h
          refine tqm_aald (jn := x1.toNatClampNeg) (v := .ref (ad 102 x1.toNatClampNeg)) hx hb hK hW (by decide) (tq_mk_202 (by decide)) 2 rfl rfl b5 rfl rfl dX12_doLade_42 ?_
          refine lv_iload_n hx hb dX12_doLade_43 rfl (lv_at hl 2 rfl) ?_
          obtain ⟨b6, h⟩ := h
          refine tqm_iald (jn := x2.toNatClampNeg) hx hb hK hW (by decide) (tq_mk_102 (tq_lt b5)) b6 rfl dX12_doLade_44 ?_
          refine lv_aload_n hx hb dX12_doLade_45 rfl (lv_at hl 0 rfl) ?_
          refine lv_iload hx hb dX12_doLade_46 (lv_at hl 6 rfl) ?_
          refine tq_callVi (As := [.int x6]) (rest := [.int (M 102 x1.toNatClampNeg x2.toNatClampNeg), .int x3]) (kX12_free h) ⟨hx, hb, hml, hown, hts⟩ (cwV 1 hts (tq_goodV tw_1857 tw_1859 tw_80 tw_125 tw_1860) rfl rfl rfl (by decide +kernel) ⟨Nat.le_of_ble_eq_true rfl, Nat.le_of_ble_eq_true rfl⟩) hK hG hW hS rfl hl.1 rfl (Nat.le_of_ble_eq_true rfl) dX12_doLade_48 ⟨Nat.le_of_ble_eq_true rfl, Nat.le_of_ble_eq_true rfl⟩ (fun r8 M7 H locs h hW hS => ?_)
          refine va_mmin hx hb (hml.trans hl.1.symm) hown (hw _ tw_1981) (hw _ tw_797) (hw _ tw_132) (hw _ tw_798) (Nat.le_of_ble_eq_true rfl) (Nat.le_of_ble_eq_true rfl) (Nat.zero_le _) (Nat.zero_le _) dX12_doLade_51 ?_
          refine va_mmin hx hb (hml.trans hl.1.symm) hown (hw _ tw_1981) (hw _ tw_797) (hw _ tw_132) (hw _ tw_798) (Nat.le_of_ble_eq_true rfl) (Nat.le_of_ble_eq_true rfl) (Nat.zero_le _) (Nat.zero_le _) dX12_doLade_54 ?_
          refine lv_istore (lv' := [(7, .int (if (if r8 < (M 102 x1.toNatClampNeg x2.toNatClampNeg) then r8 else (M 102 x1.toNatClampNeg x2.toNatClampNeg)) < x3 then (if r8 < (M 102 x1.toNatClampNeg x2.toNatClampNeg) then r8 else (M 102 x1.toNatClampNeg x2.toNatClampNeg)) else x3)), (0, .ref (ad 64 0)), (1, .int x1), (2, .int x2), (3, .int x3), (4, .int x4), (5, .int x5), (6, .int x6)]) hx hb dX12_doLade_57 hl (by decide) rfl (fun ls hl => ?_)
          refine lv_iload hx hb dX12_doLade_59 (lv_at hl 0 rfl) ?_
          refine lv_if_le (tgt := 105) hx hb dX12_doLade_61 (by decide) (fun c9 => ?_) (fun c9 => ?_)
          · have h := h.1 c9
            exact bX12_doLade_105 C  _  _ _ _ h hW hS (lv_sub hl [] rfl)
          · have h := h.2 c9
            refine lv_aload_n hx hb dX12_doLade_64 rfl (lv_at hl 1 rfl) ?_
            refine tqm_get (v := .ref (ad 202 0)) hx hb hw tq_inX12 hown hK hW (by decide) (tq_mk_64 (by decide)) rfl 2 (by decide) (hw _ tw_1410) (fun _ h9 => h9) rfl dX12_doLade_65 ?_
            refine lv_iload_n hx hb dX12_doLade_68 rfl (lv_at hl 2 rfl) ?_
            refine tqm_aald (jn := x1.toNatClampNeg) (v := .ref (ad 102 x1.toNatClampNeg)) hx hb hK hW (by decide) (tq_mk_202 (by decide)) 2 rfl rfl b5 rfl rfl dX12_doLade_69 ?_
            refine lv_iload_n hx hb dX12_doLade_70 rfl (lv_at hl 3 rfl) ?_
            refine lv_dup2_11 hx hb dX12_doLade_71 rfl rfl ?_
            refine tqm_iald (jn := x2.toNatClampNeg) hx hb hK hW (by decide) (tq_mk_102 (tq_lt b5)) b6 rfl dX12_doLade_72 ?_
            refine lv_iload hx hb dX12_doLade_73 (lv_at hl 0 rfl) ?_
            refine lv_isub hx hb dX12_doLade_75 ?_
            refine tqm_iast (jn := x2.toNatClampNeg) hx hb hK hW hS (by decide) (tq_mk_102 (tq_lt b5)) b6 rfl (tq_mk_102 (tq_lt b5)) dX12_doLade_76 (fun H locs hW hS => ?_)
            generalize eM10 : tq_up M7 102 x1.toNatClampNeg x2.toNatClampNeg ((M7 102 x1.toNatClampNeg x2.toNatClampNeg) - (if (if r8 < (M 102 x1.toNatClampNeg x2.toNatClampNeg) then r8 else (M 102 x1.toNatClampNeg x2.toNatClampNeg)) < x3 then (if r8 < (M 102 x1.toNatClampNeg x2.toNatClampNeg) then r8 else (M 102 x1.toNatClampNeg x2.toNatClampNeg)) else x3)) = M10 at hW
            have h := h M10 eM10.symm
            refine lv_aload_n hx hb dX12_doLade_77 rfl (lv_at hl 1 rfl) ?_
            refine tqm_get (v := .ref (ad 227 0)) hx hb hw tq_inX12 hown hK hW (by decide) (tq_mk_64 (by decide)) rfl 27 (by decide) (hw _ tw_1435) (fun _ h9 => h9) rfl dX12_doLade_78 ?_
            refine lv_iload hx hb dX12_doLade_81 (lv_at hl 7 rfl) ?_
            refine tqm_aald (jn := x6.toNatClampNeg) (v := .ref (ad 127 x6.toNatClampNeg)) hx hb hK hW (by decide) (tq_mk_227 (by decide)) 2 rfl rfl b2 rfl rfl dX12_doLade_83 ?_
            refine lv_iload_n hx hb dX12_doLade_84 rfl (lv_at hl 3 rfl) ?_
            refine lv_dup2_11 hx hb dX12_doLade_85 rfl rfl ?_
            refine tqm_iald (jn := x2.toNatClampNeg) hx hb hK hW (by decide) (tq_mk_127 (tq_lt b2)) b6 rfl dX12_doLade_86 ?_
            refine lv_iload hx hb dX12_doLade_87 (lv_at hl 0 rfl) ?_
            refine lv_iadd hx hb dX12_doLade_89 ?_
            refine tqm_iast (jn := x2.toNatClampNeg) hx hb hK hW hS (by decide) (tq_mk_127 (tq_lt b2)) b6 rfl (tq_mk_127 (tq_lt b2)) dX12_doLade_90 (fun H locs hW hS => ?_)
            generalize eM11 : tq_up M10 127 x6.toNatClampNeg x2.toNatClampNeg ((M10 127 x6.toNatClampNeg x2.toNatClampNeg) + (if (if r8 < (M 102 x1.toNatClampNeg x2.toNatClampNeg) then r8 else (M 102 x1.toNatClampNeg x2.toNatClampNeg)) < x3 then (if r8 < (M 102 x1.toNatClampNeg x2.toNatClampNeg) then r8 else (M 102 x1.toNatClampNeg x2.toNatClampNeg)) else x3)) = M11 at hW
            have h := h M11 eM11.symm
            refine lv_aload_n hx hb dX12_doLade_91 rfl (lv_at hl 1 rfl) ?_
            refine lv_iload_n hx hb dX12_doLade_92 rfl (lv_at hl 2 rfl) ?_
            refine lv_iconst (v := 2) hx hb dX12_doLade_93 (by decide) ?_
            refine lv_iload_n hx hb dX12_doLade_94 rfl (lv_at hl 3 rfl) ?_
            refine lv_iload hx hb dX12_doLade_95 (lv_at hl 0 rfl) ?_
            refine lv_iconst (v := 0) hx hb dX12_doLade_97 (by decide) ?_
            refine lv_iload hx hb dX12_doLade_98 (lv_at hl 5 rfl) ?_
            refine lv_iload hx hb dX12_doLade_100 (lv_at hl 6 rfl) ?_
            refine tq_callVv (As := [.int x1, .int 2, .int x2, .int (if (if r8 < (M 102 x1.toNatClampNeg x2.toNatClampNeg) then r8 else (M 102 x1.toNatClampNeg x2.toNatClampNeg)) < x3 then (if r8 < (M 102 x1.toNatClampNeg x2.toNatClampNeg) then r8 else (M 102 x1.toNatClampNeg x2.toNatClampNeg)) else x3), .int 0, .int x4, .int x5]) (rest := []) (kX12_enter h) ⟨hx, hb, hml, hown, hts⟩ (cwV 7 hts (tq_goodV tw_1959 tw_1961 tw_98 tw_125 tw_1962) rfl rfl rfl (by decide +kernel) ⟨Nat.le_of_ble_eq_true rfl, Nat.le_of_ble_eq_true rfl⟩) hK hG hW hS rfl hl.1 rfl (Nat.le_of_ble_eq_true rfl) dX12_doLade_102 ⟨Nat.le_of_ble_eq_true rfl, Nat.le_of_ble_eq_true rfl⟩ (fun M12 H locs h hW hS => ?_)
            exact bX12_doLade_105 C  _  _ _ _ h hW hS (lv_sub hl [] rfl)
        · have h := h.2 c4
          refine lv_goto (tgt := 106) hx hb dX12_doLade_33 (by decide) ?_
          exact bX12_doLade_106 C (fun M9 a09 a19 a29 a39 a49 a59 H9 q9 ls9 h9 hW9 hS9 hl9 => ih M9 a09 a19 a29 a39 a49 a59 H9 q9 ls9 h9 hW9 hS9 hl9) _ _ _ _ _ _ _ _ _ _ h hW hS (lv_sub hl [0, 1, 2, 3, 4, 5, 6] rfl)
set_option maxHeartbeats 4000000 in
set_option maxRecDepth 100000 in
theorem kX12_doLade {post : tq_St → Prop} {M : tq_St} {p0 : Int32} {p1 : Int32} {p2 : Int32} {p3 : Int32} {p4 : Int32} (h : wpX12_doLade post M p0 p1 p2 p3 p4) : tq_mV l yX12_doLade (tq_ws yX12_doLade cX12_doLade 8 none) 2 44 D cy z H0 ad N S M [.ref (ad 64 0), .int p0, .int p1, .int p2, .int p3, .int p4] post := by
  unfold wpX12_doLade at h
  refine Met.ofW (cc := cX12_doLade) (maxL := 8) (ret := none) (by decide) rfl ?_
  intro p e s m args below meth c s₁ B hml hv
  obtain ⟨rfl, hW, hK, hG⟩ := hv
  have hx := B.exec
  have hb := B.bytes
  have hr := B.returns
  have hts := atoms_spec (ws := (tq_ws yX12_doLade cX12_doLade 8 none)) B.pre
  have hw : ∀ w ∈ tq_W, w.before _ s = true := fun w h => hts w (List.mem_cons_of_mem _ h)
  have hown : s.vm.findClass RX12 = some m.cls := findClass_of_methodNamed B.named
  have hlocks := B.notSynchronized
  have C : tq_At p s m meth c [.ref (ad 64 0), .int p0, .int p1, .int p2, .int p3, .int p4].toArray cX12_doLade 8 (none) ((tq_ws yX12_doLade cX12_doLade 8 none)) RX12 D cy z ad := ⟨hx, hb, hr, hml, hown, hts, hlocks, hK, hG⟩
  have hS : va_S (fun q => z ≤ q) s.heap s.heap [] := va_S.rf
  have hl := lv_entry ([.ref (ad 64 0), .int p0, .int p1, .int p2, .int p3, .int p4]) (n := 8) (Nat.le_of_ble_eq_true rfl)
  rw [lg_entry_eq]
  generalize (lg_sl ([.ref (ad 64 0), .int p0, .int p1, .int p2, .int p3, .int p4]) ++ List.replicate (8 - (lg_sl ([.ref (ad 64 0), .int p0, .int p1, .int p2, .int p3, .int p4])).length) Slot.unset).toArray = ls at hl ⊢
  have hl : lv_has ls 8 [(0, .ref (ad 64 0)), (1, .int p0), (2, .int p1), (3, .int p2), (4, .int p3), (5, .int p4)] := hl
  have hW : tq_wd D cy z H0 ad N (tq_mix S M) s.heap := hW
  refine lv_iconst (v := 0) hx hb dX12_doLade_0 (by decide) ?_
  refine lv_istore (lv' := [(6, .int 0), (0, .ref (ad 64 0)), (1, .int p0), (2, .int p1), (3, .int p2), (4, .int p3), (5, .int p4)]) hx hb dX12_doLade_1 hl (by decide) rfl (fun ls hl => ?_)
  obtain ⟨nq, h⟩ := h
  exact bX12_doLade_3 C  nq _ _ _ _ _ _ _ _ _ _ h hW hS (lv_sub hl [1, 2, 3, 4, 5, 6, 0] rfl)
-- doSail
def wbX12_doSail_117 (post : tq_St → Prop)  (M : tq_St) (x1 : Int32) (x3 : Int32) (x4 : Int32) (x6 : Int32) : Prop :=
  wpX12_enter (fun M19 => post M19) M x1 3 (-1) x6 0 x3 x4
def wbX12_doSail_131 (post : tq_St → Prop) (L3 : tq_St → Int32 → Int32 → Int32 → Int32 → Int32 → Prop) (M : tq_St) (x1 : Int32) (x2 : Int32) (x3 : Int32) (x4 : Int32) (x5 : Int32) : Prop :=
  L3 M x1 x2 x3 x4 (x5 + 1)
def wbX12_doSail_3 (post : tq_St → Prop) : Nat → tq_St → Int32 → Int32 → Int32 → Int32 → Int32 → Prop
  | 0, _, _, _, _, _, _ => False
  | n + 1, M, x1, x2, x3, x4, x5 =>
    ((M 64 0 21) ≤ x5 → (post M)) ∧ (¬ (M 64 0 21) ≤ x5 → (vp_in x5 8 ∧ ((¬ (M 124 0 x5.toNatClampNeg) = x1 → (wbX12_doSail_131 post  (wbX12_doSail_3 post n) M x1 x2 x3 x4 x5)) ∧ ((M 124 0 x5.toNatClampNeg) = x1 → (wpX12_balesOn (fun M4 r5 => ((if x2 < 1 then 1 else x2) ≤ r5 → ((¬ (M4 64 0 31) = 99 → (wpX12_leave (fun M8 r9 => (150 ≤ (M8 64 0 9) → (wbX12_doSail_117 post M8 x1 x3 x4 r9)) ∧ (¬ 150 ≤ (M8 64 0 9) → (wpX12_write (fun M11 r12 => vp_in r12 150 ∧ (∀ M14, M14 = tq_up M11 116 r12.toNatClampNeg 0 r9 → (vp_in r9 99 ∧ (∀ M16, M16 = tq_up M14 141 0 r9.toNatClampNeg r12 → (∀ M17, M17 = tq_up M16 114 0 r12.toNatClampNeg 1 → (∀ M18, M18 = tq_up M17 120 r12.toNatClampNeg x5.toNatClampNeg 1 → (wbX12_doSail_117 post M18 x1 x3 x4 r9))))))) M8 4 x1 0))) M4 x5 0)) ∧ ((M4 64 0 31) = 99 → (post M4)))) ∧ (¬ (if x2 < 1 then 1 else x2) ≤ r5 → (wbX12_doSail_131 post  (wbX12_doSail_3 post n) M4 x1 x2 x3 x4 x5))) M x5)))))
def wpX12_doSail (post : tq_St → Prop) (M : tq_St) (p0 : Int32) (p1 : Int32) (p2 : Int32) (p3 : Int32) : Prop :=
  ∃ nq, wbX12_doSail_3 post nq M p0 p1 p2 p3 0
set_option maxHeartbeats 4000000 in
set_option maxRecDepth 100000 in
theorem bX12_doSail_117 {p : Program} {e : Env} {s : State} {m : MethodId} {args : Array Value} {below : List Frame} {meth : Method} {c : Code} {post : tq_St → Prop} (C : tq_At p s m meth c args cX12_doSail 8 (none) ((tq_ws yX12_doSail cX12_doSail 8 none)) RX12 D cy z ad)  : ∀ (M : tq_St) (x1 : Int32) (x3 : Int32) (x4 : Int32) (x6 : Int32) (H : Heap) (locs : List Loc) (ls : Array Slot), wbX12_doSail_117 post   M x1 x3 x4 x6 → tq_wd D cy z H0 ad N (tq_mix S M) H → va_S (fun q => z ≤ q) s.heap H locs → lv_has ls 8 [(0, .ref (ad 64 0)), (1, .int x1), (3, .int x3), (4, .int x4), (6, .int x6)] → W p l e (tq_rm 2 74) s m args below meth c H locs 0 0 (MQ below (va_Qv (fun u => post u) (tq_P D cy z H0 ad N S) (fun q => z ≤ q)) args s 0 0 (fun q => z ≤ q)) (F0 m 117 ls []) := by
  obtain ⟨hx, hb, hr, hml, hown, hts, hlocks, hK, hG⟩ := id C
  have hw : ∀ w ∈ tq_W, w.before args s = true := fun w h => hts w (List.mem_cons_of_mem _ h)
  intro M x1 x3 x4 x6 H locs ls h hW hS hl
  unfold wbX12_doSail_117 at h
  refine lv_aload_n hx hb dX12_doSail_117 rfl (lv_at hl 0 rfl) ?_
  refine lv_iload_n hx hb dX12_doSail_118 rfl (lv_at hl 1 rfl) ?_
  refine lv_iconst (v := 3) hx hb dX12_doSail_119 (by decide) ?_
  refine lv_iconst (v := (-1)) hx hb dX12_doSail_120 (by decide) ?_
  refine lv_iload hx hb dX12_doSail_121 (lv_at hl 4 rfl) ?_
  refine lv_iconst (v := 0) hx hb dX12_doSail_123 (by decide) ?_
  refine lv_iload_n hx hb dX12_doSail_124 rfl (lv_at hl 2 rfl) ?_
  refine lv_iload hx hb dX12_doSail_125 (lv_at hl 3 rfl) ?_
  refine tq_callVv (As := [.int x1, .int 3, .int ((-1)), .int x6, .int 0, .int x3, .int x4]) (rest := []) (kX12_enter h) ⟨hx, hb, hml, hown, hts⟩ (cwV 7 hts (tq_goodV tw_1959 tw_1961 tw_98 tw_125 tw_1962) rfl rfl rfl (by decide +kernel) ⟨Nat.le_of_ble_eq_true rfl, Nat.le_of_ble_eq_true rfl⟩) hK hG hW hS rfl hl.1 rfl (Nat.le_of_ble_eq_true rfl) dX12_doSail_127 ⟨Nat.le_of_ble_eq_true rfl, Nat.le_of_ble_eq_true rfl⟩ (fun M19 H locs h hW hS => ?_)
  exact W.vret hx hb hr (fun t ht hWm => ⟨⟨M19, rfl, h, tq_pe ht hW⟩, hS.F ht⟩) hS.2.2 dX12_doSail_130
set_option maxHeartbeats 4000000 in
set_option maxRecDepth 100000 in
theorem bX12_doSail_131 {p : Program} {e : Env} {s : State} {m : MethodId} {args : Array Value} {below : List Frame} {meth : Method} {c : Code} {post : tq_St → Prop} (C : tq_At p s m meth c args cX12_doSail 8 (none) ((tq_ws yX12_doSail cX12_doSail 8 none)) RX12 D cy z ad) {L3 : tq_St → Int32 → Int32 → Int32 → Int32 → Int32 → Prop} (hL3 : ∀ (M : tq_St) (x1 : Int32) (x2 : Int32) (x3 : Int32) (x4 : Int32) (x5 : Int32) (H : Heap) (locs : List Loc) (ls : Array Slot), L3 M x1 x2 x3 x4 x5 → tq_wd D cy z H0 ad N (tq_mix S M) H → va_S (fun q => z ≤ q) s.heap H locs → lv_has ls 8 [(0, .ref (ad 64 0)), (1, .int x1), (2, .int x2), (3, .int x3), (4, .int x4), (5, .int x5)] → W p l e (tq_rm 2 74) s m args below meth c H locs 0 0 (MQ below (va_Qv (fun u => post u) (tq_P D cy z H0 ad N S) (fun q => z ≤ q)) args s 0 0 (fun q => z ≤ q)) (F0 m 3 ls [])) : ∀ (M : tq_St) (x1 : Int32) (x2 : Int32) (x3 : Int32) (x4 : Int32) (x5 : Int32) (H : Heap) (locs : List Loc) (ls : Array Slot), wbX12_doSail_131 post  L3 M x1 x2 x3 x4 x5 → tq_wd D cy z H0 ad N (tq_mix S M) H → va_S (fun q => z ≤ q) s.heap H locs → lv_has ls 8 [(0, .ref (ad 64 0)), (1, .int x1), (2, .int x2), (3, .int x3), (4, .int x4), (5, .int x5)] → W p l e (tq_rm 2 74) s m args below meth c H locs 0 0 (MQ below (va_Qv (fun u => post u) (tq_P D cy z H0 ad N S) (fun q => z ≤ q)) args s 0 0 (fun q => z ≤ q)) (F0 m 131 ls []) := by
  obtain ⟨hx, hb, hr, hml, hown, hts, hlocks, hK, hG⟩ := id C
  have hw : ∀ w ∈ tq_W, w.before args s = true := fun w h => hts w (List.mem_cons_of_mem _ h)
  intro M x1 x2 x3 x4 x5 H locs ls h hW hS hl
  unfold wbX12_doSail_131 at h
  refine lv_iinc (v := x5 + 1) (lv' := [(5, .int (x5 + 1)), (0, .ref (ad 64 0)), (1, .int x1), (2, .int x2), (3, .int x3), (4, .int x4)]) hx hb dX12_doSail_131 hl (k := 5) rfl rfl (by decide) rfl (fun ls hl => ?_)
  refine lv_goto (tgt := 3) hx hb dX12_doSail_134 (by decide) ?_
  exact hL3 _ _ _ _ _ _ _ _ _ h hW hS (lv_sub hl [1, 2, 3, 4, 5, 0] rfl)
set_option maxHeartbeats 4000000 in
set_option maxRecDepth 100000 in
theorem bX12_doSail_3 {p : Program} {e : Env} {s : State} {m : MethodId} {args : Array Value} {below : List Frame} {meth : Method} {c : Code} {post : tq_St → Prop} (C : tq_At p s m meth c args cX12_doSail 8 (none) ((tq_ws yX12_doSail cX12_doSail 8 none)) RX12 D cy z ad)  : ∀ n : Nat, ∀ (M : tq_St) (x1 : Int32) (x2 : Int32) (x3 : Int32) (x4 : Int32) (x5 : Int32) (H : Heap) (locs : List Loc) (ls : Array Slot), wbX12_doSail_3 post   n M x1 x2 x3 x4 x5 → tq_wd D cy z H0 ad N (tq_mix S M) H → va_S (fun q => z ≤ q) s.heap H locs → lv_has ls 8 [(0, .ref (ad 64 0)), (1, .int x1), (2, .int x2), (3, .int x3), (4, .int x4), (5, .int x5)] → W p l e (tq_rm 2 74) s m args below meth c H locs 0 0 (MQ below (va_Qv (fun u => post u) (tq_P D cy z H0 ad N S) (fun q => z ≤ q)) args s 0 0 (fun q => z ≤ q)) (F0 m 3 ls []) := by
  obtain ⟨hx, hb, hr, hml, hown, hts, hlocks, hK, hG⟩ := id C
  have hw : ∀ w ∈ tq_W, w.before args s = true := fun w h => hts w (List.mem_cons_of_mem _ h)
  intro n
  induction n with
  | zero =>
    intro M x1 x2 x3 x4 x5 H locs ls h
    exact absurd h (by unfold wbX12_doSail_3; exact id)
  | succ n ih =>
    intro M x1 x2 x3 x4 x5 H locs ls h hW hS hl
    unfold wbX12_doSail_3 at h
    refine lv_iload hx hb dX12_doSail_3 (lv_at hl 5 rfl) ?_
    refine lv_aload_n hx hb dX12_doSail_5 rfl (lv_at hl 0 rfl) ?_
    refine tqm_get (v := .int (M 64 0 21)) hx hb hw tq_inX12 hown hK hW (by decide) (tq_mk_64 (by decide)) rfl 21 (by decide) (hw _ tw_1429) (fun _ h9 => h9) rfl dX12_doSail_6 ?_
    refine lv_icmp_ge (tgt := 137) hx hb dX12_doSail_9 (by decide) (fun c1 => ?_) (fun c1 => ?_)
    · have h := h.1 c1
      exact W.vret hx hb hr (fun t ht hWm => ⟨⟨M, rfl, h, tq_pe ht hW⟩, hS.F ht⟩) hS.2.2 dX12_doSail_137
    · have h := h.2 c1
      refine lv_aload_n hx hb dX12_doSail_12 rfl (lv_at hl 0 rfl) ?_
      refine tqm_get (v := .ref (ad 124 0)) hx hb hw tq_inX12 hown hK hW (by decide) (tq_mk_64 (by decide)) rfl 24 (by decide) (hw _ tw_1432) (fun _ h9 => h9) rfl dX12_doSail_13 ?_
      refine lv_iload hx hb dX12_doSail_16 (lv_at hl 5 rfl) ?_
      obtain ⟨b2, h⟩ := h
      refine tqm_iald (jn := x5.toNatClampNeg) hx hb hK hW (by decide) (tq_mk_124 (by decide)) b2 rfl dX12_doSail_18 ?_
      refine lv_iload_n hx hb dX12_doSail_19 rfl (lv_at hl 1 rfl) ?_
      refine lv_icmp_ne (tgt := 131) hx hb dX12_doSail_20 (by decide) (fun c3 => ?_) (fun c3 => ?_)
      · have h := h.1 c3
        exact bX12_doSail_131 C (fun M9 a09 a19 a29 a39 a49 H9 q9 ls9 h9 hW9 hS9 hl9 => ih M9 a09 a19 a29 a39 a49 H9 q9 ls9 h9 hW9 hS9 hl9) _ _ _ _ _ _ _ _ _ h hW hS (lv_sub hl [0, 1, 2, 3, 4, 5] rfl)
      · have h := h.2 c3
        refine lv_aload_n hx hb dX12_doSail_23 rfl (lv_at hl 0 rfl) ?_
        refine lv_iload hx hb dX12_doSail_24 (lv_at hl 5 rfl) ?_
        refine tq_callVi (As := [.int x5]) (rest := []) (kX12_balesOn h) ⟨hx, hb, hml, hown, hts⟩ (cwV 1 hts (tq_goodV tw_1861 tw_1863 tw_81 tw_125 tw_1864) rfl rfl rfl (by decide +kernel) ⟨Nat.le_of_ble_eq_true rfl, Nat.le_of_ble_eq_true rfl⟩) hK hG hW hS rfl hl.1 rfl (Nat.le_of_ble_eq_true rfl) dX12_doSail_26 ⟨Nat.le_of_ble_eq_true rfl, Nat.le_of_ble_eq_true rfl⟩ (fun r5 M4 H locs h hW hS => ?_)
        refine lv_iload_n hx hb dX12_doSail_29 rfl (lv_at hl 2 rfl) ?_
        refine lv_iconst (v := 1) hx hb dX12_doSail_30 (by decide) ?_
        refine va_mmax hx hb (hml.trans hl.1.symm) hown (hw _ tw_1950) (hw _ tw_660) (hw _ tw_132) (hw _ tw_661) (Nat.le_of_ble_eq_true rfl) (Nat.le_of_ble_eq_true rfl) (Nat.zero_le _) (Nat.zero_le _) dX12_doSail_31 ?_
        refine lv_icmp_ge (tgt := 40) hx hb dX12_doSail_34 (by decide) (fun c6 => ?_) (fun c6 => ?_)
        · have h := h.1 c6
          refine lv_aload_n hx hb dX12_doSail_40 rfl (lv_at hl 0 rfl) ?_
          refine tqm_get (v := .int (M4 64 0 31)) hx hb hw tq_inX12 hown hK hW (by decide) (tq_mk_64 (by decide)) rfl 31 (by decide) (hw _ tw_1439) (fun _ h9 => h9) rfl dX12_doSail_41 ?_
          refine lv_bipush (v := 99) hx hb dX12_doSail_44 (by decide) ?_
          refine lv_icmp_ne (tgt := 50) hx hb dX12_doSail_46 (by decide) (fun c7 => ?_) (fun c7 => ?_)
          · have h := h.1 c7
            refine lv_aload_n hx hb dX12_doSail_50 rfl (lv_at hl 0 rfl) ?_
            refine lv_iload hx hb dX12_doSail_51 (lv_at hl 5 rfl) ?_
            refine lv_iconst (v := 0) hx hb dX12_doSail_53 (by decide) ?_
            refine tq_callVi (As := [.int x5, .int 0]) (rest := []) (kX12_leave h) ⟨hx, hb, hml, hown, hts⟩ (cwV 2 hts (tq_goodV tw_1873 tw_1875 tw_83 tw_125 tw_1876) rfl rfl rfl (by decide +kernel) ⟨Nat.le_of_ble_eq_true rfl, Nat.le_of_ble_eq_true rfl⟩) hK hG hW hS rfl hl.1 rfl (Nat.le_of_ble_eq_true rfl) dX12_doSail_54 ⟨Nat.le_of_ble_eq_true rfl, Nat.le_of_ble_eq_true rfl⟩ (fun r9 M8 H locs h hW hS => ?_)
            refine lv_istore (lv' := [(6, .int r9), (0, .ref (ad 64 0)), (1, .int x1), (2, .int x2), (3, .int x3), (4, .int x4), (5, .int x5)]) hx hb dX12_doSail_57 hl (by decide) rfl (fun ls hl => ?_)
            refine lv_aload_n hx hb dX12_doSail_59 rfl (lv_at hl 1 rfl) ?_
            refine tqm_get (v := .int (M8 64 0 9)) hx hb hw tq_inX12 hown hK hW (by decide) (tq_mk_64 (by decide)) rfl 9 (by decide) (hw _ tw_1417) (fun _ h9 => h9) rfl dX12_doSail_60 ?_
            refine lv_sipush (v := 150) hx hb dX12_doSail_63 (by decide) ?_
            refine lv_icmp_ge (tgt := 117) hx hb dX12_doSail_66 (by decide) (fun c10 => ?_) (fun c10 => ?_)
            · have h := h.1 c10
              exact bX12_doSail_117 C  _ _ _ _ _ _ _ _ h hW hS (lv_sub hl [1, 2, 4, 5, 0] rfl)
            · have h := h.2 c10
              refine lv_aload_n hx hb dX12_doSail_69 rfl (lv_at hl 1 rfl) ?_
              refine lv_iconst (v := 4) hx hb dX12_doSail_70 (by decide) ?_
              refine lv_iload_n hx hb dX12_doSail_71 rfl (lv_at hl 2 rfl) ?_
              refine lv_iconst (v := 0) hx hb dX12_doSail_72 (by decide) ?_
              refine tq_callVi (As := [.int 4, .int x1, .int 0]) (rest := []) (kX12_write h) ⟨hx, hb, hml, hown, hts⟩ (cwV 3 hts (tq_goodV tw_1759 tw_1761 tw_67 tw_125 tw_1762) rfl rfl rfl (by decide +kernel) ⟨Nat.le_of_ble_eq_true rfl, Nat.le_of_ble_eq_true rfl⟩) hK hG hW hS rfl hl.1 rfl (Nat.le_of_ble_eq_true rfl) dX12_doSail_73 ⟨Nat.le_of_ble_eq_true rfl, Nat.le_of_ble_eq_true rfl⟩ (fun r12 M11 H locs h hW hS => ?_)
              refine lv_istore (lv' := [(7, .int r12), (6, .int r9), (0, .ref (ad 64 0)), (1, .int x1), (2, .int x2), (3, .int x3), (4, .int x4), (5, .int x5)]) hx hb dX12_doSail_76 hl (by decide) rfl (fun ls hl => ?_)
              refine lv_aload_n hx hb dX12_doSail_78 rfl (lv_at hl 2 rfl) ?_
              refine tqm_get (v := .ref (ad 216 0)) hx hb hw tq_inX12 hown hK hW (by decide) (tq_mk_64 (by decide)) rfl 16 (by decide) (hw _ tw_1424) (fun _ h9 => h9) rfl dX12_doSail_79 ?_
              refine lv_iload hx hb dX12_doSail_82 (lv_at hl 0 rfl) ?_
              obtain ⟨b13, h⟩ := h
              refine tqm_aald (jn := r12.toNatClampNeg) (v := .ref (ad 116 r12.toNatClampNeg)) hx hb hK hW (by decide) (tq_mk_216 (by decide)) 2 rfl rfl b13 rfl rfl dX12_doSail_84 ?_
              refine lv_iconst (v := 0) hx hb dX12_doSail_85 (by decide) ?_
              refine lv_iload hx hb dX12_doSail_86 (lv_at hl 1 rfl) ?_
              refine tqm_iast (jn := 0) hx hb hK hW hS (by decide) (tq_mk_116 (tq_lt b13)) (by unfold vp_in; decide) (by decide) (tq_mk_116 (tq_lt b13)) dX12_doSail_88 (fun H locs hW hS => ?_)
              generalize eM14 : tq_up M11 116 r12.toNatClampNeg 0 r9 = M14 at hW
              have h := h M14 eM14.symm
              refine lv_aload_n hx hb dX12_doSail_89 rfl (lv_at hl 2 rfl) ?_
              refine tqm_get (v := .ref (ad 141 0)) hx hb hw tq_inX12 hown hK hW (by decide) (tq_mk_64 (by decide)) rfl 41 (by decide) (hw _ tw_1449) (fun _ h9 => h9) rfl dX12_doSail_90 ?_
              refine lv_iload hx hb dX12_doSail_93 (lv_at hl 1 rfl) ?_
              refine lv_iload hx hb dX12_doSail_95 (lv_at hl 0 rfl) ?_
              obtain ⟨b15, h⟩ := h
              refine tqm_iast (jn := r9.toNatClampNeg) hx hb hK hW hS (by decide) (tq_mk_141 (by decide)) b15 rfl (tq_mk_141 (by decide)) dX12_doSail_97 (fun H locs hW hS => ?_)
              generalize eM16 : tq_up M14 141 0 r9.toNatClampNeg r12 = M16 at hW
              have h := h M16 eM16.symm
              refine lv_aload_n hx hb dX12_doSail_98 rfl (lv_at hl 2 rfl) ?_
              refine tqm_get (v := .ref (ad 114 0)) hx hb hw tq_inX12 hown hK hW (by decide) (tq_mk_64 (by decide)) rfl 14 (by decide) (hw _ tw_1422) (fun _ h9 => h9) rfl dX12_doSail_99 ?_
              refine lv_iload hx hb dX12_doSail_102 (lv_at hl 0 rfl) ?_
              refine lv_iconst (v := 1) hx hb dX12_doSail_104 (by decide) ?_
              refine tqm_iast (jn := r12.toNatClampNeg) hx hb hK hW hS (by decide) (tq_mk_114 (by decide)) b13 rfl (tq_mk_114 (by decide)) dX12_doSail_105 (fun H locs hW hS => ?_)
              generalize eM17 : tq_up M16 114 0 r12.toNatClampNeg 1 = M17 at hW
              have h := h M17 eM17.symm
              refine lv_aload_n hx hb dX12_doSail_106 rfl (lv_at hl 2 rfl) ?_
              refine tqm_get (v := .ref (ad 220 0)) hx hb hw tq_inX12 hown hK hW (by decide) (tq_mk_64 (by decide)) rfl 20 (by decide) (hw _ tw_1428) (fun _ h9 => h9) rfl dX12_doSail_107 ?_
              refine lv_iload hx hb dX12_doSail_110 (lv_at hl 0 rfl) ?_
              refine tqm_aald (jn := r12.toNatClampNeg) (v := .ref (ad 120 r12.toNatClampNeg)) hx hb hK hW (by decide) (tq_mk_220 (by decide)) 2 rfl rfl b13 rfl rfl dX12_doSail_112 ?_
              refine lv_iload hx hb dX12_doSail_113 (lv_at hl 7 rfl) ?_
              refine lv_iconst (v := 1) hx hb dX12_doSail_115 (by decide) ?_
              refine tqm_iast (jn := x5.toNatClampNeg) hx hb hK hW hS (by decide) (tq_mk_120 (tq_lt b13)) b2 rfl (tq_mk_120 (tq_lt b13)) dX12_doSail_116 (fun H locs hW hS => ?_)
              generalize eM18 : tq_up M17 120 r12.toNatClampNeg x5.toNatClampNeg 1 = M18 at hW
              have h := h M18 eM18.symm
              exact bX12_doSail_117 C  _ _ _ _ _ _ _ _ h hW hS (lv_sub hl [2, 3, 5, 6, 1] rfl)
          · have h := h.2 c7
            exact W.vret hx hb hr (fun t ht hWm => ⟨⟨M4, rfl, h, tq_pe ht hW⟩, hS.F ht⟩) hS.2.2 dX12_doSail_49
        · have h := h.2 c6
          refine lv_goto (tgt := 131) hx hb dX12_doSail_37 (by decide) ?_
          exact bX12_doSail_131 C (fun M9 a09 a19 a29 a39 a49 H9 q9 ls9 h9 hW9 hS9 hl9 => ih M9 a09 a19 a29 a39 a49 H9 q9 ls9 h9 hW9 hS9 hl9) _ _ _ _ _ _ _ _ _ h hW hS (lv_sub hl [0, 1, 2, 3, 4, 5] rfl)
set_option maxHeartbeats 4000000 in
set_option maxRecDepth 100000 in
theorem kX12_doSail {post : tq_St → Prop} {M : tq_St} {p0 : Int32} {p1 : Int32} {p2 : Int32} {p3 : Int32} (h : wpX12_doSail post M p0 p1 p2 p3) : tq_mV l yX12_doSail (tq_ws yX12_doSail cX12_doSail 8 none) 2 74 D cy z H0 ad N S M [.ref (ad 64 0), .int p0, .int p1, .int p2, .int p3] post := by
  unfold wpX12_doSail at h
  refine Met.ofW (cc := cX12_doSail) (maxL := 8) (ret := none) (by decide) rfl ?_
  intro p e s m args below meth c s₁ B hml hv
  obtain ⟨rfl, hW, hK, hG⟩ := hv
  have hx := B.exec
  have hb := B.bytes
  have hr := B.returns
  have hts := atoms_spec (ws := (tq_ws yX12_doSail cX12_doSail 8 none)) B.pre
  have hw : ∀ w ∈ tq_W, w.before _ s = true := fun w h => hts w (List.mem_cons_of_mem _ h)
  have hown : s.vm.findClass RX12 = some m.cls := findClass_of_methodNamed B.named
  have hlocks := B.notSynchronized
  have C : tq_At p s m meth c [.ref (ad 64 0), .int p0, .int p1, .int p2, .int p3].toArray cX12_doSail 8 (none) ((tq_ws yX12_doSail cX12_doSail 8 none)) RX12 D cy z ad := ⟨hx, hb, hr, hml, hown, hts, hlocks, hK, hG⟩
  have hS : va_S (fun q => z ≤ q) s.heap s.heap [] := va_S.rf
  have hl := lv_entry ([.ref (ad 64 0), .int p0, .int p1, .int p2, .int p3]) (n := 8) (Nat.le_of_ble_eq_true rfl)
  rw [lg_entry_eq]
  generalize (lg_sl ([.ref (ad 64 0), .int p0, .int p1, .int p2, .int p3]) ++ List.replicate (8 - (lg_sl ([.ref (ad 64 0), .int p0, .int p1, .int p2, .int p3])).length) Slot.unset).toArray = ls at hl ⊢
  have hl : lv_has ls 8 [(0, .ref (ad 64 0)), (1, .int p0), (2, .int p1), (3, .int p2), (4, .int p3)] := hl
  have hW : tq_wd D cy z H0 ad N (tq_mix S M) s.heap := hW
  refine lv_iconst (v := 0) hx hb dX12_doSail_0 (by decide) ?_
  refine lv_istore (lv' := [(5, .int 0), (0, .ref (ad 64 0)), (1, .int p0), (2, .int p1), (3, .int p2), (4, .int p3)]) hx hb dX12_doSail_1 hl (by decide) rfl (fun ls hl => ?_)
  obtain ⟨nq, h⟩ := h
  exact bX12_doSail_3 C  nq _ _ _ _ _ _ _ _ _ h hW hS (lv_sub hl [1, 2, 3, 4, 5, 0] rfl)
