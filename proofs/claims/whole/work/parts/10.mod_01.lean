variable {l : Launch} {D : va_G} {cy : Nat → ClassId} {z : Nat} {H0 : Heap} {ad : Nat → Nat → Nat} {N : tq_Nn} {S : tq_St}
-- price
def wbX12_price_24 (post : tq_St → Int32 → Prop)  (M : tq_St) (y0 : Int32) : Prop :=
  post M y0
def wbX12_price_23 (post : tq_St → Int32 → Prop)  (M : tq_St) : Prop :=
  wbX12_price_24 post M ((-1))
def wpX12_price (post : tq_St → Int32 → Prop) (M : tq_St) (p0 : Int32) (p1 : Int32) : Prop :=
  wpX12_isFactory (fun M1 r2 => (r2 = 0 → (wbX12_price_23 post M1 )) ∧ (¬ r2 = 0 → (wpX12_isSort (fun M4 r5 => (r5 = 0 → (wbX12_price_23 post M4 )) ∧ (¬ r5 = 0 → (wpX12_priceOf (fun M7 r8 => wbX12_price_24 post M7 r8) M4 p0 p1))) M1 p1))) M p0
set_option maxHeartbeats 4000000 in
set_option maxRecDepth 100000 in
theorem bX12_price_24 {p : Program} {e : Env} {s : State} {m : MethodId} {args : Array Value} {below : List Frame} {meth : Method} {c : Code} {post : tq_St → Int32 → Prop} (C : tq_At p s m meth c args cX12_price 3 ((some .int)) ((tq_ws yX12_price cX12_price 3 (some .int))) RX12 D cy z ad)  : ∀ (M : tq_St) (y0 : Int32) (H : Heap) (locs : List Loc) (ls : Array Slot), wbX12_price_24 post   M y0 → tq_wd D cy z H0 ad N (tq_mix S M) H → va_S (fun q => z ≤ q) s.heap H locs → lv_has ls 3 [] → W p l e (tq_rm 2 42) s m args below meth c H locs 0 0 (MQ below (va_Qi (fun r u => post u r) (tq_P D cy z H0 ad N S) (fun q => z ≤ q)) args s 0 0 (fun q => z ≤ q)) (F0 m 24 ls [.int y0]) := by
  obtain ⟨hx, hb, hr, hml, hown, hts, hlocks, hK, hG⟩ := id C
  have hw : ∀ w ∈ tq_W, w.before args s = true := fun w h => hts w (List.mem_cons_of_mem _ h)
  intro M y0 H locs ls h hW hS hl
  unfold wbX12_price_24 at h
  exact W.iret (v := y0) hx hb hr (fun t ht hWm => ⟨⟨_, M, rfl, h, tq_pe ht hW⟩, hS.F ht⟩) hS.2.2 dX12_price_24
set_option maxHeartbeats 4000000 in
set_option maxRecDepth 100000 in
theorem bX12_price_23 {p : Program} {e : Env} {s : State} {m : MethodId} {args : Array Value} {below : List Frame} {meth : Method} {c : Code} {post : tq_St → Int32 → Prop} (C : tq_At p s m meth c args cX12_price 3 ((some .int)) ((tq_ws yX12_price cX12_price 3 (some .int))) RX12 D cy z ad)  : ∀ (M : tq_St)  (H : Heap) (locs : List Loc) (ls : Array Slot), wbX12_price_23 post   M  → tq_wd D cy z H0 ad N (tq_mix S M) H → va_S (fun q => z ≤ q) s.heap H locs → lv_has ls 3 [] → W p l e (tq_rm 2 42) s m args below meth c H locs 0 0 (MQ below (va_Qi (fun r u => post u r) (tq_P D cy z H0 ad N S) (fun q => z ≤ q)) args s 0 0 (fun q => z ≤ q)) (F0 m 23 ls []) := by
  obtain ⟨hx, hb, hr, hml, hown, hts, hlocks, hK, hG⟩ := id C
  have hw : ∀ w ∈ tq_W, w.before args s = true := fun w h => hts w (List.mem_cons_of_mem _ h)
  intro M  H locs ls h hW hS hl
  unfold wbX12_price_23 at h
  refine lv_iconst (v := (-1)) hx hb dX12_price_23 (by decide) ?_
  exact bX12_price_24 C  _ _ _ _ _ h hW hS (lv_sub hl [] rfl)
set_option maxHeartbeats 4000000 in
set_option maxRecDepth 100000 in
theorem kX12_price {post : tq_St → Int32 → Prop} {M : tq_St} {p0 : Int32} {p1 : Int32} (h : wpX12_price post M p0 p1) : tq_mI l yX12_price (tq_ws yX12_price cX12_price 3 (some .int)) 2 42 D cy z H0 ad N S M [.ref (ad 64 0), .int p0, .int p1] post := by
  unfold wpX12_price at h
  refine Met.ofW (cc := cX12_price) (maxL := 3) (ret := (some .int)) (by decide) rfl ?_
  intro p e s m args below meth c s₁ B hml hv
  obtain ⟨rfl, hW, hK, hG⟩ := hv
  have hx := B.exec
  have hb := B.bytes
  have hr := B.returns
  have hts := atoms_spec (ws := (tq_ws yX12_price cX12_price 3 (some .int))) B.pre
  have hw : ∀ w ∈ tq_W, w.before _ s = true := fun w h => hts w (List.mem_cons_of_mem _ h)
  have hown : s.vm.findClass RX12 = some m.cls := findClass_of_methodNamed B.named
  have hlocks := B.notSynchronized
  have C : tq_At p s m meth c [.ref (ad 64 0), .int p0, .int p1].toArray cX12_price 3 ((some .int)) ((tq_ws yX12_price cX12_price 3 (some .int))) RX12 D cy z ad := ⟨hx, hb, hr, hml, hown, hts, hlocks, hK, hG⟩
  have hS : va_S (fun q => z ≤ q) s.heap s.heap [] := va_S.rf
  have hl := lv_entry ([.ref (ad 64 0), .int p0, .int p1]) (n := 3) (Nat.le_of_ble_eq_true rfl)
  rw [lg_entry_eq]
  generalize (lg_sl ([.ref (ad 64 0), .int p0, .int p1]) ++ List.replicate (3 - (lg_sl ([.ref (ad 64 0), .int p0, .int p1])).length) Slot.unset).toArray = ls at hl ⊢
  have hl : lv_has ls 3 [(0, .ref (ad 64 0)), (1, .int p0), (2, .int p1)] := hl
  have hW : tq_wd D cy z H0 ad N (tq_mix S M) s.heap := hW
  refine lv_iload_n hx hb dX12_price_0 rfl (lv_at hl 1 rfl) ?_
  refine tq_callSi (As := [.int p0]) (rest := []) (kX12_isFactory h) ⟨hx, hb, hml, hown, hts⟩ (va_cwS 1 hts (tq_goodS tw_1645 tw_1646 tw_125 tw_1647) rfl rfl rfl (by decide +kernel) ⟨Nat.le_of_ble_eq_true rfl, Nat.le_of_ble_eq_true rfl⟩) hK hG hW hS rfl hl.1 rfl (Nat.le_of_ble_eq_true rfl) dX12_price_1 ⟨Nat.le_of_ble_eq_true rfl, Nat.le_of_ble_eq_true rfl⟩ (fun r2 M1 H locs h hW hS => ?_)
  refine lv_if_eq (tgt := 23) hx hb dX12_price_4 (by decide) (fun c3 => ?_) (fun c3 => ?_)
  · have h := h.1 c3
    exact bX12_price_23 C  _  _ _ _ h hW hS (lv_sub hl [] rfl)
  · have h := h.2 c3
    refine lv_iload_n hx hb dX12_price_7 rfl (lv_at hl 2 rfl) ?_
    refine tq_callSi (As := [.int p1]) (rest := []) (kX12_isSort h) ⟨hx, hb, hml, hown, hts⟩ (va_cwS 1 hts (tq_goodS tw_1655 tw_1656 tw_125 tw_1657) rfl rfl rfl (by decide +kernel) ⟨Nat.le_of_ble_eq_true rfl, Nat.le_of_ble_eq_true rfl⟩) hK hG hW hS rfl hl.1 rfl (Nat.le_of_ble_eq_true rfl) dX12_price_8 ⟨Nat.le_of_ble_eq_true rfl, Nat.le_of_ble_eq_true rfl⟩ (fun r5 M4 H locs h hW hS => ?_)
    refine lv_if_eq (tgt := 23) hx hb dX12_price_11 (by decide) (fun c6 => ?_) (fun c6 => ?_)
    · have h := h.1 c6
      exact bX12_price_23 C  _  _ _ _ h hW hS (lv_sub hl [] rfl)
    · have h := h.2 c6
      refine lv_aload_n hx hb dX12_price_14 rfl (lv_at hl 0 rfl) ?_
      refine lv_iload_n hx hb dX12_price_15 rfl (lv_at hl 1 rfl) ?_
      refine lv_iload_n hx hb dX12_price_16 rfl (lv_at hl 2 rfl) ?_
      refine tq_callVi (As := [.int p0, .int p1]) (rest := []) (kX12_priceOf h) ⟨hx, hb, hml, hown, hts⟩ (cwV 2 hts (tq_goodV tw_1662 tw_1664 tw_56 tw_125 tw_1665) rfl rfl rfl (by decide +kernel) ⟨Nat.le_of_ble_eq_true rfl, Nat.le_of_ble_eq_true rfl⟩) hK hG hW hS rfl hl.1 rfl (Nat.le_of_ble_eq_true rfl) dX12_price_17 ⟨Nat.le_of_ble_eq_true rfl, Nat.le_of_ble_eq_true rfl⟩ (fun r8 M7 H locs h hW hS => ?_)
      refine lv_goto (tgt := 24) hx hb dX12_price_20 (by decide) ?_
      exact bX12_price_24 C  _ _ _ _ _ h hW hS (lv_sub hl [] rfl)
-- bullion
def wbX12_bullion_37 (post : tq_St → Int32 → Prop)  (M : tq_St) : Prop :=
  post M ((-2))
def wpX12_bullion (post : tq_St → Int32 → Prop) (M : tq_St) (p0 : Int32) (p1 : Int32) : Prop :=
  wpX12_isPlace (fun M1 r2 => (¬ r2 = 0 → (wpX12_in (fun M4 r5 => (r5 = 0 → (wbX12_bullion_37 post M4 )) ∧ (¬ r5 = 0 → (vp_in p0 5 ∧ (wpX12_in (fun M8 r9 => (¬ r9 = 0 → (∀ M11, M11 = tq_up M8 101 0 p0.toNatClampNeg ((M8 101 0 p0.toNatClampNeg) + p1) → (post M11 (M11 101 0 p0.toNatClampNeg)))) ∧ (r9 = 0 → (wbX12_bullion_37 post M8 ))) M4 ((M4 101 0 p0.toNatClampNeg) + p1) 0 (100000000))))) M1 p1 (-1000000) (1000000))) ∧ (r2 = 0 → (post M1 ((-1))))) M p0
set_option maxHeartbeats 4000000 in
set_option maxRecDepth 100000 in
theorem bX12_bullion_37 {p : Program} {e : Env} {s : State} {m : MethodId} {args : Array Value} {below : List Frame} {meth : Method} {c : Code} {post : tq_St → Int32 → Prop} (C : tq_At p s m meth c args cX12_bullion 3 ((some .int)) ((tq_ws yX12_bullion cX12_bullion 3 (some .int))) RX12 D cy z ad)  : ∀ (M : tq_St)  (H : Heap) (locs : List Loc) (ls : Array Slot), wbX12_bullion_37 post   M  → tq_wd D cy z H0 ad N (tq_mix S M) H → va_S (fun q => z ≤ q) s.heap H locs → lv_has ls 3 [] → W p l e (tq_rm 2 42) s m args below meth c H locs 0 0 (MQ below (va_Qi (fun r u => post u r) (tq_P D cy z H0 ad N S) (fun q => z ≤ q)) args s 0 0 (fun q => z ≤ q)) (F0 m 37 ls []) := by
  obtain ⟨hx, hb, hr, hml, hown, hts, hlocks, hK, hG⟩ := id C
  have hw : ∀ w ∈ tq_W, w.before args s = true := fun w h => hts w (List.mem_cons_of_mem _ h)
  intro M  H locs ls h hW hS hl
  unfold wbX12_bullion_37 at h
  refine lv_bipush (v := (-2)) hx hb dX12_bullion_37 (by decide) ?_
  exact W.iret (v := (-2)) hx hb hr (fun t ht hWm => ⟨⟨_, M, rfl, h, tq_pe ht hW⟩, hS.F ht⟩) hS.2.2 dX12_bullion_39
set_option maxHeartbeats 4000000 in
set_option maxRecDepth 100000 in
theorem kX12_bullion {post : tq_St → Int32 → Prop} {M : tq_St} {p0 : Int32} {p1 : Int32} (h : wpX12_bullion post M p0 p1) : tq_mI l yX12_bullion (tq_ws yX12_bullion cX12_bullion 3 (some .int)) 2 42 D cy z H0 ad N S M [.ref (ad 64 0), .int p0, .int p1] post := by
  unfold wpX12_bullion at h
  refine Met.ofW (cc := cX12_bullion) (maxL := 3) (ret := (some .int)) (by decide) rfl ?_
  intro p e s m args below meth c s₁ B hml hv
  obtain ⟨rfl, hW, hK, hG⟩ := hv
  have hx := B.exec
  have hb := B.bytes
  have hr := B.returns
  have hts := atoms_spec (ws := (tq_ws yX12_bullion cX12_bullion 3 (some .int))) B.pre
  have hw : ∀ w ∈ tq_W, w.before _ s = true := fun w h => hts w (List.mem_cons_of_mem _ h)
  have hown : s.vm.findClass RX12 = some m.cls := findClass_of_methodNamed B.named
  have hlocks := B.notSynchronized
  have C : tq_At p s m meth c [.ref (ad 64 0), .int p0, .int p1].toArray cX12_bullion 3 ((some .int)) ((tq_ws yX12_bullion cX12_bullion 3 (some .int))) RX12 D cy z ad := ⟨hx, hb, hr, hml, hown, hts, hlocks, hK, hG⟩
  have hS : va_S (fun q => z ≤ q) s.heap s.heap [] := va_S.rf
  have hl := lv_entry ([.ref (ad 64 0), .int p0, .int p1]) (n := 3) (Nat.le_of_ble_eq_true rfl)
  rw [lg_entry_eq]
  generalize (lg_sl ([.ref (ad 64 0), .int p0, .int p1]) ++ List.replicate (3 - (lg_sl ([.ref (ad 64 0), .int p0, .int p1])).length) Slot.unset).toArray = ls at hl ⊢
  have hl : lv_has ls 3 [(0, .ref (ad 64 0)), (1, .int p0), (2, .int p1)] := hl
  have hW : tq_wd D cy z H0 ad N (tq_mix S M) s.heap := hW
  refine lv_iload_n hx hb dX12_bullion_0 rfl (lv_at hl 1 rfl) ?_
  refine tq_callSi (As := [.int p0]) (rest := []) (kX12_isPlace h) ⟨hx, hb, hml, hown, hts⟩ (va_cwS 1 hts (tq_goodS tw_1670 tw_1671 tw_125 tw_1672) rfl rfl rfl (by decide +kernel) ⟨Nat.le_of_ble_eq_true rfl, Nat.le_of_ble_eq_true rfl⟩) hK hG hW hS rfl hl.1 rfl (Nat.le_of_ble_eq_true rfl) dX12_bullion_1 ⟨Nat.le_of_ble_eq_true rfl, Nat.le_of_ble_eq_true rfl⟩ (fun r2 M1 H locs h hW hS => ?_)
  refine lv_if_ne (tgt := 9) hx hb dX12_bullion_4 (by decide) (fun c3 => ?_) (fun c3 => ?_)
  · have h := h.1 c3
    refine lv_iload_n hx hb dX12_bullion_9 rfl (lv_at hl 2 rfl) ?_
    refine lv_ldc hx hb hown (hw _ tw_1673) dX12_bullion_10 ?_
    refine lv_ldc hx hb hown (hw _ tw_1674) dX12_bullion_12 ?_
    refine tq_callSi (As := [.int p1, .int ((-1000000)), .int ((1000000))]) (rest := []) (kX12_in h) ⟨hx, hb, hml, hown, hts⟩ (va_cwS 3 hts (tq_goodS tw_1648 tw_1649 tw_125 tw_1650) rfl rfl rfl (by decide +kernel) ⟨Nat.le_of_ble_eq_true rfl, Nat.le_of_ble_eq_true rfl⟩) hK hG hW hS rfl hl.1 rfl (Nat.le_of_ble_eq_true rfl) dX12_bullion_14 ⟨Nat.le_of_ble_eq_true rfl, Nat.le_of_ble_eq_true rfl⟩ (fun r5 M4 H locs h hW hS => ?_)
    refine lv_if_eq (tgt := 37) hx hb dX12_bullion_17 (by decide) (fun c6 => ?_) (fun c6 => ?_)
    · have h := h.1 c6
      exact bX12_bullion_37 C  _  _ _ _ h hW hS (lv_sub hl [] rfl)
    · have h := h.2 c6
      refine lv_aload_n hx hb dX12_bullion_20 rfl (lv_at hl 0 rfl) ?_
      refine tqm_get (v := .ref (ad 101 0)) hx hb hw tq_inX12 hown hK hW (by decide) (tq_mk_64 (by decide)) rfl 1 (by decide) (hw _ tw_1409) (fun _ h9 => h9) rfl dX12_bullion_21 ?_
      refine lv_iload_n hx hb dX12_bullion_24 rfl (lv_at hl 1 rfl) ?_
      obtain ⟨b7, h⟩ := h
      refine tqm_iald (jn := p0.toNatClampNeg) hx hb hK hW (by decide) (tq_mk_101 (by decide)) b7 rfl dX12_bullion_25 ?_
      refine lv_iload_n hx hb dX12_bullion_26 rfl (lv_at hl 2 rfl) ?_
      refine lv_iadd hx hb dX12_bullion_27 ?_
      refine lv_iconst (v := 0) hx hb dX12_bullion_28 (by decide) ?_
      refine lv_ldc hx hb hown (hw _ tw_1675) dX12_bullion_29 ?_
      refine tq_callSi (As := [.int ((M4 101 0 p0.toNatClampNeg) + p1), .int 0, .int ((100000000))]) (rest := []) (kX12_in h) ⟨hx, hb, hml, hown, hts⟩ (va_cwS 3 hts (tq_goodS tw_1648 tw_1649 tw_125 tw_1650) rfl rfl rfl (by decide +kernel) ⟨Nat.le_of_ble_eq_true rfl, Nat.le_of_ble_eq_true rfl⟩) hK hG hW hS rfl hl.1 rfl (Nat.le_of_ble_eq_true rfl) dX12_bullion_31 ⟨Nat.le_of_ble_eq_true rfl, Nat.le_of_ble_eq_true rfl⟩ (fun r9 M8 H locs h hW hS => ?_)
      refine lv_if_ne (tgt := 40) hx hb dX12_bullion_34 (by decide) (fun c10 => ?_) (fun c10 => ?_)
      · have h := h.1 c10
        refine lv_aload_n hx hb dX12_bullion_40 rfl (lv_at hl 0 rfl) ?_
        refine tqm_get (v := .ref (ad 101 0)) hx hb hw tq_inX12 hown hK hW (by decide) (tq_mk_64 (by decide)) rfl 1 (by decide) (hw _ tw_1409) (fun _ h9 => h9) rfl dX12_bullion_41 ?_
        refine lv_iload_n hx hb dX12_bullion_44 rfl (lv_at hl 1 rfl) ?_
        refine lv_dup2_11 hx hb dX12_bullion_45 rfl rfl ?_
        refine tqm_iald (jn := p0.toNatClampNeg) hx hb hK hW (by decide) (tq_mk_101 (by decide)) b7 rfl dX12_bullion_46 ?_
        refine lv_iload_n hx hb dX12_bullion_47 rfl (lv_at hl 2 rfl) ?_
        refine lv_iadd hx hb dX12_bullion_48 ?_
        refine tqm_iast (jn := p0.toNatClampNeg) hx hb hK hW hS (by decide) (tq_mk_101 (by decide)) b7 rfl (tq_mk_101 (by decide)) dX12_bullion_49 (fun H locs hW hS => ?_)
        generalize eM11 : tq_up M8 101 0 p0.toNatClampNeg ((M8 101 0 p0.toNatClampNeg) + p1) = M11 at hW
        have h := h M11 eM11.symm
        refine lv_aload_n hx hb dX12_bullion_50 rfl (lv_at hl 0 rfl) ?_
        refine tqm_get (v := .ref (ad 101 0)) hx hb hw tq_inX12 hown hK hW (by decide) (tq_mk_64 (by decide)) rfl 1 (by decide) (hw _ tw_1409) (fun _ h9 => h9) rfl dX12_bullion_51 ?_
        refine lv_iload_n hx hb dX12_bullion_54 rfl (lv_at hl 1 rfl) ?_
        refine tqm_iald (jn := p0.toNatClampNeg) hx hb hK hW (by decide) (tq_mk_101 (by decide)) b7 rfl dX12_bullion_55 ?_
        exact W.iret (v := M11 101 0 p0.toNatClampNeg) hx hb hr (fun t ht hWm => ⟨⟨_, M11, rfl, h, tq_pe ht hW⟩, hS.F ht⟩) hS.2.2 dX12_bullion_56
      · have h := h.2 c10
        exact bX12_bullion_37 C  _  _ _ _ h hW hS (lv_sub hl [] rfl)
  · have h := h.2 c3
    refine lv_iconst (v := (-1)) hx hb dX12_bullion_7 (by decide) ?_
    exact W.iret (v := (-1)) hx hb hr (fun t ht hWm => ⟨⟨_, M1, rfl, h, tq_pe ht hW⟩, hS.F ht⟩) hS.2.2 dX12_bullion_8
-- stock
def wbX12_stock_26 (post : tq_St → Int32 → Prop)  (M : tq_St) (y0 : Int32) : Prop :=
  post M y0
def wbX12_stock_25 (post : tq_St → Int32 → Prop)  (M : tq_St) : Prop :=
  wbX12_stock_26 post M ((-1))
def wpX12_stock (post : tq_St → Int32 → Prop) (M : tq_St) (p0 : Int32) (p1 : Int32) : Prop :=
  wpX12_isPlace (fun M1 r2 => (r2 = 0 → (wbX12_stock_25 post M1 )) ∧ (¬ r2 = 0 → (wpX12_isSort (fun M4 r5 => (r5 = 0 → (wbX12_stock_25 post M4 )) ∧ (¬ r5 = 0 → (vp_in p0 5 ∧ (vp_in p1 4 ∧ (wbX12_stock_26 post M4 (M4 102 p0.toNatClampNeg p1.toNatClampNeg)))))) M1 p1))) M p0
set_option maxHeartbeats 4000000 in
set_option maxRecDepth 100000 in
theorem bX12_stock_26 {p : Program} {e : Env} {s : State} {m : MethodId} {args : Array Value} {below : List Frame} {meth : Method} {c : Code} {post : tq_St → Int32 → Prop} (C : tq_At p s m meth c args cX12_stock 3 ((some .int)) ((tq_ws yX12_stock cX12_stock 3 (some .int))) RX12 D cy z ad)  : ∀ (M : tq_St) (y0 : Int32) (H : Heap) (locs : List Loc) (ls : Array Slot), wbX12_stock_26 post   M y0 → tq_wd D cy z H0 ad N (tq_mix S M) H → va_S (fun q => z ≤ q) s.heap H locs → lv_has ls 3 [] → W p l e (tq_rm 2 42) s m args below meth c H locs 0 0 (MQ below (va_Qi (fun r u => post u r) (tq_P D cy z H0 ad N S) (fun q => z ≤ q)) args s 0 0 (fun q => z ≤ q)) (F0 m 26 ls [.int y0]) := by
  obtain ⟨hx, hb, hr, hml, hown, hts, hlocks, hK, hG⟩ := id C
  have hw : ∀ w ∈ tq_W, w.before args s = true := fun w h => hts w (List.mem_cons_of_mem _ h)
  intro M y0 H locs ls h hW hS hl
  unfold wbX12_stock_26 at h
  exact W.iret (v := y0) hx hb hr (fun t ht hWm => ⟨⟨_, M, rfl, h, tq_pe ht hW⟩, hS.F ht⟩) hS.2.2 dX12_stock_26
set_option maxHeartbeats 4000000 in
set_option maxRecDepth 100000 in
theorem bX12_stock_25 {p : Program} {e : Env} {s : State} {m : MethodId} {args : Array Value} {below : List Frame} {meth : Method} {c : Code} {post : tq_St → Int32 → Prop} (C : tq_At p s m meth c args cX12_stock 3 ((some .int)) ((tq_ws yX12_stock cX12_stock 3 (some .int))) RX12 D cy z ad)  : ∀ (M : tq_St)  (H : Heap) (locs : List Loc) (ls : Array Slot), wbX12_stock_25 post   M  → tq_wd D cy z H0 ad N (tq_mix S M) H → va_S (fun q => z ≤ q) s.heap H locs → lv_has ls 3 [] → W p l e (tq_rm 2 42) s m args below meth c H locs 0 0 (MQ below (va_Qi (fun r u => post u r) (tq_P D cy z H0 ad N S) (fun q => z ≤ q)) args s 0 0 (fun q => z ≤ q)) (F0 m 25 ls []) := by
  obtain ⟨hx, hb, hr, hml, hown, hts, hlocks, hK, hG⟩ := id C
  have hw : ∀ w ∈ tq_W, w.before args s = true := fun w h => hts w (List.mem_cons_of_mem _ h)
  intro M  H locs ls h hW hS hl
  unfold wbX12_stock_25 at h
  refine lv_iconst (v := (-1)) hx hb dX12_stock_25 (by decide) ?_
  exact bX12_stock_26 C  _ _ _ _ _ h hW hS (lv_sub hl [] rfl)
set_option maxHeartbeats 4000000 in
set_option maxRecDepth 100000 in
theorem kX12_stock {post : tq_St → Int32 → Prop} {M : tq_St} {p0 : Int32} {p1 : Int32} (h : wpX12_stock post M p0 p1) : tq_mI l yX12_stock (tq_ws yX12_stock cX12_stock 3 (some .int)) 2 42 D cy z H0 ad N S M [.ref (ad 64 0), .int p0, .int p1] post := by
  unfold wpX12_stock at h
  refine Met.ofW (cc := cX12_stock) (maxL := 3) (ret := (some .int)) (by decide) rfl ?_
  intro p e s m args below meth c s₁ B hml hv
  obtain ⟨rfl, hW, hK, hG⟩ := hv
  have hx := B.exec
  have hb := B.bytes
  have hr := B.returns
  have hts := atoms_spec (ws := (tq_ws yX12_stock cX12_stock 3 (some .int))) B.pre
  have hw : ∀ w ∈ tq_W, w.before _ s = true := fun w h => hts w (List.mem_cons_of_mem _ h)
  have hown : s.vm.findClass RX12 = some m.cls := findClass_of_methodNamed B.named
  have hlocks := B.notSynchronized
  have C : tq_At p s m meth c [.ref (ad 64 0), .int p0, .int p1].toArray cX12_stock 3 ((some .int)) ((tq_ws yX12_stock cX12_stock 3 (some .int))) RX12 D cy z ad := ⟨hx, hb, hr, hml, hown, hts, hlocks, hK, hG⟩
  have hS : va_S (fun q => z ≤ q) s.heap s.heap [] := va_S.rf
  have hl := lv_entry ([.ref (ad 64 0), .int p0, .int p1]) (n := 3) (Nat.le_of_ble_eq_true rfl)
  rw [lg_entry_eq]
  generalize (lg_sl ([.ref (ad 64 0), .int p0, .int p1]) ++ List.replicate (3 - (lg_sl ([.ref (ad 64 0), .int p0, .int p1])).length) Slot.unset).toArray = ls at hl ⊢
  have hl : lv_has ls 3 [(0, .ref (ad 64 0)), (1, .int p0), (2, .int p1)] := hl
  have hW : tq_wd D cy z H0 ad N (tq_mix S M) s.heap := hW
  refine lv_iload_n hx hb dX12_stock_0 rfl (lv_at hl 1 rfl) ?_
  refine tq_callSi (As := [.int p0]) (rest := []) (kX12_isPlace h) ⟨hx, hb, hml, hown, hts⟩ (va_cwS 1 hts (tq_goodS tw_1670 tw_1671 tw_125 tw_1672) rfl rfl rfl (by decide +kernel) ⟨Nat.le_of_ble_eq_true rfl, Nat.le_of_ble_eq_true rfl⟩) hK hG hW hS rfl hl.1 rfl (Nat.le_of_ble_eq_true rfl) dX12_stock_1 ⟨Nat.le_of_ble_eq_true rfl, Nat.le_of_ble_eq_true rfl⟩ (fun r2 M1 H locs h hW hS => ?_)
  refine lv_if_eq (tgt := 25) hx hb dX12_stock_4 (by decide) (fun c3 => ?_) (fun c3 => ?_)
  · have h := h.1 c3
    exact bX12_stock_25 C  _  _ _ _ h hW hS (lv_sub hl [] rfl)
  · have h := h.2 c3
    refine lv_iload_n hx hb dX12_stock_7 rfl (lv_at hl 2 rfl) ?_
    refine tq_callSi (As := [.int p1]) (rest := []) (kX12_isSort h) ⟨hx, hb, hml, hown, hts⟩ (va_cwS 1 hts (tq_goodS tw_1655 tw_1656 tw_125 tw_1657) rfl rfl rfl (by decide +kernel) ⟨Nat.le_of_ble_eq_true rfl, Nat.le_of_ble_eq_true rfl⟩) hK hG hW hS rfl hl.1 rfl (Nat.le_of_ble_eq_true rfl) dX12_stock_8 ⟨Nat.le_of_ble_eq_true rfl, Nat.le_of_ble_eq_true rfl⟩ (fun r5 M4 H locs h hW hS => ?_)
    refine lv_if_eq (tgt := 25) hx hb dX12_stock_11 (by decide) (fun c6 => ?_) (fun c6 => ?_)
    · have h := h.1 c6
      exact bX12_stock_25 C  _  _ _ _ h hW hS (lv_sub hl [] rfl)
    · have h := h.2 c6
      refine lv_aload_n hx hb dX12_stock_14 rfl (lv_at hl 0 rfl) ?_
      refine tqm_get (v := .ref (ad 202 0)) hx hb hw tq_inX12 hown hK hW (by decide) (tq_mk_64 (by decide)) rfl 2 (by decide) (hw _ tw_1410) (fun _ h9 => h9) rfl dX12_stock_15 ?_
      refine lv_iload_n hx hb dX12_stock_18 rfl (lv_at hl 1 rfl) ?_
      obtain ⟨b7, h⟩ := h
      refine tqm_aald (jn := p0.toNatClampNeg) (v := .ref (ad 102 p0.toNatClampNeg)) hx hb hK hW (by decide) (tq_mk_202 (by decide)) 2 rfl rfl b7 rfl rfl dX12_stock_19 ?_
      refine lv_iload_n hx hb dX12_stock_20 rfl (lv_at hl 2 rfl) ?_
      obtain ⟨b8, h⟩ := h
      refine tqm_iald (jn := p1.toNatClampNeg) hx hb hK hW (by decide) (tq_mk_102 (tq_lt b7)) b8 rfl dX12_stock_21 ?_
      refine lv_goto (tgt := 26) hx hb dX12_stock_22 (by decide) ?_
      exact bX12_stock_26 C  _ _ _ _ _ h hW hS (lv_sub hl [] rfl)
-- person
def wpX12_person (post : tq_St → Int32 → Prop) (M : tq_St) (p0 : Int32) (p1 : Int32) : Prop :=
  wpX12_isPlace (fun M1 r2 => (¬ r2 = 0 → (wpX12_in (fun M4 r5 => (¬ r5 = 0 → ((¬ (M4 64 0 6) = 20 → (vp_in (M4 64 0 6) 20 ∧ (∀ M9, M9 = tq_up M4 107 0 ((M4 64 0 6).toNatClampNeg) p0 → (vp_in (M9 64 0 6) 20 ∧ (∀ M11, M11 = tq_up M9 108 0 ((M9 64 0 6).toNatClampNeg) p1 → (∀ M12, M12 = tq_up M11 64 0 6 ((M11 64 0 6) + 1) → (post M12 (M11 64 0 6)))))))) ∧ ((M4 64 0 6) = 20 → (post M4 ((-4)))))) ∧ (r5 = 0 → (post M4 ((-2))))) M1 p1 0 9)) ∧ (r2 = 0 → (post M1 ((-1))))) M p0
set_option maxHeartbeats 4000000 in
set_option maxRecDepth 100000 in
theorem kX12_person {post : tq_St → Int32 → Prop} {M : tq_St} {p0 : Int32} {p1 : Int32} (h : wpX12_person post M p0 p1) : tq_mI l yX12_person (tq_ws yX12_person cX12_person 3 (some .int)) 2 42 D cy z H0 ad N S M [.ref (ad 64 0), .int p0, .int p1] post := by
  unfold wpX12_person at h
  refine Met.ofW (cc := cX12_person) (maxL := 3) (ret := (some .int)) (by decide) rfl ?_
  intro p e s m args below meth c s₁ B hml hv
  obtain ⟨rfl, hW, hK, hG⟩ := hv
  have hx := B.exec
  have hb := B.bytes
  have hr := B.returns
  have hts := atoms_spec (ws := (tq_ws yX12_person cX12_person 3 (some .int))) B.pre
  have hw : ∀ w ∈ tq_W, w.before _ s = true := fun w h => hts w (List.mem_cons_of_mem _ h)
  have hown : s.vm.findClass RX12 = some m.cls := findClass_of_methodNamed B.named
  have hlocks := B.notSynchronized
  have C : tq_At p s m meth c [.ref (ad 64 0), .int p0, .int p1].toArray cX12_person 3 ((some .int)) ((tq_ws yX12_person cX12_person 3 (some .int))) RX12 D cy z ad := ⟨hx, hb, hr, hml, hown, hts, hlocks, hK, hG⟩
  have hS : va_S (fun q => z ≤ q) s.heap s.heap [] := va_S.rf
  have hl := lv_entry ([.ref (ad 64 0), .int p0, .int p1]) (n := 3) (Nat.le_of_ble_eq_true rfl)
  rw [lg_entry_eq]
  generalize (lg_sl ([.ref (ad 64 0), .int p0, .int p1]) ++ List.replicate (3 - (lg_sl ([.ref (ad 64 0), .int p0, .int p1])).length) Slot.unset).toArray = ls at hl ⊢
  have hl : lv_has ls 3 [(0, .ref (ad 64 0)), (1, .int p0), (2, .int p1)] := hl
  have hW : tq_wd D cy z H0 ad N (tq_mix S M) s.heap := hW
  refine lv_iload_n hx hb dX12_person_0 rfl (lv_at hl 1 rfl) ?_
  refine tq_callSi (As := [.int p0]) (rest := []) (kX12_isPlace h) ⟨hx, hb, hml, hown, hts⟩ (va_cwS 1 hts (tq_goodS tw_1670 tw_1671 tw_125 tw_1672) rfl rfl rfl (by decide +kernel) ⟨Nat.le_of_ble_eq_true rfl, Nat.le_of_ble_eq_true rfl⟩) hK hG hW hS rfl hl.1 rfl (Nat.le_of_ble_eq_true rfl) dX12_person_1 ⟨Nat.le_of_ble_eq_true rfl, Nat.le_of_ble_eq_true rfl⟩ (fun r2 M1 H locs h hW hS => ?_)
  refine lv_if_ne (tgt := 9) hx hb dX12_person_4 (by decide) (fun c3 => ?_) (fun c3 => ?_)
  · have h := h.1 c3
    refine lv_iload_n hx hb dX12_person_9 rfl (lv_at hl 2 rfl) ?_
    refine lv_iconst (v := 0) hx hb dX12_person_10 (by decide) ?_
    refine lv_bipush (v := 9) hx hb dX12_person_11 (by decide) ?_
    refine tq_callSi (As := [.int p1, .int 0, .int 9]) (rest := []) (kX12_in h) ⟨hx, hb, hml, hown, hts⟩ (va_cwS 3 hts (tq_goodS tw_1648 tw_1649 tw_125 tw_1650) rfl rfl rfl (by decide +kernel) ⟨Nat.le_of_ble_eq_true rfl, Nat.le_of_ble_eq_true rfl⟩) hK hG hW hS rfl hl.1 rfl (Nat.le_of_ble_eq_true rfl) dX12_person_13 ⟨Nat.le_of_ble_eq_true rfl, Nat.le_of_ble_eq_true rfl⟩ (fun r5 M4 H locs h hW hS => ?_)
    refine lv_if_ne (tgt := 22) hx hb dX12_person_16 (by decide) (fun c6 => ?_) (fun c6 => ?_)
    · have h := h.1 c6
      refine lv_aload_n hx hb dX12_person_22 rfl (lv_at hl 0 rfl) ?_
      refine tqm_get (v := .int (M4 64 0 6)) hx hb hw tq_inX12 hown hK hW (by decide) (tq_mk_64 (by decide)) rfl 6 (by decide) (hw _ tw_1414) (fun _ h9 => h9) rfl dX12_person_23 ?_
      refine lv_bipush (v := 20) hx hb dX12_person_26 (by decide) ?_
      refine lv_icmp_ne (tgt := 34) hx hb dX12_person_28 (by decide) (fun c7 => ?_) (fun c7 => ?_)
      · have h := h.1 c7
        refine lv_aload_n hx hb dX12_person_34 rfl (lv_at hl 0 rfl) ?_
        refine tqm_get (v := .ref (ad 107 0)) hx hb hw tq_inX12 hown hK hW (by decide) (tq_mk_64 (by decide)) rfl 7 (by decide) (hw _ tw_1415) (fun _ h9 => h9) rfl dX12_person_35 ?_
        refine lv_aload_n hx hb dX12_person_38 rfl (lv_at hl 0 rfl) ?_
        refine tqm_get (v := .int (M4 64 0 6)) hx hb hw tq_inX12 hown hK hW (by decide) (tq_mk_64 (by decide)) rfl 6 (by decide) (hw _ tw_1414) (fun _ h9 => h9) rfl dX12_person_39 ?_
        refine lv_iload_n hx hb dX12_person_42 rfl (lv_at hl 1 rfl) ?_
        obtain ⟨b8, h⟩ := h
        refine tqm_iast (jn := (M4 64 0 6).toNatClampNeg) hx hb hK hW hS (by decide) (tq_mk_107 (by decide)) b8 rfl (tq_mk_107 (by decide)) dX12_person_43 (fun H locs hW hS => ?_)
        generalize eM9 : tq_up M4 107 0 ((M4 64 0 6).toNatClampNeg) p0 = M9 at hW
        have h := h M9 eM9.symm
        refine lv_aload_n hx hb dX12_person_44 rfl (lv_at hl 0 rfl) ?_
        refine tqm_get (v := .ref (ad 108 0)) hx hb hw tq_inX12 hown hK hW (by decide) (tq_mk_64 (by decide)) rfl 8 (by decide) (hw _ tw_1416) (fun _ h9 => h9) rfl dX12_person_45 ?_
        refine lv_aload_n hx hb dX12_person_48 rfl (lv_at hl 0 rfl) ?_
        refine tqm_get (v := .int (M9 64 0 6)) hx hb hw tq_inX12 hown hK hW (by decide) (tq_mk_64 (by decide)) rfl 6 (by decide) (hw _ tw_1414) (fun _ h9 => h9) rfl dX12_person_49 ?_
        refine lv_iload_n hx hb dX12_person_52 rfl (lv_at hl 2 rfl) ?_
        obtain ⟨b10, h⟩ := h
        refine tqm_iast (jn := (M9 64 0 6).toNatClampNeg) hx hb hK hW hS (by decide) (tq_mk_108 (by decide)) b10 rfl (tq_mk_108 (by decide)) dX12_person_53 (fun H locs hW hS => ?_)
        generalize eM11 : tq_up M9 108 0 ((M9 64 0 6).toNatClampNeg) p1 = M11 at hW
        have h := h M11 eM11.symm
        refine lv_aload_n hx hb dX12_person_54 rfl (lv_at hl 0 rfl) ?_
        refine lv_dup hx hb dX12_person_55 rfl ?_
        refine tqm_get (v := .int (M11 64 0 6)) hx hb hw tq_inX12 hown hK hW (by decide) (tq_mk_64 (by decide)) rfl 6 (by decide) (hw _ tw_1414) (fun _ h9 => h9) rfl dX12_person_56 ?_
        refine lv_dup_x1 hx hb dX12_person_59 rfl rfl ?_
        refine lv_iconst (v := 1) hx hb dX12_person_60 (by decide) ?_
        refine lv_iadd hx hb dX12_person_61 ?_
        refine tqm_put hx hb hw tq_inX12 tyX12 tyX12_ok nmX12 hown hK hW hS (by decide) (tq_mk_64 (by decide)) rfl 6 (by decide) (hw _ tw_1414) (fun _ h9 => h9) rfl rfl rfl rfl (tq_mk_64 (by decide)) dX12_person_62 (fun H locs hW hS => ?_)
        generalize eM12 : tq_up M11 64 0 6 ((M11 64 0 6) + 1) = M12 at hW
        have h := h M12 eM12.symm
        exact W.iret (v := M11 64 0 6) hx hb hr (fun t ht hWm => ⟨⟨_, M12, rfl, h, tq_pe ht hW⟩, hS.F ht⟩) hS.2.2 dX12_person_65
      · have h := h.2 c7
        refine lv_bipush (v := (-4)) hx hb dX12_person_31 (by decide) ?_
        exact W.iret (v := (-4)) hx hb hr (fun t ht hWm => ⟨⟨_, M4, rfl, h, tq_pe ht hW⟩, hS.F ht⟩) hS.2.2 dX12_person_33
    · have h := h.2 c6
      refine lv_bipush (v := (-2)) hx hb dX12_person_19 (by decide) ?_
      exact W.iret (v := (-2)) hx hb hr (fun t ht hWm => ⟨⟨_, M4, rfl, h, tq_pe ht hW⟩, hS.F ht⟩) hS.2.2 dX12_person_21
  · have h := h.2 c3
    refine lv_iconst (v := (-1)) hx hb dX12_person_7 (by decide) ?_
    exact W.iret (v := (-1)) hx hb hr (fun t ht hWm => ⟨⟨_, M1, rfl, h, tq_pe ht hW⟩, hS.F ht⟩) hS.2.2 dX12_person_8
-- isPerson
def wpX12_isPerson (post : tq_St → Int32 → Prop) (M : tq_St) (p0 : Int32) : Prop :=
  wpX12_in (fun M1 r2 => narrow .boolean (.int r2) = .int r2 ∧ post M1 r2) M p0 0 ((M 64 0 6) - 1)
set_option maxHeartbeats 4000000 in
set_option maxRecDepth 100000 in
theorem kX12_isPerson {post : tq_St → Int32 → Prop} {M : tq_St} {p0 : Int32} (h : wpX12_isPerson post M p0) : tq_mI l yX12_isPerson (tq_ws yX12_isPerson cX12_isPerson 2 (some .boolean)) 1 22 D cy z H0 ad N S M [.ref (ad 64 0), .int p0] post := by
  unfold wpX12_isPerson at h
  refine Met.ofW (cc := cX12_isPerson) (maxL := 2) (ret := (some .boolean)) (by decide) rfl ?_
  intro p e s m args below meth c s₁ B hml hv
  obtain ⟨rfl, hW, hK, hG⟩ := hv
  have hx := B.exec
  have hb := B.bytes
  have hr := B.returns
  have hts := atoms_spec (ws := (tq_ws yX12_isPerson cX12_isPerson 2 (some .boolean))) B.pre
  have hw : ∀ w ∈ tq_W, w.before _ s = true := fun w h => hts w (List.mem_cons_of_mem _ h)
  have hown : s.vm.findClass RX12 = some m.cls := findClass_of_methodNamed B.named
  have hlocks := B.notSynchronized
  have C : tq_At p s m meth c [.ref (ad 64 0), .int p0].toArray cX12_isPerson 2 ((some .boolean)) ((tq_ws yX12_isPerson cX12_isPerson 2 (some .boolean))) RX12 D cy z ad := ⟨hx, hb, hr, hml, hown, hts, hlocks, hK, hG⟩
  have hS : va_S (fun q => z ≤ q) s.heap s.heap [] := va_S.rf
  have hl := lv_entry ([.ref (ad 64 0), .int p0]) (n := 2) (Nat.le_of_ble_eq_true rfl)
  rw [lg_entry_eq]
  generalize (lg_sl ([.ref (ad 64 0), .int p0]) ++ List.replicate (2 - (lg_sl ([.ref (ad 64 0), .int p0])).length) Slot.unset).toArray = ls at hl ⊢
  have hl : lv_has ls 2 [(0, .ref (ad 64 0)), (1, .int p0)] := hl
  have hW : tq_wd D cy z H0 ad N (tq_mix S M) s.heap := hW
  refine lv_iload_n hx hb dX12_isPerson_0 rfl (lv_at hl 1 rfl) ?_
  refine lv_iconst (v := 0) hx hb dX12_isPerson_1 (by decide) ?_
  refine lv_aload_n hx hb dX12_isPerson_2 rfl (lv_at hl 0 rfl) ?_
  refine tqm_get (v := .int (M 64 0 6)) hx hb hw tq_inX12 hown hK hW (by decide) (tq_mk_64 (by decide)) rfl 6 (by decide) (hw _ tw_1414) (fun _ h9 => h9) rfl dX12_isPerson_3 ?_
  refine lv_iconst (v := 1) hx hb dX12_isPerson_6 (by decide) ?_
  refine lv_isub hx hb dX12_isPerson_7 ?_
  refine tq_callSi (As := [.int p0, .int 0, .int ((M 64 0 6) - 1)]) (rest := []) (kX12_in h) ⟨hx, hb, hml, hown, hts⟩ (va_cwS 3 hts (tq_goodS tw_1648 tw_1649 tw_125 tw_1650) rfl rfl rfl (by decide +kernel) ⟨Nat.le_of_ble_eq_true rfl, Nat.le_of_ble_eq_true rfl⟩) hK hG hW hS rfl hl.1 rfl (Nat.le_of_ble_eq_true rfl) dX12_isPerson_8 ⟨Nat.le_of_ble_eq_true rfl, Nat.le_of_ble_eq_true rfl⟩ (fun r2 M1 H locs h hW hS => ?_)
  obtain ⟨b3, h⟩ := h
  exact W.zret (v := r2) hx hb hr b3 (fun t ht hWm => ⟨⟨_, M1, rfl, h, tq_pe ht hW⟩, hS.F ht⟩) hS.2.2 dX12_isPerson_11
-- goes
def wbX12_goes_15 (post : tq_St → Int32 → Prop)  (M : tq_St) : Prop :=
  post M ((-1))
def wpX12_goes (post : tq_St → Int32 → Prop) (M : tq_St) (p0 : Int32) (p1 : Int32) : Prop :=
  wpX12_isPerson (fun M1 r2 => (r2 = 0 → (wbX12_goes_15 post M1 )) ∧ (¬ r2 = 0 → (wpX12_isPlace (fun M4 r5 => (¬ r5 = 0 → (vp_in p0 20 ∧ (∀ M8, M8 = tq_up M4 107 0 p0.toNatClampNeg p1 → (post M8 (M4 107 0 p0.toNatClampNeg))))) ∧ (r5 = 0 → (wbX12_goes_15 post M4 ))) M1 p1))) M p0
set_option maxHeartbeats 4000000 in
set_option maxRecDepth 100000 in
theorem bX12_goes_15 {p : Program} {e : Env} {s : State} {m : MethodId} {args : Array Value} {below : List Frame} {meth : Method} {c : Code} {post : tq_St → Int32 → Prop} (C : tq_At p s m meth c args cX12_goes 4 ((some .int)) ((tq_ws yX12_goes cX12_goes 4 (some .int))) RX12 D cy z ad)  : ∀ (M : tq_St)  (H : Heap) (locs : List Loc) (ls : Array Slot), wbX12_goes_15 post   M  → tq_wd D cy z H0 ad N (tq_mix S M) H → va_S (fun q => z ≤ q) s.heap H locs → lv_has ls 4 [] → W p l e (tq_rm 2 43) s m args below meth c H locs 0 0 (MQ below (va_Qi (fun r u => post u r) (tq_P D cy z H0 ad N S) (fun q => z ≤ q)) args s 0 0 (fun q => z ≤ q)) (F0 m 15 ls []) := by
  obtain ⟨hx, hb, hr, hml, hown, hts, hlocks, hK, hG⟩ := id C
  have hw : ∀ w ∈ tq_W, w.before args s = true := fun w h => hts w (List.mem_cons_of_mem _ h)
  intro M  H locs ls h hW hS hl
  unfold wbX12_goes_15 at h
  refine lv_iconst (v := (-1)) hx hb dX12_goes_15 (by decide) ?_
  exact W.iret (v := (-1)) hx hb hr (fun t ht hWm => ⟨⟨_, M, rfl, h, tq_pe ht hW⟩, hS.F ht⟩) hS.2.2 dX12_goes_16
set_option maxHeartbeats 4000000 in
set_option maxRecDepth 100000 in
theorem kX12_goes {post : tq_St → Int32 → Prop} {M : tq_St} {p0 : Int32} {p1 : Int32} (h : wpX12_goes post M p0 p1) : tq_mI l yX12_goes (tq_ws yX12_goes cX12_goes 4 (some .int)) 2 43 D cy z H0 ad N S M [.ref (ad 64 0), .int p0, .int p1] post := by
  unfold wpX12_goes at h
  refine Met.ofW (cc := cX12_goes) (maxL := 4) (ret := (some .int)) (by decide) rfl ?_
  intro p e s m args below meth c s₁ B hml hv
  obtain ⟨rfl, hW, hK, hG⟩ := hv
  have hx := B.exec
  have hb := B.bytes
  have hr := B.returns
  have hts := atoms_spec (ws := (tq_ws yX12_goes cX12_goes 4 (some .int))) B.pre
  have hw : ∀ w ∈ tq_W, w.before _ s = true := fun w h => hts w (List.mem_cons_of_mem _ h)
  have hown : s.vm.findClass RX12 = some m.cls := findClass_of_methodNamed B.named
  have hlocks := B.notSynchronized
  have C : tq_At p s m meth c [.ref (ad 64 0), .int p0, .int p1].toArray cX12_goes 4 ((some .int)) ((tq_ws yX12_goes cX12_goes 4 (some .int))) RX12 D cy z ad := ⟨hx, hb, hr, hml, hown, hts, hlocks, hK, hG⟩
  have hS : va_S (fun q => z ≤ q) s.heap s.heap [] := va_S.rf
  have hl := lv_entry ([.ref (ad 64 0), .int p0, .int p1]) (n := 4) (Nat.le_of_ble_eq_true rfl)
  rw [lg_entry_eq]
  generalize (lg_sl ([.ref (ad 64 0), .int p0, .int p1]) ++ List.replicate (4 - (lg_sl ([.ref (ad 64 0), .int p0, .int p1])).length) Slot.unset).toArray = ls at hl ⊢
  have hl : lv_has ls 4 [(0, .ref (ad 64 0)), (1, .int p0), (2, .int p1)] := hl
  have hW : tq_wd D cy z H0 ad N (tq_mix S M) s.heap := hW
  refine lv_aload_n hx hb dX12_goes_0 rfl (lv_at hl 0 rfl) ?_
  refine lv_iload_n hx hb dX12_goes_1 rfl (lv_at hl 1 rfl) ?_
  refine tq_callVi (As := [.int p0]) (rest := []) (kX12_isPerson h) ⟨hx, hb, hml, hown, hts⟩ (cwV 1 hts (tq_goodV tw_1688 tw_1690 tw_57 tw_125 tw_1691) rfl rfl rfl (by decide +kernel) ⟨Nat.le_of_ble_eq_true rfl, Nat.le_of_ble_eq_true rfl⟩) hK hG hW hS rfl hl.1 rfl (Nat.le_of_ble_eq_true rfl) dX12_goes_2 ⟨Nat.le_of_ble_eq_true rfl, Nat.le_of_ble_eq_true rfl⟩ (fun r2 M1 H locs h hW hS => ?_)
  refine lv_if_eq (tgt := 15) hx hb dX12_goes_5 (by decide) (fun c3 => ?_) (fun c3 => ?_)
  · have h := h.1 c3
    exact bX12_goes_15 C  _  _ _ _ h hW hS (lv_sub hl [] rfl)
  · have h := h.2 c3
    refine lv_iload_n hx hb dX12_goes_8 rfl (lv_at hl 2 rfl) ?_
    refine tq_callSi (As := [.int p1]) (rest := []) (kX12_isPlace h) ⟨hx, hb, hml, hown, hts⟩ (va_cwS 1 hts (tq_goodS tw_1670 tw_1671 tw_125 tw_1672) rfl rfl rfl (by decide +kernel) ⟨Nat.le_of_ble_eq_true rfl, Nat.le_of_ble_eq_true rfl⟩) hK hG hW hS rfl hl.1 rfl (Nat.le_of_ble_eq_true rfl) dX12_goes_9 ⟨Nat.le_of_ble_eq_true rfl, Nat.le_of_ble_eq_true rfl⟩ (fun r5 M4 H locs h hW hS => ?_)
    refine lv_if_ne (tgt := 17) hx hb dX12_goes_12 (by decide) (fun c6 => ?_) (fun c6 => ?_)
    · have h := h.1 c6
      refine lv_aload_n hx hb dX12_goes_17 rfl (lv_at hl 0 rfl) ?_
      refine tqm_get (v := .ref (ad 107 0)) hx hb hw tq_inX12 hown hK hW (by decide) (tq_mk_64 (by decide)) rfl 7 (by decide) (hw _ tw_1415) (fun _ h9 => h9) rfl dX12_goes_18 ?_
      refine lv_iload_n hx hb dX12_goes_21 rfl (lv_at hl 1 rfl) ?_
      obtain ⟨b7, h⟩ := h
      refine tqm_iald (jn := p0.toNatClampNeg) hx hb hK hW (by decide) (tq_mk_107 (by decide)) b7 rfl dX12_goes_22 ?_
      refine lv_istore_n (lv' := [(3, .int (M4 107 0 p0.toNatClampNeg)), (0, .ref (ad 64 0)), (1, .int p0), (2, .int p1)]) hx hb dX12_goes_23 rfl hl (by decide) rfl (fun ls hl => ?_)
      refine lv_aload_n hx hb dX12_goes_24 rfl (lv_at hl 1 rfl) ?_
      refine tqm_get (v := .ref (ad 107 0)) hx hb hw tq_inX12 hown hK hW (by decide) (tq_mk_64 (by decide)) rfl 7 (by decide) (hw _ tw_1415) (fun _ h9 => h9) rfl dX12_goes_25 ?_
      refine lv_iload_n hx hb dX12_goes_28 rfl (lv_at hl 2 rfl) ?_
      refine lv_iload_n hx hb dX12_goes_29 rfl (lv_at hl 3 rfl) ?_
      refine tqm_iast (jn := p0.toNatClampNeg) hx hb hK hW hS (by decide) (tq_mk_107 (by decide)) b7 rfl (tq_mk_107 (by decide)) dX12_goes_30 (fun H locs hW hS => ?_)
      generalize eM8 : tq_up M4 107 0 p0.toNatClampNeg p1 = M8 at hW
      have h := h M8 eM8.symm
      refine lv_iload_n hx hb dX12_goes_31 rfl (lv_at hl 0 rfl) ?_
      exact W.iret (v := M4 107 0 p0.toNatClampNeg) hx hb hr (fun t ht hWm => ⟨⟨_, M8, rfl, h, tq_pe ht hW⟩, hS.F ht⟩) hS.2.2 dX12_goes_32
    · have h := h.2 c6
      exact bX12_goes_15 C  _  _ _ _ h hW hS (lv_sub hl [] rfl)
-- isPaper
def wpX12_isPaper (post : tq_St → Int32 → Prop) (M : tq_St) (p0 : Int32) : Prop :=
  wpX12_in (fun M1 r2 => narrow .boolean (.int r2) = .int r2 ∧ post M1 r2) M p0 0 ((M 64 0 9) - 1)
set_option maxHeartbeats 4000000 in
set_option maxRecDepth 100000 in
theorem kX12_isPaper {post : tq_St → Int32 → Prop} {M : tq_St} {p0 : Int32} (h : wpX12_isPaper post M p0) : tq_mI l yX12_isPaper (tq_ws yX12_isPaper cX12_isPaper 2 (some .boolean)) 1 22 D cy z H0 ad N S M [.ref (ad 64 0), .int p0] post := by
  unfold wpX12_isPaper at h
  refine Met.ofW (cc := cX12_isPaper) (maxL := 2) (ret := (some .boolean)) (by decide) rfl ?_
  intro p e s m args below meth c s₁ B hml hv
  obtain ⟨rfl, hW, hK, hG⟩ := hv
  have hx := B.exec
  have hb := B.bytes
  have hr := B.returns
  have hts := atoms_spec (ws := (tq_ws yX12_isPaper cX12_isPaper 2 (some .boolean))) B.pre
  have hw : ∀ w ∈ tq_W, w.before _ s = true := fun w h => hts w (List.mem_cons_of_mem _ h)
  have hown : s.vm.findClass RX12 = some m.cls := findClass_of_methodNamed B.named
  have hlocks := B.notSynchronized
  have C : tq_At p s m meth c [.ref (ad 64 0), .int p0].toArray cX12_isPaper 2 ((some .boolean)) ((tq_ws yX12_isPaper cX12_isPaper 2 (some .boolean))) RX12 D cy z ad := ⟨hx, hb, hr, hml, hown, hts, hlocks, hK, hG⟩
  have hS : va_S (fun q => z ≤ q) s.heap s.heap [] := va_S.rf
  have hl := lv_entry ([.ref (ad 64 0), .int p0]) (n := 2) (Nat.le_of_ble_eq_true rfl)
  rw [lg_entry_eq]
  generalize (lg_sl ([.ref (ad 64 0), .int p0]) ++ List.replicate (2 - (lg_sl ([.ref (ad 64 0), .int p0])).length) Slot.unset).toArray = ls at hl ⊢
  have hl : lv_has ls 2 [(0, .ref (ad 64 0)), (1, .int p0)] := hl
  have hW : tq_wd D cy z H0 ad N (tq_mix S M) s.heap := hW
  refine lv_iload_n hx hb dX12_isPaper_0 rfl (lv_at hl 1 rfl) ?_
  refine lv_iconst (v := 0) hx hb dX12_isPaper_1 (by decide) ?_
  refine lv_aload_n hx hb dX12_isPaper_2 rfl (lv_at hl 0 rfl) ?_
  refine tqm_get (v := .int (M 64 0 9)) hx hb hw tq_inX12 hown hK hW (by decide) (tq_mk_64 (by decide)) rfl 9 (by decide) (hw _ tw_1417) (fun _ h9 => h9) rfl dX12_isPaper_3 ?_
  refine lv_iconst (v := 1) hx hb dX12_isPaper_6 (by decide) ?_
  refine lv_isub hx hb dX12_isPaper_7 ?_
  refine tq_callSi (As := [.int p0, .int 0, .int ((M 64 0 9) - 1)]) (rest := []) (kX12_in h) ⟨hx, hb, hml, hown, hts⟩ (va_cwS 3 hts (tq_goodS tw_1648 tw_1649 tw_125 tw_1650) rfl rfl rfl (by decide +kernel) ⟨Nat.le_of_ble_eq_true rfl, Nat.le_of_ble_eq_true rfl⟩) hK hG hW hS rfl hl.1 rfl (Nat.le_of_ble_eq_true rfl) dX12_isPaper_8 ⟨Nat.le_of_ble_eq_true rfl, Nat.le_of_ble_eq_true rfl⟩ (fun r2 M1 H locs h hW hS => ?_)
  obtain ⟨b3, h⟩ := h
  exact W.zret (v := r2) hx hb hr b3 (fun t ht hWm => ⟨⟨_, M1, rfl, h, tq_pe ht hW⟩, hS.F ht⟩) hS.2.2 dX12_isPaper_11
-- write
def wbX12_write_80 (post : tq_St → Int32 → Prop) (L51 : tq_St → Int32 → Int32 → Int32 → Prop) (M : tq_St) (x2 : Int32) (x4 : Int32) (x5 : Int32) (y0 : Int32) (y1 : Int32) (y2 : Nat) : Prop :=
  vp_in y1 5 ∧ y2 < 150 ∧ (∀ M12, M12 = tq_up M 115 y2 y1.toNatClampNeg y0 → (L51 M12 x2 x4 (x5 + 1)))
def wbX12_write_51 (post : tq_St → Int32 → Prop) : Nat → tq_St → Int32 → Int32 → Int32 → Prop
  | 0, _, _, _, _ => False
  | n + 1, M, x2, x4, x5 =>
    (5 ≤ x5 → (post M x4)) ∧ (¬ 5 ≤ x5 → (vp_in x4 150 ∧ ((¬ x5 = x2 → (wbX12_write_80 post  (wbX12_write_51 post n) M x2 x4 x5 ((-1)) x5 x4.toNatClampNeg)) ∧ (x5 = x2 → (wbX12_write_80 post  (wbX12_write_51 post n) M x2 x4 x5 (M 64 0 0) x5 x4.toNatClampNeg)))))
def wpX12_write (post : tq_St → Int32 → Prop) (M : tq_St) (p0 : Int32) (p1 : Int32) (p2 : Int32) : Prop :=
  ∀ M1, M1 = tq_up M 64 0 9 ((M 64 0 9) + 1) → (vp_in (M 64 0 9) 150 ∧ (∀ M3, M3 = tq_up M1 110 0 ((M 64 0 9).toNatClampNeg) p0 → (∀ M4, M4 = tq_up M3 111 0 ((M 64 0 9).toNatClampNeg) p1 → (∀ M5, M5 = tq_up M4 112 0 ((M 64 0 9).toNatClampNeg) (M4 64 0 0) → (∀ M6, M6 = tq_up M5 113 0 ((M 64 0 9).toNatClampNeg) p2 → (∃ nq, wbX12_write_51 post nq M6 p1 (M 64 0 9) 0))))))
set_option maxHeartbeats 4000000 in
set_option maxRecDepth 100000 in
theorem bX12_write_80 {p : Program} {e : Env} {s : State} {m : MethodId} {args : Array Value} {below : List Frame} {meth : Method} {c : Code} {post : tq_St → Int32 → Prop} (C : tq_At p s m meth c args cX12_write 6 ((some .int)) ((tq_ws yX12_write cX12_write 6 (some .int))) RX12 D cy z ad) {L51 : tq_St → Int32 → Int32 → Int32 → Prop} (hL51 : ∀ (M : tq_St) (x2 : Int32) (x4 : Int32) (x5 : Int32) (H : Heap) (locs : List Loc) (ls : Array Slot), L51 M x2 x4 x5 → tq_wd D cy z H0 ad N (tq_mix S M) H → va_S (fun q => z ≤ q) s.heap H locs → lv_has ls 6 [(0, .ref (ad 64 0)), (2, .int x2), (4, .int x4), (5, .int x5)] → W p l e (tq_rm 0 0) s m args below meth c H locs 0 0 (MQ below (va_Qi (fun r u => post u r) (tq_P D cy z H0 ad N S) (fun q => z ≤ q)) args s 0 0 (fun q => z ≤ q)) (F0 m 51 ls [])) : ∀ (M : tq_St) (x2 : Int32) (x4 : Int32) (x5 : Int32) (y0 : Int32) (y1 : Int32) (y2 : Nat) (H : Heap) (locs : List Loc) (ls : Array Slot), wbX12_write_80 post  L51 M x2 x4 x5 y0 y1 y2 → tq_wd D cy z H0 ad N (tq_mix S M) H → va_S (fun q => z ≤ q) s.heap H locs → lv_has ls 6 [(0, .ref (ad 64 0)), (2, .int x2), (4, .int x4), (5, .int x5)] → W p l e (tq_rm 0 0) s m args below meth c H locs 0 0 (MQ below (va_Qi (fun r u => post u r) (tq_P D cy z H0 ad N S) (fun q => z ≤ q)) args s 0 0 (fun q => z ≤ q)) (F0 m 80 ls [.int y0, .int y1, .ref (ad 115 y2)]) := by
  obtain ⟨hx, hb, hr, hml, hown, hts, hlocks, hK, hG⟩ := id C
  have hw : ∀ w ∈ tq_W, w.before args s = true := fun w h => hts w (List.mem_cons_of_mem _ h)
  intro M x2 x4 x5 y0 y1 y2 H locs ls h hW hS hl
  unfold wbX12_write_80 at h
  obtain ⟨b10, h⟩ := h
  obtain ⟨b11, h⟩ := h
  refine tqm_iast (jn := y1.toNatClampNeg) hx hb hK hW hS (by decide) (tq_mk_115 b11) b10 rfl (tq_mk_115 b11) dX12_write_80 (fun H locs hW hS => ?_)
  generalize eM12 : tq_up M 115 y2 y1.toNatClampNeg y0 = M12 at hW
  have h := h M12 eM12.symm
  refine lv_iinc (v := x5 + 1) (lv' := [(5, .int (x5 + 1)), (0, .ref (ad 64 0)), (2, .int x2), (4, .int x4)]) hx hb dX12_write_81 hl (k := 3) rfl rfl (by decide) rfl (fun ls hl => ?_)
  refine lv_goto (tgt := 51) hx hb dX12_write_84 (by decide) ?_
  exact hL51 _ _ _ _ _ _ _ h hW hS (lv_sub hl [1, 2, 3, 0] rfl)
set_option maxHeartbeats 4000000 in
set_option maxRecDepth 100000 in
theorem bX12_write_51 {p : Program} {e : Env} {s : State} {m : MethodId} {args : Array Value} {below : List Frame} {meth : Method} {c : Code} {post : tq_St → Int32 → Prop} (C : tq_At p s m meth c args cX12_write 6 ((some .int)) ((tq_ws yX12_write cX12_write 6 (some .int))) RX12 D cy z ad)  : ∀ n : Nat, ∀ (M : tq_St) (x2 : Int32) (x4 : Int32) (x5 : Int32) (H : Heap) (locs : List Loc) (ls : Array Slot), wbX12_write_51 post   n M x2 x4 x5 → tq_wd D cy z H0 ad N (tq_mix S M) H → va_S (fun q => z ≤ q) s.heap H locs → lv_has ls 6 [(0, .ref (ad 64 0)), (2, .int x2), (4, .int x4), (5, .int x5)] → W p l e (tq_rm 0 0) s m args below meth c H locs 0 0 (MQ below (va_Qi (fun r u => post u r) (tq_P D cy z H0 ad N S) (fun q => z ≤ q)) args s 0 0 (fun q => z ≤ q)) (F0 m 51 ls []) := by
  obtain ⟨hx, hb, hr, hml, hown, hts, hlocks, hK, hG⟩ := id C
  have hw : ∀ w ∈ tq_W, w.before args s = true := fun w h => hts w (List.mem_cons_of_mem _ h)
  intro n
  induction n with
  | zero =>
    intro M x2 x4 x5 H locs ls h
    exact absurd h (by unfold wbX12_write_51; exact id)
  | succ n ih =>
    intro M x2 x4 x5 H locs ls h hW hS hl
    unfold wbX12_write_51 at h
    refine lv_iload hx hb dX12_write_51 (lv_at hl 3 rfl) ?_
    refine lv_iconst (v := 5) hx hb dX12_write_53 (by decide) ?_
    refine lv_icmp_ge (tgt := 87) hx hb dX12_write_54 (by decide) (fun c7 => ?_) (fun c7 => ?_)
    · have h := h.1 c7
      refine lv_iload hx hb dX12_write_87 (lv_at hl 2 rfl) ?_
      exact W.iret (v := x4) hx hb hr (fun t ht hWm => ⟨⟨_, M, rfl, h, tq_pe ht hW⟩, hS.F ht⟩) hS.2.2 dX12_write_89
    · have h := h.2 c7
      refine lv_aload_n hx hb dX12_write_57 rfl (lv_at hl 0 rfl) ?_
      refine tqm_get (v := .ref (ad 215 0)) hx hb hw tq_inX12 hown hK hW (by decide) (tq_mk_64 (by decide)) rfl 15 (by decide) (hw _ tw_1423) (fun _ h9 => h9) rfl dX12_write_58 ?_
      refine lv_iload hx hb dX12_write_61 (lv_at hl 2 rfl) ?_
      obtain ⟨b8, h⟩ := h
      refine tqm_aald (jn := x4.toNatClampNeg) (v := .ref (ad 115 x4.toNatClampNeg)) hx hb hK hW (by decide) (tq_mk_215 (by decide)) 2 rfl rfl b8 rfl rfl dX12_write_63 ?_
      refine lv_iload hx hb dX12_write_64 (lv_at hl 3 rfl) ?_
      refine lv_iload hx hb dX12_write_66 (lv_at hl 3 rfl) ?_
      refine lv_iload_n hx hb dX12_write_68 rfl (lv_at hl 1 rfl) ?_
      refine lv_icmp_ne (tgt := 79) hx hb dX12_write_69 (by decide) (fun c9 => ?_) (fun c9 => ?_)
      · have h := h.1 c9
        refine lv_iconst (v := (-1)) hx hb dX12_write_79 (by decide) ?_
        exact bX12_write_80 C (fun M9 a09 a19 a29 H9 q9 ls9 h9 hW9 hS9 hl9 => ih M9 a09 a19 a29 H9 q9 ls9 h9 hW9 hS9 hl9) _ _ _ _ _ _ _ _ _ _ h hW hS (lv_sub hl [0, 1, 2, 3] rfl)
      · have h := h.2 c9
        refine lv_aload_n hx hb dX12_write_72 rfl (lv_at hl 0 rfl) ?_
        refine tqm_get (v := .int (M 64 0 0)) hx hb hw tq_inX12 hown hK hW (by decide) (tq_mk_64 (by decide)) rfl 0 (by decide) (hw _ tw_1408) (fun _ h9 => h9) rfl dX12_write_73 ?_
        refine lv_goto (tgt := 80) hx hb dX12_write_76 (by decide) ?_
        exact bX12_write_80 C (fun M9 a09 a19 a29 H9 q9 ls9 h9 hW9 hS9 hl9 => ih M9 a09 a19 a29 H9 q9 ls9 h9 hW9 hS9 hl9) _ _ _ _ _ _ _ _ _ _ h hW hS (lv_sub hl [0, 1, 2, 3] rfl)
set_option maxHeartbeats 4000000 in
set_option maxRecDepth 100000 in
theorem kX12_write {post : tq_St → Int32 → Prop} {M : tq_St} {p0 : Int32} {p1 : Int32} {p2 : Int32} (h : wpX12_write post M p0 p1 p2) : tq_mI l yX12_write (tq_ws yX12_write cX12_write 6 (some .int)) 0 0 D cy z H0 ad N S M [.ref (ad 64 0), .int p0, .int p1, .int p2] post := by
  unfold wpX12_write at h
  refine Met.ofW (cc := cX12_write) (maxL := 6) (ret := (some .int)) (by decide) rfl ?_
  intro p e s m args below meth c s₁ B hml hv
  obtain ⟨rfl, hW, hK, hG⟩ := hv
  have hx := B.exec
  have hb := B.bytes
  have hr := B.returns
  have hts := atoms_spec (ws := (tq_ws yX12_write cX12_write 6 (some .int))) B.pre
  have hw : ∀ w ∈ tq_W, w.before _ s = true := fun w h => hts w (List.mem_cons_of_mem _ h)
  have hown : s.vm.findClass RX12 = some m.cls := findClass_of_methodNamed B.named
  have hlocks := B.notSynchronized
  have C : tq_At p s m meth c [.ref (ad 64 0), .int p0, .int p1, .int p2].toArray cX12_write 6 ((some .int)) ((tq_ws yX12_write cX12_write 6 (some .int))) RX12 D cy z ad := ⟨hx, hb, hr, hml, hown, hts, hlocks, hK, hG⟩
  have hS : va_S (fun q => z ≤ q) s.heap s.heap [] := va_S.rf
  have hl := lv_entry ([.ref (ad 64 0), .int p0, .int p1, .int p2]) (n := 6) (Nat.le_of_ble_eq_true rfl)
  rw [lg_entry_eq]
  generalize (lg_sl ([.ref (ad 64 0), .int p0, .int p1, .int p2]) ++ List.replicate (6 - (lg_sl ([.ref (ad 64 0), .int p0, .int p1, .int p2])).length) Slot.unset).toArray = ls at hl ⊢
  have hl : lv_has ls 6 [(0, .ref (ad 64 0)), (1, .int p0), (2, .int p1), (3, .int p2)] := hl
  have hW : tq_wd D cy z H0 ad N (tq_mix S M) s.heap := hW
  refine lv_aload_n hx hb dX12_write_0 rfl (lv_at hl 0 rfl) ?_
  refine lv_dup hx hb dX12_write_1 rfl ?_
  refine tqm_get (v := .int (M 64 0 9)) hx hb hw tq_inX12 hown hK hW (by decide) (tq_mk_64 (by decide)) rfl 9 (by decide) (hw _ tw_1417) (fun _ h9 => h9) rfl dX12_write_2 ?_
  refine lv_dup_x1 hx hb dX12_write_5 rfl rfl ?_
  refine lv_iconst (v := 1) hx hb dX12_write_6 (by decide) ?_
  refine lv_iadd hx hb dX12_write_7 ?_
  refine tqm_put hx hb hw tq_inX12 tyX12 tyX12_ok nmX12 hown hK hW hS (by decide) (tq_mk_64 (by decide)) rfl 9 (by decide) (hw _ tw_1417) (fun _ h9 => h9) rfl rfl rfl rfl (tq_mk_64 (by decide)) dX12_write_8 (fun H locs hW hS => ?_)
  generalize eM1 : tq_up M 64 0 9 ((M 64 0 9) + 1) = M1 at hW
  have h := h M1 eM1.symm
  refine lv_istore (lv' := [(4, .int (M 64 0 9)), (0, .ref (ad 64 0)), (1, .int p0), (2, .int p1), (3, .int p2)]) hx hb dX12_write_11 hl (by decide) rfl (fun ls hl => ?_)
  refine lv_aload_n hx hb dX12_write_13 rfl (lv_at hl 1 rfl) ?_
  refine tqm_get (v := .ref (ad 110 0)) hx hb hw tq_inX12 hown hK hW (by decide) (tq_mk_64 (by decide)) rfl 10 (by decide) (hw _ tw_1418) (fun _ h9 => h9) rfl dX12_write_14 ?_
  refine lv_iload hx hb dX12_write_17 (lv_at hl 0 rfl) ?_
  refine lv_iload_n hx hb dX12_write_19 rfl (lv_at hl 2 rfl) ?_
  obtain ⟨b2, h⟩ := h
  refine tqm_iast (jn := (M 64 0 9).toNatClampNeg) hx hb hK hW hS (by decide) (tq_mk_110 (by decide)) b2 rfl (tq_mk_110 (by decide)) dX12_write_20 (fun H locs hW hS => ?_)
  generalize eM3 : tq_up M1 110 0 ((M 64 0 9).toNatClampNeg) p0 = M3 at hW
  have h := h M3 eM3.symm
  refine lv_aload_n hx hb dX12_write_21 rfl (lv_at hl 1 rfl) ?_
  refine tqm_get (v := .ref (ad 111 0)) hx hb hw tq_inX12 hown hK hW (by decide) (tq_mk_64 (by decide)) rfl 11 (by decide) (hw _ tw_1419) (fun _ h9 => h9) rfl dX12_write_22 ?_
  refine lv_iload hx hb dX12_write_25 (lv_at hl 0 rfl) ?_
  refine lv_iload_n hx hb dX12_write_27 rfl (lv_at hl 3 rfl) ?_
  refine tqm_iast (jn := (M 64 0 9).toNatClampNeg) hx hb hK hW hS (by decide) (tq_mk_111 (by decide)) b2 rfl (tq_mk_111 (by decide)) dX12_write_28 (fun H locs hW hS => ?_)
  generalize eM4 : tq_up M3 111 0 ((M 64 0 9).toNatClampNeg) p1 = M4 at hW
  have h := h M4 eM4.symm
  refine lv_aload_n hx hb dX12_write_29 rfl (lv_at hl 1 rfl) ?_
  refine tqm_get (v := .ref (ad 112 0)) hx hb hw tq_inX12 hown hK hW (by decide) (tq_mk_64 (by decide)) rfl 12 (by decide) (hw _ tw_1420) (fun _ h9 => h9) rfl dX12_write_30 ?_
  refine lv_iload hx hb dX12_write_33 (lv_at hl 0 rfl) ?_
  refine lv_aload_n hx hb dX12_write_35 rfl (lv_at hl 1 rfl) ?_
  refine tqm_get (v := .int (M4 64 0 0)) hx hb hw tq_inX12 hown hK hW (by decide) (tq_mk_64 (by decide)) rfl 0 (by decide) (hw _ tw_1408) (fun _ h9 => h9) rfl dX12_write_36 ?_
  refine tqm_iast (jn := (M 64 0 9).toNatClampNeg) hx hb hK hW hS (by decide) (tq_mk_112 (by decide)) b2 rfl (tq_mk_112 (by decide)) dX12_write_39 (fun H locs hW hS => ?_)
  generalize eM5 : tq_up M4 112 0 ((M 64 0 9).toNatClampNeg) (M4 64 0 0) = M5 at hW
  have h := h M5 eM5.symm
  refine lv_aload_n hx hb dX12_write_40 rfl (lv_at hl 1 rfl) ?_
  refine tqm_get (v := .ref (ad 113 0)) hx hb hw tq_inX12 hown hK hW (by decide) (tq_mk_64 (by decide)) rfl 13 (by decide) (hw _ tw_1421) (fun _ h9 => h9) rfl dX12_write_41 ?_
  refine lv_iload hx hb dX12_write_44 (lv_at hl 0 rfl) ?_
  refine lv_iload_n hx hb dX12_write_46 rfl (lv_at hl 4 rfl) ?_
  refine tqm_iast (jn := (M 64 0 9).toNatClampNeg) hx hb hK hW hS (by decide) (tq_mk_113 (by decide)) b2 rfl (tq_mk_113 (by decide)) dX12_write_47 (fun H locs hW hS => ?_)
  generalize eM6 : tq_up M5 113 0 ((M 64 0 9).toNatClampNeg) p2 = M6 at hW
  have h := h M6 eM6.symm
  refine lv_iconst (v := 0) hx hb dX12_write_48 (by decide) ?_
  refine lv_istore (lv' := [(5, .int 0), (4, .int (M 64 0 9)), (0, .ref (ad 64 0)), (1, .int p0), (2, .int p1), (3, .int p2)]) hx hb dX12_write_49 hl (by decide) rfl (fun ls hl => ?_)
  obtain ⟨nq, h⟩ := h
  exact bX12_write_51 C  nq _ _ _ _ _ _ _ h hW hS (lv_sub hl [2, 4, 1, 0] rfl)
