variable {l : Launch} {D : va_G} {cy : Nat → ClassId} {z : Nat} {H0 : Heap} {ad : Nat → Nat → Nat} {N : tq_Nn} {M : tq_St}
-- X11 bullion
def wbX11_bullion_40 (N : tq_Nn) (post : tq_St → Int32 → Prop)  (S : tq_St) : Prop :=
  post S ((-2))
def wpX11_bullion (N : tq_Nn) (post : tq_St → Int32 → Prop) (S : tq_St) (p0 : Int32) (p1 : Int32) : Prop :=
  wpX11_isPlace N (fun S1 r2 => (¬ r2 = 0 → (wpX11_within N (fun S4 r5 => (r5 = 0 → (wbX11_bullion_40 N post S4 )) ∧ (¬ r5 = 0 → (vp_in p0 5 ∧ (wpX11_within N (fun S8 r9 => (¬ r9 = 0 → ((∀ S11, S11 = tq_up S8 2 p0.toNatClampNeg 1 ((S8 2 p0.toNatClampNeg 1) + p1) → (post S11 (S11 2 p0.toNatClampNeg 1))))) ∧ (r9 = 0 → (wbX11_bullion_40 N post S8 ))) S4 ((S4 2 p0.toNatClampNeg 1) + p1) 0 (100000000))))) S1 p1 (-1000000) (1000000))) ∧ (r2 = 0 → (post S1 ((-1))))) S p0
set_option maxHeartbeats 4000000 in
set_option maxRecDepth 100000 in
theorem bX11_bullion_40 {p : Program} {e : Env} {s : State} {m : MethodId} {args : Array Value} {below : List Frame} {meth : Method} {c : Code} {post : tq_St → Int32 → Prop} (C : tq_At p s m meth c args cX11_bullion 3 ((some .int)) ((tq_ws yX11_bullion cX11_bullion 3 (some .int))) RX11 D cy z ad)  : ∀ (S : tq_St)  (H : Heap) (locs : List Loc) (ls : Array Slot), wbX11_bullion_40 N post   S  → tq_wd D cy z H0 ad N (tq_mix S M) H → va_S (fun q => z ≤ q) s.heap H locs → lv_has ls 3 [] → W p l e (tq_rm 1 22) s m args below meth c H locs 0 0 (MQ below (va_Qi (fun r u => post u r) (fun u => tq_P D cy z H0 ad N u M) (fun q => z ≤ q)) args s 0 0 (fun q => z ≤ q)) (F0 m 40 ls []) := by
  obtain ⟨hx, hb, hr, hml, hown, hts, hlocks, hK, hG⟩ := id C
  have hw : ∀ w ∈ tq_W, w.before args s = true := fun w h => hts w (List.mem_cons_of_mem _ h)
  intro S  H locs ls h hW hS hl
  unfold wbX11_bullion_40 at h
  refine lv_bipush (v := (-2)) hx hb dX11_bullion_40 (by decide) ?_
  exact W.iret (v := (-2)) hx hb hr (fun t ht hWm => ⟨⟨_, S, rfl, h, tq_pe ht hW⟩, hS.F ht⟩) hS.2.2 dX11_bullion_42
set_option maxHeartbeats 4000000 in
set_option maxRecDepth 100000 in
theorem kX11_bullion {post : tq_St → Int32 → Prop} {S : tq_St} {p0 : Int32} {p1 : Int32} (h : wpX11_bullion N post S p0 p1) : tq_sI l yX11_bullion (tq_ws yX11_bullion cX11_bullion 3 (some .int)) 1 22 D cy z H0 ad N M S [.ref (ad 1 0), .int p0, .int p1] post := by
  unfold wpX11_bullion at h
  refine Met.ofW (cc := cX11_bullion) (maxL := 3) (ret := (some .int)) (by decide) rfl ?_
  intro p e s m args below meth c s₁ B hml hv
  obtain ⟨rfl, hW, hK, hG⟩ := hv
  have hx := B.exec
  have hb := B.bytes
  have hr := B.returns
  have hts := atoms_spec (ws := (tq_ws yX11_bullion cX11_bullion 3 (some .int))) B.pre
  have hw : ∀ w ∈ tq_W, w.before _ s = true := fun w h => hts w (List.mem_cons_of_mem _ h)
  have hown : s.vm.findClass RX11 = some m.cls := findClass_of_methodNamed B.named
  have hlocks := B.notSynchronized
  have C : tq_At p s m meth c [.ref (ad 1 0), .int p0, .int p1].toArray cX11_bullion 3 ((some .int)) ((tq_ws yX11_bullion cX11_bullion 3 (some .int))) RX11 D cy z ad := ⟨hx, hb, hr, hml, hown, hts, hlocks, hK, hG⟩
  have hS : va_S (fun q => z ≤ q) s.heap s.heap [] := va_S.rf
  have hl := lv_entry ([.ref (ad 1 0), .int p0, .int p1]) (n := 3) (Nat.le_of_ble_eq_true rfl)
  rw [lg_entry_eq]
  generalize (lg_sl ([.ref (ad 1 0), .int p0, .int p1]) ++ List.replicate (3 - (lg_sl ([.ref (ad 1 0), .int p0, .int p1])).length) Slot.unset).toArray = ls at hl ⊢
  have hl : lv_has ls 3 [(0, .ref (ad 1 0)), (1, .int p0), (2, .int p1)] := hl
  have hW : tq_wd D cy z H0 ad N (tq_mix S M) s.heap := hW
  refine lv_iload_n hx hb dX11_bullion_0 rfl (lv_at hl 1 rfl) ?_
  refine tqc_callSi (As := [.int p0]) (rest := []) (kX11_isPlace h) ⟨hx, hb, hml, hown, hts⟩ (va_cwS 1 hts (tq_goodS tw_427 tw_428 tw_115 tw_429) rfl rfl rfl (by decide +kernel) ⟨(Nat.le_of_ble_eq_true rfl), (Nat.le_of_ble_eq_true rfl)⟩) hK hG hW hS rfl hl.1 rfl (Nat.le_of_ble_eq_true rfl) dX11_bullion_1 ⟨(Nat.le_of_ble_eq_true rfl), (Nat.le_of_ble_eq_true rfl)⟩ (fun r2 S1 H locs h hW hS => ?_)
  refine lv_if_ne (tgt := 9) hx hb dX11_bullion_4 (by decide) (fun c3 => ?_) (fun c3 => ?_)
  · have h := h.1 c3
    refine lv_iload_n hx hb dX11_bullion_9 rfl (lv_at hl 2 rfl) ?_
    refine lv_ldc hx hb hown (hw _ tw_430) dX11_bullion_10 ?_
    refine lv_ldc hx hb hown (hw _ tw_431) dX11_bullion_12 ?_
    refine tqc_callSi (As := [.int p1, .int ((-1000000)), .int ((1000000))]) (rest := []) (kX11_within h) ⟨hx, hb, hml, hown, hts⟩ (va_cwS 3 hts (tq_goodS tw_405 tw_406 tw_115 tw_407) rfl rfl rfl (by decide +kernel) ⟨(Nat.le_of_ble_eq_true rfl), (Nat.le_of_ble_eq_true rfl)⟩) hK hG hW hS rfl hl.1 rfl (Nat.le_of_ble_eq_true rfl) dX11_bullion_14 ⟨(Nat.le_of_ble_eq_true rfl), (Nat.le_of_ble_eq_true rfl)⟩ (fun r5 S4 H locs h hW hS => ?_)
    refine lv_if_eq (tgt := 40) hx hb dX11_bullion_17 (by decide) (fun c6 => ?_) (fun c6 => ?_)
    · have h := h.1 c6
      exact bX11_bullion_40 C  _  _ _ _ h hW hS (lv_sub hl [] rfl)
    · have h := h.2 c6
      refine lv_aload_n hx hb dX11_bullion_20 rfl (lv_at hl 0 rfl) ?_
      refine tqc_get (v := .ref (ad 12 0)) hx hb hw tq_inX11 hown hK hW (by decide) (tq_mk_1 (by decide)) rfl 1 (by decide) (hw _ tw_338) (fun _ h9 => h9) rfl dX11_bullion_21 ?_
      refine lv_iload_n hx hb dX11_bullion_24 rfl (lv_at hl 1 rfl) ?_
      obtain ⟨b7, h⟩ := h
      refine tqc_aald (jn := p0.toNatClampNeg) (v := .ref (ad 2 p0.toNatClampNeg)) hx hb hK hW (by decide) (tq_mk_12 (by decide)) 3 rfl rfl b7 rfl rfl dX11_bullion_25 ?_
      refine tqc_get (v := .int (S4 2 p0.toNatClampNeg 1)) hx hb hw tq_inX5 hown hK hW (by decide) (tq_mk_2 (tq_lt b7)) rfl 1 (by decide) (hw _ tw_255) (fun _ h9 => h9) rfl dX11_bullion_26 ?_
      refine lv_iload_n hx hb dX11_bullion_29 rfl (lv_at hl 2 rfl) ?_
      refine lv_iadd hx hb dX11_bullion_30 ?_
      refine lv_iconst (v := 0) hx hb dX11_bullion_31 (by decide) ?_
      refine lv_ldc hx hb hown (hw _ tw_432) dX11_bullion_32 ?_
      refine tqc_callSi (As := [.int ((S4 2 p0.toNatClampNeg 1) + p1), .int 0, .int ((100000000))]) (rest := []) (kX11_within h) ⟨hx, hb, hml, hown, hts⟩ (va_cwS 3 hts (tq_goodS tw_405 tw_406 tw_115 tw_407) rfl rfl rfl (by decide +kernel) ⟨(Nat.le_of_ble_eq_true rfl), (Nat.le_of_ble_eq_true rfl)⟩) hK hG hW hS rfl hl.1 rfl (Nat.le_of_ble_eq_true rfl) dX11_bullion_34 ⟨(Nat.le_of_ble_eq_true rfl), (Nat.le_of_ble_eq_true rfl)⟩ (fun r9 S8 H locs h hW hS => ?_)
      refine lv_if_ne (tgt := 43) hx hb dX11_bullion_37 (by decide) (fun c10 => ?_) (fun c10 => ?_)
      · have h := h.1 c10
        refine lv_aload_n hx hb dX11_bullion_43 rfl (lv_at hl 0 rfl) ?_
        refine tqc_get (v := .ref (ad 12 0)) hx hb hw tq_inX11 hown hK hW (by decide) (tq_mk_1 (by decide)) rfl 1 (by decide) (hw _ tw_338) (fun _ h9 => h9) rfl dX11_bullion_44 ?_
        refine lv_iload_n hx hb dX11_bullion_47 rfl (lv_at hl 1 rfl) ?_
        refine tqc_aald (jn := p0.toNatClampNeg) (v := .ref (ad 2 p0.toNatClampNeg)) hx hb hK hW (by decide) (tq_mk_12 (by decide)) 3 rfl rfl b7 rfl rfl dX11_bullion_48 ?_
        refine lv_dup hx hb dX11_bullion_49 rfl ?_
        refine tqc_get (v := .int (S8 2 p0.toNatClampNeg 1)) hx hb hw tq_inX5 hown hK hW (by decide) (tq_mk_2 (tq_lt b7)) rfl 1 (by decide) (hw _ tw_255) (fun _ h9 => h9) rfl dX11_bullion_50 ?_
        refine lv_iload_n hx hb dX11_bullion_53 rfl (lv_at hl 2 rfl) ?_
        refine lv_iadd hx hb dX11_bullion_54 ?_
        refine tqc_put hx hb hw tq_inX5 tyX5 tyX5_ok nmX5 hown hK hW hS (by decide) (tq_mk_2 (tq_lt b7)) rfl 1 (by decide) (hw _ tw_255) (fun _ h9 => h9) rfl rfl rfl rfl (tq_mk_2 (tq_lt b7)) dX11_bullion_55 (fun H locs hW hS => ?_)
        generalize eS11 : tq_up S8 2 p0.toNatClampNeg 1 ((S8 2 p0.toNatClampNeg 1) + p1) = S11 at hW
        have h := h S11 eS11.symm
        refine lv_aload_n hx hb dX11_bullion_58 rfl (lv_at hl 0 rfl) ?_
        refine tqc_get (v := .ref (ad 12 0)) hx hb hw tq_inX11 hown hK hW (by decide) (tq_mk_1 (by decide)) rfl 1 (by decide) (hw _ tw_338) (fun _ h9 => h9) rfl dX11_bullion_59 ?_
        refine lv_iload_n hx hb dX11_bullion_62 rfl (lv_at hl 1 rfl) ?_
        refine tqc_aald (jn := p0.toNatClampNeg) (v := .ref (ad 2 p0.toNatClampNeg)) hx hb hK hW (by decide) (tq_mk_12 (by decide)) 3 rfl rfl b7 rfl rfl dX11_bullion_63 ?_
        refine tqc_get (v := .int (S11 2 p0.toNatClampNeg 1)) hx hb hw tq_inX5 hown hK hW (by decide) (tq_mk_2 (tq_lt b7)) rfl 1 (by decide) (hw _ tw_255) (fun _ h9 => h9) rfl dX11_bullion_64 ?_
        exact W.iret (v := S11 2 p0.toNatClampNeg 1) hx hb hr (fun t ht hWm => ⟨⟨_, S11, rfl, h, tq_pe ht hW⟩, hS.F ht⟩) hS.2.2 dX11_bullion_67
      · have h := h.2 c10
        exact bX11_bullion_40 C  _  _ _ _ h hW hS (lv_sub hl [] rfl)
  · have h := h.2 c3
    refine lv_iconst (v := (-1)) hx hb dX11_bullion_7 (by decide) ?_
    exact W.iret (v := (-1)) hx hb hr (fun t ht hWm => ⟨⟨_, S1, rfl, h, tq_pe ht hW⟩, hS.F ht⟩) hS.2.2 dX11_bullion_8
-- X11 stock
def wbX11_stock_29 (N : tq_Nn) (post : tq_St → Int32 → Prop)  (S : tq_St) (y0 : Int32) : Prop :=
  post S y0
def wbX11_stock_28 (N : tq_Nn) (post : tq_St → Int32 → Prop)  (S : tq_St) : Prop :=
  wbX11_stock_29 N post S ((-1))
def wpX11_stock (N : tq_Nn) (post : tq_St → Int32 → Prop) (S : tq_St) (p0 : Int32) (p1 : Int32) : Prop :=
  wpX11_isPlace N (fun S1 r2 => (r2 = 0 → (wbX11_stock_28 N post S1 )) ∧ (¬ r2 = 0 → (wpX11_isSort N (fun S4 r5 => (r5 = 0 → (wbX11_stock_28 N post S4 )) ∧ (¬ r5 = 0 → (vp_in p0 5 ∧ (vp_in p1 4 ∧ (wbX11_stock_29 N post S4 (S4 30 p0.toNatClampNeg p1.toNatClampNeg)))))) S1 p1))) S p0
set_option maxHeartbeats 4000000 in
set_option maxRecDepth 100000 in
theorem bX11_stock_29 {p : Program} {e : Env} {s : State} {m : MethodId} {args : Array Value} {below : List Frame} {meth : Method} {c : Code} {post : tq_St → Int32 → Prop} (C : tq_At p s m meth c args cX11_stock 3 ((some .int)) ((tq_ws yX11_stock cX11_stock 3 (some .int))) RX11 D cy z ad)  : ∀ (S : tq_St) (y0 : Int32) (H : Heap) (locs : List Loc) (ls : Array Slot), wbX11_stock_29 N post   S y0 → tq_wd D cy z H0 ad N (tq_mix S M) H → va_S (fun q => z ≤ q) s.heap H locs → lv_has ls 3 [] → W p l e (tq_rm 1 20) s m args below meth c H locs 0 0 (MQ below (va_Qi (fun r u => post u r) (fun u => tq_P D cy z H0 ad N u M) (fun q => z ≤ q)) args s 0 0 (fun q => z ≤ q)) (F0 m 29 ls [.int y0]) := by
  obtain ⟨hx, hb, hr, hml, hown, hts, hlocks, hK, hG⟩ := id C
  have hw : ∀ w ∈ tq_W, w.before args s = true := fun w h => hts w (List.mem_cons_of_mem _ h)
  intro S y0 H locs ls h hW hS hl
  unfold wbX11_stock_29 at h
  exact W.iret (v := y0) hx hb hr (fun t ht hWm => ⟨⟨_, S, rfl, h, tq_pe ht hW⟩, hS.F ht⟩) hS.2.2 dX11_stock_29
set_option maxHeartbeats 4000000 in
set_option maxRecDepth 100000 in
theorem bX11_stock_28 {p : Program} {e : Env} {s : State} {m : MethodId} {args : Array Value} {below : List Frame} {meth : Method} {c : Code} {post : tq_St → Int32 → Prop} (C : tq_At p s m meth c args cX11_stock 3 ((some .int)) ((tq_ws yX11_stock cX11_stock 3 (some .int))) RX11 D cy z ad)  : ∀ (S : tq_St)  (H : Heap) (locs : List Loc) (ls : Array Slot), wbX11_stock_28 N post   S  → tq_wd D cy z H0 ad N (tq_mix S M) H → va_S (fun q => z ≤ q) s.heap H locs → lv_has ls 3 [] → W p l e (tq_rm 1 20) s m args below meth c H locs 0 0 (MQ below (va_Qi (fun r u => post u r) (fun u => tq_P D cy z H0 ad N u M) (fun q => z ≤ q)) args s 0 0 (fun q => z ≤ q)) (F0 m 28 ls []) := by
  obtain ⟨hx, hb, hr, hml, hown, hts, hlocks, hK, hG⟩ := id C
  have hw : ∀ w ∈ tq_W, w.before args s = true := fun w h => hts w (List.mem_cons_of_mem _ h)
  intro S  H locs ls h hW hS hl
  unfold wbX11_stock_28 at h
  refine lv_iconst (v := (-1)) hx hb dX11_stock_28 (by decide) ?_
  exact bX11_stock_29 C  _ _ _ _ _ h hW hS (lv_sub hl [] rfl)
set_option maxHeartbeats 4000000 in
set_option maxRecDepth 100000 in
theorem kX11_stock {post : tq_St → Int32 → Prop} {S : tq_St} {p0 : Int32} {p1 : Int32} (h : wpX11_stock N post S p0 p1) : tq_sI l yX11_stock (tq_ws yX11_stock cX11_stock 3 (some .int)) 1 20 D cy z H0 ad N M S [.ref (ad 1 0), .int p0, .int p1] post := by
  unfold wpX11_stock at h
  refine Met.ofW (cc := cX11_stock) (maxL := 3) (ret := (some .int)) (by decide) rfl ?_
  intro p e s m args below meth c s₁ B hml hv
  obtain ⟨rfl, hW, hK, hG⟩ := hv
  have hx := B.exec
  have hb := B.bytes
  have hr := B.returns
  have hts := atoms_spec (ws := (tq_ws yX11_stock cX11_stock 3 (some .int))) B.pre
  have hw : ∀ w ∈ tq_W, w.before _ s = true := fun w h => hts w (List.mem_cons_of_mem _ h)
  have hown : s.vm.findClass RX11 = some m.cls := findClass_of_methodNamed B.named
  have hlocks := B.notSynchronized
  have C : tq_At p s m meth c [.ref (ad 1 0), .int p0, .int p1].toArray cX11_stock 3 ((some .int)) ((tq_ws yX11_stock cX11_stock 3 (some .int))) RX11 D cy z ad := ⟨hx, hb, hr, hml, hown, hts, hlocks, hK, hG⟩
  have hS : va_S (fun q => z ≤ q) s.heap s.heap [] := va_S.rf
  have hl := lv_entry ([.ref (ad 1 0), .int p0, .int p1]) (n := 3) (Nat.le_of_ble_eq_true rfl)
  rw [lg_entry_eq]
  generalize (lg_sl ([.ref (ad 1 0), .int p0, .int p1]) ++ List.replicate (3 - (lg_sl ([.ref (ad 1 0), .int p0, .int p1])).length) Slot.unset).toArray = ls at hl ⊢
  have hl : lv_has ls 3 [(0, .ref (ad 1 0)), (1, .int p0), (2, .int p1)] := hl
  have hW : tq_wd D cy z H0 ad N (tq_mix S M) s.heap := hW
  refine lv_iload_n hx hb dX11_stock_0 rfl (lv_at hl 1 rfl) ?_
  refine tqc_callSi (As := [.int p0]) (rest := []) (kX11_isPlace h) ⟨hx, hb, hml, hown, hts⟩ (va_cwS 1 hts (tq_goodS tw_427 tw_428 tw_115 tw_429) rfl rfl rfl (by decide +kernel) ⟨(Nat.le_of_ble_eq_true rfl), (Nat.le_of_ble_eq_true rfl)⟩) hK hG hW hS rfl hl.1 rfl (Nat.le_of_ble_eq_true rfl) dX11_stock_1 ⟨(Nat.le_of_ble_eq_true rfl), (Nat.le_of_ble_eq_true rfl)⟩ (fun r2 S1 H locs h hW hS => ?_)
  refine lv_if_eq (tgt := 28) hx hb dX11_stock_4 (by decide) (fun c3 => ?_) (fun c3 => ?_)
  · have h := h.1 c3
    exact bX11_stock_28 C  _  _ _ _ h hW hS (lv_sub hl [] rfl)
  · have h := h.2 c3
    refine lv_iload_n hx hb dX11_stock_7 rfl (lv_at hl 2 rfl) ?_
    refine tqc_callSi (As := [.int p1]) (rest := []) (kX11_isSort h) ⟨hx, hb, hml, hown, hts⟩ (va_cwS 1 hts (tq_goodS tw_412 tw_413 tw_115 tw_414) rfl rfl rfl (by decide +kernel) ⟨(Nat.le_of_ble_eq_true rfl), (Nat.le_of_ble_eq_true rfl)⟩) hK hG hW hS rfl hl.1 rfl (Nat.le_of_ble_eq_true rfl) dX11_stock_8 ⟨(Nat.le_of_ble_eq_true rfl), (Nat.le_of_ble_eq_true rfl)⟩ (fun r5 S4 H locs h hW hS => ?_)
    refine lv_if_eq (tgt := 28) hx hb dX11_stock_11 (by decide) (fun c6 => ?_) (fun c6 => ?_)
    · have h := h.1 c6
      exact bX11_stock_28 C  _  _ _ _ h hW hS (lv_sub hl [] rfl)
    · have h := h.2 c6
      refine lv_aload_n hx hb dX11_stock_14 rfl (lv_at hl 0 rfl) ?_
      refine tqc_get (v := .ref (ad 12 0)) hx hb hw tq_inX11 hown hK hW (by decide) (tq_mk_1 (by decide)) rfl 1 (by decide) (hw _ tw_338) (fun _ h9 => h9) rfl dX11_stock_15 ?_
      refine lv_iload_n hx hb dX11_stock_18 rfl (lv_at hl 1 rfl) ?_
      obtain ⟨b7, h⟩ := h
      refine tqc_aald (jn := p0.toNatClampNeg) (v := .ref (ad 2 p0.toNatClampNeg)) hx hb hK hW (by decide) (tq_mk_12 (by decide)) 3 rfl rfl b7 rfl rfl dX11_stock_19 ?_
      refine tqc_get (v := .ref (ad 30 p0.toNatClampNeg)) hx hb hw tq_inX5 hown hK hW (by decide) (tq_mk_2 (tq_lt b7)) rfl 2 (by decide) (hw _ tw_258) (fun _ h9 => h9) rfl dX11_stock_20 ?_
      refine lv_iload_n hx hb dX11_stock_23 rfl (lv_at hl 2 rfl) ?_
      obtain ⟨b8, h⟩ := h
      refine tqc_iald (jn := p1.toNatClampNeg) hx hb hK hW (by decide) (tq_mk_30 (tq_lt b7)) b8 rfl dX11_stock_24 ?_
      refine lv_goto (tgt := 29) hx hb dX11_stock_25 (by decide) ?_
      exact bX11_stock_29 C  _ _ _ _ _ h hW hS (lv_sub hl [] rfl)
-- X11 person
def wpX11_person (N : tq_Nn) (post : tq_St → Int32 → Prop) (S : tq_St) (p0 : Int32) (p1 : Int32) : Prop :=
  wpX11_isPlace N (fun S1 r2 => (¬ r2 = 0 → (wpX11_within N (fun S4 r5 => (¬ r5 = 0 → (((S4 1 0 2) < 20 → (vp_in (S4 1 0 2) 20 ∧ (∀ S9, S9 = tq_up S4 13 0 ((S4 1 0 2).toNatClampNeg) p0 → (vp_in (S9 1 0 2) 20 ∧ (∀ S11, S11 = tq_up S9 14 0 ((S9 1 0 2).toNatClampNeg) p1 → ((∀ S12, S12 = tq_up S11 1 0 2 ((S11 1 0 2) + 1) → (post S12 ((S12 1 0 2) - 1))))))))) ∧ (¬ (S4 1 0 2) < 20 → (post S4 ((-4)))))) ∧ (r5 = 0 → (post S4 ((-2))))) S1 p1 0 9)) ∧ (r2 = 0 → (post S1 ((-1))))) S p0
set_option maxHeartbeats 4000000 in
set_option maxRecDepth 100000 in
theorem kX11_person {post : tq_St → Int32 → Prop} {S : tq_St} {p0 : Int32} {p1 : Int32} (h : wpX11_person N post S p0 p1) : tq_sI l yX11_person (tq_ws yX11_person cX11_person 3 (some .int)) 1 22 D cy z H0 ad N M S [.ref (ad 1 0), .int p0, .int p1] post := by
  unfold wpX11_person at h
  refine Met.ofW (cc := cX11_person) (maxL := 3) (ret := (some .int)) (by decide) rfl ?_
  intro p e s m args below meth c s₁ B hml hv
  obtain ⟨rfl, hW, hK, hG⟩ := hv
  have hx := B.exec
  have hb := B.bytes
  have hr := B.returns
  have hts := atoms_spec (ws := (tq_ws yX11_person cX11_person 3 (some .int))) B.pre
  have hw : ∀ w ∈ tq_W, w.before _ s = true := fun w h => hts w (List.mem_cons_of_mem _ h)
  have hown : s.vm.findClass RX11 = some m.cls := findClass_of_methodNamed B.named
  have hlocks := B.notSynchronized
  have C : tq_At p s m meth c [.ref (ad 1 0), .int p0, .int p1].toArray cX11_person 3 ((some .int)) ((tq_ws yX11_person cX11_person 3 (some .int))) RX11 D cy z ad := ⟨hx, hb, hr, hml, hown, hts, hlocks, hK, hG⟩
  have hS : va_S (fun q => z ≤ q) s.heap s.heap [] := va_S.rf
  have hl := lv_entry ([.ref (ad 1 0), .int p0, .int p1]) (n := 3) (Nat.le_of_ble_eq_true rfl)
  rw [lg_entry_eq]
  generalize (lg_sl ([.ref (ad 1 0), .int p0, .int p1]) ++ List.replicate (3 - (lg_sl ([.ref (ad 1 0), .int p0, .int p1])).length) Slot.unset).toArray = ls at hl ⊢
  have hl : lv_has ls 3 [(0, .ref (ad 1 0)), (1, .int p0), (2, .int p1)] := hl
  have hW : tq_wd D cy z H0 ad N (tq_mix S M) s.heap := hW
  refine lv_iload_n hx hb dX11_person_0 rfl (lv_at hl 1 rfl) ?_
  refine tqc_callSi (As := [.int p0]) (rest := []) (kX11_isPlace h) ⟨hx, hb, hml, hown, hts⟩ (va_cwS 1 hts (tq_goodS tw_427 tw_428 tw_115 tw_429) rfl rfl rfl (by decide +kernel) ⟨(Nat.le_of_ble_eq_true rfl), (Nat.le_of_ble_eq_true rfl)⟩) hK hG hW hS rfl hl.1 rfl (Nat.le_of_ble_eq_true rfl) dX11_person_1 ⟨(Nat.le_of_ble_eq_true rfl), (Nat.le_of_ble_eq_true rfl)⟩ (fun r2 S1 H locs h hW hS => ?_)
  refine lv_if_ne (tgt := 9) hx hb dX11_person_4 (by decide) (fun c3 => ?_) (fun c3 => ?_)
  · have h := h.1 c3
    refine lv_iload_n hx hb dX11_person_9 rfl (lv_at hl 2 rfl) ?_
    refine lv_iconst (v := 0) hx hb dX11_person_10 (by decide) ?_
    refine lv_bipush (v := 9) hx hb dX11_person_11 (by decide) ?_
    refine tqc_callSi (As := [.int p1, .int 0, .int 9]) (rest := []) (kX11_within h) ⟨hx, hb, hml, hown, hts⟩ (va_cwS 3 hts (tq_goodS tw_405 tw_406 tw_115 tw_407) rfl rfl rfl (by decide +kernel) ⟨(Nat.le_of_ble_eq_true rfl), (Nat.le_of_ble_eq_true rfl)⟩) hK hG hW hS rfl hl.1 rfl (Nat.le_of_ble_eq_true rfl) dX11_person_13 ⟨(Nat.le_of_ble_eq_true rfl), (Nat.le_of_ble_eq_true rfl)⟩ (fun r5 S4 H locs h hW hS => ?_)
    refine lv_if_ne (tgt := 22) hx hb dX11_person_16 (by decide) (fun c6 => ?_) (fun c6 => ?_)
    · have h := h.1 c6
      refine lv_aload_n hx hb dX11_person_22 rfl (lv_at hl 0 rfl) ?_
      refine tqc_get (v := .int (S4 1 0 2)) hx hb hw tq_inX11 hown hK hW (by decide) (tq_mk_1 (by decide)) rfl 2 (by decide) (hw _ tw_339) (fun _ h9 => h9) rfl dX11_person_23 ?_
      refine lv_bipush (v := 20) hx hb dX11_person_26 (by decide) ?_
      refine lv_icmp_lt (tgt := 34) hx hb dX11_person_28 (by decide) (fun c7 => ?_) (fun c7 => ?_)
      · have h := h.1 c7
        refine lv_aload_n hx hb dX11_person_34 rfl (lv_at hl 0 rfl) ?_
        refine tqc_get (v := .ref (ad 13 0)) hx hb hw tq_inX11 hown hK hW (by decide) (tq_mk_1 (by decide)) rfl 3 (by decide) (hw _ tw_340) (fun _ h9 => h9) rfl dX11_person_35 ?_
        refine lv_aload_n hx hb dX11_person_38 rfl (lv_at hl 0 rfl) ?_
        refine tqc_get (v := .int (S4 1 0 2)) hx hb hw tq_inX11 hown hK hW (by decide) (tq_mk_1 (by decide)) rfl 2 (by decide) (hw _ tw_339) (fun _ h9 => h9) rfl dX11_person_39 ?_
        refine lv_iload_n hx hb dX11_person_42 rfl (lv_at hl 1 rfl) ?_
        obtain ⟨b8, h⟩ := h
        refine tqc_iast (jn := (S4 1 0 2).toNatClampNeg) hx hb hK hW hS (by decide) (tq_mk_13 (by decide)) b8 rfl (tq_mk_13 (by decide)) dX11_person_43 (fun H locs hW hS => ?_)
        generalize eS9 : tq_up S4 13 0 ((S4 1 0 2).toNatClampNeg) p0 = S9 at hW
        have h := h S9 eS9.symm
        refine lv_aload_n hx hb dX11_person_44 rfl (lv_at hl 0 rfl) ?_
        refine tqc_get (v := .ref (ad 14 0)) hx hb hw tq_inX11 hown hK hW (by decide) (tq_mk_1 (by decide)) rfl 4 (by decide) (hw _ tw_341) (fun _ h9 => h9) rfl dX11_person_45 ?_
        refine lv_aload_n hx hb dX11_person_48 rfl (lv_at hl 0 rfl) ?_
        refine tqc_get (v := .int (S9 1 0 2)) hx hb hw tq_inX11 hown hK hW (by decide) (tq_mk_1 (by decide)) rfl 2 (by decide) (hw _ tw_339) (fun _ h9 => h9) rfl dX11_person_49 ?_
        refine lv_iload_n hx hb dX11_person_52 rfl (lv_at hl 2 rfl) ?_
        obtain ⟨b10, h⟩ := h
        refine tqc_iast (jn := (S9 1 0 2).toNatClampNeg) hx hb hK hW hS (by decide) (tq_mk_14 (by decide)) b10 rfl (tq_mk_14 (by decide)) dX11_person_53 (fun H locs hW hS => ?_)
        generalize eS11 : tq_up S9 14 0 ((S9 1 0 2).toNatClampNeg) p1 = S11 at hW
        have h := h S11 eS11.symm
        refine lv_aload_n hx hb dX11_person_54 rfl (lv_at hl 0 rfl) ?_
        refine lv_dup hx hb dX11_person_55 rfl ?_
        refine tqc_get (v := .int (S11 1 0 2)) hx hb hw tq_inX11 hown hK hW (by decide) (tq_mk_1 (by decide)) rfl 2 (by decide) (hw _ tw_339) (fun _ h9 => h9) rfl dX11_person_56 ?_
        refine lv_iconst (v := 1) hx hb dX11_person_59 (by decide) ?_
        refine lv_iadd hx hb dX11_person_60 ?_
        refine tqc_put hx hb hw tq_inX11 tyX11 tyX11_ok nmX11 hown hK hW hS (by decide) (tq_mk_1 (by decide)) rfl 2 (by decide) (hw _ tw_339) (fun _ h9 => h9) rfl rfl rfl rfl (tq_mk_1 (by decide)) dX11_person_61 (fun H locs hW hS => ?_)
        generalize eS12 : tq_up S11 1 0 2 ((S11 1 0 2) + 1) = S12 at hW
        have h := h S12 eS12.symm
        refine lv_aload_n hx hb dX11_person_64 rfl (lv_at hl 0 rfl) ?_
        refine tqc_get (v := .int (S12 1 0 2)) hx hb hw tq_inX11 hown hK hW (by decide) (tq_mk_1 (by decide)) rfl 2 (by decide) (hw _ tw_339) (fun _ h9 => h9) rfl dX11_person_65 ?_
        refine lv_iconst (v := 1) hx hb dX11_person_68 (by decide) ?_
        refine lv_isub hx hb dX11_person_69 ?_
        exact W.iret (v := (S12 1 0 2) - 1) hx hb hr (fun t ht hWm => ⟨⟨_, S12, rfl, h, tq_pe ht hW⟩, hS.F ht⟩) hS.2.2 dX11_person_70
      · have h := h.2 c7
        refine lv_bipush (v := (-4)) hx hb dX11_person_31 (by decide) ?_
        exact W.iret (v := (-4)) hx hb hr (fun t ht hWm => ⟨⟨_, S4, rfl, h, tq_pe ht hW⟩, hS.F ht⟩) hS.2.2 dX11_person_33
    · have h := h.2 c6
      refine lv_bipush (v := (-2)) hx hb dX11_person_19 (by decide) ?_
      exact W.iret (v := (-2)) hx hb hr (fun t ht hWm => ⟨⟨_, S4, rfl, h, tq_pe ht hW⟩, hS.F ht⟩) hS.2.2 dX11_person_21
  · have h := h.2 c3
    refine lv_iconst (v := (-1)) hx hb dX11_person_7 (by decide) ?_
    exact W.iret (v := (-1)) hx hb hr (fun t ht hWm => ⟨⟨_, S1, rfl, h, tq_pe ht hW⟩, hS.F ht⟩) hS.2.2 dX11_person_8
-- X11 goes
def wbX11_goes_15 (N : tq_Nn) (post : tq_St → Int32 → Prop)  (S : tq_St) : Prop :=
  post S ((-1))
def wpX11_goes (N : tq_Nn) (post : tq_St → Int32 → Prop) (S : tq_St) (p0 : Int32) (p1 : Int32) : Prop :=
  wpX11_isPerson N (fun S1 r2 => (r2 = 0 → (wbX11_goes_15 N post S1 )) ∧ (¬ r2 = 0 → (wpX11_isPlace N (fun S4 r5 => (¬ r5 = 0 → (vp_in p0 20 ∧ (∀ S8, S8 = tq_up S4 13 0 p0.toNatClampNeg p1 → (post S8 (S4 13 0 p0.toNatClampNeg))))) ∧ (r5 = 0 → (wbX11_goes_15 N post S4 ))) S1 p1))) S p0
set_option maxHeartbeats 4000000 in
set_option maxRecDepth 100000 in
theorem bX11_goes_15 {p : Program} {e : Env} {s : State} {m : MethodId} {args : Array Value} {below : List Frame} {meth : Method} {c : Code} {post : tq_St → Int32 → Prop} (C : tq_At p s m meth c args cX11_goes 4 ((some .int)) ((tq_ws yX11_goes cX11_goes 4 (some .int))) RX11 D cy z ad)  : ∀ (S : tq_St)  (H : Heap) (locs : List Loc) (ls : Array Slot), wbX11_goes_15 N post   S  → tq_wd D cy z H0 ad N (tq_mix S M) H → va_S (fun q => z ≤ q) s.heap H locs → lv_has ls 4 [] → W p l e (tq_rm 1 21) s m args below meth c H locs 0 0 (MQ below (va_Qi (fun r u => post u r) (fun u => tq_P D cy z H0 ad N u M) (fun q => z ≤ q)) args s 0 0 (fun q => z ≤ q)) (F0 m 15 ls []) := by
  obtain ⟨hx, hb, hr, hml, hown, hts, hlocks, hK, hG⟩ := id C
  have hw : ∀ w ∈ tq_W, w.before args s = true := fun w h => hts w (List.mem_cons_of_mem _ h)
  intro S  H locs ls h hW hS hl
  unfold wbX11_goes_15 at h
  refine lv_iconst (v := (-1)) hx hb dX11_goes_15 (by decide) ?_
  exact W.iret (v := (-1)) hx hb hr (fun t ht hWm => ⟨⟨_, S, rfl, h, tq_pe ht hW⟩, hS.F ht⟩) hS.2.2 dX11_goes_16
set_option maxHeartbeats 4000000 in
set_option maxRecDepth 100000 in
theorem kX11_goes {post : tq_St → Int32 → Prop} {S : tq_St} {p0 : Int32} {p1 : Int32} (h : wpX11_goes N post S p0 p1) : tq_sI l yX11_goes (tq_ws yX11_goes cX11_goes 4 (some .int)) 1 21 D cy z H0 ad N M S [.ref (ad 1 0), .int p0, .int p1] post := by
  unfold wpX11_goes at h
  refine Met.ofW (cc := cX11_goes) (maxL := 4) (ret := (some .int)) (by decide) rfl ?_
  intro p e s m args below meth c s₁ B hml hv
  obtain ⟨rfl, hW, hK, hG⟩ := hv
  have hx := B.exec
  have hb := B.bytes
  have hr := B.returns
  have hts := atoms_spec (ws := (tq_ws yX11_goes cX11_goes 4 (some .int))) B.pre
  have hw : ∀ w ∈ tq_W, w.before _ s = true := fun w h => hts w (List.mem_cons_of_mem _ h)
  have hown : s.vm.findClass RX11 = some m.cls := findClass_of_methodNamed B.named
  have hlocks := B.notSynchronized
  have C : tq_At p s m meth c [.ref (ad 1 0), .int p0, .int p1].toArray cX11_goes 4 ((some .int)) ((tq_ws yX11_goes cX11_goes 4 (some .int))) RX11 D cy z ad := ⟨hx, hb, hr, hml, hown, hts, hlocks, hK, hG⟩
  have hS : va_S (fun q => z ≤ q) s.heap s.heap [] := va_S.rf
  have hl := lv_entry ([.ref (ad 1 0), .int p0, .int p1]) (n := 4) (Nat.le_of_ble_eq_true rfl)
  rw [lg_entry_eq]
  generalize (lg_sl ([.ref (ad 1 0), .int p0, .int p1]) ++ List.replicate (4 - (lg_sl ([.ref (ad 1 0), .int p0, .int p1])).length) Slot.unset).toArray = ls at hl ⊢
  have hl : lv_has ls 4 [(0, .ref (ad 1 0)), (1, .int p0), (2, .int p1)] := hl
  have hW : tq_wd D cy z H0 ad N (tq_mix S M) s.heap := hW
  refine lv_aload_n hx hb dX11_goes_0 rfl (lv_at hl 0 rfl) ?_
  refine lv_iload_n hx hb dX11_goes_1 rfl (lv_at hl 1 rfl) ?_
  refine tqc_callVi (As := [.int p0]) (rest := []) (kX11_isPerson h) ⟨hx, hb, hml, hown, hts⟩ (cwV 1 hts (tq_goodV tw_445 tw_447 tw_0 tw_115 tw_448) rfl rfl rfl (by decide +kernel) ⟨(Nat.le_of_ble_eq_true rfl), (Nat.le_of_ble_eq_true rfl)⟩) (tq_recvC hK hW (by decide) (tq_mk_1 (by decide)) rfl) hK hG hW hS rfl hl.1 rfl (Nat.le_of_ble_eq_true rfl) dX11_goes_2 ⟨(Nat.le_of_ble_eq_true rfl), (Nat.le_of_ble_eq_true rfl)⟩ (fun r2 S1 H locs h hW hS => ?_)
  refine lv_if_eq (tgt := 15) hx hb dX11_goes_5 (by decide) (fun c3 => ?_) (fun c3 => ?_)
  · have h := h.1 c3
    exact bX11_goes_15 C  _  _ _ _ h hW hS (lv_sub hl [] rfl)
  · have h := h.2 c3
    refine lv_iload_n hx hb dX11_goes_8 rfl (lv_at hl 2 rfl) ?_
    refine tqc_callSi (As := [.int p1]) (rest := []) (kX11_isPlace h) ⟨hx, hb, hml, hown, hts⟩ (va_cwS 1 hts (tq_goodS tw_427 tw_428 tw_115 tw_429) rfl rfl rfl (by decide +kernel) ⟨(Nat.le_of_ble_eq_true rfl), (Nat.le_of_ble_eq_true rfl)⟩) hK hG hW hS rfl hl.1 rfl (Nat.le_of_ble_eq_true rfl) dX11_goes_9 ⟨(Nat.le_of_ble_eq_true rfl), (Nat.le_of_ble_eq_true rfl)⟩ (fun r5 S4 H locs h hW hS => ?_)
    refine lv_if_ne (tgt := 17) hx hb dX11_goes_12 (by decide) (fun c6 => ?_) (fun c6 => ?_)
    · have h := h.1 c6
      refine lv_aload_n hx hb dX11_goes_17 rfl (lv_at hl 0 rfl) ?_
      refine tqc_get (v := .ref (ad 13 0)) hx hb hw tq_inX11 hown hK hW (by decide) (tq_mk_1 (by decide)) rfl 3 (by decide) (hw _ tw_340) (fun _ h9 => h9) rfl dX11_goes_18 ?_
      refine lv_iload_n hx hb dX11_goes_21 rfl (lv_at hl 1 rfl) ?_
      obtain ⟨b7, h⟩ := h
      refine tqc_iald (jn := p0.toNatClampNeg) hx hb hK hW (by decide) (tq_mk_13 (by decide)) b7 rfl dX11_goes_22 ?_
      refine lv_istore_n (lv' := [(3, .int (S4 13 0 p0.toNatClampNeg)), (0, .ref (ad 1 0)), (1, .int p0), (2, .int p1)]) hx hb dX11_goes_23 rfl hl (by decide) rfl (fun ls hl => ?_)
      refine lv_aload_n hx hb dX11_goes_24 rfl (lv_at hl 1 rfl) ?_
      refine tqc_get (v := .ref (ad 13 0)) hx hb hw tq_inX11 hown hK hW (by decide) (tq_mk_1 (by decide)) rfl 3 (by decide) (hw _ tw_340) (fun _ h9 => h9) rfl dX11_goes_25 ?_
      refine lv_iload_n hx hb dX11_goes_28 rfl (lv_at hl 2 rfl) ?_
      refine lv_iload_n hx hb dX11_goes_29 rfl (lv_at hl 3 rfl) ?_
      refine tqc_iast (jn := p0.toNatClampNeg) hx hb hK hW hS (by decide) (tq_mk_13 (by decide)) b7 rfl (tq_mk_13 (by decide)) dX11_goes_30 (fun H locs hW hS => ?_)
      generalize eS8 : tq_up S4 13 0 p0.toNatClampNeg p1 = S8 at hW
      have h := h S8 eS8.symm
      refine lv_iload_n hx hb dX11_goes_31 rfl (lv_at hl 0 rfl) ?_
      exact W.iret (v := S4 13 0 p0.toNatClampNeg) hx hb hr (fun t ht hWm => ⟨⟨_, S8, rfl, h, tq_pe ht hW⟩, hS.F ht⟩) hS.2.2 dX11_goes_32
    · have h := h.2 c6
      exact bX11_goes_15 C  _  _ _ _ h hW hS (lv_sub hl [] rfl)
-- X11 feed
def wbX11_feed_30 (N : tq_Nn) (post : tq_St → Int32 → Prop) : Nat → tq_St → Int32 → Int32 → Prop
  | 0, _, _, _ => False
  | n + 1, S, x1, x3 =>
    (x3 < 0 → (post S (S 3 0 1))) ∧ (¬ x3 < 0 → (wpX6_append N (fun S8 => (wbX11_feed_30 N post n) S8 x1 (x3 + (-1))) S (x1 >>> ((8 * x3) &&& 31))))
def wpX11_feed (N : tq_Nn) (post : tq_St → Int32 → Prop) (S : tq_St) (p0 : Int32) (p1 : Int32) : Prop :=
  wpX11_within N (fun S1 r2 => (¬ r2 = 0 → (wpX6_hasRoomFor N (fun S4 r5 => (¬ r5 = 0 → (∃ nq, wbX11_feed_30 N post nq S4 p0 (p1 - 1))) ∧ (r5 = 0 → (post S4 ((-4))))) S1 p1)) ∧ (r2 = 0 → (post S1 ((-2))))) S p1 0 4
set_option maxHeartbeats 4000000 in
set_option maxRecDepth 100000 in
theorem bX11_feed_30 {p : Program} {e : Env} {s : State} {m : MethodId} {args : Array Value} {below : List Frame} {meth : Method} {c : Code} {post : tq_St → Int32 → Prop} (C : tq_At p s m meth c args cX11_feed 4 ((some .int)) ((tq_ws yX11_feed cX11_feed 4 (some .int))) RX11 D cy z ad)  : ∀ n : Nat, ∀ (S : tq_St) (x1 : Int32) (x3 : Int32) (H : Heap) (locs : List Loc) (ls : Array Slot), wbX11_feed_30 N post   n S x1 x3 → tq_wd D cy z H0 ad N (tq_mix S M) H → va_S (fun q => z ≤ q) s.heap H locs → lv_has ls 4 [(0, .ref (ad 1 0)), (1, .int x1), (3, .int x3)] → W p l e (tq_rm 1 22) s m args below meth c H locs 0 0 (MQ below (va_Qi (fun r u => post u r) (fun u => tq_P D cy z H0 ad N u M) (fun q => z ≤ q)) args s 0 0 (fun q => z ≤ q)) (F0 m 30 ls []) := by
  obtain ⟨hx, hb, hr, hml, hown, hts, hlocks, hK, hG⟩ := id C
  have hw : ∀ w ∈ tq_W, w.before args s = true := fun w h => hts w (List.mem_cons_of_mem _ h)
  intro n
  induction n with
  | zero =>
    intro S x1 x3 H locs ls h
    exact absurd h (by unfold wbX11_feed_30; exact id)
  | succ n ih =>
    intro S x1 x3 H locs ls h hW hS hl
    unfold wbX11_feed_30 at h
    refine lv_iload_n hx hb dX11_feed_30 rfl (lv_at hl 2 rfl) ?_
    refine lv_if_lt (tgt := 53) hx hb dX11_feed_31 (by decide) (fun c7 => ?_) (fun c7 => ?_)
    · have h := h.1 c7
      refine lv_aload_n hx hb dX11_feed_53 rfl (lv_at hl 0 rfl) ?_
      refine tqc_get (v := .ref (ad 3 0)) hx hb hw tq_inX11 hown hK hW (by decide) (tq_mk_1 (by decide)) rfl 12 (by decide) (hw _ tw_349) (fun _ h9 => h9) rfl dX11_feed_54 ?_
      refine tqc_get (v := .int (S 3 0 1)) hx hb hw tq_inX6 hown hK hW (by decide) (tq_mk_3 (by decide)) rfl 1 (by decide) (hw _ tw_186) (fun _ h9 => h9) rfl dX11_feed_57 ?_
      exact W.iret (v := S 3 0 1) hx hb hr (fun t ht hWm => ⟨⟨_, S, rfl, h, tq_pe ht hW⟩, hS.F ht⟩) hS.2.2 dX11_feed_60
    · have h := h.2 c7
      refine lv_aload_n hx hb dX11_feed_34 rfl (lv_at hl 0 rfl) ?_
      refine tqc_get (v := .ref (ad 3 0)) hx hb hw tq_inX11 hown hK hW (by decide) (tq_mk_1 (by decide)) rfl 12 (by decide) (hw _ tw_349) (fun _ h9 => h9) rfl dX11_feed_35 ?_
      refine lv_iload_n hx hb dX11_feed_38 rfl (lv_at hl 1 rfl) ?_
      refine lv_bipush (v := 8) hx hb dX11_feed_39 (by decide) ?_
      refine lv_iload_n hx hb dX11_feed_41 rfl (lv_at hl 2 rfl) ?_
      refine lv_imul hx hb dX11_feed_42 ?_
      refine lv_ishr hx hb dX11_feed_43 ?_
      refine tqc_callVv (As := [.int (x1 >>> ((8 * x3) &&& 31))]) (rest := []) (kX6_append h) ⟨hx, hb, hml, hown, hts⟩ (cwV 1 hts (tq_goodV tw_457 tw_458 tw_459 tw_119 tw_460) rfl rfl rfl (by decide +kernel) ⟨(Nat.le_of_ble_eq_true rfl), (Nat.le_of_ble_eq_true rfl)⟩) (tq_recvC hK hW (by decide) (tq_mk_3 (by decide)) rfl) hK hG hW hS rfl hl.1 rfl (Nat.le_of_ble_eq_true rfl) dX11_feed_44 ⟨(Nat.le_of_ble_eq_true rfl), (Nat.le_of_ble_eq_true rfl)⟩ (fun S8 H locs h hW hS => ?_)
      refine lv_iinc (v := x3 + (-1)) (lv' := [(3, .int (x3 + (-1))), (0, .ref (ad 1 0)), (1, .int x1)]) hx hb dX11_feed_47 hl (k := 2) rfl rfl (by decide) rfl (fun ls hl => ?_)
      refine lv_goto (tgt := 30) hx hb dX11_feed_50 (by decide) ?_
      exact ih _ _ _ _ _ _ h hW hS (lv_sub hl [1, 2, 0] rfl)
set_option maxHeartbeats 4000000 in
set_option maxRecDepth 100000 in
theorem kX11_feed {post : tq_St → Int32 → Prop} {S : tq_St} {p0 : Int32} {p1 : Int32} (h : wpX11_feed N post S p0 p1) : tq_sI l yX11_feed (tq_ws yX11_feed cX11_feed 4 (some .int)) 1 22 D cy z H0 ad N M S [.ref (ad 1 0), .int p0, .int p1] post := by
  unfold wpX11_feed at h
  refine Met.ofW (cc := cX11_feed) (maxL := 4) (ret := (some .int)) (by decide) rfl ?_
  intro p e s m args below meth c s₁ B hml hv
  obtain ⟨rfl, hW, hK, hG⟩ := hv
  have hx := B.exec
  have hb := B.bytes
  have hr := B.returns
  have hts := atoms_spec (ws := (tq_ws yX11_feed cX11_feed 4 (some .int))) B.pre
  have hw : ∀ w ∈ tq_W, w.before _ s = true := fun w h => hts w (List.mem_cons_of_mem _ h)
  have hown : s.vm.findClass RX11 = some m.cls := findClass_of_methodNamed B.named
  have hlocks := B.notSynchronized
  have C : tq_At p s m meth c [.ref (ad 1 0), .int p0, .int p1].toArray cX11_feed 4 ((some .int)) ((tq_ws yX11_feed cX11_feed 4 (some .int))) RX11 D cy z ad := ⟨hx, hb, hr, hml, hown, hts, hlocks, hK, hG⟩
  have hS : va_S (fun q => z ≤ q) s.heap s.heap [] := va_S.rf
  have hl := lv_entry ([.ref (ad 1 0), .int p0, .int p1]) (n := 4) (Nat.le_of_ble_eq_true rfl)
  rw [lg_entry_eq]
  generalize (lg_sl ([.ref (ad 1 0), .int p0, .int p1]) ++ List.replicate (4 - (lg_sl ([.ref (ad 1 0), .int p0, .int p1])).length) Slot.unset).toArray = ls at hl ⊢
  have hl : lv_has ls 4 [(0, .ref (ad 1 0)), (1, .int p0), (2, .int p1)] := hl
  have hW : tq_wd D cy z H0 ad N (tq_mix S M) s.heap := hW
  refine lv_iload_n hx hb dX11_feed_0 rfl (lv_at hl 2 rfl) ?_
  refine lv_iconst (v := 0) hx hb dX11_feed_1 (by decide) ?_
  refine lv_iconst (v := 4) hx hb dX11_feed_2 (by decide) ?_
  refine tqc_callSi (As := [.int p1, .int 0, .int 4]) (rest := []) (kX11_within h) ⟨hx, hb, hml, hown, hts⟩ (va_cwS 3 hts (tq_goodS tw_405 tw_406 tw_115 tw_407) rfl rfl rfl (by decide +kernel) ⟨(Nat.le_of_ble_eq_true rfl), (Nat.le_of_ble_eq_true rfl)⟩) hK hG hW hS rfl hl.1 rfl (Nat.le_of_ble_eq_true rfl) dX11_feed_3 ⟨(Nat.le_of_ble_eq_true rfl), (Nat.le_of_ble_eq_true rfl)⟩ (fun r2 S1 H locs h hW hS => ?_)
  refine lv_if_ne (tgt := 12) hx hb dX11_feed_6 (by decide) (fun c3 => ?_) (fun c3 => ?_)
  · have h := h.1 c3
    refine lv_aload_n hx hb dX11_feed_12 rfl (lv_at hl 0 rfl) ?_
    refine tqc_get (v := .ref (ad 3 0)) hx hb hw tq_inX11 hown hK hW (by decide) (tq_mk_1 (by decide)) rfl 12 (by decide) (hw _ tw_349) (fun _ h9 => h9) rfl dX11_feed_13 ?_
    refine lv_iload_n hx hb dX11_feed_16 rfl (lv_at hl 2 rfl) ?_
    refine tqc_callVi (As := [.int p1]) (rest := []) (kX6_hasRoomFor h) ⟨hx, hb, hml, hown, hts⟩ (cwV 1 hts (tq_goodV tw_453 tw_454 tw_455 tw_119 tw_456) rfl rfl rfl (by decide +kernel) ⟨(Nat.le_of_ble_eq_true rfl), (Nat.le_of_ble_eq_true rfl)⟩) (tq_recvC hK hW (by decide) (tq_mk_3 (by decide)) rfl) hK hG hW hS rfl hl.1 rfl (Nat.le_of_ble_eq_true rfl) dX11_feed_17 ⟨(Nat.le_of_ble_eq_true rfl), (Nat.le_of_ble_eq_true rfl)⟩ (fun r5 S4 H locs h hW hS => ?_)
    refine lv_if_ne (tgt := 26) hx hb dX11_feed_20 (by decide) (fun c6 => ?_) (fun c6 => ?_)
    · have h := h.1 c6
      refine lv_iload_n hx hb dX11_feed_26 rfl (lv_at hl 2 rfl) ?_
      refine lv_iconst (v := 1) hx hb dX11_feed_27 (by decide) ?_
      refine lv_isub hx hb dX11_feed_28 ?_
      refine lv_istore_n (lv' := [(3, .int (p1 - 1)), (0, .ref (ad 1 0)), (1, .int p0), (2, .int p1)]) hx hb dX11_feed_29 rfl hl (by decide) rfl (fun ls hl => ?_)
      obtain ⟨nq, h⟩ := h
      exact bX11_feed_30 C  nq _ _ _ _ _ _ h hW hS (lv_sub hl [1, 2, 0] rfl)
    · have h := h.2 c6
      refine lv_bipush (v := (-4)) hx hb dX11_feed_23 (by decide) ?_
      exact W.iret (v := (-4)) hx hb hr (fun t ht hWm => ⟨⟨_, S4, rfl, h, tq_pe ht hW⟩, hS.F ht⟩) hS.2.2 dX11_feed_25
  · have h := h.2 c3
    refine lv_bipush (v := (-2)) hx hb dX11_feed_9 (by decide) ?_
    exact W.iret (v := (-2)) hx hb hr (fun t ht hWm => ⟨⟨_, S1, rfl, h, tq_pe ht hW⟩, hS.F ht⟩) hS.2.2 dX11_feed_11
-- X11 mail
def wbX11_mail_16 (N : tq_Nn) (post : tq_St → Int32 → Prop)  (S : tq_St) : Prop :=
  post S ((-1))
def wbX11_mail_102 (N : tq_Nn) (post : tq_St → Int32 → Prop) : Nat → tq_St → Int32 → Int32 → Nat → Int32 → Prop
  | 0, _, _, _, _, _ => False
  | n + 1, S, x3, x4, x5, x6 =>
    ((x3 + x4) ≤ x6 → (post S (S 3 0 1))) ∧ (¬ (x3 + x4) ≤ x6 → (x5 < 3 ∧ (vp_in x6 64 ∧ (wpX6_append N (fun S23 => (wbX11_mail_102 N post n) S23 x3 x4 x5 (x6 + 1)) S (S 49 x5 x6.toNatClampNeg)))))
def wpX11_mail (N : tq_Nn) (post : tq_St → Int32 → Prop) (S : tq_St) (p0 : Int32) (p1 : Int32) (p2 : Int32) (p3 : Int32) : Prop :=
  wpX11_isSheet N (fun S1 r2 => (r2 = 0 → (wbX11_mail_16 N post S1 )) ∧ (¬ r2 = 0 → (wpX11_within N (fun S4 r5 => (¬ r5 = 0 → ((0 ≤ p3 → ((¬ p3 = 0 → (vp_in p0 3 ∧ (wpX7_isMissing N (fun S10 r11 => (r11 = 0 → (((S10 6 p0.toNatClampNeg 0) = p1 → (wpX7_has N (fun S14 r15 => (¬ r15 = 0 → (wpX6_hasRoomFor N (fun S17 r18 => (¬ r18 = 0 → (∃ nq, wbX11_mail_102 N post nq S17 p2 p3 p0.toNatClampNeg p2)) ∧ (r18 = 0 → (post S17 ((-4))))) S14 p3)) ∧ (r15 = 0 → (post S14 ((-12))))) S10 p0.toNatClampNeg p2 p3)) ∧ (¬ (S10 6 p0.toNatClampNeg 0) = p1 → (post S10 ((-13)))))) ∧ (¬ r11 = 0 → (post S10 ((-11))))) S4 p0.toNatClampNeg))) ∧ (p3 = 0 → (post S4 (S4 3 0 1))))) ∧ (¬ 0 ≤ p3 → (post S4 ((-2)))))) ∧ (r5 = 0 → (wbX11_mail_16 N post S4 ))) S1 p1 0 2))) S p0
set_option maxHeartbeats 4000000 in
set_option maxRecDepth 100000 in
theorem bX11_mail_16 {p : Program} {e : Env} {s : State} {m : MethodId} {args : Array Value} {below : List Frame} {meth : Method} {c : Code} {post : tq_St → Int32 → Prop} (C : tq_At p s m meth c args cX11_mail 7 ((some .int)) ((tq_ws yX11_mail cX11_mail 7 (some .int))) RX11 D cy z ad)  : ∀ (S : tq_St)  (H : Heap) (locs : List Loc) (ls : Array Slot), wbX11_mail_16 N post   S  → tq_wd D cy z H0 ad N (tq_mix S M) H → va_S (fun q => z ≤ q) s.heap H locs → lv_has ls 7 [] → W p l e (tq_rm 1 22) s m args below meth c H locs 0 0 (MQ below (va_Qi (fun r u => post u r) (fun u => tq_P D cy z H0 ad N u M) (fun q => z ≤ q)) args s 0 0 (fun q => z ≤ q)) (F0 m 16 ls []) := by
  obtain ⟨hx, hb, hr, hml, hown, hts, hlocks, hK, hG⟩ := id C
  have hw : ∀ w ∈ tq_W, w.before args s = true := fun w h => hts w (List.mem_cons_of_mem _ h)
  intro S  H locs ls h hW hS hl
  unfold wbX11_mail_16 at h
  refine lv_iconst (v := (-1)) hx hb dX11_mail_16 (by decide) ?_
  exact W.iret (v := (-1)) hx hb hr (fun t ht hWm => ⟨⟨_, S, rfl, h, tq_pe ht hW⟩, hS.F ht⟩) hS.2.2 dX11_mail_17
set_option maxHeartbeats 4000000 in
set_option maxRecDepth 100000 in
theorem bX11_mail_102 {p : Program} {e : Env} {s : State} {m : MethodId} {args : Array Value} {below : List Frame} {meth : Method} {c : Code} {post : tq_St → Int32 → Prop} (C : tq_At p s m meth c args cX11_mail 7 ((some .int)) ((tq_ws yX11_mail cX11_mail 7 (some .int))) RX11 D cy z ad)  : ∀ n : Nat, ∀ (S : tq_St) (x3 : Int32) (x4 : Int32) (x5 : Nat) (x6 : Int32) (H : Heap) (locs : List Loc) (ls : Array Slot), wbX11_mail_102 N post   n S x3 x4 x5 x6 → tq_wd D cy z H0 ad N (tq_mix S M) H → va_S (fun q => z ≤ q) s.heap H locs → lv_has ls 7 [(0, .ref (ad 1 0)), (3, .int x3), (4, .int x4), (5, .ref (ad 6 x5)), (6, .int x6)] → W p l e (tq_rm 1 22) s m args below meth c H locs 0 0 (MQ below (va_Qi (fun r u => post u r) (fun u => tq_P D cy z H0 ad N u M) (fun q => z ≤ q)) args s 0 0 (fun q => z ≤ q)) (F0 m 102 ls []) := by
  obtain ⟨hx, hb, hr, hml, hown, hts, hlocks, hK, hG⟩ := id C
  have hw : ∀ w ∈ tq_W, w.before args s = true := fun w h => hts w (List.mem_cons_of_mem _ h)
  intro n
  induction n with
  | zero =>
    intro S x3 x4 x5 x6 H locs ls h
    exact absurd h (by unfold wbX11_mail_102; exact id)
  | succ n ih =>
    intro S x3 x4 x5 x6 H locs ls h hW hS hl
    unfold wbX11_mail_102 at h
    refine lv_iload hx hb dX11_mail_102 (lv_at hl 4 rfl) ?_
    refine lv_iload_n hx hb dX11_mail_104 rfl (lv_at hl 1 rfl) ?_
    refine lv_iload hx hb dX11_mail_105 (lv_at hl 2 rfl) ?_
    refine lv_iadd hx hb dX11_mail_107 ?_
    refine lv_icmp_ge (tgt := 132) hx hb dX11_mail_108 (by decide) (fun c20 => ?_) (fun c20 => ?_)
    · have h := h.1 c20
      refine lv_aload_n hx hb dX11_mail_132 rfl (lv_at hl 0 rfl) ?_
      refine tqc_get (v := .ref (ad 3 0)) hx hb hw tq_inX11 hown hK hW (by decide) (tq_mk_1 (by decide)) rfl 12 (by decide) (hw _ tw_349) (fun _ h9 => h9) rfl dX11_mail_133 ?_
      refine tqc_get (v := .int (S 3 0 1)) hx hb hw tq_inX6 hown hK hW (by decide) (tq_mk_3 (by decide)) rfl 1 (by decide) (hw _ tw_186) (fun _ h9 => h9) rfl dX11_mail_136 ?_
      exact W.iret (v := S 3 0 1) hx hb hr (fun t ht hWm => ⟨⟨_, S, rfl, h, tq_pe ht hW⟩, hS.F ht⟩) hS.2.2 dX11_mail_139
    · have h := h.2 c20
      refine lv_aload_n hx hb dX11_mail_111 rfl (lv_at hl 0 rfl) ?_
      refine tqc_get (v := .ref (ad 3 0)) hx hb hw tq_inX11 hown hK hW (by decide) (tq_mk_1 (by decide)) rfl 12 (by decide) (hw _ tw_349) (fun _ h9 => h9) rfl dX11_mail_112 ?_
      refine lv_aload hx hb dX11_mail_115 (lv_at hl 3 rfl) ?_
      obtain ⟨b21, h⟩ := h
      refine tqc_get (v := .ref (ad 49 x5)) hx hb hw tq_inX7 hown hK hW (by decide) (tq_mk_6 b21) rfl 2 (by decide) (hw _ tw_326) (fun _ h9 => h9) rfl dX11_mail_117 ?_
      refine lv_iload hx hb dX11_mail_120 (lv_at hl 4 rfl) ?_
      obtain ⟨b22, h⟩ := h
      refine tqc_iald (jn := x6.toNatClampNeg) hx hb hK hW (by decide) (tq_mk_49 b21) b22 rfl dX11_mail_122 ?_
      refine tqc_callVv (As := [.int (S 49 x5 x6.toNatClampNeg)]) (rest := []) (kX6_append h) ⟨hx, hb, hml, hown, hts⟩ (cwV 1 hts (tq_goodV tw_457 tw_458 tw_459 tw_119 tw_460) rfl rfl rfl (by decide +kernel) ⟨(Nat.le_of_ble_eq_true rfl), (Nat.le_of_ble_eq_true rfl)⟩) (tq_recvC hK hW (by decide) (tq_mk_3 (by decide)) rfl) hK hG hW hS rfl hl.1 rfl (Nat.le_of_ble_eq_true rfl) dX11_mail_123 ⟨(Nat.le_of_ble_eq_true rfl), (Nat.le_of_ble_eq_true rfl)⟩ (fun S23 H locs h hW hS => ?_)
      refine lv_iinc (v := x6 + 1) (lv' := [(6, .int (x6 + 1)), (0, .ref (ad 1 0)), (3, .int x3), (4, .int x4), (5, .ref (ad 6 x5))]) hx hb dX11_mail_126 hl (k := 4) rfl rfl (by decide) rfl (fun ls hl => ?_)
      refine lv_goto (tgt := 102) hx hb dX11_mail_129 (by decide) ?_
      exact ih _ _ _ _ _ _ _ _ h hW hS (lv_sub hl [1, 2, 3, 4, 0] rfl)
set_option maxHeartbeats 4000000 in
set_option maxRecDepth 100000 in
theorem kX11_mail {post : tq_St → Int32 → Prop} {S : tq_St} {p0 : Int32} {p1 : Int32} {p2 : Int32} {p3 : Int32} (h : wpX11_mail N post S p0 p1 p2 p3) : tq_sI l yX11_mail (tq_ws yX11_mail cX11_mail 7 (some .int)) 1 22 D cy z H0 ad N M S [.ref (ad 1 0), .int p0, .int p1, .int p2, .int p3] post := by
  unfold wpX11_mail at h
  refine Met.ofW (cc := cX11_mail) (maxL := 7) (ret := (some .int)) (by decide) rfl ?_
  intro p e s m args below meth c s₁ B hml hv
  obtain ⟨rfl, hW, hK, hG⟩ := hv
  have hx := B.exec
  have hb := B.bytes
  have hr := B.returns
  have hts := atoms_spec (ws := (tq_ws yX11_mail cX11_mail 7 (some .int))) B.pre
  have hw : ∀ w ∈ tq_W, w.before _ s = true := fun w h => hts w (List.mem_cons_of_mem _ h)
  have hown : s.vm.findClass RX11 = some m.cls := findClass_of_methodNamed B.named
  have hlocks := B.notSynchronized
  have C : tq_At p s m meth c [.ref (ad 1 0), .int p0, .int p1, .int p2, .int p3].toArray cX11_mail 7 ((some .int)) ((tq_ws yX11_mail cX11_mail 7 (some .int))) RX11 D cy z ad := ⟨hx, hb, hr, hml, hown, hts, hlocks, hK, hG⟩
  have hS : va_S (fun q => z ≤ q) s.heap s.heap [] := va_S.rf
  have hl := lv_entry ([.ref (ad 1 0), .int p0, .int p1, .int p2, .int p3]) (n := 7) (Nat.le_of_ble_eq_true rfl)
  rw [lg_entry_eq]
  generalize (lg_sl ([.ref (ad 1 0), .int p0, .int p1, .int p2, .int p3]) ++ List.replicate (7 - (lg_sl ([.ref (ad 1 0), .int p0, .int p1, .int p2, .int p3])).length) Slot.unset).toArray = ls at hl ⊢
  have hl : lv_has ls 7 [(0, .ref (ad 1 0)), (1, .int p0), (2, .int p1), (3, .int p2), (4, .int p3)] := hl
  have hW : tq_wd D cy z H0 ad N (tq_mix S M) s.heap := hW
  refine lv_iload_n hx hb dX11_mail_0 rfl (lv_at hl 1 rfl) ?_
  refine tqc_callSi (As := [.int p0]) (rest := []) (kX11_isSheet h) ⟨hx, hb, hml, hown, hts⟩ (va_cwS 1 hts (tq_goodS tw_465 tw_466 tw_115 tw_467) rfl rfl rfl (by decide +kernel) ⟨(Nat.le_of_ble_eq_true rfl), (Nat.le_of_ble_eq_true rfl)⟩) hK hG hW hS rfl hl.1 rfl (Nat.le_of_ble_eq_true rfl) dX11_mail_1 ⟨(Nat.le_of_ble_eq_true rfl), (Nat.le_of_ble_eq_true rfl)⟩ (fun r2 S1 H locs h hW hS => ?_)
  refine lv_if_eq (tgt := 16) hx hb dX11_mail_4 (by decide) (fun c3 => ?_) (fun c3 => ?_)
  · have h := h.1 c3
    exact bX11_mail_16 C  _  _ _ _ h hW hS (lv_sub hl [] rfl)
  · have h := h.2 c3
    refine lv_iload_n hx hb dX11_mail_7 rfl (lv_at hl 2 rfl) ?_
    refine lv_iconst (v := 0) hx hb dX11_mail_8 (by decide) ?_
    refine lv_iconst (v := 2) hx hb dX11_mail_9 (by decide) ?_
    refine tqc_callSi (As := [.int p1, .int 0, .int 2]) (rest := []) (kX11_within h) ⟨hx, hb, hml, hown, hts⟩ (va_cwS 3 hts (tq_goodS tw_405 tw_406 tw_115 tw_407) rfl rfl rfl (by decide +kernel) ⟨(Nat.le_of_ble_eq_true rfl), (Nat.le_of_ble_eq_true rfl)⟩) hK hG hW hS rfl hl.1 rfl (Nat.le_of_ble_eq_true rfl) dX11_mail_10 ⟨(Nat.le_of_ble_eq_true rfl), (Nat.le_of_ble_eq_true rfl)⟩ (fun r5 S4 H locs h hW hS => ?_)
    refine lv_if_ne (tgt := 18) hx hb dX11_mail_13 (by decide) (fun c6 => ?_) (fun c6 => ?_)
    · have h := h.1 c6
      refine lv_iload hx hb dX11_mail_18 (lv_at hl 4 rfl) ?_
      refine lv_if_ge (tgt := 26) hx hb dX11_mail_20 (by decide) (fun c7 => ?_) (fun c7 => ?_)
      · have h := h.1 c7
        refine lv_iload hx hb dX11_mail_26 (lv_at hl 4 rfl) ?_
        refine lv_if_ne (tgt := 39) hx hb dX11_mail_28 (by decide) (fun c8 => ?_) (fun c8 => ?_)
        · have h := h.1 c8
          refine lv_aload_n hx hb dX11_mail_39 rfl (lv_at hl 0 rfl) ?_
          refine tqc_get (v := .ref (ad 29 0)) hx hb hw tq_inX11 hown hK hW (by decide) (tq_mk_1 (by decide)) rfl 19 (by decide) (hw _ tw_356) (fun _ h9 => h9) rfl dX11_mail_40 ?_
          refine lv_iload_n hx hb dX11_mail_43 rfl (lv_at hl 1 rfl) ?_
          obtain ⟨b9, h⟩ := h
          refine tqc_aald (jn := p0.toNatClampNeg) (v := .ref (ad 6 p0.toNatClampNeg)) hx hb hK hW (by decide) (tq_mk_29 (by decide)) 4 rfl rfl b9 rfl rfl dX11_mail_44 ?_
          refine lv_astore (lv' := [(5, .ref (ad 6 p0.toNatClampNeg)), (0, .ref (ad 1 0)), (1, .int p0), (2, .int p1), (3, .int p2), (4, .int p3)]) hx hb dX11_mail_45 hl (by decide) rfl (fun ls hl => ?_)
          refine lv_aload hx hb dX11_mail_47 (lv_at hl 0 rfl) ?_
          refine tqc_callVi (As := []) (rest := []) (kX7_isMissing h) ⟨hx, hb, hml, hown, hts⟩ (cwV 0 hts (tq_goodV tw_468 tw_469 tw_470 tw_123 tw_471) rfl rfl rfl (by decide +kernel) ⟨(Nat.le_of_ble_eq_true rfl), (Nat.le_of_ble_eq_true rfl)⟩) (tq_recvC hK hW (by decide) (tq_mk_6 (tq_lt b9)) rfl) hK hG hW hS rfl hl.1 rfl (Nat.le_of_ble_eq_true rfl) dX11_mail_49 ⟨(Nat.le_of_ble_eq_true rfl), (Nat.le_of_ble_eq_true rfl)⟩ (fun r11 S10 H locs h hW hS => ?_)
          refine lv_if_eq (tgt := 58) hx hb dX11_mail_52 (by decide) (fun c12 => ?_) (fun c12 => ?_)
          · have h := h.1 c12
            refine lv_aload hx hb dX11_mail_58 (lv_at hl 0 rfl) ?_
            refine tqc_get (v := .int (S10 6 p0.toNatClampNeg 0)) hx hb hw tq_inX7 hown hK hW (by decide) (tq_mk_6 (tq_lt b9)) rfl 0 (by decide) (hw _ tw_323) (fun _ h9 => h9) rfl dX11_mail_60 ?_
            refine lv_iload_n hx hb dX11_mail_63 rfl (lv_at hl 3 rfl) ?_
            refine lv_icmp_eq (tgt := 70) hx hb dX11_mail_64 (by decide) (fun c13 => ?_) (fun c13 => ?_)
            · have h := h.1 c13
              refine lv_aload hx hb dX11_mail_70 (lv_at hl 0 rfl) ?_
              refine lv_iload_n hx hb dX11_mail_72 rfl (lv_at hl 4 rfl) ?_
              refine lv_iload hx hb dX11_mail_73 (lv_at hl 5 rfl) ?_
              refine tqc_callVi (As := [.int p2, .int p3]) (rest := []) (kX7_has h) ⟨hx, hb, hml, hown, hts⟩ (cwV 2 hts (tq_goodV tw_472 tw_473 tw_474 tw_123 tw_475) rfl rfl rfl (by decide +kernel) ⟨(Nat.le_of_ble_eq_true rfl), (Nat.le_of_ble_eq_true rfl)⟩) (tq_recvC hK hW (by decide) (tq_mk_6 (tq_lt b9)) rfl) hK hG hW hS rfl hl.1 rfl (Nat.le_of_ble_eq_true rfl) dX11_mail_75 ⟨(Nat.le_of_ble_eq_true rfl), (Nat.le_of_ble_eq_true rfl)⟩ (fun r15 S14 H locs h hW hS => ?_)
              refine lv_if_ne (tgt := 84) hx hb dX11_mail_78 (by decide) (fun c16 => ?_) (fun c16 => ?_)
              · have h := h.1 c16
                refine lv_aload_n hx hb dX11_mail_84 rfl (lv_at hl 1 rfl) ?_
                refine tqc_get (v := .ref (ad 3 0)) hx hb hw tq_inX11 hown hK hW (by decide) (tq_mk_1 (by decide)) rfl 12 (by decide) (hw _ tw_349) (fun _ h9 => h9) rfl dX11_mail_85 ?_
                refine lv_iload hx hb dX11_mail_88 (lv_at hl 5 rfl) ?_
                refine tqc_callVi (As := [.int p3]) (rest := []) (kX6_hasRoomFor h) ⟨hx, hb, hml, hown, hts⟩ (cwV 1 hts (tq_goodV tw_453 tw_454 tw_455 tw_119 tw_456) rfl rfl rfl (by decide +kernel) ⟨(Nat.le_of_ble_eq_true rfl), (Nat.le_of_ble_eq_true rfl)⟩) (tq_recvC hK hW (by decide) (tq_mk_3 (by decide)) rfl) hK hG hW hS rfl hl.1 rfl (Nat.le_of_ble_eq_true rfl) dX11_mail_90 ⟨(Nat.le_of_ble_eq_true rfl), (Nat.le_of_ble_eq_true rfl)⟩ (fun r18 S17 H locs h hW hS => ?_)
                refine lv_if_ne (tgt := 99) hx hb dX11_mail_93 (by decide) (fun c19 => ?_) (fun c19 => ?_)
                · have h := h.1 c19
                  refine lv_iload_n hx hb dX11_mail_99 rfl (lv_at hl 4 rfl) ?_
                  refine lv_istore (lv' := [(6, .int p2), (5, .ref (ad 6 p0.toNatClampNeg)), (0, .ref (ad 1 0)), (1, .int p0), (2, .int p1), (3, .int p2), (4, .int p3)]) hx hb dX11_mail_100 hl (by decide) rfl (fun ls hl => ?_)
                  obtain ⟨nq, h⟩ := h
                  exact bX11_mail_102 C  nq _ _ _ _ _ _ _ _ h hW hS (lv_sub hl [2, 5, 6, 1, 0] rfl)
                · have h := h.2 c19
                  refine lv_bipush (v := (-4)) hx hb dX11_mail_96 (by decide) ?_
                  exact W.iret (v := (-4)) hx hb hr (fun t ht hWm => ⟨⟨_, S17, rfl, h, tq_pe ht hW⟩, hS.F ht⟩) hS.2.2 dX11_mail_98
              · have h := h.2 c16
                refine lv_bipush (v := (-12)) hx hb dX11_mail_81 (by decide) ?_
                exact W.iret (v := (-12)) hx hb hr (fun t ht hWm => ⟨⟨_, S14, rfl, h, tq_pe ht hW⟩, hS.F ht⟩) hS.2.2 dX11_mail_83
            · have h := h.2 c13
              refine lv_bipush (v := (-13)) hx hb dX11_mail_67 (by decide) ?_
              exact W.iret (v := (-13)) hx hb hr (fun t ht hWm => ⟨⟨_, S10, rfl, h, tq_pe ht hW⟩, hS.F ht⟩) hS.2.2 dX11_mail_69
          · have h := h.2 c12
            refine lv_bipush (v := (-11)) hx hb dX11_mail_55 (by decide) ?_
            exact W.iret (v := (-11)) hx hb hr (fun t ht hWm => ⟨⟨_, S10, rfl, h, tq_pe ht hW⟩, hS.F ht⟩) hS.2.2 dX11_mail_57
        · have h := h.2 c8
          refine lv_aload_n hx hb dX11_mail_31 rfl (lv_at hl 0 rfl) ?_
          refine tqc_get (v := .ref (ad 3 0)) hx hb hw tq_inX11 hown hK hW (by decide) (tq_mk_1 (by decide)) rfl 12 (by decide) (hw _ tw_349) (fun _ h9 => h9) rfl dX11_mail_32 ?_
          refine tqc_get (v := .int (S4 3 0 1)) hx hb hw tq_inX6 hown hK hW (by decide) (tq_mk_3 (by decide)) rfl 1 (by decide) (hw _ tw_186) (fun _ h9 => h9) rfl dX11_mail_35 ?_
          exact W.iret (v := S4 3 0 1) hx hb hr (fun t ht hWm => ⟨⟨_, S4, rfl, h, tq_pe ht hW⟩, hS.F ht⟩) hS.2.2 dX11_mail_38
      · have h := h.2 c7
        refine lv_bipush (v := (-2)) hx hb dX11_mail_23 (by decide) ?_
        exact W.iret (v := (-2)) hx hb hr (fun t ht hWm => ⟨⟨_, S4, rfl, h, tq_pe ht hW⟩, hS.F ht⟩) hS.2.2 dX11_mail_25
    · have h := h.2 c6
      exact bX11_mail_16 C  _  _ _ _ h hW hS (lv_sub hl [] rfl)
