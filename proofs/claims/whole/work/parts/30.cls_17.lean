variable {l : Launch} {D : va_G} {cy : Nat → ClassId} {z : Nat} {H0 : Heap} {ad : Nat → Nat → Nat} {N : tq_Nn} {M : tq_St}
-- X6 readSign
def wpX6_readSign (N : tq_Nn) (post : tq_St → Int32 → Prop) (S : tq_St)  : Prop :=
  wpX6_takes N (fun S1 r2 => (r2 = 0 → (wpX6_takes N (fun S4 r5 => (r5 = 0 → (wpX6_expect N (fun S7 => post S7 0) S4 16)) ∧ (¬ r5 = 0 → (post S4 1))) S1 62)) ∧ (¬ r2 = 0 → (post S1 ((-1))))) S 60
set_option maxHeartbeats 4000000 in
set_option maxRecDepth 100000 in
theorem kX6_readSign {post : tq_St → Int32 → Prop} {S : tq_St}  (h : wpX6_readSign N post S ) : tq_sI l yX6_readSign (tq_ws yX6_readSign cX6_readSign 1 (some .int)) 5 107 D cy z H0 ad N M S [.ref (ad 3 0)] post := by
  unfold wpX6_readSign at h
  refine Met.ofW (cc := cX6_readSign) (maxL := 1) (ret := (some .int)) (by decide) rfl ?_
  intro p e s m args below meth c s₁ B hml hv
  obtain ⟨rfl, hW, hK, hG⟩ := hv
  have hx := B.exec
  have hb := B.bytes
  have hr := B.returns
  have hts := atoms_spec (ws := (tq_ws yX6_readSign cX6_readSign 1 (some .int))) B.pre
  have hw : ∀ w ∈ tq_W, w.before _ s = true := fun w h => hts w (List.mem_cons_of_mem _ h)
  have hown : s.vm.findClass RX6 = some m.cls := findClass_of_methodNamed B.named
  have hlocks := B.notSynchronized
  have C : tq_At p s m meth c [.ref (ad 3 0)].toArray cX6_readSign 1 ((some .int)) ((tq_ws yX6_readSign cX6_readSign 1 (some .int))) RX6 D cy z ad := ⟨hx, hb, hr, hml, hown, hts, hlocks, hK, hG⟩
  have hS : va_S (fun q => z ≤ q) s.heap s.heap [] := va_S.rf
  have hl := lv_entry ([.ref (ad 3 0)]) (n := 1) (Nat.le_of_ble_eq_true rfl)
  rw [lg_entry_eq]
  generalize (lg_sl ([.ref (ad 3 0)]) ++ List.replicate (1 - (lg_sl ([.ref (ad 3 0)])).length) Slot.unset).toArray = ls at hl ⊢
  have hl : lv_has ls 1 [(0, .ref (ad 3 0))] := hl
  have hW : tq_wd D cy z H0 ad N (tq_mix S M) s.heap := hW
  refine lv_aload_n hx hb dX6_readSign_0 rfl (lv_at hl 0 rfl) ?_
  refine lv_bipush (v := 60) hx hb dX6_readSign_1 (by decide) ?_
  refine tqc_callVi (As := [.int 60]) (rest := []) (kX6_takes h) ⟨hx, hb, hml, hown, hts⟩ (cwV 1 hts (tq_goodV tw_572 tw_574 tw_4 tw_119 tw_575) rfl rfl rfl (by decide +kernel) ⟨(Nat.le_of_ble_eq_true rfl), (Nat.le_of_ble_eq_true rfl)⟩) (tq_recvC hK hW (by decide) (tq_mk_3 (by decide)) rfl) hK hG hW hS rfl hl.1 rfl (Nat.le_of_ble_eq_true rfl) dX6_readSign_3 ⟨(Nat.le_of_ble_eq_true rfl), (Nat.le_of_ble_eq_true rfl)⟩ (fun r2 S1 H locs h hW hS => ?_)
  refine lv_if_eq (tgt := 11) hx hb dX6_readSign_6 (by decide) (fun c3 => ?_) (fun c3 => ?_)
  · have h := h.1 c3
    refine lv_aload_n hx hb dX6_readSign_11 rfl (lv_at hl 0 rfl) ?_
    refine lv_bipush (v := 62) hx hb dX6_readSign_12 (by decide) ?_
    refine tqc_callVi (As := [.int 62]) (rest := []) (kX6_takes h) ⟨hx, hb, hml, hown, hts⟩ (cwV 1 hts (tq_goodV tw_572 tw_574 tw_4 tw_119 tw_575) rfl rfl rfl (by decide +kernel) ⟨(Nat.le_of_ble_eq_true rfl), (Nat.le_of_ble_eq_true rfl)⟩) (tq_recvC hK hW (by decide) (tq_mk_3 (by decide)) rfl) hK hG hW hS rfl hl.1 rfl (Nat.le_of_ble_eq_true rfl) dX6_readSign_14 ⟨(Nat.le_of_ble_eq_true rfl), (Nat.le_of_ble_eq_true rfl)⟩ (fun r5 S4 H locs h hW hS => ?_)
    refine lv_if_eq (tgt := 22) hx hb dX6_readSign_17 (by decide) (fun c6 => ?_) (fun c6 => ?_)
    · have h := h.1 c6
      refine lv_aload_n hx hb dX6_readSign_22 rfl (lv_at hl 0 rfl) ?_
      refine va_ldcS hx hb hown (hG.2.1 ("TwoSeas$Reader", 124, "=", 16) (by decide)) dX6_readSign_23 ?_
      refine tqc_callVv (As := [.ref (ad 61 16)]) (rest := []) (kX6_expect h) ⟨hx, hb, hml, hown, hts⟩ (cwV 1 hts (tq_goodV tw_577 tw_579 tw_5 tw_119 tw_580) rfl rfl rfl (by decide +kernel) ⟨(Nat.le_of_ble_eq_true rfl), (Nat.le_of_ble_eq_true rfl)⟩) (tq_recvC hK hW (by decide) (tq_mk_3 (by decide)) rfl) hK hG hW hS rfl hl.1 rfl (Nat.le_of_ble_eq_true rfl) dX6_readSign_25 ⟨(Nat.le_of_ble_eq_true rfl), (Nat.le_of_ble_eq_true rfl)⟩ (fun S7 H locs h hW hS => ?_)
      refine lv_iconst (v := 0) hx hb dX6_readSign_28 (by decide) ?_
      exact W.iret (v := 0) hx hb hr (fun t ht hWm => ⟨⟨_, S7, rfl, h, tq_pe ht hW⟩, hS.F ht⟩) hS.2.2 dX6_readSign_29
    · have h := h.2 c6
      refine lv_iconst (v := 1) hx hb dX6_readSign_20 (by decide) ?_
      exact W.iret (v := 1) hx hb hr (fun t ht hWm => ⟨⟨_, S4, rfl, h, tq_pe ht hW⟩, hS.F ht⟩) hS.2.2 dX6_readSign_21
  · have h := h.2 c3
    refine lv_iconst (v := (-1)) hx hb dX6_readSign_9 (by decide) ?_
    exact W.iret (v := (-1)) hx hb hr (fun t ht hWm => ⟨⟨_, S1, rfl, h, tq_pe ht hW⟩, hS.F ht⟩) hS.2.2 dX6_readSign_10
-- X11 holds
def wbX11_holds_45 (N : tq_Nn) (post : tq_St → Int32 → Prop)  (S : tq_St) (y0 : Int32) : Prop :=
  post S y0
def wpX11_holds (N : tq_Nn) (post : tq_St → Int32 → Prop) (S : tq_St) (p0 : Int32) (p1 : Int32) : Prop :=
  wpX11_isInForce N (fun S1 r2 => (¬ r2 = 0 → (vp_in p0 5 ∧ (tq_gok N S1 38 39 p0.toNatClampNeg p1 ∧ (N 10 (tq_el S1 38 39 p0.toNatClampNeg p1) = 1 ∧ (wpX11_testsHold N (fun S9 r10 => (r10 = 0 → (wbX11_holds_45 N post S9 0)) ∧ (¬ r10 = 0 → (wbX11_holds_45 N post S9 1))) S1 (tq_el S1 38 39 p0.toNatClampNeg p1) p0.toNatClampNeg))))) ∧ (r2 = 0 → (post S1 ((-1))))) S p0 p1
set_option maxHeartbeats 4000000 in
set_option maxRecDepth 100000 in
theorem bX11_holds_45 {p : Program} {e : Env} {s : State} {m : MethodId} {args : Array Value} {below : List Frame} {meth : Method} {c : Code} {post : tq_St → Int32 → Prop} (C : tq_At p s m meth c args cX11_holds 3 ((some .int)) ((tq_ws yX11_holds cX11_holds 3 (some .int))) RX11 D cy z ad)  : ∀ (S : tq_St) (y0 : Int32) (H : Heap) (locs : List Loc) (ls : Array Slot), wbX11_holds_45 N post   S y0 → tq_wd D cy z H0 ad N (tq_mix S M) H → va_S (fun q => z ≤ q) s.heap H locs → lv_has ls 3 [] → W p l e (tq_rm 6 134) s m args below meth c H locs 0 0 (MQ below (va_Qi (fun r u => post u r) (fun u => tq_P D cy z H0 ad N u M) (fun q => z ≤ q)) args s 0 0 (fun q => z ≤ q)) (F0 m 45 ls [.int y0]) := by
  obtain ⟨hx, hb, hr, hml, hown, hts, hlocks, hK, hG⟩ := id C
  have hw : ∀ w ∈ tq_W, w.before args s = true := fun w h => hts w (List.mem_cons_of_mem _ h)
  intro S y0 H locs ls h hW hS hl
  unfold wbX11_holds_45 at h
  exact W.iret (v := y0) hx hb hr (fun t ht hWm => ⟨⟨_, S, rfl, h, tq_pe ht hW⟩, hS.F ht⟩) hS.2.2 dX11_holds_45
set_option maxHeartbeats 4000000 in
set_option maxRecDepth 100000 in
theorem kX11_holds {post : tq_St → Int32 → Prop} {S : tq_St} {p0 : Int32} {p1 : Int32} (h : wpX11_holds N post S p0 p1) : tq_sI l yX11_holds (tq_ws yX11_holds cX11_holds 3 (some .int)) 6 134 D cy z H0 ad N M S [.ref (ad 1 0), .int p0, .int p1] post := by
  unfold wpX11_holds at h
  refine Met.ofW (cc := cX11_holds) (maxL := 3) (ret := (some .int)) (by decide) rfl ?_
  intro p e s m args below meth c s₁ B hml hv
  obtain ⟨rfl, hW, hK, hG⟩ := hv
  have hx := B.exec
  have hb := B.bytes
  have hr := B.returns
  have hts := atoms_spec (ws := (tq_ws yX11_holds cX11_holds 3 (some .int))) B.pre
  have hw : ∀ w ∈ tq_W, w.before _ s = true := fun w h => hts w (List.mem_cons_of_mem _ h)
  have hown : s.vm.findClass RX11 = some m.cls := findClass_of_methodNamed B.named
  have hlocks := B.notSynchronized
  have C : tq_At p s m meth c [.ref (ad 1 0), .int p0, .int p1].toArray cX11_holds 3 ((some .int)) ((tq_ws yX11_holds cX11_holds 3 (some .int))) RX11 D cy z ad := ⟨hx, hb, hr, hml, hown, hts, hlocks, hK, hG⟩
  have hS : va_S (fun q => z ≤ q) s.heap s.heap [] := va_S.rf
  have hl := lv_entry ([.ref (ad 1 0), .int p0, .int p1]) (n := 3) (Nat.le_of_ble_eq_true rfl)
  rw [lg_entry_eq]
  generalize (lg_sl ([.ref (ad 1 0), .int p0, .int p1]) ++ List.replicate (3 - (lg_sl ([.ref (ad 1 0), .int p0, .int p1])).length) Slot.unset).toArray = ls at hl ⊢
  have hl : lv_has ls 3 [(0, .ref (ad 1 0)), (1, .int p0), (2, .int p1)] := hl
  have hW : tq_wd D cy z H0 ad N (tq_mix S M) s.heap := hW
  refine lv_aload_n hx hb dX11_holds_0 rfl (lv_at hl 0 rfl) ?_
  refine lv_iload_n hx hb dX11_holds_1 rfl (lv_at hl 1 rfl) ?_
  refine lv_iload_n hx hb dX11_holds_2 rfl (lv_at hl 2 rfl) ?_
  refine tqc_callVi (As := [.int p0, .int p1]) (rest := []) (kX11_isInForce h) ⟨hx, hb, hml, hown, hts⟩ (cwV 2 hts (tq_goodV tw_862 tw_864 tw_20 tw_115 tw_865) rfl rfl rfl (by decide +kernel) ⟨(Nat.le_of_ble_eq_true rfl), (Nat.le_of_ble_eq_true rfl)⟩) (tq_recvC hK hW (by decide) (tq_mk_1 (by decide)) rfl) hK hG hW hS rfl hl.1 rfl (Nat.le_of_ble_eq_true rfl) dX11_holds_3 ⟨(Nat.le_of_ble_eq_true rfl), (Nat.le_of_ble_eq_true rfl)⟩ (fun r2 S1 H locs h hW hS => ?_)
  refine lv_if_ne (tgt := 11) hx hb dX11_holds_6 (by decide) (fun c3 => ?_) (fun c3 => ?_)
  · have h := h.1 c3
    refine lv_aload_n hx hb dX11_holds_11 rfl (lv_at hl 0 rfl) ?_
    refine lv_aload_n hx hb dX11_holds_12 rfl (lv_at hl 0 rfl) ?_
    refine tqc_get (v := .ref (ad 12 0)) hx hb hw tq_inX11 hown hK hW (by decide) (tq_mk_1 (by decide)) rfl 1 (by decide) (hw _ tw_338) (fun _ h9 => h9) rfl dX11_holds_13 ?_
    refine lv_iload_n hx hb dX11_holds_16 rfl (lv_at hl 1 rfl) ?_
    obtain ⟨b4, h⟩ := h
    refine tqc_aald (jn := p0.toNatClampNeg) (v := .ref (ad 2 p0.toNatClampNeg)) hx hb hK hW (by decide) (tq_mk_12 (by decide)) 3 rfl rfl b4 rfl rfl dX11_holds_17 ?_
    refine tqc_get (v := .ref (ad 38 p0.toNatClampNeg)) hx hb hw tq_inX5 hown hK hW (by decide) (tq_mk_2 (tq_lt b4)) rfl 13 (by decide) (hw _ tw_277) (fun _ h9 => h9) rfl dX11_holds_18 ?_
    refine lv_iload_n hx hb dX11_holds_21 rfl (lv_at hl 2 rfl) ?_
    obtain ⟨b7, h⟩ := h
    refine tqc_callVr (kr := 10) (As := [.int p1]) (rest := [.ref (ad 1 0)]) (kJl_get (kd := 39) (post := fun u i => u = S1 ∧ i = tq_el S1 38 39 p0.toNatClampNeg p1) (by decide) (by decide) (tq_mk_38 (tq_lt b4)) (fun q9 => tq_mk_39 q9) b7 ⟨rfl, rfl⟩) ⟨hx, hb, hml, hown, hts⟩ (cwV 1 hts (tq_goodV tw_827 tw_828 tw_829 tw_118 tw_830) rfl rfl rfl (by decide +kernel) ⟨(Nat.le_of_ble_eq_true rfl), (Nat.le_of_ble_eq_true rfl)⟩) (tq_recvL hK hW (by decide) (tq_mk_38 (tq_lt b4))) hK hG hW hS rfl hl.1 rfl (Nat.le_of_ble_eq_true rfl) dX11_holds_22 ⟨(Nat.le_of_ble_eq_true rfl), (Nat.le_of_ble_eq_true rfl)⟩ (fun i6 S5 H locs q9 hW hS => ?_)
    rw [q9.1] at hW
    rw [q9.2]
    obtain ⟨b8, h⟩ := h
    refine va_castS hx hb hown (hw _ tw_866) (hK.1 5 _ rfl).2 (tq_recvC hK hW (by decide) (tq_mk_10 b8) rfl) dX11_holds_25 ?_
    refine lv_aload_n hx hb dX11_holds_28 rfl (lv_at hl 0 rfl) ?_
    refine tqc_get (v := .ref (ad 12 0)) hx hb hw tq_inX11 hown hK hW (by decide) (tq_mk_1 (by decide)) rfl 1 (by decide) (hw _ tw_338) (fun _ h9 => h9) rfl dX11_holds_29 ?_
    refine lv_iload_n hx hb dX11_holds_32 rfl (lv_at hl 1 rfl) ?_
    refine tqc_aald (jn := p0.toNatClampNeg) (v := .ref (ad 2 p0.toNatClampNeg)) hx hb hK hW (by decide) (tq_mk_12 (by decide)) 3 rfl rfl b4 rfl rfl dX11_holds_33 ?_
    refine tqc_callVi (As := [.ref (ad 10 (tq_el S1 38 39 p0.toNatClampNeg p1)), .ref (ad 2 p0.toNatClampNeg)]) (rest := []) (kX11_testsHold h) ⟨hx, hb, hml, hown, hts⟩ (cwV 2 hts (tq_goodV tw_871 tw_873 tw_21 tw_115 tw_874) rfl rfl rfl (by decide +kernel) ⟨(Nat.le_of_ble_eq_true rfl), (Nat.le_of_ble_eq_true rfl)⟩) (tq_recvC hK hW (by decide) (tq_mk_1 (by decide)) rfl) hK hG hW hS rfl hl.1 rfl (Nat.le_of_ble_eq_true rfl) dX11_holds_34 ⟨(Nat.le_of_ble_eq_true rfl), (Nat.le_of_ble_eq_true rfl)⟩ (fun r10 S9 H locs h hW hS => ?_)
    refine lv_if_eq (tgt := 44) hx hb dX11_holds_37 (by decide) (fun c11 => ?_) (fun c11 => ?_)
    · have h := h.1 c11
      refine lv_iconst (v := 0) hx hb dX11_holds_44 (by decide) ?_
      exact bX11_holds_45 C  _ _ _ _ _ h hW hS (lv_sub hl [] rfl)
    · have h := h.2 c11
      refine lv_iconst (v := 1) hx hb dX11_holds_40 (by decide) ?_
      refine lv_goto (tgt := 45) hx hb dX11_holds_41 (by decide) ?_
      exact bX11_holds_45 C  _ _ _ _ _ h hW hS (lv_sub hl [] rfl)
  · have h := h.2 c3
    refine lv_iconst (v := (-1)) hx hb dX11_holds_9 (by decide) ?_
    exact W.iret (v := (-1)) hx hb hr (fun t ht hWm => ⟨⟨_, S1, rfl, h, tq_pe ht hW⟩, hS.F ht⟩) hS.2.2 dX11_holds_10
-- X11 buyBales
def wbX11_buyBales_56 (N : tq_Nn) (post : tq_St → Prop)  (S : tq_St) : Prop :=
  post S
def wpX11_buyBales (N : tq_Nn) (post : tq_St → Prop) (S : tq_St) (p0 : Nat) (p1 : Nat) : Prop :=
  p1 < 5 ∧ (N 10 p0 = 1 ∧ (vp_in (S 10 p0 3) 4 ∧ (wpX5_purchase N (fun S4 r5 => vp_in (S4 10 p0 3) 4 ∧ ((((S4 30 p1 ((S4 10 p0 3).toNatClampNeg)) - (S 30 p1 ((S 10 p0 3).toNatClampNeg))) ≤ 0 → (wbX11_buyBales_56 N post S4 )) ∧ (¬ ((S4 30 p1 ((S4 10 p0 3).toNatClampNeg)) - (S 30 p1 ((S 10 p0 3).toNatClampNeg))) ≤ 0 → (wpX11_enterFor N (fun S8 => wbX11_buyBales_56 N post S8 ) S4 p0 p1 ((S4 30 p1 ((S4 10 p0 3).toNatClampNeg)) - (S 30 p1 ((S 10 p0 3).toNatClampNeg))) r5)))) S p1 (S 10 p0 3) (S 10 p0 4) (S 2 p1 8))))
set_option maxHeartbeats 4000000 in
set_option maxRecDepth 100000 in
theorem bX11_buyBales_56 {p : Program} {e : Env} {s : State} {m : MethodId} {args : Array Value} {below : List Frame} {meth : Method} {c : Code} {post : tq_St → Prop} (C : tq_At p s m meth c args cX11_buyBales 6 (none) ((tq_ws yX11_buyBales cX11_buyBales 6 none)) RX11 D cy z ad)  : ∀ (S : tq_St)  (H : Heap) (locs : List Loc) (ls : Array Slot), wbX11_buyBales_56 N post   S  → tq_wd D cy z H0 ad N (tq_mix S M) H → va_S (fun q => z ≤ q) s.heap H locs → lv_has ls 6 [] → W p l e (tq_rm 2 52) s m args below meth c H locs 0 0 (MQ below (va_Qv (fun u => post u) (fun u => tq_P D cy z H0 ad N u M) (fun q => z ≤ q)) args s 0 0 (fun q => z ≤ q)) (F0 m 56 ls []) := by
  obtain ⟨hx, hb, hr, hml, hown, hts, hlocks, hK, hG⟩ := id C
  have hw : ∀ w ∈ tq_W, w.before args s = true := fun w h => hts w (List.mem_cons_of_mem _ h)
  intro S  H locs ls h hW hS hl
  unfold wbX11_buyBales_56 at h
  exact W.vret hx hb hr (fun t ht hWm => ⟨⟨S, rfl, h, tq_pe ht hW⟩, hS.F ht⟩) hS.2.2 dX11_buyBales_56
set_option maxHeartbeats 4000000 in
set_option maxRecDepth 100000 in
theorem kX11_buyBales {post : tq_St → Prop} {S : tq_St} {p0 : Nat} {p1 : Nat} (h : wpX11_buyBales N post S p0 p1) : tq_sV l yX11_buyBales (tq_ws yX11_buyBales cX11_buyBales 6 none) 2 52 D cy z H0 ad N M S [.ref (ad 1 0), .ref (ad 10 p0), .ref (ad 2 p1)] post := by
  unfold wpX11_buyBales at h
  refine Met.ofW (cc := cX11_buyBales) (maxL := 6) (ret := none) (by decide) rfl ?_
  intro p e s m args below meth c s₁ B hml hv
  obtain ⟨rfl, hW, hK, hG⟩ := hv
  have hx := B.exec
  have hb := B.bytes
  have hr := B.returns
  have hts := atoms_spec (ws := (tq_ws yX11_buyBales cX11_buyBales 6 none)) B.pre
  have hw : ∀ w ∈ tq_W, w.before _ s = true := fun w h => hts w (List.mem_cons_of_mem _ h)
  have hown : s.vm.findClass RX11 = some m.cls := findClass_of_methodNamed B.named
  have hlocks := B.notSynchronized
  have C : tq_At p s m meth c [.ref (ad 1 0), .ref (ad 10 p0), .ref (ad 2 p1)].toArray cX11_buyBales 6 (none) ((tq_ws yX11_buyBales cX11_buyBales 6 none)) RX11 D cy z ad := ⟨hx, hb, hr, hml, hown, hts, hlocks, hK, hG⟩
  have hS : va_S (fun q => z ≤ q) s.heap s.heap [] := va_S.rf
  have hl := lv_entry ([.ref (ad 1 0), .ref (ad 10 p0), .ref (ad 2 p1)]) (n := 6) (Nat.le_of_ble_eq_true rfl)
  rw [lg_entry_eq]
  generalize (lg_sl ([.ref (ad 1 0), .ref (ad 10 p0), .ref (ad 2 p1)]) ++ List.replicate (6 - (lg_sl ([.ref (ad 1 0), .ref (ad 10 p0), .ref (ad 2 p1)])).length) Slot.unset).toArray = ls at hl ⊢
  have hl : lv_has ls 6 [(0, .ref (ad 1 0)), (1, .ref (ad 10 p0)), (2, .ref (ad 2 p1))] := hl
  have hW : tq_wd D cy z H0 ad N (tq_mix S M) s.heap := hW
  refine lv_aload_n hx hb dX11_buyBales_0 rfl (lv_at hl 2 rfl) ?_
  obtain ⟨b1, h⟩ := h
  refine tqc_get (v := .ref (ad 30 p1)) hx hb hw tq_inX5 hown hK hW (by decide) (tq_mk_2 b1) rfl 2 (by decide) (hw _ tw_258) (fun _ h9 => h9) rfl dX11_buyBales_1 ?_
  refine lv_aload_n hx hb dX11_buyBales_4 rfl (lv_at hl 1 rfl) ?_
  obtain ⟨b2, h⟩ := h
  refine tqc_get (v := .int (S 10 p0 3)) hx hb hw tq_inX4 hown hK hW (by decide) (tq_mk_10 b2) rfl 3 (by decide) (hw _ tw_669) (fun _ h9 => h9) rfl dX11_buyBales_5 ?_
  obtain ⟨b3, h⟩ := h
  refine tqc_iald (jn := (S 10 p0 3).toNatClampNeg) hx hb hK hW (by decide) (tq_mk_30 b1) b3 rfl dX11_buyBales_8 ?_
  refine lv_istore_n (lv' := [(3, .int (S 30 p1 ((S 10 p0 3).toNatClampNeg))), (0, .ref (ad 1 0)), (1, .ref (ad 10 p0)), (2, .ref (ad 2 p1))]) hx hb dX11_buyBales_9 rfl hl (by decide) rfl (fun ls hl => ?_)
  refine lv_aload_n hx hb dX11_buyBales_10 rfl (lv_at hl 3 rfl) ?_
  refine lv_aload_n hx hb dX11_buyBales_11 rfl (lv_at hl 2 rfl) ?_
  refine tqc_get (v := .int (S 10 p0 3)) hx hb hw tq_inX4 hown hK hW (by decide) (tq_mk_10 b2) rfl 3 (by decide) (hw _ tw_669) (fun _ h9 => h9) rfl dX11_buyBales_12 ?_
  refine lv_aload_n hx hb dX11_buyBales_15 rfl (lv_at hl 2 rfl) ?_
  refine tqc_get (v := .int (S 10 p0 4)) hx hb hw tq_inX4 hown hK hW (by decide) (tq_mk_10 b2) rfl 4 (by decide) (hw _ tw_671) (fun _ h9 => h9) rfl dX11_buyBales_16 ?_
  refine lv_aload_n hx hb dX11_buyBales_19 rfl (lv_at hl 3 rfl) ?_
  refine tqc_get (v := .int (S 2 p1 8)) hx hb hw tq_inX5 hown hK hW (by decide) (tq_mk_2 b1) rfl 8 (by decide) (hw _ tw_268) (fun _ h9 => h9) rfl dX11_buyBales_20 ?_
  refine tqc_callVi (As := [.int (S 10 p0 3), .int (S 10 p0 4), .int (S 2 p1 8)]) (rest := []) (kX5_purchase h) ⟨hx, hb, hml, hown, hts⟩ (cwV 3 hts (tq_goodV tw_1147 tw_1148 tw_1149 tw_122 tw_1150) rfl rfl rfl (by decide +kernel) ⟨(Nat.le_of_ble_eq_true rfl), (Nat.le_of_ble_eq_true rfl)⟩) (tq_recvC hK hW (by decide) (tq_mk_2 b1) rfl) hK hG hW hS rfl hl.1 rfl (Nat.le_of_ble_eq_true rfl) dX11_buyBales_23 ⟨(Nat.le_of_ble_eq_true rfl), (Nat.le_of_ble_eq_true rfl)⟩ (fun r5 S4 H locs h hW hS => ?_)
  refine lv_istore (lv' := [(4, .int r5), (3, .int (S 30 p1 ((S 10 p0 3).toNatClampNeg))), (0, .ref (ad 1 0)), (1, .ref (ad 10 p0)), (2, .ref (ad 2 p1))]) hx hb dX11_buyBales_26 hl (by decide) rfl (fun ls hl => ?_)
  refine lv_aload_n hx hb dX11_buyBales_28 rfl (lv_at hl 4 rfl) ?_
  refine tqc_get (v := .ref (ad 30 p1)) hx hb hw tq_inX5 hown hK hW (by decide) (tq_mk_2 b1) rfl 2 (by decide) (hw _ tw_258) (fun _ h9 => h9) rfl dX11_buyBales_29 ?_
  refine lv_aload_n hx hb dX11_buyBales_32 rfl (lv_at hl 3 rfl) ?_
  refine tqc_get (v := .int (S4 10 p0 3)) hx hb hw tq_inX4 hown hK hW (by decide) (tq_mk_10 b2) rfl 3 (by decide) (hw _ tw_669) (fun _ h9 => h9) rfl dX11_buyBales_33 ?_
  obtain ⟨b6, h⟩ := h
  refine tqc_iald (jn := (S4 10 p0 3).toNatClampNeg) hx hb hK hW (by decide) (tq_mk_30 b1) b6 rfl dX11_buyBales_36 ?_
  refine lv_iload_n hx hb dX11_buyBales_37 rfl (lv_at hl 1 rfl) ?_
  refine lv_isub hx hb dX11_buyBales_38 ?_
  refine lv_istore (lv' := [(5, .int ((S4 30 p1 ((S4 10 p0 3).toNatClampNeg)) - (S 30 p1 ((S 10 p0 3).toNatClampNeg)))), (4, .int r5), (3, .int (S 30 p1 ((S 10 p0 3).toNatClampNeg))), (0, .ref (ad 1 0)), (1, .ref (ad 10 p0)), (2, .ref (ad 2 p1))]) hx hb dX11_buyBales_39 hl (by decide) rfl (fun ls hl => ?_)
  refine lv_iload hx hb dX11_buyBales_41 (lv_at hl 0 rfl) ?_
  refine lv_if_le (tgt := 56) hx hb dX11_buyBales_43 (by decide) (fun c7 => ?_) (fun c7 => ?_)
  · have h := h.1 c7
    exact bX11_buyBales_56 C  _  _ _ _ h hW hS (lv_sub hl [] rfl)
  · have h := h.2 c7
    refine lv_aload_n hx hb dX11_buyBales_46 rfl (lv_at hl 3 rfl) ?_
    refine lv_aload_n hx hb dX11_buyBales_47 rfl (lv_at hl 4 rfl) ?_
    refine lv_aload_n hx hb dX11_buyBales_48 rfl (lv_at hl 5 rfl) ?_
    refine lv_iload hx hb dX11_buyBales_49 (lv_at hl 0 rfl) ?_
    refine lv_iload hx hb dX11_buyBales_51 (lv_at hl 1 rfl) ?_
    refine tqc_callVv (As := [.ref (ad 10 p0), .ref (ad 2 p1), .int ((S4 30 p1 ((S4 10 p0 3).toNatClampNeg)) - (S 30 p1 ((S 10 p0 3).toNatClampNeg))), .int r5]) (rest := []) (kX11_enterFor h) ⟨hx, hb, hml, hown, hts⟩ (cwV 4 hts (tq_goodV tw_1152 tw_1154 tw_38 tw_115 tw_1155) rfl rfl rfl (by decide +kernel) ⟨(Nat.le_of_ble_eq_true rfl), (Nat.le_of_ble_eq_true rfl)⟩) (tq_recvC hK hW (by decide) (tq_mk_1 (by decide)) rfl) hK hG hW hS rfl hl.1 rfl (Nat.le_of_ble_eq_true rfl) dX11_buyBales_53 ⟨(Nat.le_of_ble_eq_true rfl), (Nat.le_of_ble_eq_true rfl)⟩ (fun S8 H locs h hW hS => ?_)
    exact bX11_buyBales_56 C  _  _ _ _ h hW hS (lv_sub hl [] rfl)
-- X11 giveAdvance
def wbX11_giveAdvance_61 (N : tq_Nn) (post : tq_St → Prop)  (S : tq_St) : Prop :=
  post S
def wpX11_giveAdvance (N : tq_Nn) (post : tq_St → Prop) (S : tq_St) (p0 : Nat) (p1 : Nat) : Prop :=
  N 10 p0 = 1 ∧ (p1 < 5 ∧ wpX5_priceOf N (fun S3 r4 => ((S 10 p0 4) = 0 → (wbX11_giveAdvance_61 N post S3 )) ∧ (¬ (S 10 p0 4) = 0 → (vp_in (S 10 p0 3) 4 ∧ ((0 < (S3 35 p1 ((S 10 p0 3).toNatClampNeg)) → (wbX11_giveAdvance_61 N post S3 )) ∧ (¬ 0 < (S3 35 p1 ((S 10 p0 3).toNatClampNeg)) → (((lg_cmp (((((S 10 p0 4).toInt64) * r4.toInt64) * ((9))) / ((10))) (((S3 2 p1 1) - (S3 2 p1 8)).toInt64)) ≤ 0 → ((∀ S9, S9 = tq_up S3 2 p1 1 ((S3 2 p1 1) - ((((((S 10 p0 4).toInt64) * r4.toInt64) * ((9))) / ((10))).toInt32)) → (∀ S10, S10 = tq_up S9 33 p1 ((S 10 p0 3).toNatClampNeg) (S9 1 0 0) → (∀ S11, S11 = tq_up S10 34 p1 ((S 10 p0 3).toNatClampNeg) (S 10 p0 4) → (∀ S12, S12 = tq_up S11 35 p1 ((S 10 p0 3).toNatClampNeg) (S 10 p0 4) → (wpX11_enterFor N (fun S13 => post S13) S12 p0 p1 (S 10 p0 4) ((((((S 10 p0 4).toInt64) * r4.toInt64) * ((9))) / ((10))).toInt32)))))))) ∧ (¬ (lg_cmp (((((S 10 p0 4).toInt64) * r4.toInt64) * ((9))) / ((10))) (((S3 2 p1 1) - (S3 2 p1 8)).toInt64)) ≤ 0 → (wbX11_giveAdvance_61 N post S3 )))))))) S p1 (S 10 p0 3))
set_option maxHeartbeats 4000000 in
set_option maxRecDepth 100000 in
theorem bX11_giveAdvance_61 {p : Program} {e : Env} {s : State} {m : MethodId} {args : Array Value} {below : List Frame} {meth : Method} {c : Code} {post : tq_St → Prop} (C : tq_At p s m meth c args cX11_giveAdvance 7 (none) ((tq_ws yX11_giveAdvance cX11_giveAdvance 7 none)) RX11 D cy z ad)  : ∀ (S : tq_St)  (H : Heap) (locs : List Loc) (ls : Array Slot), wbX11_giveAdvance_61 N post   S  → tq_wd D cy z H0 ad N (tq_mix S M) H → va_S (fun q => z ≤ q) s.heap H locs → lv_has ls 7 [] → W p l e (tq_rm 2 52) s m args below meth c H locs 0 0 (MQ below (va_Qv (fun u => post u) (fun u => tq_P D cy z H0 ad N u M) (fun q => z ≤ q)) args s 0 0 (fun q => z ≤ q)) (F0 m 61 ls []) := by
  obtain ⟨hx, hb, hr, hml, hown, hts, hlocks, hK, hG⟩ := id C
  have hw : ∀ w ∈ tq_W, w.before args s = true := fun w h => hts w (List.mem_cons_of_mem _ h)
  intro S  H locs ls h hW hS hl
  unfold wbX11_giveAdvance_61 at h
  exact W.vret hx hb hr (fun t ht hWm => ⟨⟨S, rfl, h, tq_pe ht hW⟩, hS.F ht⟩) hS.2.2 dX11_giveAdvance_61
set_option maxHeartbeats 4000000 in
set_option maxRecDepth 100000 in
theorem kX11_giveAdvance {post : tq_St → Prop} {S : tq_St} {p0 : Nat} {p1 : Nat} (h : wpX11_giveAdvance N post S p0 p1) : tq_sV l yX11_giveAdvance (tq_ws yX11_giveAdvance cX11_giveAdvance 7 none) 2 52 D cy z H0 ad N M S [.ref (ad 1 0), .ref (ad 10 p0), .ref (ad 2 p1)] post := by
  unfold wpX11_giveAdvance at h
  refine Met.ofW (cc := cX11_giveAdvance) (maxL := 7) (ret := none) (by decide) rfl ?_
  intro p e s m args below meth c s₁ B hml hv
  obtain ⟨rfl, hW, hK, hG⟩ := hv
  have hx := B.exec
  have hb := B.bytes
  have hr := B.returns
  have hts := atoms_spec (ws := (tq_ws yX11_giveAdvance cX11_giveAdvance 7 none)) B.pre
  have hw : ∀ w ∈ tq_W, w.before _ s = true := fun w h => hts w (List.mem_cons_of_mem _ h)
  have hown : s.vm.findClass RX11 = some m.cls := findClass_of_methodNamed B.named
  have hlocks := B.notSynchronized
  have C : tq_At p s m meth c [.ref (ad 1 0), .ref (ad 10 p0), .ref (ad 2 p1)].toArray cX11_giveAdvance 7 (none) ((tq_ws yX11_giveAdvance cX11_giveAdvance 7 none)) RX11 D cy z ad := ⟨hx, hb, hr, hml, hown, hts, hlocks, hK, hG⟩
  have hS : va_S (fun q => z ≤ q) s.heap s.heap [] := va_S.rf
  have hl := lv_entry ([.ref (ad 1 0), .ref (ad 10 p0), .ref (ad 2 p1)]) (n := 7) (Nat.le_of_ble_eq_true rfl)
  rw [lg_entry_eq]
  generalize (lg_sl ([.ref (ad 1 0), .ref (ad 10 p0), .ref (ad 2 p1)]) ++ List.replicate (7 - (lg_sl ([.ref (ad 1 0), .ref (ad 10 p0), .ref (ad 2 p1)])).length) Slot.unset).toArray = ls at hl ⊢
  have hl : lv_has ls 7 [(0, .ref (ad 1 0)), (1, .ref (ad 10 p0)), (2, .ref (ad 2 p1))] := hl
  have hW : tq_wd D cy z H0 ad N (tq_mix S M) s.heap := hW
  refine lv_aload_n hx hb dX11_giveAdvance_0 rfl (lv_at hl 1 rfl) ?_
  obtain ⟨b1, h⟩ := h
  refine tqc_get (v := .int (S 10 p0 3)) hx hb hw tq_inX4 hown hK hW (by decide) (tq_mk_10 b1) rfl 3 (by decide) (hw _ tw_669) (fun _ h9 => h9) rfl dX11_giveAdvance_1 ?_
  refine lv_istore_n (lv' := [(3, .int (S 10 p0 3)), (0, .ref (ad 1 0)), (1, .ref (ad 10 p0)), (2, .ref (ad 2 p1))]) hx hb dX11_giveAdvance_4 rfl hl (by decide) rfl (fun ls hl => ?_)
  refine lv_aload_n hx hb dX11_giveAdvance_5 rfl (lv_at hl 2 rfl) ?_
  refine tqc_get (v := .int (S 10 p0 4)) hx hb hw tq_inX4 hown hK hW (by decide) (tq_mk_10 b1) rfl 4 (by decide) (hw _ tw_671) (fun _ h9 => h9) rfl dX11_giveAdvance_6 ?_
  refine lv_istore (lv' := [(4, .int (S 10 p0 4)), (3, .int (S 10 p0 3)), (0, .ref (ad 1 0)), (1, .ref (ad 10 p0)), (2, .ref (ad 2 p1))]) hx hb dX11_giveAdvance_9 hl (by decide) rfl (fun ls hl => ?_)
  refine lv_iload hx hb dX11_giveAdvance_11 (lv_at hl 0 rfl) ?_
  refine lv_i2l (v := (S 10 p0 4).toInt64) hx hb dX11_giveAdvance_13 rfl ?_
  refine lv_aload_n hx hb dX11_giveAdvance_14 rfl (lv_at hl 4 rfl) ?_
  refine lv_iload_n hx hb dX11_giveAdvance_15 rfl (lv_at hl 1 rfl) ?_
  obtain ⟨b2, h⟩ := h
  refine tqc_callVi (As := [.int (S 10 p0 3)]) (rest := [.long ((S 10 p0 4).toInt64)]) (kX5_priceOf h) ⟨hx, hb, hml, hown, hts⟩ (cwV 1 hts (tq_goodV tw_419 tw_420 tw_421 tw_122 tw_422) rfl rfl rfl (by decide +kernel) ⟨(Nat.le_of_ble_eq_true rfl), (Nat.le_of_ble_eq_true rfl)⟩) (tq_recvC hK hW (by decide) (tq_mk_2 b2) rfl) hK hG hW hS rfl hl.1 rfl (Nat.le_of_ble_eq_true rfl) dX11_giveAdvance_16 ⟨(Nat.le_of_ble_eq_true rfl), (Nat.le_of_ble_eq_true rfl)⟩ (fun r4 S3 H locs h hW hS => ?_)
  refine lv_i2l (v := r4.toInt64) hx hb dX11_giveAdvance_19 rfl ?_
  refine lv_lmul hx hb dX11_giveAdvance_20 ?_
  refine lv_ldc2 hx hb hown (hw _ tw_1164) dX11_giveAdvance_21 ?_
  refine lv_lmul hx hb dX11_giveAdvance_24 ?_
  refine lv_ldc2 hx hb hown (hw _ tw_1165) dX11_giveAdvance_25 ?_
  refine lv_ldiv hx hb dX11_giveAdvance_28 (by decide) ?_
  refine lv_lstore (lv' := [(5, .long (((((S 10 p0 4).toInt64) * r4.toInt64) * ((9))) / ((10)))), (4, .int (S 10 p0 4)), (3, .int (S 10 p0 3)), (0, .ref (ad 1 0)), (1, .ref (ad 10 p0)), (2, .ref (ad 2 p1))]) hx hb dX11_giveAdvance_29 hl (by decide) rfl (fun ls hl => ?_)
  refine lv_iload hx hb dX11_giveAdvance_31 (lv_at hl 1 rfl) ?_
  refine lv_if_eq (tgt := 61) hx hb dX11_giveAdvance_33 (by decide) (fun c5 => ?_) (fun c5 => ?_)
  · have h := h.1 c5
    exact bX11_giveAdvance_61 C  _  _ _ _ h hW hS (lv_sub hl [] rfl)
  · have h := h.2 c5
    refine lv_aload_n hx hb dX11_giveAdvance_36 rfl (lv_at hl 5 rfl) ?_
    refine tqc_get (v := .ref (ad 35 p1)) hx hb hw tq_inX5 hown hK hW (by decide) (tq_mk_2 b2) rfl 11 (by decide) (hw _ tw_274) (fun _ h9 => h9) rfl dX11_giveAdvance_37 ?_
    refine lv_iload_n hx hb dX11_giveAdvance_40 rfl (lv_at hl 2 rfl) ?_
    obtain ⟨b6, h⟩ := h
    refine tqc_iald (jn := (S 10 p0 3).toNatClampNeg) hx hb hK hW (by decide) (tq_mk_35 b2) b6 rfl dX11_giveAdvance_41 ?_
    refine lv_if_gt (tgt := 61) hx hb dX11_giveAdvance_42 (by decide) (fun c7 => ?_) (fun c7 => ?_)
    · have h := h.1 c7
      exact bX11_giveAdvance_61 C  _  _ _ _ h hW hS (lv_sub hl [] rfl)
    · have h := h.2 c7
      refine lv_lload hx hb dX11_giveAdvance_45 (lv_at hl 0 rfl) ?_
      refine lv_aload_n hx hb dX11_giveAdvance_47 rfl (lv_at hl 5 rfl) ?_
      refine tqc_get (v := .int (S3 2 p1 1)) hx hb hw tq_inX5 hown hK hW (by decide) (tq_mk_2 b2) rfl 1 (by decide) (hw _ tw_255) (fun _ h9 => h9) rfl dX11_giveAdvance_48 ?_
      refine lv_aload_n hx hb dX11_giveAdvance_51 rfl (lv_at hl 5 rfl) ?_
      refine tqc_get (v := .int (S3 2 p1 8)) hx hb hw tq_inX5 hown hK hW (by decide) (tq_mk_2 b2) rfl 8 (by decide) (hw _ tw_268) (fun _ h9 => h9) rfl dX11_giveAdvance_52 ?_
      refine lv_isub hx hb dX11_giveAdvance_55 ?_
      refine lv_i2l (v := ((S3 2 p1 1) - (S3 2 p1 8)).toInt64) hx hb dX11_giveAdvance_56 rfl ?_
      refine W.lcmp hx hb dX11_giveAdvance_57 ?_
      refine lv_if_le (tgt := 62) hx hb dX11_giveAdvance_58 (by decide) (fun c8 => ?_) (fun c8 => ?_)
      · have h := h.1 c8
        refine lv_aload_n hx hb dX11_giveAdvance_62 rfl (lv_at hl 5 rfl) ?_
        refine lv_dup hx hb dX11_giveAdvance_63 rfl ?_
        refine tqc_get (v := .int (S3 2 p1 1)) hx hb hw tq_inX5 hown hK hW (by decide) (tq_mk_2 b2) rfl 1 (by decide) (hw _ tw_255) (fun _ h9 => h9) rfl dX11_giveAdvance_64 ?_
        refine lv_lload hx hb dX11_giveAdvance_67 (lv_at hl 0 rfl) ?_
        refine lv_l2i (v := (((((S 10 p0 4).toInt64) * r4.toInt64) * ((9))) / ((10))).toInt32) hx hb dX11_giveAdvance_69 rfl ?_
        refine lv_isub hx hb dX11_giveAdvance_70 ?_
        refine tqc_put hx hb hw tq_inX5 tyX5 tyX5_ok nmX5 hown hK hW hS (by decide) (tq_mk_2 b2) rfl 1 (by decide) (hw _ tw_255) (fun _ h9 => h9) rfl rfl rfl rfl (tq_mk_2 b2) dX11_giveAdvance_71 (fun H locs hW hS => ?_)
        generalize eS9 : tq_up S3 2 p1 1 ((S3 2 p1 1) - ((((((S 10 p0 4).toInt64) * r4.toInt64) * ((9))) / ((10))).toInt32)) = S9 at hW
        have h := h S9 eS9.symm
        refine lv_aload_n hx hb dX11_giveAdvance_74 rfl (lv_at hl 5 rfl) ?_
        refine tqc_get (v := .ref (ad 33 p1)) hx hb hw tq_inX5 hown hK hW (by decide) (tq_mk_2 b2) rfl 9 (by decide) (hw _ tw_270) (fun _ h9 => h9) rfl dX11_giveAdvance_75 ?_
        refine lv_iload_n hx hb dX11_giveAdvance_78 rfl (lv_at hl 2 rfl) ?_
        refine lv_aload_n hx hb dX11_giveAdvance_79 rfl (lv_at hl 3 rfl) ?_
        refine tqc_get (v := .int (S9 1 0 0)) hx hb hw tq_inX11 hown hK hW (by decide) (tq_mk_1 (by decide)) rfl 0 (by decide) (hw _ tw_337) (fun _ h9 => h9) rfl dX11_giveAdvance_80 ?_
        refine tqc_iast (jn := (S 10 p0 3).toNatClampNeg) hx hb hK hW hS (by decide) (tq_mk_33 b2) b6 rfl (tq_mk_33 b2) dX11_giveAdvance_83 (fun H locs hW hS => ?_)
        generalize eS10 : tq_up S9 33 p1 ((S 10 p0 3).toNatClampNeg) (S9 1 0 0) = S10 at hW
        have h := h S10 eS10.symm
        refine lv_aload_n hx hb dX11_giveAdvance_84 rfl (lv_at hl 5 rfl) ?_
        refine tqc_get (v := .ref (ad 34 p1)) hx hb hw tq_inX5 hown hK hW (by decide) (tq_mk_2 b2) rfl 10 (by decide) (hw _ tw_272) (fun _ h9 => h9) rfl dX11_giveAdvance_85 ?_
        refine lv_iload_n hx hb dX11_giveAdvance_88 rfl (lv_at hl 2 rfl) ?_
        refine lv_iload hx hb dX11_giveAdvance_89 (lv_at hl 1 rfl) ?_
        refine tqc_iast (jn := (S 10 p0 3).toNatClampNeg) hx hb hK hW hS (by decide) (tq_mk_34 b2) b6 rfl (tq_mk_34 b2) dX11_giveAdvance_91 (fun H locs hW hS => ?_)
        generalize eS11 : tq_up S10 34 p1 ((S 10 p0 3).toNatClampNeg) (S 10 p0 4) = S11 at hW
        have h := h S11 eS11.symm
        refine lv_aload_n hx hb dX11_giveAdvance_92 rfl (lv_at hl 5 rfl) ?_
        refine tqc_get (v := .ref (ad 35 p1)) hx hb hw tq_inX5 hown hK hW (by decide) (tq_mk_2 b2) rfl 11 (by decide) (hw _ tw_274) (fun _ h9 => h9) rfl dX11_giveAdvance_93 ?_
        refine lv_iload_n hx hb dX11_giveAdvance_96 rfl (lv_at hl 2 rfl) ?_
        refine lv_iload hx hb dX11_giveAdvance_97 (lv_at hl 1 rfl) ?_
        refine tqc_iast (jn := (S 10 p0 3).toNatClampNeg) hx hb hK hW hS (by decide) (tq_mk_35 b2) b6 rfl (tq_mk_35 b2) dX11_giveAdvance_99 (fun H locs hW hS => ?_)
        generalize eS12 : tq_up S11 35 p1 ((S 10 p0 3).toNatClampNeg) (S 10 p0 4) = S12 at hW
        have h := h S12 eS12.symm
        refine lv_aload_n hx hb dX11_giveAdvance_100 rfl (lv_at hl 3 rfl) ?_
        refine lv_aload_n hx hb dX11_giveAdvance_101 rfl (lv_at hl 4 rfl) ?_
        refine lv_aload_n hx hb dX11_giveAdvance_102 rfl (lv_at hl 5 rfl) ?_
        refine lv_iload hx hb dX11_giveAdvance_103 (lv_at hl 1 rfl) ?_
        refine lv_lload hx hb dX11_giveAdvance_105 (lv_at hl 0 rfl) ?_
        refine lv_l2i (v := (((((S 10 p0 4).toInt64) * r4.toInt64) * ((9))) / ((10))).toInt32) hx hb dX11_giveAdvance_107 rfl ?_
        refine tqc_callVv (As := [.ref (ad 10 p0), .ref (ad 2 p1), .int (S 10 p0 4), .int ((((((S 10 p0 4).toInt64) * r4.toInt64) * ((9))) / ((10))).toInt32)]) (rest := []) (kX11_enterFor h) ⟨hx, hb, hml, hown, hts⟩ (cwV 4 hts (tq_goodV tw_1152 tw_1154 tw_38 tw_115 tw_1155) rfl rfl rfl (by decide +kernel) ⟨(Nat.le_of_ble_eq_true rfl), (Nat.le_of_ble_eq_true rfl)⟩) (tq_recvC hK hW (by decide) (tq_mk_1 (by decide)) rfl) hK hG hW hS rfl hl.1 rfl (Nat.le_of_ble_eq_true rfl) dX11_giveAdvance_108 ⟨(Nat.le_of_ble_eq_true rfl), (Nat.le_of_ble_eq_true rfl)⟩ (fun S13 H locs h hW hS => ?_)
        exact W.vret hx hb hr (fun t ht hWm => ⟨⟨S13, rfl, h, tq_pe ht hW⟩, hS.F ht⟩) hS.2.2 dX11_giveAdvance_111
      · have h := h.2 c8
        exact bX11_giveAdvance_61 C  _  _ _ _ h hW hS (lv_sub hl [] rfl)
-- X11 ladeShip
def wbX11_ladeShip_118 (N : tq_Nn) (post : tq_St → Prop)  (S : tq_St) : Prop :=
  post S
def wbX11_ladeShip_119 (N : tq_Nn) (post : tq_St → Prop) (L8 : tq_St → Nat → Nat → Int32 → Int32 → Prop) (S : tq_St) (x1 : Nat) (x2 : Nat) (x3 : Int32) (x4 : Int32) : Prop :=
  L8 S x1 x2 x3 (x4 + 1)
def wbX11_ladeShip_8 (N : tq_Nn) (post : tq_St → Prop) : Nat → tq_St → Nat → Nat → Int32 → Int32 → Prop
  | 0, _, _, _, _, _ => False
  | n + 1, S, x1, x2, x3, x4 =>
    ((S 19 0 2) ≤ x4 → (post S)) ∧ (¬ (S 19 0 2) ≤ x4 → (tq_gok N S 19 20 0 x4 ∧ (N 8 (tq_el S 19 20 0 x4) = 1 ∧ (x2 < 5 ∧ ((¬ (S 8 (tq_el S 19 20 0 x4) 3) = (S 2 x2 0) → (wbX11_ladeShip_119 N post  (wbX11_ladeShip_8 N post n) S x1 x2 x3 x4)) ∧ ((S 8 (tq_el S 19 20 0 x4) 3) = (S 2 x2 0) → (((S 8 (tq_el S 19 20 0 x4) 5) = 0 → (wbX11_ladeShip_119 N post  (wbX11_ladeShip_8 N post n) S x1 x2 x3 x4)) ∧ (¬ (S 8 (tq_el S 19 20 0 x4) 5) = 0 → (vp_in x3 4 ∧ (wpX8_freeTons N (fun S13 r14 => N 10 x1 = 1 ∧ (((if (if r14 < (S 30 x2 x3.toNatClampNeg) then r14 else (S 30 x2 x3.toNatClampNeg)) < (S13 10 x1 4) then (if r14 < (S 30 x2 x3.toNatClampNeg) then r14 else (S 30 x2 x3.toNatClampNeg)) else (S13 10 x1 4)) ≤ 0 → (wbX11_ladeShip_118 N post S13 )) ∧ (¬ (if (if r14 < (S 30 x2 x3.toNatClampNeg) then r14 else (S 30 x2 x3.toNatClampNeg)) < (S13 10 x1 4) then (if r14 < (S 30 x2 x3.toNatClampNeg) then r14 else (S 30 x2 x3.toNatClampNeg)) else (S13 10 x1 4)) ≤ 0 → (∀ S17, S17 = tq_up S13 30 x2 x3.toNatClampNeg ((S13 30 x2 x3.toNatClampNeg) - (if (if r14 < (S 30 x2 x3.toNatClampNeg) then r14 else (S 30 x2 x3.toNatClampNeg)) < (S13 10 x1 4) then (if r14 < (S 30 x2 x3.toNatClampNeg) then r14 else (S 30 x2 x3.toNatClampNeg)) else (S13 10 x1 4))) → (N 54 (tq_el S 19 20 0 x4) = 1 ∧ (∀ S19, S19 = tq_up S17 54 (tq_el S 19 20 0 x4) x3.toNatClampNeg ((S17 54 (tq_el S 19 20 0 x4) x3.toNatClampNeg) + (if (if r14 < (S 30 x2 x3.toNatClampNeg) then r14 else (S 30 x2 x3.toNatClampNeg)) < (S13 10 x1 4) then (if r14 < (S 30 x2 x3.toNatClampNeg) then r14 else (S 30 x2 x3.toNatClampNeg)) else (S13 10 x1 4))) → (wpX11_enterFor N (fun S20 => wbX11_ladeShip_118 N post S20 ) S19 x1 x2 (if (if r14 < (S 30 x2 x3.toNatClampNeg) then r14 else (S 30 x2 x3.toNatClampNeg)) < (S13 10 x1 4) then (if r14 < (S 30 x2 x3.toNatClampNeg) then r14 else (S 30 x2 x3.toNatClampNeg)) else (S13 10 x1 4)) 0))))))) S (tq_el S 19 20 0 x4)))))))))))
def wpX11_ladeShip (N : tq_Nn) (post : tq_St → Prop) (S : tq_St) (p0 : Nat) (p1 : Nat) : Prop :=
  N 10 p0 = 1 ∧ (∃ nq, wbX11_ladeShip_8 N post nq S p0 p1 (S 10 p0 3) 0)
set_option maxHeartbeats 4000000 in
set_option maxRecDepth 100000 in
theorem bX11_ladeShip_118 {p : Program} {e : Env} {s : State} {m : MethodId} {args : Array Value} {below : List Frame} {meth : Method} {c : Code} {post : tq_St → Prop} (C : tq_At p s m meth c args cX11_ladeShip 8 (none) ((tq_ws yX11_ladeShip cX11_ladeShip 8 none)) RX11 D cy z ad)  : ∀ (S : tq_St)  (H : Heap) (locs : List Loc) (ls : Array Slot), wbX11_ladeShip_118 N post   S  → tq_wd D cy z H0 ad N (tq_mix S M) H → va_S (fun q => z ≤ q) s.heap H locs → lv_has ls 8 [] → W p l e (tq_rm 3 64) s m args below meth c H locs 0 0 (MQ below (va_Qv (fun u => post u) (fun u => tq_P D cy z H0 ad N u M) (fun q => z ≤ q)) args s 0 0 (fun q => z ≤ q)) (F0 m 118 ls []) := by
  obtain ⟨hx, hb, hr, hml, hown, hts, hlocks, hK, hG⟩ := id C
  have hw : ∀ w ∈ tq_W, w.before args s = true := fun w h => hts w (List.mem_cons_of_mem _ h)
  intro S  H locs ls h hW hS hl
  unfold wbX11_ladeShip_118 at h
  exact W.vret hx hb hr (fun t ht hWm => ⟨⟨S, rfl, h, tq_pe ht hW⟩, hS.F ht⟩) hS.2.2 dX11_ladeShip_118
set_option maxHeartbeats 4000000 in
set_option maxRecDepth 100000 in
theorem bX11_ladeShip_119 {p : Program} {e : Env} {s : State} {m : MethodId} {args : Array Value} {below : List Frame} {meth : Method} {c : Code} {post : tq_St → Prop} (C : tq_At p s m meth c args cX11_ladeShip 8 (none) ((tq_ws yX11_ladeShip cX11_ladeShip 8 none)) RX11 D cy z ad) {L8 : tq_St → Nat → Nat → Int32 → Int32 → Prop} (hL8 : ∀ (S : tq_St) (x1 : Nat) (x2 : Nat) (x3 : Int32) (x4 : Int32) (H : Heap) (locs : List Loc) (ls : Array Slot), L8 S x1 x2 x3 x4 → tq_wd D cy z H0 ad N (tq_mix S M) H → va_S (fun q => z ≤ q) s.heap H locs → lv_has ls 8 [(0, .ref (ad 1 0)), (1, .ref (ad 10 x1)), (2, .ref (ad 2 x2)), (3, .int x3), (4, .int x4)] → W p l e (tq_rm 3 64) s m args below meth c H locs 0 0 (MQ below (va_Qv (fun u => post u) (fun u => tq_P D cy z H0 ad N u M) (fun q => z ≤ q)) args s 0 0 (fun q => z ≤ q)) (F0 m 8 ls [])) : ∀ (S : tq_St) (x1 : Nat) (x2 : Nat) (x3 : Int32) (x4 : Int32) (H : Heap) (locs : List Loc) (ls : Array Slot), wbX11_ladeShip_119 N post  L8 S x1 x2 x3 x4 → tq_wd D cy z H0 ad N (tq_mix S M) H → va_S (fun q => z ≤ q) s.heap H locs → lv_has ls 8 [(0, .ref (ad 1 0)), (1, .ref (ad 10 x1)), (2, .ref (ad 2 x2)), (3, .int x3), (4, .int x4)] → W p l e (tq_rm 3 64) s m args below meth c H locs 0 0 (MQ below (va_Qv (fun u => post u) (fun u => tq_P D cy z H0 ad N u M) (fun q => z ≤ q)) args s 0 0 (fun q => z ≤ q)) (F0 m 119 ls []) := by
  obtain ⟨hx, hb, hr, hml, hown, hts, hlocks, hK, hG⟩ := id C
  have hw : ∀ w ∈ tq_W, w.before args s = true := fun w h => hts w (List.mem_cons_of_mem _ h)
  intro S x1 x2 x3 x4 H locs ls h hW hS hl
  unfold wbX11_ladeShip_119 at h
  refine lv_iinc (v := x4 + 1) (lv' := [(4, .int (x4 + 1)), (0, .ref (ad 1 0)), (1, .ref (ad 10 x1)), (2, .ref (ad 2 x2)), (3, .int x3)]) hx hb dX11_ladeShip_119 hl (k := 4) rfl rfl (by decide) rfl (fun ls hl => ?_)
  refine lv_goto (tgt := 8) hx hb dX11_ladeShip_122 (by decide) ?_
  exact hL8 _ _ _ _ _ _ _ _ h hW hS (lv_sub hl [1, 2, 3, 4, 0] rfl)
set_option maxHeartbeats 4000000 in
set_option maxRecDepth 100000 in
theorem bX11_ladeShip_8 {p : Program} {e : Env} {s : State} {m : MethodId} {args : Array Value} {below : List Frame} {meth : Method} {c : Code} {post : tq_St → Prop} (C : tq_At p s m meth c args cX11_ladeShip 8 (none) ((tq_ws yX11_ladeShip cX11_ladeShip 8 none)) RX11 D cy z ad)  : ∀ n : Nat, ∀ (S : tq_St) (x1 : Nat) (x2 : Nat) (x3 : Int32) (x4 : Int32) (H : Heap) (locs : List Loc) (ls : Array Slot), wbX11_ladeShip_8 N post   n S x1 x2 x3 x4 → tq_wd D cy z H0 ad N (tq_mix S M) H → va_S (fun q => z ≤ q) s.heap H locs → lv_has ls 8 [(0, .ref (ad 1 0)), (1, .ref (ad 10 x1)), (2, .ref (ad 2 x2)), (3, .int x3), (4, .int x4)] → W p l e (tq_rm 3 64) s m args below meth c H locs 0 0 (MQ below (va_Qv (fun u => post u) (fun u => tq_P D cy z H0 ad N u M) (fun q => z ≤ q)) args s 0 0 (fun q => z ≤ q)) (F0 m 8 ls []) := by
  obtain ⟨hx, hb, hr, hml, hown, hts, hlocks, hK, hG⟩ := id C
  have hw : ∀ w ∈ tq_W, w.before args s = true := fun w h => hts w (List.mem_cons_of_mem _ h)
  intro n
  induction n with
  | zero =>
    intro S x1 x2 x3 x4 H locs ls h
    exact absurd h (by unfold wbX11_ladeShip_8; exact id)
  | succ n ih =>
    intro S x1 x2 x3 x4 H locs ls h hW hS hl
    unfold wbX11_ladeShip_8 at h
    refine lv_iload hx hb dX11_ladeShip_8 (lv_at hl 4 rfl) ?_
    refine lv_aload_n hx hb dX11_ladeShip_10 rfl (lv_at hl 0 rfl) ?_
    refine tqc_get (v := .ref (ad 19 0)) hx hb hw tq_inX11 hown hK hW (by decide) (tq_mk_1 (by decide)) rfl 7 (by decide) (hw _ tw_344) (fun _ h9 => h9) rfl dX11_ladeShip_11 ?_
    refine tqc_callVi (As := []) (rest := [.int x4]) (kJl_size (post := fun u r => u = S ∧ r = S 19 0 2) (by decide) (tq_mk_19 (by decide)) ⟨rfl, rfl⟩) ⟨hx, hb, hml, hown, hts⟩ (cwV 0 hts (tq_goodV tw_484 tw_485 tw_486 tw_118 tw_487) rfl rfl rfl (by decide +kernel) ⟨(Nat.le_of_ble_eq_true rfl), (Nat.le_of_ble_eq_true rfl)⟩) (tq_recvL hK hW (by decide) (tq_mk_19 (by decide))) hK hG hW hS rfl hl.1 rfl (Nat.le_of_ble_eq_true rfl) dX11_ladeShip_14 ⟨(Nat.le_of_ble_eq_true rfl), (Nat.le_of_ble_eq_true rfl)⟩ (fun r3 S2 H locs q9 hW hS => ?_)
    rw [q9.1] at hW
    rw [q9.2]
    refine lv_icmp_ge (tgt := 125) hx hb dX11_ladeShip_17 (by decide) (fun c4 => ?_) (fun c4 => ?_)
    · have h := h.1 c4
      exact W.vret hx hb hr (fun t ht hWm => ⟨⟨S, rfl, h, tq_pe ht hW⟩, hS.F ht⟩) hS.2.2 dX11_ladeShip_125
    · have h := h.2 c4
      refine lv_aload_n hx hb dX11_ladeShip_20 rfl (lv_at hl 0 rfl) ?_
      refine tqc_get (v := .ref (ad 19 0)) hx hb hw tq_inX11 hown hK hW (by decide) (tq_mk_1 (by decide)) rfl 7 (by decide) (hw _ tw_344) (fun _ h9 => h9) rfl dX11_ladeShip_21 ?_
      refine lv_iload hx hb dX11_ladeShip_24 (lv_at hl 4 rfl) ?_
      obtain ⟨b7, h⟩ := h
      refine tqc_callVr (kr := 8) (As := [.int x4]) (rest := []) (kJl_get (kd := 20) (post := fun u i => u = S ∧ i = tq_el S 19 20 0 x4) (by decide) (by decide) (tq_mk_19 (by decide)) (fun q9 => tq_mk_20 q9) b7 ⟨rfl, rfl⟩) ⟨hx, hb, hml, hown, hts⟩ (cwV 1 hts (tq_goodV tw_827 tw_828 tw_829 tw_118 tw_830) rfl rfl rfl (by decide +kernel) ⟨(Nat.le_of_ble_eq_true rfl), (Nat.le_of_ble_eq_true rfl)⟩) (tq_recvL hK hW (by decide) (tq_mk_19 (by decide))) hK hG hW hS rfl hl.1 rfl (Nat.le_of_ble_eq_true rfl) dX11_ladeShip_26 ⟨(Nat.le_of_ble_eq_true rfl), (Nat.le_of_ble_eq_true rfl)⟩ (fun i6 S5 H locs q9 hW hS => ?_)
      rw [q9.1] at hW
      rw [q9.2]
      obtain ⟨b8, h⟩ := h
      refine va_castS hx hb hown (hw _ tw_839) (hK.1 9 _ rfl).2 (tq_recvC hK hW (by decide) (tq_mk_8 b8) rfl) dX11_ladeShip_29 ?_
      refine lv_astore (lv' := [(5, .ref (ad 8 (tq_el S 19 20 0 x4))), (0, .ref (ad 1 0)), (1, .ref (ad 10 x1)), (2, .ref (ad 2 x2)), (3, .int x3), (4, .int x4)]) hx hb dX11_ladeShip_32 hl (by decide) rfl (fun ls hl => ?_)
      refine lv_aload hx hb dX11_ladeShip_34 (lv_at hl 0 rfl) ?_
      refine tqc_get (v := .int (S 8 (tq_el S 19 20 0 x4) 3)) hx hb hw tq_inX8 hown hK hW (by decide) (tq_mk_8 b8) rfl 3 (by decide) (hw _ tw_907) (fun _ h9 => h9) rfl dX11_ladeShip_36 ?_
      refine lv_aload_n hx hb dX11_ladeShip_39 rfl (lv_at hl 3 rfl) ?_
      obtain ⟨b9, h⟩ := h
      refine tqc_get (v := .int (S 2 x2 0)) hx hb hw tq_inX5 hown hK hW (by decide) (tq_mk_2 b9) rfl 0 (by decide) (hw _ tw_253) (fun _ h9 => h9) rfl dX11_ladeShip_40 ?_
      refine lv_icmp_ne (tgt := 119) hx hb dX11_ladeShip_43 (by decide) (fun c10 => ?_) (fun c10 => ?_)
      · have h := h.1 c10
        exact bX11_ladeShip_119 C (fun M9 a09 a19 a29 a39 H9 q9 ls9 h9 hW9 hS9 hl9 => ih M9 a09 a19 a29 a39 H9 q9 ls9 h9 hW9 hS9 hl9) _ _ _ _ _ _ _ _ h hW hS (lv_sub hl [1, 2, 3, 4, 5] rfl)
      · have h := h.2 c10
        refine lv_aload hx hb dX11_ladeShip_46 (lv_at hl 0 rfl) ?_
        refine tqc_get (v := .int (S 8 (tq_el S 19 20 0 x4) 5)) hx hb hw tq_inX8 hown hK hW (by decide) (tq_mk_8 b8) rfl 5 (by decide) (hw _ tw_910) (fun _ h9 => h9) rfl dX11_ladeShip_48 ?_
        refine lv_if_eq (tgt := 119) hx hb dX11_ladeShip_51 (by decide) (fun c11 => ?_) (fun c11 => ?_)
        · have h := h.1 c11
          exact bX11_ladeShip_119 C (fun M9 a09 a19 a29 a39 H9 q9 ls9 h9 hW9 hS9 hl9 => ih M9 a09 a19 a29 a39 H9 q9 ls9 h9 hW9 hS9 hl9) _ _ _ _ _ _ _ _ h hW hS (lv_sub hl [1, 2, 3, 4, 5] rfl)
        · have h := h.2 c11
          refine lv_aload_n hx hb dX11_ladeShip_54 rfl (lv_at hl 3 rfl) ?_
          refine tqc_get (v := .ref (ad 30 x2)) hx hb hw tq_inX5 hown hK hW (by decide) (tq_mk_2 b9) rfl 2 (by decide) (hw _ tw_258) (fun _ h9 => h9) rfl dX11_ladeShip_55 ?_
          refine lv_iload_n hx hb dX11_ladeShip_58 rfl (lv_at hl 4 rfl) ?_
          obtain ⟨b12, h⟩ := h
          refine tqc_iald (jn := x3.toNatClampNeg) hx hb hK hW (by decide) (tq_mk_30 b9) b12 rfl dX11_ladeShip_59 ?_
          refine lv_aload hx hb dX11_ladeShip_60 (lv_at hl 0 rfl) ?_
          refine tqc_callVi (As := []) (rest := [.int (S 30 x2 x3.toNatClampNeg)]) (kX8_freeTons h) ⟨hx, hb, hml, hown, hts⟩ (cwV 0 hts (tq_goodV tw_966 tw_967 tw_968 tw_138 tw_969) rfl rfl rfl (by decide +kernel) ⟨(Nat.le_of_ble_eq_true rfl), (Nat.le_of_ble_eq_true rfl)⟩) (tq_recvC hK hW (by decide) (tq_mk_8 b8) rfl) hK hG hW hS rfl hl.1 rfl (Nat.le_of_ble_eq_true rfl) dX11_ladeShip_62 ⟨(Nat.le_of_ble_eq_true rfl), (Nat.le_of_ble_eq_true rfl)⟩ (fun r14 S13 H locs h hW hS => ?_)
          refine va_mmin hx hb (hml.trans hl.1.symm) hown (hw _ tw_1170) (hw _ tw_797) (hw _ tw_132) (hw _ tw_798) (Nat.le_of_ble_eq_true rfl) (Nat.le_of_ble_eq_true rfl) (Nat.zero_le _) (Nat.zero_le _) dX11_ladeShip_65 ?_
          refine lv_istore (lv' := [(6, .int (if r14 < (S 30 x2 x3.toNatClampNeg) then r14 else (S 30 x2 x3.toNatClampNeg))), (5, .ref (ad 8 (tq_el S 19 20 0 x4))), (0, .ref (ad 1 0)), (1, .ref (ad 10 x1)), (2, .ref (ad 2 x2)), (3, .int x3), (4, .int x4)]) hx hb dX11_ladeShip_68 hl (by decide) rfl (fun ls hl => ?_)
          refine lv_aload_n hx hb dX11_ladeShip_70 rfl (lv_at hl 3 rfl) ?_
          obtain ⟨b15, h⟩ := h
          refine tqc_get (v := .int (S13 10 x1 4)) hx hb hw tq_inX4 hown hK hW (by decide) (tq_mk_10 b15) rfl 4 (by decide) (hw _ tw_671) (fun _ h9 => h9) rfl dX11_ladeShip_71 ?_
          refine lv_iload hx hb dX11_ladeShip_74 (lv_at hl 0 rfl) ?_
          refine va_mmin hx hb (hml.trans hl.1.symm) hown (hw _ tw_1170) (hw _ tw_797) (hw _ tw_132) (hw _ tw_798) (Nat.le_of_ble_eq_true rfl) (Nat.le_of_ble_eq_true rfl) (Nat.zero_le _) (Nat.zero_le _) dX11_ladeShip_76 ?_
          refine lv_istore (lv' := [(7, .int (if (if r14 < (S 30 x2 x3.toNatClampNeg) then r14 else (S 30 x2 x3.toNatClampNeg)) < (S13 10 x1 4) then (if r14 < (S 30 x2 x3.toNatClampNeg) then r14 else (S 30 x2 x3.toNatClampNeg)) else (S13 10 x1 4))), (6, .int (if r14 < (S 30 x2 x3.toNatClampNeg) then r14 else (S 30 x2 x3.toNatClampNeg))), (5, .ref (ad 8 (tq_el S 19 20 0 x4))), (0, .ref (ad 1 0)), (1, .ref (ad 10 x1)), (2, .ref (ad 2 x2)), (3, .int x3), (4, .int x4)]) hx hb dX11_ladeShip_79 hl (by decide) rfl (fun ls hl => ?_)
          refine lv_iload hx hb dX11_ladeShip_81 (lv_at hl 0 rfl) ?_
          refine lv_if_le (tgt := 118) hx hb dX11_ladeShip_83 (by decide) (fun c16 => ?_) (fun c16 => ?_)
          · have h := h.1 c16
            exact bX11_ladeShip_118 C  _  _ _ _ h hW hS (lv_sub hl [] rfl)
          · have h := h.2 c16
            refine lv_aload_n hx hb dX11_ladeShip_86 rfl (lv_at hl 5 rfl) ?_
            refine tqc_get (v := .ref (ad 30 x2)) hx hb hw tq_inX5 hown hK hW (by decide) (tq_mk_2 b9) rfl 2 (by decide) (hw _ tw_258) (fun _ h9 => h9) rfl dX11_ladeShip_87 ?_
            refine lv_iload_n hx hb dX11_ladeShip_90 rfl (lv_at hl 6 rfl) ?_
            refine lv_dup2_11 hx hb dX11_ladeShip_91 rfl rfl ?_
            refine tqc_iald (jn := x3.toNatClampNeg) hx hb hK hW (by decide) (tq_mk_30 b9) b12 rfl dX11_ladeShip_92 ?_
            refine lv_iload hx hb dX11_ladeShip_93 (lv_at hl 0 rfl) ?_
            refine lv_isub hx hb dX11_ladeShip_95 ?_
            refine tqc_iast (jn := x3.toNatClampNeg) hx hb hK hW hS (by decide) (tq_mk_30 b9) b12 rfl (tq_mk_30 b9) dX11_ladeShip_96 (fun H locs hW hS => ?_)
            generalize eS17 : tq_up S13 30 x2 x3.toNatClampNeg ((S13 30 x2 x3.toNatClampNeg) - (if (if r14 < (S 30 x2 x3.toNatClampNeg) then r14 else (S 30 x2 x3.toNatClampNeg)) < (S13 10 x1 4) then (if r14 < (S 30 x2 x3.toNatClampNeg) then r14 else (S 30 x2 x3.toNatClampNeg)) else (S13 10 x1 4))) = S17 at hW
            have h := h S17 eS17.symm
            refine lv_aload hx hb dX11_ladeShip_97 (lv_at hl 2 rfl) ?_
            refine tqc_get (v := .ref (ad 54 (tq_el S 19 20 0 x4))) hx hb hw tq_inX8 hown hK hW (by decide) (tq_mk_8 b8) rfl 8 (by decide) (hw _ tw_917) (fun _ h9 => h9) rfl dX11_ladeShip_99 ?_
            refine lv_iload_n hx hb dX11_ladeShip_102 rfl (lv_at hl 6 rfl) ?_
            refine lv_dup2_11 hx hb dX11_ladeShip_103 rfl rfl ?_
            obtain ⟨b18, h⟩ := h
            refine tqc_iald (jn := x3.toNatClampNeg) hx hb hK hW (by decide) (tq_mk_54 b18) b12 rfl dX11_ladeShip_104 ?_
            refine lv_iload hx hb dX11_ladeShip_105 (lv_at hl 0 rfl) ?_
            refine lv_iadd hx hb dX11_ladeShip_107 ?_
            refine tqc_iast (jn := x3.toNatClampNeg) hx hb hK hW hS (by decide) (tq_mk_54 b18) b12 rfl (tq_mk_54 b18) dX11_ladeShip_108 (fun H locs hW hS => ?_)
            generalize eS19 : tq_up S17 54 (tq_el S 19 20 0 x4) x3.toNatClampNeg ((S17 54 (tq_el S 19 20 0 x4) x3.toNatClampNeg) + (if (if r14 < (S 30 x2 x3.toNatClampNeg) then r14 else (S 30 x2 x3.toNatClampNeg)) < (S13 10 x1 4) then (if r14 < (S 30 x2 x3.toNatClampNeg) then r14 else (S 30 x2 x3.toNatClampNeg)) else (S13 10 x1 4))) = S19 at hW
            have h := h S19 eS19.symm
            refine lv_aload_n hx hb dX11_ladeShip_109 rfl (lv_at hl 3 rfl) ?_
            refine lv_aload_n hx hb dX11_ladeShip_110 rfl (lv_at hl 4 rfl) ?_
            refine lv_aload_n hx hb dX11_ladeShip_111 rfl (lv_at hl 5 rfl) ?_
            refine lv_iload hx hb dX11_ladeShip_112 (lv_at hl 0 rfl) ?_
            refine lv_iconst (v := 0) hx hb dX11_ladeShip_114 (by decide) ?_
            refine tqc_callVv (As := [.ref (ad 10 x1), .ref (ad 2 x2), .int (if (if r14 < (S 30 x2 x3.toNatClampNeg) then r14 else (S 30 x2 x3.toNatClampNeg)) < (S13 10 x1 4) then (if r14 < (S 30 x2 x3.toNatClampNeg) then r14 else (S 30 x2 x3.toNatClampNeg)) else (S13 10 x1 4)), .int 0]) (rest := []) (kX11_enterFor h) ⟨hx, hb, hml, hown, hts⟩ (cwV 4 hts (tq_goodV tw_1152 tw_1154 tw_38 tw_115 tw_1155) rfl rfl rfl (by decide +kernel) ⟨(Nat.le_of_ble_eq_true rfl), (Nat.le_of_ble_eq_true rfl)⟩) (tq_recvC hK hW (by decide) (tq_mk_1 (by decide)) rfl) hK hG hW hS rfl hl.1 rfl (Nat.le_of_ble_eq_true rfl) dX11_ladeShip_115 ⟨(Nat.le_of_ble_eq_true rfl), (Nat.le_of_ble_eq_true rfl)⟩ (fun S20 H locs h hW hS => ?_)
            exact bX11_ladeShip_118 C  _  _ _ _ h hW hS (lv_sub hl [] rfl)
set_option maxHeartbeats 4000000 in
set_option maxRecDepth 100000 in
theorem kX11_ladeShip {post : tq_St → Prop} {S : tq_St} {p0 : Nat} {p1 : Nat} (h : wpX11_ladeShip N post S p0 p1) : tq_sV l yX11_ladeShip (tq_ws yX11_ladeShip cX11_ladeShip 8 none) 3 64 D cy z H0 ad N M S [.ref (ad 1 0), .ref (ad 10 p0), .ref (ad 2 p1)] post := by
  unfold wpX11_ladeShip at h
  refine Met.ofW (cc := cX11_ladeShip) (maxL := 8) (ret := none) (by decide) rfl ?_
  intro p e s m args below meth c s₁ B hml hv
  obtain ⟨rfl, hW, hK, hG⟩ := hv
  have hx := B.exec
  have hb := B.bytes
  have hr := B.returns
  have hts := atoms_spec (ws := (tq_ws yX11_ladeShip cX11_ladeShip 8 none)) B.pre
  have hw : ∀ w ∈ tq_W, w.before _ s = true := fun w h => hts w (List.mem_cons_of_mem _ h)
  have hown : s.vm.findClass RX11 = some m.cls := findClass_of_methodNamed B.named
  have hlocks := B.notSynchronized
  have C : tq_At p s m meth c [.ref (ad 1 0), .ref (ad 10 p0), .ref (ad 2 p1)].toArray cX11_ladeShip 8 (none) ((tq_ws yX11_ladeShip cX11_ladeShip 8 none)) RX11 D cy z ad := ⟨hx, hb, hr, hml, hown, hts, hlocks, hK, hG⟩
  have hS : va_S (fun q => z ≤ q) s.heap s.heap [] := va_S.rf
  have hl := lv_entry ([.ref (ad 1 0), .ref (ad 10 p0), .ref (ad 2 p1)]) (n := 8) (Nat.le_of_ble_eq_true rfl)
  rw [lg_entry_eq]
  generalize (lg_sl ([.ref (ad 1 0), .ref (ad 10 p0), .ref (ad 2 p1)]) ++ List.replicate (8 - (lg_sl ([.ref (ad 1 0), .ref (ad 10 p0), .ref (ad 2 p1)])).length) Slot.unset).toArray = ls at hl ⊢
  have hl : lv_has ls 8 [(0, .ref (ad 1 0)), (1, .ref (ad 10 p0)), (2, .ref (ad 2 p1))] := hl
  have hW : tq_wd D cy z H0 ad N (tq_mix S M) s.heap := hW
  refine lv_aload_n hx hb dX11_ladeShip_0 rfl (lv_at hl 1 rfl) ?_
  obtain ⟨b1, h⟩ := h
  refine tqc_get (v := .int (S 10 p0 3)) hx hb hw tq_inX4 hown hK hW (by decide) (tq_mk_10 b1) rfl 3 (by decide) (hw _ tw_669) (fun _ h9 => h9) rfl dX11_ladeShip_1 ?_
  refine lv_istore_n (lv' := [(3, .int (S 10 p0 3)), (0, .ref (ad 1 0)), (1, .ref (ad 10 p0)), (2, .ref (ad 2 p1))]) hx hb dX11_ladeShip_4 rfl hl (by decide) rfl (fun ls hl => ?_)
  refine lv_iconst (v := 0) hx hb dX11_ladeShip_5 (by decide) ?_
  refine lv_istore (lv' := [(4, .int 0), (3, .int (S 10 p0 3)), (0, .ref (ad 1 0)), (1, .ref (ad 10 p0)), (2, .ref (ad 2 p1))]) hx hb dX11_ladeShip_6 hl (by decide) rfl (fun ls hl => ?_)
  obtain ⟨nq, h⟩ := h
  exact bX11_ladeShip_8 C  nq _ _ _ _ _ _ _ _ h hW hS (lv_sub hl [2, 3, 4, 1, 0] rfl)
