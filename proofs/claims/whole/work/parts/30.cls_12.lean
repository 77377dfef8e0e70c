variable {l : Launch} {D : va_G} {cy : Nat → ClassId} {z : Nat} {H0 : Heap} {ad : Nat → Nat → Nat} {N : tq_Nn} {M : tq_St}
-- X11 entry
def wbX11_entry_48 (N : tq_Nn) (post : tq_St → Int32 → Prop)  (S : tq_St) (y0 : Int32) : Prop :=
  post S y0
def wbX11_entry_46 (N : tq_Nn) (post : tq_St → Int32 → Prop)  (S : tq_St) : Prop :=
  wbX11_entry_48 N post S ((-5))
def wbX11_entry_17 (N : tq_Nn) (post : tq_St → Int32 → Prop)  (S : tq_St) (x1 : Int32) (x2 : Int32) (y0 : Int32) : Prop :=
  (y0 = 0 → (wbX11_entry_46 N post S )) ∧ (¬ y0 = 0 → (wpX11_within N (fun S6 r7 => (r7 = 0 → (wbX11_entry_46 N post S6 )) ∧ (¬ r7 = 0 → (vp_in ((x1 * 8) + x2) 4000 ∧ (wbX11_entry_48 N post S6 (S6 24 0 (((x1 * 8) + x2).toNatClampNeg)))))) S x2 0 7))
def wbX11_entry_16 (N : tq_Nn) (post : tq_St → Int32 → Prop)  (S : tq_St) (x1 : Int32) (x2 : Int32) : Prop :=
  wbX11_entry_17 N post S x1 x2 0
def wpX11_entry (N : tq_Nn) (post : tq_St → Int32 → Prop) (S : tq_St) (p0 : Int32) (p1 : Int32) : Prop :=
  (p0 < 0 → (wbX11_entry_16 N post S p0 p1)) ∧ (¬ p0 < 0 → (wpX11_entriesKept N (fun S2 r3 => (r3 ≤ p0 → (wbX11_entry_16 N post S2 p0 p1)) ∧ (¬ r3 ≤ p0 → (wbX11_entry_17 N post S2 p0 p1 1))) S ))
set_option maxHeartbeats 4000000 in
set_option maxRecDepth 100000 in
theorem bX11_entry_48 {p : Program} {e : Env} {s : State} {m : MethodId} {args : Array Value} {below : List Frame} {meth : Method} {c : Code} {post : tq_St → Int32 → Prop} (C : tq_At p s m meth c args cX11_entry 4 ((some .int)) ((tq_ws yX11_entry cX11_entry 4 (some .int))) RX11 D cy z ad)  : ∀ (S : tq_St) (y0 : Int32) (H : Heap) (locs : List Loc) (ls : Array Slot), wbX11_entry_48 N post   S y0 → tq_wd D cy z H0 ad N (tq_mix S M) H → va_S (fun q => z ≤ q) s.heap H locs → lv_has ls 4 [] → W p l e (tq_rm 2 41) s m args below meth c H locs 0 0 (MQ below (va_Qi (fun r u => post u r) (fun u => tq_P D cy z H0 ad N u M) (fun q => z ≤ q)) args s 0 0 (fun q => z ≤ q)) (F0 m 48 ls [.int y0]) := by
  obtain ⟨hx, hb, hr, hml, hown, hts, hlocks, hK, hG⟩ := id C
  have hw : ∀ w ∈ tq_W, w.before args s = true := fun w h => hts w (List.mem_cons_of_mem _ h)
  intro S y0 H locs ls h hW hS hl
  unfold wbX11_entry_48 at h
  exact W.iret (v := y0) hx hb hr (fun t ht hWm => ⟨⟨_, S, rfl, h, tq_pe ht hW⟩, hS.F ht⟩) hS.2.2 dX11_entry_48
set_option maxHeartbeats 4000000 in
set_option maxRecDepth 100000 in
theorem bX11_entry_46 {p : Program} {e : Env} {s : State} {m : MethodId} {args : Array Value} {below : List Frame} {meth : Method} {c : Code} {post : tq_St → Int32 → Prop} (C : tq_At p s m meth c args cX11_entry 4 ((some .int)) ((tq_ws yX11_entry cX11_entry 4 (some .int))) RX11 D cy z ad)  : ∀ (S : tq_St)  (H : Heap) (locs : List Loc) (ls : Array Slot), wbX11_entry_46 N post   S  → tq_wd D cy z H0 ad N (tq_mix S M) H → va_S (fun q => z ≤ q) s.heap H locs → lv_has ls 4 [] → W p l e (tq_rm 2 41) s m args below meth c H locs 0 0 (MQ below (va_Qi (fun r u => post u r) (fun u => tq_P D cy z H0 ad N u M) (fun q => z ≤ q)) args s 0 0 (fun q => z ≤ q)) (F0 m 46 ls []) := by
  obtain ⟨hx, hb, hr, hml, hown, hts, hlocks, hK, hG⟩ := id C
  have hw : ∀ w ∈ tq_W, w.before args s = true := fun w h => hts w (List.mem_cons_of_mem _ h)
  intro S  H locs ls h hW hS hl
  unfold wbX11_entry_46 at h
  refine lv_bipush (v := (-5)) hx hb dX11_entry_46 (by decide) ?_
  exact bX11_entry_48 C  _ _ _ _ _ h hW hS (lv_sub hl [] rfl)
set_option maxHeartbeats 4000000 in
set_option maxRecDepth 100000 in
theorem bX11_entry_17 {p : Program} {e : Env} {s : State} {m : MethodId} {args : Array Value} {below : List Frame} {meth : Method} {c : Code} {post : tq_St → Int32 → Prop} (C : tq_At p s m meth c args cX11_entry 4 ((some .int)) ((tq_ws yX11_entry cX11_entry 4 (some .int))) RX11 D cy z ad)  : ∀ (S : tq_St) (x1 : Int32) (x2 : Int32) (y0 : Int32) (H : Heap) (locs : List Loc) (ls : Array Slot), wbX11_entry_17 N post   S x1 x2 y0 → tq_wd D cy z H0 ad N (tq_mix S M) H → va_S (fun q => z ≤ q) s.heap H locs → lv_has ls 4 [(0, .ref (ad 1 0)), (1, .int x1), (2, .int x2)] → W p l e (tq_rm 2 41) s m args below meth c H locs 0 0 (MQ below (va_Qi (fun r u => post u r) (fun u => tq_P D cy z H0 ad N u M) (fun q => z ≤ q)) args s 0 0 (fun q => z ≤ q)) (F0 m 17 ls [.int y0]) := by
  obtain ⟨hx, hb, hr, hml, hown, hts, hlocks, hK, hG⟩ := id C
  have hw : ∀ w ∈ tq_W, w.before args s = true := fun w h => hts w (List.mem_cons_of_mem _ h)
  intro S x1 x2 y0 H locs ls h hW hS hl
  unfold wbX11_entry_17 at h
  refine lv_istore_n (lv' := [(3, .int y0), (0, .ref (ad 1 0)), (1, .int x1), (2, .int x2)]) hx hb dX11_entry_17 rfl hl (by decide) rfl (fun ls hl => ?_)
  refine lv_iload_n hx hb dX11_entry_18 rfl (lv_at hl 0 rfl) ?_
  refine lv_if_eq (tgt := 46) hx hb dX11_entry_19 (by decide) (fun c5 => ?_) (fun c5 => ?_)
  · have h := h.1 c5
    exact bX11_entry_46 C  _  _ _ _ h hW hS (lv_sub hl [] rfl)
  · have h := h.2 c5
    refine lv_iload_n hx hb dX11_entry_22 rfl (lv_at hl 3 rfl) ?_
    refine lv_iconst (v := 0) hx hb dX11_entry_23 (by decide) ?_
    refine lv_bipush (v := 7) hx hb dX11_entry_24 (by decide) ?_
    refine tqc_callSi (As := [.int x2, .int 0, .int 7]) (rest := []) (kX11_within h) ⟨hx, hb, hml, hown, hts⟩ (va_cwS 3 hts (tq_goodS tw_405 tw_406 tw_115 tw_407) rfl rfl rfl (by decide +kernel) ⟨(Nat.le_of_ble_eq_true rfl), (Nat.le_of_ble_eq_true rfl)⟩) hK hG hW hS rfl hl.1 rfl (Nat.le_of_ble_eq_true rfl) dX11_entry_26 ⟨(Nat.le_of_ble_eq_true rfl), (Nat.le_of_ble_eq_true rfl)⟩ (fun r7 S6 H locs h hW hS => ?_)
    refine lv_if_eq (tgt := 46) hx hb dX11_entry_29 (by decide) (fun c8 => ?_) (fun c8 => ?_)
    · have h := h.1 c8
      exact bX11_entry_46 C  _  _ _ _ h hW hS (lv_sub hl [] rfl)
    · have h := h.2 c8
      refine lv_aload_n hx hb dX11_entry_32 rfl (lv_at hl 1 rfl) ?_
      refine tqc_get (v := .ref (ad 24 0)) hx hb hw tq_inX11 hown hK hW (by decide) (tq_mk_1 (by decide)) rfl 11 (by decide) (hw _ tw_348) (fun _ h9 => h9) rfl dX11_entry_33 ?_
      refine lv_iload_n hx hb dX11_entry_36 rfl (lv_at hl 2 rfl) ?_
      refine lv_bipush (v := 8) hx hb dX11_entry_37 (by decide) ?_
      refine lv_imul hx hb dX11_entry_39 ?_
      refine lv_iload_n hx hb dX11_entry_40 rfl (lv_at hl 3 rfl) ?_
      refine lv_iadd hx hb dX11_entry_41 ?_
      obtain ⟨b9, h⟩ := h
      refine tqc_iald (jn := ((x1 * 8) + x2).toNatClampNeg) hx hb hK hW (by decide) (tq_mk_24 (by decide)) b9 rfl dX11_entry_42 ?_
      refine lv_goto (tgt := 48) hx hb dX11_entry_43 (by decide) ?_
      exact bX11_entry_48 C  _ _ _ _ _ h hW hS (lv_sub hl [] rfl)
set_option maxHeartbeats 4000000 in
set_option maxRecDepth 100000 in
theorem bX11_entry_16 {p : Program} {e : Env} {s : State} {m : MethodId} {args : Array Value} {below : List Frame} {meth : Method} {c : Code} {post : tq_St → Int32 → Prop} (C : tq_At p s m meth c args cX11_entry 4 ((some .int)) ((tq_ws yX11_entry cX11_entry 4 (some .int))) RX11 D cy z ad)  : ∀ (S : tq_St) (x1 : Int32) (x2 : Int32) (H : Heap) (locs : List Loc) (ls : Array Slot), wbX11_entry_16 N post   S x1 x2 → tq_wd D cy z H0 ad N (tq_mix S M) H → va_S (fun q => z ≤ q) s.heap H locs → lv_has ls 4 [(0, .ref (ad 1 0)), (1, .int x1), (2, .int x2)] → W p l e (tq_rm 2 41) s m args below meth c H locs 0 0 (MQ below (va_Qi (fun r u => post u r) (fun u => tq_P D cy z H0 ad N u M) (fun q => z ≤ q)) args s 0 0 (fun q => z ≤ q)) (F0 m 16 ls []) := by
  obtain ⟨hx, hb, hr, hml, hown, hts, hlocks, hK, hG⟩ := id C
  have hw : ∀ w ∈ tq_W, w.before args s = true := fun w h => hts w (List.mem_cons_of_mem _ h)
  intro S x1 x2 H locs ls h hW hS hl
  unfold wbX11_entry_16 at h
  refine lv_iconst (v := 0) hx hb dX11_entry_16 (by decide) ?_
  exact bX11_entry_17 C  _ _ _ _ _ _ _ h hW hS (lv_sub hl [0, 1, 2] rfl)
set_option maxHeartbeats 4000000 in
set_option maxRecDepth 100000 in
theorem kX11_entry {post : tq_St → Int32 → Prop} {S : tq_St} {p0 : Int32} {p1 : Int32} (h : wpX11_entry N post S p0 p1) : tq_sI l yX11_entry (tq_ws yX11_entry cX11_entry 4 (some .int)) 2 41 D cy z H0 ad N M S [.ref (ad 1 0), .int p0, .int p1] post := by
  unfold wpX11_entry at h
  refine Met.ofW (cc := cX11_entry) (maxL := 4) (ret := (some .int)) (by decide) rfl ?_
  intro p e s m args below meth c s₁ B hml hv
  obtain ⟨rfl, hW, hK, hG⟩ := hv
  have hx := B.exec
  have hb := B.bytes
  have hr := B.returns
  have hts := atoms_spec (ws := (tq_ws yX11_entry cX11_entry 4 (some .int))) B.pre
  have hw : ∀ w ∈ tq_W, w.before _ s = true := fun w h => hts w (List.mem_cons_of_mem _ h)
  have hown : s.vm.findClass RX11 = some m.cls := findClass_of_methodNamed B.named
  have hlocks := B.notSynchronized
  have C : tq_At p s m meth c [.ref (ad 1 0), .int p0, .int p1].toArray cX11_entry 4 ((some .int)) ((tq_ws yX11_entry cX11_entry 4 (some .int))) RX11 D cy z ad := ⟨hx, hb, hr, hml, hown, hts, hlocks, hK, hG⟩
  have hS : va_S (fun q => z ≤ q) s.heap s.heap [] := va_S.rf
  have hl := lv_entry ([.ref (ad 1 0), .int p0, .int p1]) (n := 4) (Nat.le_of_ble_eq_true rfl)
  rw [lg_entry_eq]
  generalize (lg_sl ([.ref (ad 1 0), .int p0, .int p1]) ++ List.replicate (4 - (lg_sl ([.ref (ad 1 0), .int p0, .int p1])).length) Slot.unset).toArray = ls at hl ⊢
  have hl : lv_has ls 4 [(0, .ref (ad 1 0)), (1, .int p0), (2, .int p1)] := hl
  have hW : tq_wd D cy z H0 ad N (tq_mix S M) s.heap := hW
  refine lv_iload_n hx hb dX11_entry_0 rfl (lv_at hl 1 rfl) ?_
  refine lv_if_lt (tgt := 16) hx hb dX11_entry_1 (by decide) (fun c1 => ?_) (fun c1 => ?_)
  · have h := h.1 c1
    exact bX11_entry_16 C  _ _ _ _ _ _ h hW hS (lv_sub hl [0, 1, 2] rfl)
  · have h := h.2 c1
    refine lv_iload_n hx hb dX11_entry_4 rfl (lv_at hl 1 rfl) ?_
    refine lv_aload_n hx hb dX11_entry_5 rfl (lv_at hl 0 rfl) ?_
    refine tqc_callVi (As := []) (rest := [.int p0]) (kX11_entriesKept h) ⟨hx, hb, hml, hown, hts⟩ (cwV 0 hts (tq_goodV tw_1220 tw_1222 tw_46 tw_115 tw_1223) rfl rfl rfl (by decide +kernel) ⟨(Nat.le_of_ble_eq_true rfl), (Nat.le_of_ble_eq_true rfl)⟩) (tq_recvC hK hW (by decide) (tq_mk_1 (by decide)) rfl) hK hG hW hS rfl hl.1 rfl (Nat.le_of_ble_eq_true rfl) dX11_entry_6 ⟨(Nat.le_of_ble_eq_true rfl), (Nat.le_of_ble_eq_true rfl)⟩ (fun r3 S2 H locs h hW hS => ?_)
    refine lv_icmp_ge (tgt := 16) hx hb dX11_entry_9 (by decide) (fun c4 => ?_) (fun c4 => ?_)
    · have h := h.1 c4
      exact bX11_entry_16 C  _ _ _ _ _ _ h hW hS (lv_sub hl [0, 1, 2] rfl)
    · have h := h.2 c4
      refine lv_iconst (v := 1) hx hb dX11_entry_12 (by decide) ?_
      refine lv_goto (tgt := 17) hx hb dX11_entry_13 (by decide) ?_
      exact bX11_entry_17 C  _ _ _ _ _ _ _ h hW hS (lv_sub hl [0, 1, 2] rfl)
-- X11 open
def wbX11_open_29 (N : tq_Nn) (post : tq_St → Int32 → Prop)  (S : tq_St) (y0 : Int32) : Prop :=
  post S y0
def wbX11_open_28 (N : tq_Nn) (post : tq_St → Int32 → Prop)  (S : tq_St) : Prop :=
  wbX11_open_29 N post S ((-1))
def wpX11_open (N : tq_Nn) (post : tq_St → Int32 → Prop) (S : tq_St) (p0 : Int32) (p1 : Int32) : Prop :=
  wpX11_isFactory N (fun S1 r2 => (r2 = 0 → (wbX11_open_28 N post S1 )) ∧ (¬ r2 = 0 → (wpX11_isSort N (fun S4 r5 => (r5 = 0 → (wbX11_open_28 N post S4 )) ∧ (¬ r5 = 0 → (vp_in p0 5 ∧ (vp_in p1 4 ∧ (wbX11_open_29 N post S4 (S4 35 p0.toNatClampNeg p1.toNatClampNeg)))))) S1 p1))) S p0
set_option maxHeartbeats 4000000 in
set_option maxRecDepth 100000 in
theorem bX11_open_29 {p : Program} {e : Env} {s : State} {m : MethodId} {args : Array Value} {below : List Frame} {meth : Method} {c : Code} {post : tq_St → Int32 → Prop} (C : tq_At p s m meth c args cX11_open 3 ((some .int)) ((tq_ws yX11_open cX11_open 3 (some .int))) RX11 D cy z ad)  : ∀ (S : tq_St) (y0 : Int32) (H : Heap) (locs : List Loc) (ls : Array Slot), wbX11_open_29 N post   S y0 → tq_wd D cy z H0 ad N (tq_mix S M) H → va_S (fun q => z ≤ q) s.heap H locs → lv_has ls 3 [] → W p l e (tq_rm 1 20) s m args below meth c H locs 0 0 (MQ below (va_Qi (fun r u => post u r) (fun u => tq_P D cy z H0 ad N u M) (fun q => z ≤ q)) args s 0 0 (fun q => z ≤ q)) (F0 m 29 ls [.int y0]) := by
  obtain ⟨hx, hb, hr, hml, hown, hts, hlocks, hK, hG⟩ := id C
  have hw : ∀ w ∈ tq_W, w.before args s = true := fun w h => hts w (List.mem_cons_of_mem _ h)
  intro S y0 H locs ls h hW hS hl
  unfold wbX11_open_29 at h
  exact W.iret (v := y0) hx hb hr (fun t ht hWm => ⟨⟨_, S, rfl, h, tq_pe ht hW⟩, hS.F ht⟩) hS.2.2 dX11_open_29
set_option maxHeartbeats 4000000 in
set_option maxRecDepth 100000 in
theorem bX11_open_28 {p : Program} {e : Env} {s : State} {m : MethodId} {args : Array Value} {below : List Frame} {meth : Method} {c : Code} {post : tq_St → Int32 → Prop} (C : tq_At p s m meth c args cX11_open 3 ((some .int)) ((tq_ws yX11_open cX11_open 3 (some .int))) RX11 D cy z ad)  : ∀ (S : tq_St)  (H : Heap) (locs : List Loc) (ls : Array Slot), wbX11_open_28 N post   S  → tq_wd D cy z H0 ad N (tq_mix S M) H → va_S (fun q => z ≤ q) s.heap H locs → lv_has ls 3 [] → W p l e (tq_rm 1 20) s m args below meth c H locs 0 0 (MQ below (va_Qi (fun r u => post u r) (fun u => tq_P D cy z H0 ad N u M) (fun q => z ≤ q)) args s 0 0 (fun q => z ≤ q)) (F0 m 28 ls []) := by
  obtain ⟨hx, hb, hr, hml, hown, hts, hlocks, hK, hG⟩ := id C
  have hw : ∀ w ∈ tq_W, w.before args s = true := fun w h => hts w (List.mem_cons_of_mem _ h)
  intro S  H locs ls h hW hS hl
  unfold wbX11_open_28 at h
  refine lv_iconst (v := (-1)) hx hb dX11_open_28 (by decide) ?_
  exact bX11_open_29 C  _ _ _ _ _ h hW hS (lv_sub hl [] rfl)
set_option maxHeartbeats 4000000 in
set_option maxRecDepth 100000 in
theorem kX11_open {post : tq_St → Int32 → Prop} {S : tq_St} {p0 : Int32} {p1 : Int32} (h : wpX11_open N post S p0 p1) : tq_sI l yX11_open (tq_ws yX11_open cX11_open 3 (some .int)) 1 20 D cy z H0 ad N M S [.ref (ad 1 0), .int p0, .int p1] post := by
  unfold wpX11_open at h
  refine Met.ofW (cc := cX11_open) (maxL := 3) (ret := (some .int)) (by decide) rfl ?_
  intro p e s m args below meth c s₁ B hml hv
  obtain ⟨rfl, hW, hK, hG⟩ := hv
  have hx := B.exec
  have hb := B.bytes
  have hr := B.returns
  have hts := atoms_spec (ws := (tq_ws yX11_open cX11_open 3 (some .int))) B.pre
  have hw : ∀ w ∈ tq_W, w.before _ s = true := fun w h => hts w (List.mem_cons_of_mem _ h)
  have hown : s.vm.findClass RX11 = some m.cls := findClass_of_methodNamed B.named
  have hlocks := B.notSynchronized
  have C : tq_At p s m meth c [.ref (ad 1 0), .int p0, .int p1].toArray cX11_open 3 ((some .int)) ((tq_ws yX11_open cX11_open 3 (some .int))) RX11 D cy z ad := ⟨hx, hb, hr, hml, hown, hts, hlocks, hK, hG⟩
  have hS : va_S (fun q => z ≤ q) s.heap s.heap [] := va_S.rf
  have hl := lv_entry ([.ref (ad 1 0), .int p0, .int p1]) (n := 3) (Nat.le_of_ble_eq_true rfl)
  rw [lg_entry_eq]
  generalize (lg_sl ([.ref (ad 1 0), .int p0, .int p1]) ++ List.replicate (3 - (lg_sl ([.ref (ad 1 0), .int p0, .int p1])).length) Slot.unset).toArray = ls at hl ⊢
  have hl : lv_has ls 3 [(0, .ref (ad 1 0)), (1, .int p0), (2, .int p1)] := hl
  have hW : tq_wd D cy z H0 ad N (tq_mix S M) s.heap := hW
  refine lv_iload_n hx hb dX11_open_0 rfl (lv_at hl 1 rfl) ?_
  refine tqc_callSi (As := [.int p0]) (rest := []) (kX11_isFactory h) ⟨hx, hb, hml, hown, hts⟩ (va_cwS 1 hts (tq_goodS tw_402 tw_403 tw_115 tw_404) rfl rfl rfl (by decide +kernel) ⟨(Nat.le_of_ble_eq_true rfl), (Nat.le_of_ble_eq_true rfl)⟩) hK hG hW hS rfl hl.1 rfl (Nat.le_of_ble_eq_true rfl) dX11_open_1 ⟨(Nat.le_of_ble_eq_true rfl), (Nat.le_of_ble_eq_true rfl)⟩ (fun r2 S1 H locs h hW hS => ?_)
  refine lv_if_eq (tgt := 28) hx hb dX11_open_4 (by decide) (fun c3 => ?_) (fun c3 => ?_)
  · have h := h.1 c3
    exact bX11_open_28 C  _  _ _ _ h hW hS (lv_sub hl [] rfl)
  · have h := h.2 c3
    refine lv_iload_n hx hb dX11_open_7 rfl (lv_at hl 2 rfl) ?_
    refine tqc_callSi (As := [.int p1]) (rest := []) (kX11_isSort h) ⟨hx, hb, hml, hown, hts⟩ (va_cwS 1 hts (tq_goodS tw_412 tw_413 tw_115 tw_414) rfl rfl rfl (by decide +kernel) ⟨(Nat.le_of_ble_eq_true rfl), (Nat.le_of_ble_eq_true rfl)⟩) hK hG hW hS rfl hl.1 rfl (Nat.le_of_ble_eq_true rfl) dX11_open_8 ⟨(Nat.le_of_ble_eq_true rfl), (Nat.le_of_ble_eq_true rfl)⟩ (fun r5 S4 H locs h hW hS => ?_)
    refine lv_if_eq (tgt := 28) hx hb dX11_open_11 (by decide) (fun c6 => ?_) (fun c6 => ?_)
    · have h := h.1 c6
      exact bX11_open_28 C  _  _ _ _ h hW hS (lv_sub hl [] rfl)
    · have h := h.2 c6
      refine lv_aload_n hx hb dX11_open_14 rfl (lv_at hl 0 rfl) ?_
      refine tqc_get (v := .ref (ad 12 0)) hx hb hw tq_inX11 hown hK hW (by decide) (tq_mk_1 (by decide)) rfl 1 (by decide) (hw _ tw_338) (fun _ h9 => h9) rfl dX11_open_15 ?_
      refine lv_iload_n hx hb dX11_open_18 rfl (lv_at hl 1 rfl) ?_
      obtain ⟨b7, h⟩ := h
      refine tqc_aald (jn := p0.toNatClampNeg) (v := .ref (ad 2 p0.toNatClampNeg)) hx hb hK hW (by decide) (tq_mk_12 (by decide)) 3 rfl rfl b7 rfl rfl dX11_open_19 ?_
      refine tqc_get (v := .ref (ad 35 p0.toNatClampNeg)) hx hb hw tq_inX5 hown hK hW (by decide) (tq_mk_2 (tq_lt b7)) rfl 11 (by decide) (hw _ tw_274) (fun _ h9 => h9) rfl dX11_open_20 ?_
      refine lv_iload_n hx hb dX11_open_23 rfl (lv_at hl 2 rfl) ?_
      obtain ⟨b8, h⟩ := h
      refine tqc_iald (jn := p1.toNatClampNeg) hx hb hK hW (by decide) (tq_mk_35 (tq_lt b7)) b8 rfl dX11_open_24 ?_
      refine lv_goto (tgt := 29) hx hb dX11_open_25 (by decide) ?_
      exact bX11_open_29 C  _ _ _ _ _ h hW hS (lv_sub hl [] rfl)
-- X11 accept
def wbX11_accept_28 (N : tq_Nn) (post : tq_St → Int32 → Prop)  (S : tq_St) : Prop :=
  post S ((-3))
def wpX11_accept (N : tq_Nn) (post : tq_St → Int32 → Prop) (S : tq_St) (p0 : Int32) : Prop :=
  wpX11_billAt N (fun S1 => post S1 ((-1))) (fun S1 i2 => N 7 i2 = 1 ∧ ¬ S1 7 i2 13 = 0 ∧ (N 50 i2 = 1 ∧ (((S1 50 i2 0) < 0 → (wbX11_accept_28 N post S1 )) ∧ (¬ (S1 50 i2 0) < 0 → (((S1 7 i2 10) = 0 → ((∀ S8, S8 = tq_up S1 7 i2 10 1 → (¬ S8 7 i2 13 = 0 ∧ (∀ S10, S10 = tq_up S8 7 i2 11 ((S8 1 0 0) + 60) → (¬ S10 7 i2 13 = 0 ∧ (post S10 (S10 7 i2 11)))))))) ∧ (¬ (S1 7 i2 10) = 0 → (wbX11_accept_28 N post S1 ))))))) S p0
set_option maxHeartbeats 4000000 in
set_option maxRecDepth 100000 in
theorem bX11_accept_28 {p : Program} {e : Env} {s : State} {m : MethodId} {args : Array Value} {below : List Frame} {meth : Method} {c : Code} {post : tq_St → Int32 → Prop} (C : tq_At p s m meth c args cX11_accept 3 ((some .int)) ((tq_ws yX11_accept cX11_accept 3 (some .int))) RX11 D cy z ad)  : ∀ (S : tq_St)  (H : Heap) (locs : List Loc) (ls : Array Slot), wbX11_accept_28 N post   S  → tq_wd D cy z H0 ad N (tq_mix S M) H → va_S (fun q => z ≤ q) s.heap H locs → lv_has ls 3 [] → W p l e (tq_rm 4 87) s m args below meth c H locs 0 0 (MQ below (va_Qi (fun r u => post u r) (fun u => tq_P D cy z H0 ad N u M) (fun q => z ≤ q)) args s 0 0 (fun q => z ≤ q)) (F0 m 28 ls []) := by
  obtain ⟨hx, hb, hr, hml, hown, hts, hlocks, hK, hG⟩ := id C
  have hw : ∀ w ∈ tq_W, w.before args s = true := fun w h => hts w (List.mem_cons_of_mem _ h)
  intro S  H locs ls h hW hS hl
  unfold wbX11_accept_28 at h
  refine lv_bipush (v := (-3)) hx hb dX11_accept_28 (by decide) ?_
  exact W.iret (v := (-3)) hx hb hr (fun t ht hWm => ⟨⟨_, S, rfl, h, tq_pe ht hW⟩, hS.F ht⟩) hS.2.2 dX11_accept_30
set_option maxHeartbeats 4000000 in
set_option maxRecDepth 100000 in
theorem kX11_accept {post : tq_St → Int32 → Prop} {S : tq_St} {p0 : Int32} (h : wpX11_accept N post S p0) : tq_sI l yX11_accept (tq_ws yX11_accept cX11_accept 3 (some .int)) 4 87 D cy z H0 ad N M S [.ref (ad 1 0), .int p0] post := by
  unfold wpX11_accept at h
  refine Met.ofW (cc := cX11_accept) (maxL := 3) (ret := (some .int)) (by decide) rfl ?_
  intro p e s m args below meth c s₁ B hml hv
  obtain ⟨rfl, hW, hK, hG⟩ := hv
  have hx := B.exec
  have hb := B.bytes
  have hr := B.returns
  have hts := atoms_spec (ws := (tq_ws yX11_accept cX11_accept 3 (some .int))) B.pre
  have hw : ∀ w ∈ tq_W, w.before _ s = true := fun w h => hts w (List.mem_cons_of_mem _ h)
  have hown : s.vm.findClass RX11 = some m.cls := findClass_of_methodNamed B.named
  have hlocks := B.notSynchronized
  have C : tq_At p s m meth c [.ref (ad 1 0), .int p0].toArray cX11_accept 3 ((some .int)) ((tq_ws yX11_accept cX11_accept 3 (some .int))) RX11 D cy z ad := ⟨hx, hb, hr, hml, hown, hts, hlocks, hK, hG⟩
  have hS : va_S (fun q => z ≤ q) s.heap s.heap [] := va_S.rf
  have hl := lv_entry ([.ref (ad 1 0), .int p0]) (n := 3) (Nat.le_of_ble_eq_true rfl)
  rw [lg_entry_eq]
  generalize (lg_sl ([.ref (ad 1 0), .int p0]) ++ List.replicate (3 - (lg_sl ([.ref (ad 1 0), .int p0])).length) Slot.unset).toArray = ls at hl ⊢
  have hl : lv_has ls 3 [(0, .ref (ad 1 0)), (1, .int p0)] := hl
  have hW : tq_wd D cy z H0 ad N (tq_mix S M) s.heap := hW
  refine lv_aload_n hx hb dX11_accept_0 rfl (lv_at hl 0 rfl) ?_
  refine lv_iload_n hx hb dX11_accept_1 rfl (lv_at hl 1 rfl) ?_
  refine tqc_callVn (As := [.int p0]) (rest := []) (kX11_billAt h) ⟨hx, hb, hml, hown, hts⟩ (cwV 1 hts (tq_goodV tw_1232 tw_1234 tw_47 tw_115 tw_1235) rfl rfl rfl (by decide +kernel) ⟨(Nat.le_of_ble_eq_true rfl), (Nat.le_of_ble_eq_true rfl)⟩) (tq_recvC hK hW (by decide) (tq_mk_1 (by decide)) rfl) hK hG hW hS rfl hl.1 rfl (Nat.le_of_ble_eq_true rfl) dX11_accept_2 ⟨(Nat.le_of_ble_eq_true rfl), (Nat.le_of_ble_eq_true rfl)⟩ (fun S1 H locs h hW hS => ?_) (fun i2 S1 H locs h hW hS => ?_)
  ·
    refine lv_astore_nN (lv' := [(2, .null), (0, .ref (ad 1 0)), (1, .int p0)]) hx hb dX11_accept_5 rfl hl (by decide) rfl (fun ls hl => ?_)
    refine lv_aload_nN hx hb dX11_accept_6 rfl (lv_at hl 0 rfl) ?_
    refine lv_ifnonnullN hx hb dX11_accept_7 ?_
    refine lv_iconst (v := (-1)) hx hb dX11_accept_10 (by decide) ?_
    exact W.iret (v := (-1)) hx hb hr (fun t ht hWm => ⟨⟨_, S1, rfl, h, tq_pe ht hW⟩, hS.F ht⟩) hS.2.2 dX11_accept_11
  ·
    refine lv_astore_n (lv' := [(2, .ref (ad 7 i2)), (0, .ref (ad 1 0)), (1, .int p0)]) hx hb dX11_accept_5 rfl hl (by decide) rfl (fun ls hl => ?_)
    refine lv_aload_n hx hb dX11_accept_6 rfl (lv_at hl 0 rfl) ?_
    refine lv_ifnonnull (tgt := 12) hx hb dX11_accept_7 (by decide) ?_
    refine lv_aload_n hx hb dX11_accept_12 rfl (lv_at hl 0 rfl) ?_
    obtain ⟨b3, h⟩ := h
    obtain ⟨b4, h⟩ := h
    refine tqc_getB (v := .ref (ad 50 i2)) hx hb hw tq_inX1 hown hK hW b3 b4 5 (by decide) (hw _ tw_526) (fun x h9 => u_same (hw _ tw_527) x h9) rfl dX11_accept_13 ?_
    refine lv_iconst (v := 0) hx hb dX11_accept_16 (by decide) ?_
    obtain ⟨b5, h⟩ := h
    refine tqc_iald (jn := 0) hx hb hK hW (by decide) (tq_mk_50 b5) (by unfold vp_in; decide) (by decide) dX11_accept_17 ?_
    refine lv_if_lt (tgt := 28) hx hb dX11_accept_18 (by decide) (fun c6 => ?_) (fun c6 => ?_)
    · have h := h.1 c6
      exact bX11_accept_28 C  _  _ _ _ h hW hS (lv_sub hl [] rfl)
    · have h := h.2 c6
      refine lv_aload_n hx hb dX11_accept_21 rfl (lv_at hl 0 rfl) ?_
      refine tqc_getB (v := .int (S1 7 i2 10)) hx hb hw tq_inX1 hown hK hW b3 b4 10 (by decide) (hw _ tw_1194) (fun _ h9 => h9) rfl dX11_accept_22 ?_
      refine lv_if_eq (tgt := 31) hx hb dX11_accept_25 (by decide) (fun c7 => ?_) (fun c7 => ?_)
      · have h := h.1 c7
        refine lv_aload_n hx hb dX11_accept_31 rfl (lv_at hl 0 rfl) ?_
        refine lv_iconst (v := 1) hx hb dX11_accept_32 (by decide) ?_
        refine tqc_putB hx hb hw tq_inX1 hown hK hW hS b3 b4 10 (by decide) (hw _ tw_1194) (fun _ h9 => h9) dX11_accept_33 (fun H locs hW hS => ?_)
        generalize eS8 : tq_up S1 7 i2 10 1 = S8 at hW
        have h := h S8 eS8.symm
        refine lv_aload_n hx hb dX11_accept_36 rfl (lv_at hl 0 rfl) ?_
        refine lv_aload_n hx hb dX11_accept_37 rfl (lv_at hl 1 rfl) ?_
        refine tqc_get (v := .int (S8 1 0 0)) hx hb hw tq_inX11 hown hK hW (by decide) (tq_mk_1 (by decide)) rfl 0 (by decide) (hw _ tw_337) (fun _ h9 => h9) rfl dX11_accept_38 ?_
        refine lv_bipush (v := 60) hx hb dX11_accept_41 (by decide) ?_
        refine lv_iadd hx hb dX11_accept_43 ?_
        obtain ⟨b9, h⟩ := h
        refine tqc_putB hx hb hw tq_inX1 hown hK hW hS b3 b9 11 (by decide) (hw _ tw_1196) (fun _ h9 => h9) dX11_accept_44 (fun H locs hW hS => ?_)
        generalize eS10 : tq_up S8 7 i2 11 ((S8 1 0 0) + 60) = S10 at hW
        have h := h S10 eS10.symm
        refine lv_aload_n hx hb dX11_accept_47 rfl (lv_at hl 0 rfl) ?_
        obtain ⟨b11, h⟩ := h
        refine tqc_getB (v := .int (S10 7 i2 11)) hx hb hw tq_inX1 hown hK hW b3 b11 11 (by decide) (hw _ tw_1196) (fun _ h9 => h9) rfl dX11_accept_48 ?_
        exact W.iret (v := S10 7 i2 11) hx hb hr (fun t ht hWm => ⟨⟨_, S10, rfl, h, tq_pe ht hW⟩, hS.F ht⟩) hS.2.2 dX11_accept_51
      · have h := h.2 c7
        exact bX11_accept_28 C  _  _ _ _ h hW hS (lv_sub hl [] rfl)
-- X11 bill
def wpX11_bill (N : tq_Nn) (post : tq_St → Int32 → Prop) (S : tq_St) (p0 : Int32) (p1 : Int32) : Prop :=
  wpX11_billAt N (fun S1 => post S1 ((-5))) (fun S1 i2 => (p1 = 0 → (N 7 i2 = 1 ∧ ¬ S1 7 i2 13 = 0 ∧ (post S1 (S1 7 i2 10)))) ∧ (¬ p1 = 0 → ((p1 = 1 → (N 7 i2 = 1 ∧ ¬ S1 7 i2 13 = 0 ∧ (post S1 (S1 7 i2 11)))) ∧ (¬ p1 = 1 → ((p1 = 2 → (N 7 i2 = 1 ∧ ¬ S1 7 i2 13 = 0 ∧ (post S1 (S1 7 i2 12)))) ∧ (¬ p1 = 2 → (post S1 ((-5))))))))) S p0
set_option maxHeartbeats 4000000 in
set_option maxRecDepth 100000 in
theorem kX11_bill {post : tq_St → Int32 → Prop} {S : tq_St} {p0 : Int32} {p1 : Int32} (h : wpX11_bill N post S p0 p1) : tq_sI l yX11_bill (tq_ws yX11_bill cX11_bill 4 (some .int)) 4 87 D cy z H0 ad N M S [.ref (ad 1 0), .int p0, .int p1] post := by
  unfold wpX11_bill at h
  refine Met.ofW (cc := cX11_bill) (maxL := 4) (ret := (some .int)) (by decide) rfl ?_
  intro p e s m args below meth c s₁ B hml hv
  obtain ⟨rfl, hW, hK, hG⟩ := hv
  have hx := B.exec
  have hb := B.bytes
  have hr := B.returns
  have hts := atoms_spec (ws := (tq_ws yX11_bill cX11_bill 4 (some .int))) B.pre
  have hw : ∀ w ∈ tq_W, w.before _ s = true := fun w h => hts w (List.mem_cons_of_mem _ h)
  have hown : s.vm.findClass RX11 = some m.cls := findClass_of_methodNamed B.named
  have hlocks := B.notSynchronized
  have C : tq_At p s m meth c [.ref (ad 1 0), .int p0, .int p1].toArray cX11_bill 4 ((some .int)) ((tq_ws yX11_bill cX11_bill 4 (some .int))) RX11 D cy z ad := ⟨hx, hb, hr, hml, hown, hts, hlocks, hK, hG⟩
  have hS : va_S (fun q => z ≤ q) s.heap s.heap [] := va_S.rf
  have hl := lv_entry ([.ref (ad 1 0), .int p0, .int p1]) (n := 4) (Nat.le_of_ble_eq_true rfl)
  rw [lg_entry_eq]
  generalize (lg_sl ([.ref (ad 1 0), .int p0, .int p1]) ++ List.replicate (4 - (lg_sl ([.ref (ad 1 0), .int p0, .int p1])).length) Slot.unset).toArray = ls at hl ⊢
  have hl : lv_has ls 4 [(0, .ref (ad 1 0)), (1, .int p0), (2, .int p1)] := hl
  have hW : tq_wd D cy z H0 ad N (tq_mix S M) s.heap := hW
  refine lv_aload_n hx hb dX11_bill_0 rfl (lv_at hl 0 rfl) ?_
  refine lv_iload_n hx hb dX11_bill_1 rfl (lv_at hl 1 rfl) ?_
  refine tqc_callVn (As := [.int p0]) (rest := []) (kX11_billAt h) ⟨hx, hb, hml, hown, hts⟩ (cwV 1 hts (tq_goodV tw_1232 tw_1234 tw_47 tw_115 tw_1235) rfl rfl rfl (by decide +kernel) ⟨(Nat.le_of_ble_eq_true rfl), (Nat.le_of_ble_eq_true rfl)⟩) (tq_recvC hK hW (by decide) (tq_mk_1 (by decide)) rfl) hK hG hW hS rfl hl.1 rfl (Nat.le_of_ble_eq_true rfl) dX11_bill_2 ⟨(Nat.le_of_ble_eq_true rfl), (Nat.le_of_ble_eq_true rfl)⟩ (fun S1 H locs h hW hS => ?_) (fun i2 S1 H locs h hW hS => ?_)
  ·
    refine lv_astore_nN (lv' := [(3, .null), (0, .ref (ad 1 0)), (1, .int p0), (2, .int p1)]) hx hb dX11_bill_5 rfl hl (by decide) rfl (fun ls hl => ?_)
    refine lv_aload_nN hx hb dX11_bill_6 rfl (lv_at hl 0 rfl) ?_
    refine lv_ifnonnullN hx hb dX11_bill_7 ?_
    refine lv_bipush (v := (-5)) hx hb dX11_bill_10 (by decide) ?_
    exact W.iret (v := (-5)) hx hb hr (fun t ht hWm => ⟨⟨_, S1, rfl, h, tq_pe ht hW⟩, hS.F ht⟩) hS.2.2 dX11_bill_12
  ·
    refine lv_astore_n (lv' := [(3, .ref (ad 7 i2)), (0, .ref (ad 1 0)), (1, .int p0), (2, .int p1)]) hx hb dX11_bill_5 rfl hl (by decide) rfl (fun ls hl => ?_)
    refine lv_aload_n hx hb dX11_bill_6 rfl (lv_at hl 0 rfl) ?_
    refine lv_ifnonnull (tgt := 13) hx hb dX11_bill_7 (by decide) ?_
    refine lv_iload_n hx hb dX11_bill_13 rfl (lv_at hl 3 rfl) ?_
    by_cases c3 : p1 = 0
    · have h := h.1 c3
      refine W.eq (g2 := F0 m 14 ls (.int 0 :: [])) (by rw [c3]) ?_
      refine lv_tableIn (tgt := 40) hx hb dX11_bill_14 (by decide) (by decide) rfl (by decide) ?_
      refine lv_aload_n hx hb dX11_bill_40 rfl (lv_at hl 0 rfl) ?_
      obtain ⟨b4, h⟩ := h
      obtain ⟨b5, h⟩ := h
      refine tqc_getB (v := .int (S1 7 i2 10)) hx hb hw tq_inX1 hown hK hW b4 b5 10 (by decide) (hw _ tw_1194) (fun _ h9 => h9) rfl dX11_bill_41 ?_
      exact W.iret (v := S1 7 i2 10) hx hb hr (fun t ht hWm => ⟨⟨_, S1, rfl, h, tq_pe ht hW⟩, hS.F ht⟩) hS.2.2 dX11_bill_44
    · have h := h.2 c3
      by_cases c6 : p1 = 1
      · have h := h.1 c6
        refine W.eq (g2 := F0 m 14 ls (.int 1 :: [])) (by rw [c6]) ?_
        refine lv_tableIn (tgt := 45) hx hb dX11_bill_14 (by decide) (by decide) rfl (by decide) ?_
        refine lv_aload_n hx hb dX11_bill_45 rfl (lv_at hl 0 rfl) ?_
        obtain ⟨b7, h⟩ := h
        obtain ⟨b8, h⟩ := h
        refine tqc_getB (v := .int (S1 7 i2 11)) hx hb hw tq_inX1 hown hK hW b7 b8 11 (by decide) (hw _ tw_1196) (fun _ h9 => h9) rfl dX11_bill_46 ?_
        exact W.iret (v := S1 7 i2 11) hx hb hr (fun t ht hWm => ⟨⟨_, S1, rfl, h, tq_pe ht hW⟩, hS.F ht⟩) hS.2.2 dX11_bill_49
      · have h := h.2 c6
        by_cases c9 : p1 = 2
        · have h := h.1 c9
          refine W.eq (g2 := F0 m 14 ls (.int 2 :: [])) (by rw [c9]) ?_
          refine lv_tableIn (tgt := 50) hx hb dX11_bill_14 (by decide) (by decide) rfl (by decide) ?_
          refine lv_aload_n hx hb dX11_bill_50 rfl (lv_at hl 0 rfl) ?_
          obtain ⟨b10, h⟩ := h
          obtain ⟨b11, h⟩ := h
          refine tqc_getB (v := .int (S1 7 i2 12)) hx hb hw tq_inX1 hown hK hW b10 b11 12 (by decide) (hw _ tw_1198) (fun _ h9 => h9) rfl dX11_bill_51 ?_
          exact W.iret (v := S1 7 i2 12) hx hb hr (fun t ht hWm => ⟨⟨_, S1, rfl, h, tq_pe ht hW⟩, hS.F ht⟩) hS.2.2 dX11_bill_54
        · have h := h.2 c9
          refine lv_tableOut (tgt := 55) hx hb dX11_bill_14 (tq_out3 c3 c6 c9) (by decide) ?_
          refine lv_bipush (v := (-5)) hx hb dX11_bill_55 (by decide) ?_
          exact W.iret (v := (-5)) hx hb hr (fun t ht hWm => ⟨⟨_, S1, rfl, h, tq_pe ht hW⟩, hS.F ht⟩) hS.2.2 dX11_bill_57
-- X11 refuse
def wbX11_refuse_28 (N : tq_Nn) (post : tq_St → Int32 → Prop)  (S : tq_St) : Prop :=
  post S ((-3))
def wpX11_refuse (N : tq_Nn) (post : tq_St → Int32 → Prop) (S : tq_St) (p0 : Int32) : Prop :=
  wpX11_billAt N (fun S1 => post S1 ((-1))) (fun S1 i2 => N 7 i2 = 1 ∧ ¬ S1 7 i2 13 = 0 ∧ (N 50 i2 = 1 ∧ (((S1 50 i2 0) < 0 → (wbX11_refuse_28 N post S1 )) ∧ (¬ (S1 50 i2 0) < 0 → (wpX1_isOpen N (fun S7 r8 => (¬ r8 = 0 → (¬ S7 7 i2 13 = 0 ∧ wpX1_settle N (fun S11 => ¬ S11 7 i2 13 = 0 ∧ (post S11 (S11 7 i2 12))) S7 i2 3 (S7 1 0 0))) ∧ (r8 = 0 → (wbX11_refuse_28 N post S7 ))) S1 i2))))) S p0
set_option maxHeartbeats 4000000 in
set_option maxRecDepth 100000 in
theorem bX11_refuse_28 {p : Program} {e : Env} {s : State} {m : MethodId} {args : Array Value} {below : List Frame} {meth : Method} {c : Code} {post : tq_St → Int32 → Prop} (C : tq_At p s m meth c args cX11_refuse 3 ((some .int)) ((tq_ws yX11_refuse cX11_refuse 3 (some .int))) RX11 D cy z ad)  : ∀ (S : tq_St)  (H : Heap) (locs : List Loc) (ls : Array Slot), wbX11_refuse_28 N post   S  → tq_wd D cy z H0 ad N (tq_mix S M) H → va_S (fun q => z ≤ q) s.heap H locs → lv_has ls 3 [] → W p l e (tq_rm 4 87) s m args below meth c H locs 0 0 (MQ below (va_Qi (fun r u => post u r) (fun u => tq_P D cy z H0 ad N u M) (fun q => z ≤ q)) args s 0 0 (fun q => z ≤ q)) (F0 m 28 ls []) := by
  obtain ⟨hx, hb, hr, hml, hown, hts, hlocks, hK, hG⟩ := id C
  have hw : ∀ w ∈ tq_W, w.before args s = true := fun w h => hts w (List.mem_cons_of_mem _ h)
  intro S  H locs ls h hW hS hl
  unfold wbX11_refuse_28 at h
  refine lv_bipush (v := (-3)) hx hb dX11_refuse_28 (by decide) ?_
  exact W.iret (v := (-3)) hx hb hr (fun t ht hWm => ⟨⟨_, S, rfl, h, tq_pe ht hW⟩, hS.F ht⟩) hS.2.2 dX11_refuse_30
set_option maxHeartbeats 4000000 in
set_option maxRecDepth 100000 in
theorem kX11_refuse {post : tq_St → Int32 → Prop} {S : tq_St} {p0 : Int32} (h : wpX11_refuse N post S p0) : tq_sI l yX11_refuse (tq_ws yX11_refuse cX11_refuse 3 (some .int)) 4 87 D cy z H0 ad N M S [.ref (ad 1 0), .int p0] post := by
  unfold wpX11_refuse at h
  refine Met.ofW (cc := cX11_refuse) (maxL := 3) (ret := (some .int)) (by decide) rfl ?_
  intro p e s m args below meth c s₁ B hml hv
  obtain ⟨rfl, hW, hK, hG⟩ := hv
  have hx := B.exec
  have hb := B.bytes
  have hr := B.returns
  have hts := atoms_spec (ws := (tq_ws yX11_refuse cX11_refuse 3 (some .int))) B.pre
  have hw : ∀ w ∈ tq_W, w.before _ s = true := fun w h => hts w (List.mem_cons_of_mem _ h)
  have hown : s.vm.findClass RX11 = some m.cls := findClass_of_methodNamed B.named
  have hlocks := B.notSynchronized
  have C : tq_At p s m meth c [.ref (ad 1 0), .int p0].toArray cX11_refuse 3 ((some .int)) ((tq_ws yX11_refuse cX11_refuse 3 (some .int))) RX11 D cy z ad := ⟨hx, hb, hr, hml, hown, hts, hlocks, hK, hG⟩
  have hS : va_S (fun q => z ≤ q) s.heap s.heap [] := va_S.rf
  have hl := lv_entry ([.ref (ad 1 0), .int p0]) (n := 3) (Nat.le_of_ble_eq_true rfl)
  rw [lg_entry_eq]
  generalize (lg_sl ([.ref (ad 1 0), .int p0]) ++ List.replicate (3 - (lg_sl ([.ref (ad 1 0), .int p0])).length) Slot.unset).toArray = ls at hl ⊢
  have hl : lv_has ls 3 [(0, .ref (ad 1 0)), (1, .int p0)] := hl
  have hW : tq_wd D cy z H0 ad N (tq_mix S M) s.heap := hW
  refine lv_aload_n hx hb dX11_refuse_0 rfl (lv_at hl 0 rfl) ?_
  refine lv_iload_n hx hb dX11_refuse_1 rfl (lv_at hl 1 rfl) ?_
  refine tqc_callVn (As := [.int p0]) (rest := []) (kX11_billAt h) ⟨hx, hb, hml, hown, hts⟩ (cwV 1 hts (tq_goodV tw_1232 tw_1234 tw_47 tw_115 tw_1235) rfl rfl rfl (by decide +kernel) ⟨(Nat.le_of_ble_eq_true rfl), (Nat.le_of_ble_eq_true rfl)⟩) (tq_recvC hK hW (by decide) (tq_mk_1 (by decide)) rfl) hK hG hW hS rfl hl.1 rfl (Nat.le_of_ble_eq_true rfl) dX11_refuse_2 ⟨(Nat.le_of_ble_eq_true rfl), (Nat.le_of_ble_eq_true rfl)⟩ (fun S1 H locs h hW hS => ?_) (fun i2 S1 H locs h hW hS => ?_)
  ·
    refine lv_astore_nN (lv' := [(2, .null), (0, .ref (ad 1 0)), (1, .int p0)]) hx hb dX11_refuse_5 rfl hl (by decide) rfl (fun ls hl => ?_)
    refine lv_aload_nN hx hb dX11_refuse_6 rfl (lv_at hl 0 rfl) ?_
    refine lv_ifnonnullN hx hb dX11_refuse_7 ?_
    refine lv_iconst (v := (-1)) hx hb dX11_refuse_10 (by decide) ?_
    exact W.iret (v := (-1)) hx hb hr (fun t ht hWm => ⟨⟨_, S1, rfl, h, tq_pe ht hW⟩, hS.F ht⟩) hS.2.2 dX11_refuse_11
  ·
    refine lv_astore_n (lv' := [(2, .ref (ad 7 i2)), (0, .ref (ad 1 0)), (1, .int p0)]) hx hb dX11_refuse_5 rfl hl (by decide) rfl (fun ls hl => ?_)
    refine lv_aload_n hx hb dX11_refuse_6 rfl (lv_at hl 0 rfl) ?_
    refine lv_ifnonnull (tgt := 12) hx hb dX11_refuse_7 (by decide) ?_
    refine lv_aload_n hx hb dX11_refuse_12 rfl (lv_at hl 0 rfl) ?_
    obtain ⟨b3, h⟩ := h
    obtain ⟨b4, h⟩ := h
    refine tqc_getB (v := .ref (ad 50 i2)) hx hb hw tq_inX1 hown hK hW b3 b4 5 (by decide) (hw _ tw_526) (fun x h9 => u_same (hw _ tw_527) x h9) rfl dX11_refuse_13 ?_
    refine lv_iconst (v := 0) hx hb dX11_refuse_16 (by decide) ?_
    obtain ⟨b5, h⟩ := h
    refine tqc_iald (jn := 0) hx hb hK hW (by decide) (tq_mk_50 b5) (by unfold vp_in; decide) (by decide) dX11_refuse_17 ?_
    refine lv_if_lt (tgt := 28) hx hb dX11_refuse_18 (by decide) (fun c6 => ?_) (fun c6 => ?_)
    · have h := h.1 c6
      exact bX11_refuse_28 C  _  _ _ _ h hW hS (lv_sub hl [] rfl)
    · have h := h.2 c6
      refine lv_aload_n hx hb dX11_refuse_21 rfl (lv_at hl 0 rfl) ?_
      refine tqc_callVi (As := []) (rest := []) (kX1_isOpen h) ⟨hx, hb, hml, hown, hts⟩ (cwV 0 hts (tq_goodV tw_1184 tw_1185 tw_1186 tw_139 tw_1187) rfl rfl rfl (by decide +kernel) ⟨(Nat.le_of_ble_eq_true rfl), (Nat.le_of_ble_eq_true rfl)⟩) (tq_recvC hK hW (by decide) (tq_mk_7b b3 b4) rfl) hK hG hW hS rfl hl.1 rfl (Nat.le_of_ble_eq_true rfl) dX11_refuse_22 ⟨(Nat.le_of_ble_eq_true rfl), (Nat.le_of_ble_eq_true rfl)⟩ (fun r8 S7 H locs h hW hS => ?_)
      refine lv_if_ne (tgt := 31) hx hb dX11_refuse_25 (by decide) (fun c9 => ?_) (fun c9 => ?_)
      · have h := h.1 c9
        refine lv_aload_n hx hb dX11_refuse_31 rfl (lv_at hl 0 rfl) ?_
        refine lv_iconst (v := 3) hx hb dX11_refuse_32 (by decide) ?_
        refine lv_aload_n hx hb dX11_refuse_33 rfl (lv_at hl 1 rfl) ?_
        refine tqc_get (v := .int (S7 1 0 0)) hx hb hw tq_inX11 hown hK hW (by decide) (tq_mk_1 (by decide)) rfl 0 (by decide) (hw _ tw_337) (fun _ h9 => h9) rfl dX11_refuse_34 ?_
        obtain ⟨b10, h⟩ := h
        refine tqc_callVv (As := [.int 3, .int (S7 1 0 0)]) (rest := []) (kX1_settle h) ⟨hx, hb, hml, hown, hts⟩ (cwV 2 hts (tq_goodV tw_1119 tw_1120 tw_1121 tw_139 tw_1122) rfl rfl rfl (by decide +kernel) ⟨(Nat.le_of_ble_eq_true rfl), (Nat.le_of_ble_eq_true rfl)⟩) (tq_recvC hK hW (by decide) (tq_mk_7b b3 b10) rfl) hK hG hW hS rfl hl.1 rfl (Nat.le_of_ble_eq_true rfl) dX11_refuse_37 ⟨(Nat.le_of_ble_eq_true rfl), (Nat.le_of_ble_eq_true rfl)⟩ (fun S11 H locs h hW hS => ?_)
        refine lv_aload_n hx hb dX11_refuse_40 rfl (lv_at hl 0 rfl) ?_
        obtain ⟨b12, h⟩ := h
        refine tqc_getB (v := .int (S11 7 i2 12)) hx hb hw tq_inX1 hown hK hW b3 b12 12 (by decide) (hw _ tw_1198) (fun _ h9 => h9) rfl dX11_refuse_41 ?_
        exact W.iret (v := S11 7 i2 12) hx hb hr (fun t ht hWm => ⟨⟨_, S11, rfl, h, tq_pe ht hW⟩, hS.F ht⟩) hS.2.2 dX11_refuse_44
      · have h := h.2 c9
        exact bX11_refuse_28 C  _  _ _ _ h hW hS (lv_sub hl [] rfl)
-- X11 wants
def wbX11_wants_16 (N : tq_Nn) (post : tq_St → Int32 → Prop)  (S : tq_St) : Prop :=
  post S ((-1))
def wbX11_wants_40 (N : tq_Nn) (post : tq_St → Int32 → Prop)  (S : tq_St) : Prop :=
  post S ((-2))
def wpX11_wants (N : tq_Nn) (post : tq_St → Int32 → Prop) (S : tq_St) (p0 : Int32) (p1 : Int32) (p2 : Int32) (p3 : Int32) : Prop :=
  wpX11_within N (fun S1 r2 => (r2 = 0 → (wbX11_wants_16 N post S1 )) ∧ (¬ r2 = 0 → (wpX11_isSort N (fun S4 r5 => (¬ r5 = 0 → (wpX11_within N (fun S7 r8 => (r8 = 0 → (wbX11_wants_40 N post S7 )) ∧ (¬ r8 = 0 → (wpX11_within N (fun S10 r11 => (¬ r11 = 0 → (vp_in p0 6 ∧ (vp_in p1 4 ∧ (∀ S15, S15 = tq_up S10 43 p0.toNatClampNeg p1.toNatClampNeg p2 → (∀ S16, S16 = tq_up S15 45 p0.toNatClampNeg p1.toNatClampNeg p3 → (post S16 (S10 43 p0.toNatClampNeg p1.toNatClampNeg))))))) ∧ (r11 = 0 → (wbX11_wants_40 N post S10 ))) S7 p3 0 999))) S4 p2 0 99)) ∧ (r5 = 0 → (wbX11_wants_16 N post S4 ))) S1 p1))) S p0 0 5
set_option maxHeartbeats 4000000 in
set_option maxRecDepth 100000 in
theorem bX11_wants_16 {p : Program} {e : Env} {s : State} {m : MethodId} {args : Array Value} {below : List Frame} {meth : Method} {c : Code} {post : tq_St → Int32 → Prop} (C : tq_At p s m meth c args cX11_wants 6 ((some .int)) ((tq_ws yX11_wants cX11_wants 6 (some .int))) RX11 D cy z ad)  : ∀ (S : tq_St)  (H : Heap) (locs : List Loc) (ls : Array Slot), wbX11_wants_16 N post   S  → tq_wd D cy z H0 ad N (tq_mix S M) H → va_S (fun q => z ≤ q) s.heap H locs → lv_has ls 6 [] → W p l e (tq_rm 1 22) s m args below meth c H locs 0 0 (MQ below (va_Qi (fun r u => post u r) (fun u => tq_P D cy z H0 ad N u M) (fun q => z ≤ q)) args s 0 0 (fun q => z ≤ q)) (F0 m 16 ls []) := by
  obtain ⟨hx, hb, hr, hml, hown, hts, hlocks, hK, hG⟩ := id C
  have hw : ∀ w ∈ tq_W, w.before args s = true := fun w h => hts w (List.mem_cons_of_mem _ h)
  intro S  H locs ls h hW hS hl
  unfold wbX11_wants_16 at h
  refine lv_iconst (v := (-1)) hx hb dX11_wants_16 (by decide) ?_
  exact W.iret (v := (-1)) hx hb hr (fun t ht hWm => ⟨⟨_, S, rfl, h, tq_pe ht hW⟩, hS.F ht⟩) hS.2.2 dX11_wants_17
set_option maxHeartbeats 4000000 in
set_option maxRecDepth 100000 in
theorem bX11_wants_40 {p : Program} {e : Env} {s : State} {m : MethodId} {args : Array Value} {below : List Frame} {meth : Method} {c : Code} {post : tq_St → Int32 → Prop} (C : tq_At p s m meth c args cX11_wants 6 ((some .int)) ((tq_ws yX11_wants cX11_wants 6 (some .int))) RX11 D cy z ad)  : ∀ (S : tq_St)  (H : Heap) (locs : List Loc) (ls : Array Slot), wbX11_wants_40 N post   S  → tq_wd D cy z H0 ad N (tq_mix S M) H → va_S (fun q => z ≤ q) s.heap H locs → lv_has ls 6 [] → W p l e (tq_rm 1 22) s m args below meth c H locs 0 0 (MQ below (va_Qi (fun r u => post u r) (fun u => tq_P D cy z H0 ad N u M) (fun q => z ≤ q)) args s 0 0 (fun q => z ≤ q)) (F0 m 40 ls []) := by
  obtain ⟨hx, hb, hr, hml, hown, hts, hlocks, hK, hG⟩ := id C
  have hw : ∀ w ∈ tq_W, w.before args s = true := fun w h => hts w (List.mem_cons_of_mem _ h)
  intro S  H locs ls h hW hS hl
  unfold wbX11_wants_40 at h
  refine lv_bipush (v := (-2)) hx hb dX11_wants_40 (by decide) ?_
  exact W.iret (v := (-2)) hx hb hr (fun t ht hWm => ⟨⟨_, S, rfl, h, tq_pe ht hW⟩, hS.F ht⟩) hS.2.2 dX11_wants_42
set_option maxHeartbeats 4000000 in
set_option maxRecDepth 100000 in
theorem kX11_wants {post : tq_St → Int32 → Prop} {S : tq_St} {p0 : Int32} {p1 : Int32} {p2 : Int32} {p3 : Int32} (h : wpX11_wants N post S p0 p1 p2 p3) : tq_sI l yX11_wants (tq_ws yX11_wants cX11_wants 6 (some .int)) 1 22 D cy z H0 ad N M S [.ref (ad 1 0), .int p0, .int p1, .int p2, .int p3] post := by
  unfold wpX11_wants at h
  refine Met.ofW (cc := cX11_wants) (maxL := 6) (ret := (some .int)) (by decide) rfl ?_
  intro p e s m args below meth c s₁ B hml hv
  obtain ⟨rfl, hW, hK, hG⟩ := hv
  have hx := B.exec
  have hb := B.bytes
  have hr := B.returns
  have hts := atoms_spec (ws := (tq_ws yX11_wants cX11_wants 6 (some .int))) B.pre
  have hw : ∀ w ∈ tq_W, w.before _ s = true := fun w h => hts w (List.mem_cons_of_mem _ h)
  have hown : s.vm.findClass RX11 = some m.cls := findClass_of_methodNamed B.named
  have hlocks := B.notSynchronized
  have C : tq_At p s m meth c [.ref (ad 1 0), .int p0, .int p1, .int p2, .int p3].toArray cX11_wants 6 ((some .int)) ((tq_ws yX11_wants cX11_wants 6 (some .int))) RX11 D cy z ad := ⟨hx, hb, hr, hml, hown, hts, hlocks, hK, hG⟩
  have hS : va_S (fun q => z ≤ q) s.heap s.heap [] := va_S.rf
  have hl := lv_entry ([.ref (ad 1 0), .int p0, .int p1, .int p2, .int p3]) (n := 6) (Nat.le_of_ble_eq_true rfl)
  rw [lg_entry_eq]
  generalize (lg_sl ([.ref (ad 1 0), .int p0, .int p1, .int p2, .int p3]) ++ List.replicate (6 - (lg_sl ([.ref (ad 1 0), .int p0, .int p1, .int p2, .int p3])).length) Slot.unset).toArray = ls at hl ⊢
  have hl : lv_has ls 6 [(0, .ref (ad 1 0)), (1, .int p0), (2, .int p1), (3, .int p2), (4, .int p3)] := hl
  have hW : tq_wd D cy z H0 ad N (tq_mix S M) s.heap := hW
  refine lv_iload_n hx hb dX11_wants_0 rfl (lv_at hl 1 rfl) ?_
  refine lv_iconst (v := 0) hx hb dX11_wants_1 (by decide) ?_
  refine lv_iconst (v := 5) hx hb dX11_wants_2 (by decide) ?_
  refine tqc_callSi (As := [.int p0, .int 0, .int 5]) (rest := []) (kX11_within h) ⟨hx, hb, hml, hown, hts⟩ (va_cwS 3 hts (tq_goodS tw_405 tw_406 tw_115 tw_407) rfl rfl rfl (by decide +kernel) ⟨(Nat.le_of_ble_eq_true rfl), (Nat.le_of_ble_eq_true rfl)⟩) hK hG hW hS rfl hl.1 rfl (Nat.le_of_ble_eq_true rfl) dX11_wants_3 ⟨(Nat.le_of_ble_eq_true rfl), (Nat.le_of_ble_eq_true rfl)⟩ (fun r2 S1 H locs h hW hS => ?_)
  refine lv_if_eq (tgt := 16) hx hb dX11_wants_6 (by decide) (fun c3 => ?_) (fun c3 => ?_)
  · have h := h.1 c3
    exact bX11_wants_16 C  _  _ _ _ h hW hS (lv_sub hl [] rfl)
  · have h := h.2 c3
    refine lv_iload_n hx hb dX11_wants_9 rfl (lv_at hl 2 rfl) ?_
    refine tqc_callSi (As := [.int p1]) (rest := []) (kX11_isSort h) ⟨hx, hb, hml, hown, hts⟩ (va_cwS 1 hts (tq_goodS tw_412 tw_413 tw_115 tw_414) rfl rfl rfl (by decide +kernel) ⟨(Nat.le_of_ble_eq_true rfl), (Nat.le_of_ble_eq_true rfl)⟩) hK hG hW hS rfl hl.1 rfl (Nat.le_of_ble_eq_true rfl) dX11_wants_10 ⟨(Nat.le_of_ble_eq_true rfl), (Nat.le_of_ble_eq_true rfl)⟩ (fun r5 S4 H locs h hW hS => ?_)
    refine lv_if_ne (tgt := 18) hx hb dX11_wants_13 (by decide) (fun c6 => ?_) (fun c6 => ?_)
    · have h := h.1 c6
      refine lv_iload_n hx hb dX11_wants_18 rfl (lv_at hl 3 rfl) ?_
      refine lv_iconst (v := 0) hx hb dX11_wants_19 (by decide) ?_
      refine lv_bipush (v := 99) hx hb dX11_wants_20 (by decide) ?_
      refine tqc_callSi (As := [.int p2, .int 0, .int 99]) (rest := []) (kX11_within h) ⟨hx, hb, hml, hown, hts⟩ (va_cwS 3 hts (tq_goodS tw_405 tw_406 tw_115 tw_407) rfl rfl rfl (by decide +kernel) ⟨(Nat.le_of_ble_eq_true rfl), (Nat.le_of_ble_eq_true rfl)⟩) hK hG hW hS rfl hl.1 rfl (Nat.le_of_ble_eq_true rfl) dX11_wants_22 ⟨(Nat.le_of_ble_eq_true rfl), (Nat.le_of_ble_eq_true rfl)⟩ (fun r8 S7 H locs h hW hS => ?_)
      refine lv_if_eq (tgt := 40) hx hb dX11_wants_25 (by decide) (fun c9 => ?_) (fun c9 => ?_)
      · have h := h.1 c9
        exact bX11_wants_40 C  _  _ _ _ h hW hS (lv_sub hl [] rfl)
      · have h := h.2 c9
        refine lv_iload hx hb dX11_wants_28 (lv_at hl 4 rfl) ?_
        refine lv_iconst (v := 0) hx hb dX11_wants_30 (by decide) ?_
        refine lv_sipush (v := 999) hx hb dX11_wants_31 (by decide) ?_
        refine tqc_callSi (As := [.int p3, .int 0, .int 999]) (rest := []) (kX11_within h) ⟨hx, hb, hml, hown, hts⟩ (va_cwS 3 hts (tq_goodS tw_405 tw_406 tw_115 tw_407) rfl rfl rfl (by decide +kernel) ⟨(Nat.le_of_ble_eq_true rfl), (Nat.le_of_ble_eq_true rfl)⟩) hK hG hW hS rfl hl.1 rfl (Nat.le_of_ble_eq_true rfl) dX11_wants_34 ⟨(Nat.le_of_ble_eq_true rfl), (Nat.le_of_ble_eq_true rfl)⟩ (fun r11 S10 H locs h hW hS => ?_)
        refine lv_if_ne (tgt := 43) hx hb dX11_wants_37 (by decide) (fun c12 => ?_) (fun c12 => ?_)
        · have h := h.1 c12
          refine lv_aload_n hx hb dX11_wants_43 rfl (lv_at hl 0 rfl) ?_
          refine tqc_get (v := .ref (ad 4 0)) hx hb hw tq_inX11 hown hK hW (by decide) (tq_mk_1 (by decide)) rfl 13 (by decide) (hw _ tw_350) (fun _ h9 => h9) rfl dX11_wants_44 ?_
          refine tqc_get (v := .ref (ad 42 0)) hx hb hw tq_inX2 hown hK hW (by decide) (tq_mk_4 (by decide)) rfl 0 (by decide) (hw _ tw_207) (fun _ h9 => h9) rfl dX11_wants_47 ?_
          refine lv_iload_n hx hb dX11_wants_50 rfl (lv_at hl 1 rfl) ?_
          obtain ⟨b13, h⟩ := h
          refine tqc_aald (jn := p0.toNatClampNeg) (v := .ref (ad 43 p0.toNatClampNeg)) hx hb hK hW (by decide) (tq_mk_42 (by decide)) 2 rfl rfl b13 rfl rfl dX11_wants_51 ?_
          refine lv_iload_n hx hb dX11_wants_52 rfl (lv_at hl 2 rfl) ?_
          obtain ⟨b14, h⟩ := h
          refine tqc_iald (jn := p1.toNatClampNeg) hx hb hK hW (by decide) (tq_mk_43 (tq_lt b13)) b14 rfl dX11_wants_53 ?_
          refine lv_istore (lv' := [(5, .int (S10 43 p0.toNatClampNeg p1.toNatClampNeg)), (0, .ref (ad 1 0)), (1, .int p0), (2, .int p1), (3, .int p2), (4, .int p3)]) hx hb dX11_wants_54 hl (by decide) rfl (fun ls hl => ?_)
          refine lv_aload_n hx hb dX11_wants_56 rfl (lv_at hl 1 rfl) ?_
          refine tqc_get (v := .ref (ad 4 0)) hx hb hw tq_inX11 hown hK hW (by decide) (tq_mk_1 (by decide)) rfl 13 (by decide) (hw _ tw_350) (fun _ h9 => h9) rfl dX11_wants_57 ?_
          refine tqc_get (v := .ref (ad 42 0)) hx hb hw tq_inX2 hown hK hW (by decide) (tq_mk_4 (by decide)) rfl 0 (by decide) (hw _ tw_207) (fun _ h9 => h9) rfl dX11_wants_60 ?_
          refine lv_iload_n hx hb dX11_wants_63 rfl (lv_at hl 2 rfl) ?_
          refine tqc_aald (jn := p0.toNatClampNeg) (v := .ref (ad 43 p0.toNatClampNeg)) hx hb hK hW (by decide) (tq_mk_42 (by decide)) 2 rfl rfl b13 rfl rfl dX11_wants_64 ?_
          refine lv_iload_n hx hb dX11_wants_65 rfl (lv_at hl 3 rfl) ?_
          refine lv_iload_n hx hb dX11_wants_66 rfl (lv_at hl 4 rfl) ?_
          refine tqc_iast (jn := p1.toNatClampNeg) hx hb hK hW hS (by decide) (tq_mk_43 (tq_lt b13)) b14 rfl (tq_mk_43 (tq_lt b13)) dX11_wants_67 (fun H locs hW hS => ?_)
          generalize eS15 : tq_up S10 43 p0.toNatClampNeg p1.toNatClampNeg p2 = S15 at hW
          have h := h S15 eS15.symm
          refine lv_aload_n hx hb dX11_wants_68 rfl (lv_at hl 1 rfl) ?_
          refine tqc_get (v := .ref (ad 4 0)) hx hb hw tq_inX11 hown hK hW (by decide) (tq_mk_1 (by decide)) rfl 13 (by decide) (hw _ tw_350) (fun _ h9 => h9) rfl dX11_wants_69 ?_
          refine tqc_get (v := .ref (ad 44 0)) hx hb hw tq_inX2 hown hK hW (by decide) (tq_mk_4 (by decide)) rfl 1 (by decide) (hw _ tw_209) (fun _ h9 => h9) rfl dX11_wants_72 ?_
          refine lv_iload_n hx hb dX11_wants_75 rfl (lv_at hl 2 rfl) ?_
          refine tqc_aald (jn := p0.toNatClampNeg) (v := .ref (ad 45 p0.toNatClampNeg)) hx hb hK hW (by decide) (tq_mk_44 (by decide)) 2 rfl rfl b13 rfl rfl dX11_wants_76 ?_
          refine lv_iload_n hx hb dX11_wants_77 rfl (lv_at hl 3 rfl) ?_
          refine lv_iload hx hb dX11_wants_78 (lv_at hl 5 rfl) ?_
          refine tqc_iast (jn := p1.toNatClampNeg) hx hb hK hW hS (by decide) (tq_mk_45 (tq_lt b13)) b14 rfl (tq_mk_45 (tq_lt b13)) dX11_wants_80 (fun H locs hW hS => ?_)
          generalize eS16 : tq_up S15 45 p0.toNatClampNeg p1.toNatClampNeg p3 = S16 at hW
          have h := h S16 eS16.symm
          refine lv_iload hx hb dX11_wants_81 (lv_at hl 0 rfl) ?_
          exact W.iret (v := S10 43 p0.toNatClampNeg p1.toNatClampNeg) hx hb hr (fun t ht hWm => ⟨⟨_, S16, rfl, h, tq_pe ht hW⟩, hS.F ht⟩) hS.2.2 dX11_wants_83
        · have h := h.2 c12
          exact bX11_wants_40 C  _  _ _ _ h hW hS (lv_sub hl [] rfl)
    · have h := h.2 c6
      exact bX11_wants_16 C  _  _ _ _ h hW hS (lv_sub hl [] rfl)
