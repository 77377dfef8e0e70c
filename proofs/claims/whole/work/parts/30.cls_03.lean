variable {l : Launch} {D : va_G} {cy : Nat → ClassId} {z : Nat} {H0 : Heap} {ad : Nat → Nat → Nat} {N : tq_Nn} {M : tq_St}
-- X11 trace
def wbX11_trace_33 (N : tq_Nn) (post : tq_St → Int32 → Prop)  (S : tq_St) (y0 : Int32) : Prop :=
  post S y0
def wbX11_trace_32 (N : tq_Nn) (post : tq_St → Int32 → Prop)  (S : tq_St) : Prop :=
  wbX11_trace_33 N post S ((-1))
def wpX11_trace (N : tq_Nn) (post : tq_St → Int32 → Prop) (S : tq_St) (p0 : Int32) : Prop :=
  (p0 < 0 → (wbX11_trace_32 N post S )) ∧ (¬ p0 < 0 → (((if 20 < (S 5 0 1) then 20 else (S 5 0 1)) ≤ p0 → (wbX11_trace_32 N post S )) ∧ (¬ (if 20 < (S 5 0 1) then 20 else (S 5 0 1)) ≤ p0 → (vp_in p0 20 ∧ (wbX11_trace_33 N post S (S 48 0 p0.toNatClampNeg))))))
set_option maxHeartbeats 4000000 in
set_option maxRecDepth 100000 in
theorem bX11_trace_33 {p : Program} {e : Env} {s : State} {m : MethodId} {args : Array Value} {below : List Frame} {meth : Method} {c : Code} {post : tq_St → Int32 → Prop} (C : tq_At p s m meth c args cX11_trace 2 ((some .int)) ((tq_ws yX11_trace cX11_trace 2 (some .int))) RX11 D cy z ad)  : ∀ (S : tq_St) (y0 : Int32) (H : Heap) (locs : List Loc) (ls : Array Slot), wbX11_trace_33 N post   S y0 → tq_wd D cy z H0 ad N (tq_mix S M) H → va_S (fun q => z ≤ q) s.heap H locs → lv_has ls 2 [] → W p l e (tq_rm 1 21) s m args below meth c H locs 0 0 (MQ below (va_Qi (fun r u => post u r) (fun u => tq_P D cy z H0 ad N u M) (fun q => z ≤ q)) args s 0 0 (fun q => z ≤ q)) (F0 m 33 ls [.int y0]) := by
  obtain ⟨hx, hb, hr, hml, hown, hts, hlocks, hK, hG⟩ := id C
  have hw : ∀ w ∈ tq_W, w.before args s = true := fun w h => hts w (List.mem_cons_of_mem _ h)
  intro S y0 H locs ls h hW hS hl
  unfold wbX11_trace_33 at h
  exact W.iret (v := y0) hx hb hr (fun t ht hWm => ⟨⟨_, S, rfl, h, tq_pe ht hW⟩, hS.F ht⟩) hS.2.2 dX11_trace_33
set_option maxHeartbeats 4000000 in
set_option maxRecDepth 100000 in
theorem bX11_trace_32 {p : Program} {e : Env} {s : State} {m : MethodId} {args : Array Value} {below : List Frame} {meth : Method} {c : Code} {post : tq_St → Int32 → Prop} (C : tq_At p s m meth c args cX11_trace 2 ((some .int)) ((tq_ws yX11_trace cX11_trace 2 (some .int))) RX11 D cy z ad)  : ∀ (S : tq_St)  (H : Heap) (locs : List Loc) (ls : Array Slot), wbX11_trace_32 N post   S  → tq_wd D cy z H0 ad N (tq_mix S M) H → va_S (fun q => z ≤ q) s.heap H locs → lv_has ls 2 [] → W p l e (tq_rm 1 21) s m args below meth c H locs 0 0 (MQ below (va_Qi (fun r u => post u r) (fun u => tq_P D cy z H0 ad N u M) (fun q => z ≤ q)) args s 0 0 (fun q => z ≤ q)) (F0 m 32 ls []) := by
  obtain ⟨hx, hb, hr, hml, hown, hts, hlocks, hK, hG⟩ := id C
  have hw : ∀ w ∈ tq_W, w.before args s = true := fun w h => hts w (List.mem_cons_of_mem _ h)
  intro S  H locs ls h hW hS hl
  unfold wbX11_trace_32 at h
  refine lv_iconst (v := (-1)) hx hb dX11_trace_32 (by decide) ?_
  exact bX11_trace_33 C  _ _ _ _ _ h hW hS (lv_sub hl [] rfl)
set_option maxHeartbeats 4000000 in
set_option maxRecDepth 100000 in
theorem kX11_trace {post : tq_St → Int32 → Prop} {S : tq_St} {p0 : Int32} (h : wpX11_trace N post S p0) : tq_sI l yX11_trace (tq_ws yX11_trace cX11_trace 2 (some .int)) 1 21 D cy z H0 ad N M S [.ref (ad 1 0), .int p0] post := by
  unfold wpX11_trace at h
  refine Met.ofW (cc := cX11_trace) (maxL := 2) (ret := (some .int)) (by decide) rfl ?_
  intro p e s m args below meth c s₁ B hml hv
  obtain ⟨rfl, hW, hK, hG⟩ := hv
  have hx := B.exec
  have hb := B.bytes
  have hr := B.returns
  have hts := atoms_spec (ws := (tq_ws yX11_trace cX11_trace 2 (some .int))) B.pre
  have hw : ∀ w ∈ tq_W, w.before _ s = true := fun w h => hts w (List.mem_cons_of_mem _ h)
  have hown : s.vm.findClass RX11 = some m.cls := findClass_of_methodNamed B.named
  have hlocks := B.notSynchronized
  have C : tq_At p s m meth c [.ref (ad 1 0), .int p0].toArray cX11_trace 2 ((some .int)) ((tq_ws yX11_trace cX11_trace 2 (some .int))) RX11 D cy z ad := ⟨hx, hb, hr, hml, hown, hts, hlocks, hK, hG⟩
  have hS : va_S (fun q => z ≤ q) s.heap s.heap [] := va_S.rf
  have hl := lv_entry ([.ref (ad 1 0), .int p0]) (n := 2) (Nat.le_of_ble_eq_true rfl)
  rw [lg_entry_eq]
  generalize (lg_sl ([.ref (ad 1 0), .int p0]) ++ List.replicate (2 - (lg_sl ([.ref (ad 1 0), .int p0])).length) Slot.unset).toArray = ls at hl ⊢
  have hl : lv_has ls 2 [(0, .ref (ad 1 0)), (1, .int p0)] := hl
  have hW : tq_wd D cy z H0 ad N (tq_mix S M) s.heap := hW
  refine lv_iload_n hx hb dX11_trace_0 rfl (lv_at hl 1 rfl) ?_
  refine lv_if_lt (tgt := 32) hx hb dX11_trace_1 (by decide) (fun c1 => ?_) (fun c1 => ?_)
  · have h := h.1 c1
    exact bX11_trace_32 C  _  _ _ _ h hW hS (lv_sub hl [] rfl)
  · have h := h.2 c1
    refine lv_iload_n hx hb dX11_trace_4 rfl (lv_at hl 1 rfl) ?_
    refine lv_aload_n hx hb dX11_trace_5 rfl (lv_at hl 0 rfl) ?_
    refine tqc_get (v := .ref (ad 5 0)) hx hb hw tq_inX11 hown hK hW (by decide) (tq_mk_1 (by decide)) rfl 18 (by decide) (hw _ tw_355) (fun _ h9 => h9) rfl dX11_trace_6 ?_
    refine tqc_get (v := .int (S 5 0 1)) hx hb hw tq_inX0 hown hK hW (by decide) (tq_mk_5 (by decide)) rfl 1 (by decide) (hw _ tw_236) (fun _ h9 => h9) rfl dX11_trace_9 ?_
    refine lv_bipush (v := 20) hx hb dX11_trace_12 (by decide) ?_
    refine va_mmin hx hb (hml.trans hl.1.symm) hown (hw _ tw_1167) (hw _ tw_797) (hw _ tw_132) (hw _ tw_798) (Nat.le_of_ble_eq_true rfl) (Nat.le_of_ble_eq_true rfl) (Nat.zero_le _) (Nat.zero_le _) dX11_trace_14 ?_
    refine lv_icmp_ge (tgt := 32) hx hb dX11_trace_17 (by decide) (fun c2 => ?_) (fun c2 => ?_)
    · have h := h.1 c2
      exact bX11_trace_32 C  _  _ _ _ h hW hS (lv_sub hl [] rfl)
    · have h := h.2 c2
      refine lv_aload_n hx hb dX11_trace_20 rfl (lv_at hl 0 rfl) ?_
      refine tqc_get (v := .ref (ad 5 0)) hx hb hw tq_inX11 hown hK hW (by decide) (tq_mk_1 (by decide)) rfl 18 (by decide) (hw _ tw_355) (fun _ h9 => h9) rfl dX11_trace_21 ?_
      refine tqc_get (v := .ref (ad 48 0)) hx hb hw tq_inX0 hown hK hW (by decide) (tq_mk_5 (by decide)) rfl 0 (by decide) (hw _ tw_234) (fun _ h9 => h9) rfl dX11_trace_24 ?_
      refine lv_iload_n hx hb dX11_trace_27 rfl (lv_at hl 1 rfl) ?_
      obtain ⟨b3, h⟩ := h
      refine tqc_iald (jn := p0.toNatClampNeg) hx hb hK hW (by decide) (tq_mk_48 (by decide)) b3 rfl dX11_trace_28 ?_
      refine lv_goto (tgt := 33) hx hb dX11_trace_29 (by decide) ?_
      exact bX11_trace_33 C  _ _ _ _ _ h hW hS (lv_sub hl [] rfl)
-- X11 within
def wbX11_within_15 (N : tq_Nn) (post : tq_St → Int32 → Prop)  (S : tq_St) (y0 : Int32) : Prop :=
  narrow .boolean (.int y0) = .int y0 ∧ post S y0
def wbX11_within_14 (N : tq_Nn) (post : tq_St → Int32 → Prop)  (S : tq_St) : Prop :=
  wbX11_within_15 N post S 0
def wpX11_within (N : tq_Nn) (post : tq_St → Int32 → Prop) (S : tq_St) (p0 : Int32) (p1 : Int32) (p2 : Int32) : Prop :=
  (p0 < p1 → (wbX11_within_14 N post S )) ∧ (¬ p0 < p1 → ((p2 < p0 → (wbX11_within_14 N post S )) ∧ (¬ p2 < p0 → (wbX11_within_15 N post S 1))))
set_option maxHeartbeats 4000000 in
set_option maxRecDepth 100000 in
theorem bX11_within_15 {p : Program} {e : Env} {s : State} {m : MethodId} {args : Array Value} {below : List Frame} {meth : Method} {c : Code} {post : tq_St → Int32 → Prop} (C : tq_At p s m meth c args cX11_within 3 ((some .boolean)) ((tq_ws yX11_within cX11_within 3 (some .boolean))) RX11 D cy z ad)  : ∀ (S : tq_St) (y0 : Int32) (H : Heap) (locs : List Loc) (ls : Array Slot), wbX11_within_15 N post   S y0 → tq_wd D cy z H0 ad N (tq_mix S M) H → va_S (fun q => z ≤ q) s.heap H locs → lv_has ls 3 [] → W p l e (tq_rm 0 0) s m args below meth c H locs 0 0 (MQ below (va_Qi (fun r u => post u r) (fun u => tq_P D cy z H0 ad N u M) (fun q => z ≤ q)) args s 0 0 (fun q => z ≤ q)) (F0 m 15 ls [.int y0]) := by
  obtain ⟨hx, hb, hr, hml, hown, hts, hlocks, hK, hG⟩ := id C
  have hw : ∀ w ∈ tq_W, w.before args s = true := fun w h => hts w (List.mem_cons_of_mem _ h)
  intro S y0 H locs ls h hW hS hl
  unfold wbX11_within_15 at h
  obtain ⟨b3, h⟩ := h
  exact W.zret (v := y0) hx hb hr b3 (fun t ht hWm => ⟨⟨_, S, rfl, h, tq_pe ht hW⟩, hS.F ht⟩) hS.2.2 dX11_within_15
set_option maxHeartbeats 4000000 in
set_option maxRecDepth 100000 in
theorem bX11_within_14 {p : Program} {e : Env} {s : State} {m : MethodId} {args : Array Value} {below : List Frame} {meth : Method} {c : Code} {post : tq_St → Int32 → Prop} (C : tq_At p s m meth c args cX11_within 3 ((some .boolean)) ((tq_ws yX11_within cX11_within 3 (some .boolean))) RX11 D cy z ad)  : ∀ (S : tq_St)  (H : Heap) (locs : List Loc) (ls : Array Slot), wbX11_within_14 N post   S  → tq_wd D cy z H0 ad N (tq_mix S M) H → va_S (fun q => z ≤ q) s.heap H locs → lv_has ls 3 [] → W p l e (tq_rm 0 0) s m args below meth c H locs 0 0 (MQ below (va_Qi (fun r u => post u r) (fun u => tq_P D cy z H0 ad N u M) (fun q => z ≤ q)) args s 0 0 (fun q => z ≤ q)) (F0 m 14 ls []) := by
  obtain ⟨hx, hb, hr, hml, hown, hts, hlocks, hK, hG⟩ := id C
  have hw : ∀ w ∈ tq_W, w.before args s = true := fun w h => hts w (List.mem_cons_of_mem _ h)
  intro S  H locs ls h hW hS hl
  unfold wbX11_within_14 at h
  refine lv_iconst (v := 0) hx hb dX11_within_14 (by decide) ?_
  exact bX11_within_15 C  _ _ _ _ _ h hW hS (lv_sub hl [] rfl)
set_option maxHeartbeats 4000000 in
set_option maxRecDepth 100000 in
theorem kX11_within {post : tq_St → Int32 → Prop} {S : tq_St} {p0 : Int32} {p1 : Int32} {p2 : Int32} (h : wpX11_within N post S p0 p1 p2) : tq_sI l yX11_within (tq_ws yX11_within cX11_within 3 (some .boolean)) 0 0 D cy z H0 ad N M S [.int p0, .int p1, .int p2] post := by
  unfold wpX11_within at h
  refine Met.ofW (cc := cX11_within) (maxL := 3) (ret := (some .boolean)) (by decide) rfl ?_
  intro p e s m args below meth c s₁ B hml hv
  obtain ⟨rfl, hW, hK, hG⟩ := hv
  have hx := B.exec
  have hb := B.bytes
  have hr := B.returns
  have hts := atoms_spec (ws := (tq_ws yX11_within cX11_within 3 (some .boolean))) B.pre
  have hw : ∀ w ∈ tq_W, w.before _ s = true := fun w h => hts w (List.mem_cons_of_mem _ h)
  have hown : s.vm.findClass RX11 = some m.cls := findClass_of_methodNamed B.named
  have hlocks := B.notSynchronized
  have C : tq_At p s m meth c [.int p0, .int p1, .int p2].toArray cX11_within 3 ((some .boolean)) ((tq_ws yX11_within cX11_within 3 (some .boolean))) RX11 D cy z ad := ⟨hx, hb, hr, hml, hown, hts, hlocks, hK, hG⟩
  have hS : va_S (fun q => z ≤ q) s.heap s.heap [] := va_S.rf
  have hl := lv_entry ([.int p0, .int p1, .int p2]) (n := 3) (Nat.le_of_ble_eq_true rfl)
  rw [lg_entry_eq]
  generalize (lg_sl ([.int p0, .int p1, .int p2]) ++ List.replicate (3 - (lg_sl ([.int p0, .int p1, .int p2])).length) Slot.unset).toArray = ls at hl ⊢
  have hl : lv_has ls 3 [(0, .int p0), (1, .int p1), (2, .int p2)] := hl
  have hW : tq_wd D cy z H0 ad N (tq_mix S M) s.heap := hW
  refine lv_iload_n hx hb dX11_within_0 rfl (lv_at hl 0 rfl) ?_
  refine lv_iload_n hx hb dX11_within_1 rfl (lv_at hl 1 rfl) ?_
  refine lv_icmp_lt (tgt := 14) hx hb dX11_within_2 (by decide) (fun c1 => ?_) (fun c1 => ?_)
  · have h := h.1 c1
    exact bX11_within_14 C  _  _ _ _ h hW hS (lv_sub hl [] rfl)
  · have h := h.2 c1
    refine lv_iload_n hx hb dX11_within_5 rfl (lv_at hl 0 rfl) ?_
    refine lv_iload_n hx hb dX11_within_6 rfl (lv_at hl 2 rfl) ?_
    refine lv_icmp_gt (tgt := 14) hx hb dX11_within_7 (by decide) (fun c2 => ?_) (fun c2 => ?_)
    · have h := h.1 c2
      exact bX11_within_14 C  _  _ _ _ h hW hS (lv_sub hl [] rfl)
    · have h := h.2 c2
      refine lv_iconst (v := 1) hx hb dX11_within_10 (by decide) ?_
      refine lv_goto (tgt := 15) hx hb dX11_within_11 (by decide) ?_
      exact bX11_within_15 C  _ _ _ _ _ h hW hS (lv_sub hl [] rfl)
-- X11 isPlace
def wbX11_isPlace_14 (N : tq_Nn) (post : tq_St → Int32 → Prop)  (S : tq_St) (y0 : Int32) : Prop :=
  narrow .boolean (.int y0) = .int y0 ∧ post S y0
def wbX11_isPlace_13 (N : tq_Nn) (post : tq_St → Int32 → Prop)  (S : tq_St) : Prop :=
  wbX11_isPlace_14 N post S 0
def wpX11_isPlace (N : tq_Nn) (post : tq_St → Int32 → Prop) (S : tq_St) (p0 : Int32) : Prop :=
  (p0 < 0 → (wbX11_isPlace_13 N post S )) ∧ (¬ p0 < 0 → ((5 ≤ p0 → (wbX11_isPlace_13 N post S )) ∧ (¬ 5 ≤ p0 → (wbX11_isPlace_14 N post S 1))))
set_option maxHeartbeats 4000000 in
set_option maxRecDepth 100000 in
theorem bX11_isPlace_14 {p : Program} {e : Env} {s : State} {m : MethodId} {args : Array Value} {below : List Frame} {meth : Method} {c : Code} {post : tq_St → Int32 → Prop} (C : tq_At p s m meth c args cX11_isPlace 1 ((some .boolean)) ((tq_ws yX11_isPlace cX11_isPlace 1 (some .boolean))) RX11 D cy z ad)  : ∀ (S : tq_St) (y0 : Int32) (H : Heap) (locs : List Loc) (ls : Array Slot), wbX11_isPlace_14 N post   S y0 → tq_wd D cy z H0 ad N (tq_mix S M) H → va_S (fun q => z ≤ q) s.heap H locs → lv_has ls 1 [] → W p l e (tq_rm 0 0) s m args below meth c H locs 0 0 (MQ below (va_Qi (fun r u => post u r) (fun u => tq_P D cy z H0 ad N u M) (fun q => z ≤ q)) args s 0 0 (fun q => z ≤ q)) (F0 m 14 ls [.int y0]) := by
  obtain ⟨hx, hb, hr, hml, hown, hts, hlocks, hK, hG⟩ := id C
  have hw : ∀ w ∈ tq_W, w.before args s = true := fun w h => hts w (List.mem_cons_of_mem _ h)
  intro S y0 H locs ls h hW hS hl
  unfold wbX11_isPlace_14 at h
  obtain ⟨b3, h⟩ := h
  exact W.zret (v := y0) hx hb hr b3 (fun t ht hWm => ⟨⟨_, S, rfl, h, tq_pe ht hW⟩, hS.F ht⟩) hS.2.2 dX11_isPlace_14
set_option maxHeartbeats 4000000 in
set_option maxRecDepth 100000 in
theorem bX11_isPlace_13 {p : Program} {e : Env} {s : State} {m : MethodId} {args : Array Value} {below : List Frame} {meth : Method} {c : Code} {post : tq_St → Int32 → Prop} (C : tq_At p s m meth c args cX11_isPlace 1 ((some .boolean)) ((tq_ws yX11_isPlace cX11_isPlace 1 (some .boolean))) RX11 D cy z ad)  : ∀ (S : tq_St)  (H : Heap) (locs : List Loc) (ls : Array Slot), wbX11_isPlace_13 N post   S  → tq_wd D cy z H0 ad N (tq_mix S M) H → va_S (fun q => z ≤ q) s.heap H locs → lv_has ls 1 [] → W p l e (tq_rm 0 0) s m args below meth c H locs 0 0 (MQ below (va_Qi (fun r u => post u r) (fun u => tq_P D cy z H0 ad N u M) (fun q => z ≤ q)) args s 0 0 (fun q => z ≤ q)) (F0 m 13 ls []) := by
  obtain ⟨hx, hb, hr, hml, hown, hts, hlocks, hK, hG⟩ := id C
  have hw : ∀ w ∈ tq_W, w.before args s = true := fun w h => hts w (List.mem_cons_of_mem _ h)
  intro S  H locs ls h hW hS hl
  unfold wbX11_isPlace_13 at h
  refine lv_iconst (v := 0) hx hb dX11_isPlace_13 (by decide) ?_
  exact bX11_isPlace_14 C  _ _ _ _ _ h hW hS (lv_sub hl [] rfl)
set_option maxHeartbeats 4000000 in
set_option maxRecDepth 100000 in
theorem kX11_isPlace {post : tq_St → Int32 → Prop} {S : tq_St} {p0 : Int32} (h : wpX11_isPlace N post S p0) : tq_sI l yX11_isPlace (tq_ws yX11_isPlace cX11_isPlace 1 (some .boolean)) 0 0 D cy z H0 ad N M S [.int p0] post := by
  unfold wpX11_isPlace at h
  refine Met.ofW (cc := cX11_isPlace) (maxL := 1) (ret := (some .boolean)) (by decide) rfl ?_
  intro p e s m args below meth c s₁ B hml hv
  obtain ⟨rfl, hW, hK, hG⟩ := hv
  have hx := B.exec
  have hb := B.bytes
  have hr := B.returns
  have hts := atoms_spec (ws := (tq_ws yX11_isPlace cX11_isPlace 1 (some .boolean))) B.pre
  have hw : ∀ w ∈ tq_W, w.before _ s = true := fun w h => hts w (List.mem_cons_of_mem _ h)
  have hown : s.vm.findClass RX11 = some m.cls := findClass_of_methodNamed B.named
  have hlocks := B.notSynchronized
  have C : tq_At p s m meth c [.int p0].toArray cX11_isPlace 1 ((some .boolean)) ((tq_ws yX11_isPlace cX11_isPlace 1 (some .boolean))) RX11 D cy z ad := ⟨hx, hb, hr, hml, hown, hts, hlocks, hK, hG⟩
  have hS : va_S (fun q => z ≤ q) s.heap s.heap [] := va_S.rf
  have hl := lv_entry ([.int p0]) (n := 1) (Nat.le_of_ble_eq_true rfl)
  rw [lg_entry_eq]
  generalize (lg_sl ([.int p0]) ++ List.replicate (1 - (lg_sl ([.int p0])).length) Slot.unset).toArray = ls at hl ⊢
  have hl : lv_has ls 1 [(0, .int p0)] := hl
  have hW : tq_wd D cy z H0 ad N (tq_mix S M) s.heap := hW
  refine lv_iload_n hx hb dX11_isPlace_0 rfl (lv_at hl 0 rfl) ?_
  refine lv_if_lt (tgt := 13) hx hb dX11_isPlace_1 (by decide) (fun c1 => ?_) (fun c1 => ?_)
  · have h := h.1 c1
    exact bX11_isPlace_13 C  _  _ _ _ h hW hS (lv_sub hl [] rfl)
  · have h := h.2 c1
    refine lv_iload_n hx hb dX11_isPlace_4 rfl (lv_at hl 0 rfl) ?_
    refine lv_iconst (v := 5) hx hb dX11_isPlace_5 (by decide) ?_
    refine lv_icmp_ge (tgt := 13) hx hb dX11_isPlace_6 (by decide) (fun c2 => ?_) (fun c2 => ?_)
    · have h := h.1 c2
      exact bX11_isPlace_13 C  _  _ _ _ h hW hS (lv_sub hl [] rfl)
    · have h := h.2 c2
      refine lv_iconst (v := 1) hx hb dX11_isPlace_9 (by decide) ?_
      refine lv_goto (tgt := 14) hx hb dX11_isPlace_10 (by decide) ?_
      exact bX11_isPlace_14 C  _ _ _ _ _ h hW hS (lv_sub hl [] rfl)
-- X11 isFactory
def wbX11_isFactory_14 (N : tq_Nn) (post : tq_St → Int32 → Prop)  (S : tq_St) (y0 : Int32) : Prop :=
  narrow .boolean (.int y0) = .int y0 ∧ post S y0
def wbX11_isFactory_13 (N : tq_Nn) (post : tq_St → Int32 → Prop)  (S : tq_St) : Prop :=
  wbX11_isFactory_14 N post S 0
def wpX11_isFactory (N : tq_Nn) (post : tq_St → Int32 → Prop) (S : tq_St) (p0 : Int32) : Prop :=
  (p0 ≤ 0 → (wbX11_isFactory_13 N post S )) ∧ (¬ p0 ≤ 0 → ((5 ≤ p0 → (wbX11_isFactory_13 N post S )) ∧ (¬ 5 ≤ p0 → (wbX11_isFactory_14 N post S 1))))
set_option maxHeartbeats 4000000 in
set_option maxRecDepth 100000 in
theorem bX11_isFactory_14 {p : Program} {e : Env} {s : State} {m : MethodId} {args : Array Value} {below : List Frame} {meth : Method} {c : Code} {post : tq_St → Int32 → Prop} (C : tq_At p s m meth c args cX11_isFactory 1 ((some .boolean)) ((tq_ws yX11_isFactory cX11_isFactory 1 (some .boolean))) RX11 D cy z ad)  : ∀ (S : tq_St) (y0 : Int32) (H : Heap) (locs : List Loc) (ls : Array Slot), wbX11_isFactory_14 N post   S y0 → tq_wd D cy z H0 ad N (tq_mix S M) H → va_S (fun q => z ≤ q) s.heap H locs → lv_has ls 1 [] → W p l e (tq_rm 0 0) s m args below meth c H locs 0 0 (MQ below (va_Qi (fun r u => post u r) (fun u => tq_P D cy z H0 ad N u M) (fun q => z ≤ q)) args s 0 0 (fun q => z ≤ q)) (F0 m 14 ls [.int y0]) := by
  obtain ⟨hx, hb, hr, hml, hown, hts, hlocks, hK, hG⟩ := id C
  have hw : ∀ w ∈ tq_W, w.before args s = true := fun w h => hts w (List.mem_cons_of_mem _ h)
  intro S y0 H locs ls h hW hS hl
  unfold wbX11_isFactory_14 at h
  obtain ⟨b3, h⟩ := h
  exact W.zret (v := y0) hx hb hr b3 (fun t ht hWm => ⟨⟨_, S, rfl, h, tq_pe ht hW⟩, hS.F ht⟩) hS.2.2 dX11_isFactory_14
set_option maxHeartbeats 4000000 in
set_option maxRecDepth 100000 in
theorem bX11_isFactory_13 {p : Program} {e : Env} {s : State} {m : MethodId} {args : Array Value} {below : List Frame} {meth : Method} {c : Code} {post : tq_St → Int32 → Prop} (C : tq_At p s m meth c args cX11_isFactory 1 ((some .boolean)) ((tq_ws yX11_isFactory cX11_isFactory 1 (some .boolean))) RX11 D cy z ad)  : ∀ (S : tq_St)  (H : Heap) (locs : List Loc) (ls : Array Slot), wbX11_isFactory_13 N post   S  → tq_wd D cy z H0 ad N (tq_mix S M) H → va_S (fun q => z ≤ q) s.heap H locs → lv_has ls 1 [] → W p l e (tq_rm 0 0) s m args below meth c H locs 0 0 (MQ below (va_Qi (fun r u => post u r) (fun u => tq_P D cy z H0 ad N u M) (fun q => z ≤ q)) args s 0 0 (fun q => z ≤ q)) (F0 m 13 ls []) := by
  obtain ⟨hx, hb, hr, hml, hown, hts, hlocks, hK, hG⟩ := id C
  have hw : ∀ w ∈ tq_W, w.before args s = true := fun w h => hts w (List.mem_cons_of_mem _ h)
  intro S  H locs ls h hW hS hl
  unfold wbX11_isFactory_13 at h
  refine lv_iconst (v := 0) hx hb dX11_isFactory_13 (by decide) ?_
  exact bX11_isFactory_14 C  _ _ _ _ _ h hW hS (lv_sub hl [] rfl)
set_option maxHeartbeats 4000000 in
set_option maxRecDepth 100000 in
theorem kX11_isFactory {post : tq_St → Int32 → Prop} {S : tq_St} {p0 : Int32} (h : wpX11_isFactory N post S p0) : tq_sI l yX11_isFactory (tq_ws yX11_isFactory cX11_isFactory 1 (some .boolean)) 0 0 D cy z H0 ad N M S [.int p0] post := by
  unfold wpX11_isFactory at h
  refine Met.ofW (cc := cX11_isFactory) (maxL := 1) (ret := (some .boolean)) (by decide) rfl ?_
  intro p e s m args below meth c s₁ B hml hv
  obtain ⟨rfl, hW, hK, hG⟩ := hv
  have hx := B.exec
  have hb := B.bytes
  have hr := B.returns
  have hts := atoms_spec (ws := (tq_ws yX11_isFactory cX11_isFactory 1 (some .boolean))) B.pre
  have hw : ∀ w ∈ tq_W, w.before _ s = true := fun w h => hts w (List.mem_cons_of_mem _ h)
  have hown : s.vm.findClass RX11 = some m.cls := findClass_of_methodNamed B.named
  have hlocks := B.notSynchronized
  have C : tq_At p s m meth c [.int p0].toArray cX11_isFactory 1 ((some .boolean)) ((tq_ws yX11_isFactory cX11_isFactory 1 (some .boolean))) RX11 D cy z ad := ⟨hx, hb, hr, hml, hown, hts, hlocks, hK, hG⟩
  have hS : va_S (fun q => z ≤ q) s.heap s.heap [] := va_S.rf
  have hl := lv_entry ([.int p0]) (n := 1) (Nat.le_of_ble_eq_true rfl)
  rw [lg_entry_eq]
  generalize (lg_sl ([.int p0]) ++ List.replicate (1 - (lg_sl ([.int p0])).length) Slot.unset).toArray = ls at hl ⊢
  have hl : lv_has ls 1 [(0, .int p0)] := hl
  have hW : tq_wd D cy z H0 ad N (tq_mix S M) s.heap := hW
  refine lv_iload_n hx hb dX11_isFactory_0 rfl (lv_at hl 0 rfl) ?_
  refine lv_if_le (tgt := 13) hx hb dX11_isFactory_1 (by decide) (fun c1 => ?_) (fun c1 => ?_)
  · have h := h.1 c1
    exact bX11_isFactory_13 C  _  _ _ _ h hW hS (lv_sub hl [] rfl)
  · have h := h.2 c1
    refine lv_iload_n hx hb dX11_isFactory_4 rfl (lv_at hl 0 rfl) ?_
    refine lv_iconst (v := 5) hx hb dX11_isFactory_5 (by decide) ?_
    refine lv_icmp_ge (tgt := 13) hx hb dX11_isFactory_6 (by decide) (fun c2 => ?_) (fun c2 => ?_)
    · have h := h.1 c2
      exact bX11_isFactory_13 C  _  _ _ _ h hW hS (lv_sub hl [] rfl)
    · have h := h.2 c2
      refine lv_iconst (v := 1) hx hb dX11_isFactory_9 (by decide) ?_
      refine lv_goto (tgt := 14) hx hb dX11_isFactory_10 (by decide) ?_
      exact bX11_isFactory_14 C  _ _ _ _ _ h hW hS (lv_sub hl [] rfl)
-- X11 isSort
def wbX11_isSort_14 (N : tq_Nn) (post : tq_St → Int32 → Prop)  (S : tq_St) (y0 : Int32) : Prop :=
  narrow .boolean (.int y0) = .int y0 ∧ post S y0
def wbX11_isSort_13 (N : tq_Nn) (post : tq_St → Int32 → Prop)  (S : tq_St) : Prop :=
  wbX11_isSort_14 N post S 0
def wpX11_isSort (N : tq_Nn) (post : tq_St → Int32 → Prop) (S : tq_St) (p0 : Int32) : Prop :=
  (p0 < 0 → (wbX11_isSort_13 N post S )) ∧ (¬ p0 < 0 → ((4 ≤ p0 → (wbX11_isSort_13 N post S )) ∧ (¬ 4 ≤ p0 → (wbX11_isSort_14 N post S 1))))
set_option maxHeartbeats 4000000 in
set_option maxRecDepth 100000 in
theorem bX11_isSort_14 {p : Program} {e : Env} {s : State} {m : MethodId} {args : Array Value} {below : List Frame} {meth : Method} {c : Code} {post : tq_St → Int32 → Prop} (C : tq_At p s m meth c args cX11_isSort 1 ((some .boolean)) ((tq_ws yX11_isSort cX11_isSort 1 (some .boolean))) RX11 D cy z ad)  : ∀ (S : tq_St) (y0 : Int32) (H : Heap) (locs : List Loc) (ls : Array Slot), wbX11_isSort_14 N post   S y0 → tq_wd D cy z H0 ad N (tq_mix S M) H → va_S (fun q => z ≤ q) s.heap H locs → lv_has ls 1 [] → W p l e (tq_rm 0 0) s m args below meth c H locs 0 0 (MQ below (va_Qi (fun r u => post u r) (fun u => tq_P D cy z H0 ad N u M) (fun q => z ≤ q)) args s 0 0 (fun q => z ≤ q)) (F0 m 14 ls [.int y0]) := by
  obtain ⟨hx, hb, hr, hml, hown, hts, hlocks, hK, hG⟩ := id C
  have hw : ∀ w ∈ tq_W, w.before args s = true := fun w h => hts w (List.mem_cons_of_mem _ h)
  intro S y0 H locs ls h hW hS hl
  unfold wbX11_isSort_14 at h
  obtain ⟨b3, h⟩ := h
  exact W.zret (v := y0) hx hb hr b3 (fun t ht hWm => ⟨⟨_, S, rfl, h, tq_pe ht hW⟩, hS.F ht⟩) hS.2.2 dX11_isSort_14
set_option maxHeartbeats 4000000 in
set_option maxRecDepth 100000 in
theorem bX11_isSort_13 {p : Program} {e : Env} {s : State} {m : MethodId} {args : Array Value} {below : List Frame} {meth : Method} {c : Code} {post : tq_St → Int32 → Prop} (C : tq_At p s m meth c args cX11_isSort 1 ((some .boolean)) ((tq_ws yX11_isSort cX11_isSort 1 (some .boolean))) RX11 D cy z ad)  : ∀ (S : tq_St)  (H : Heap) (locs : List Loc) (ls : Array Slot), wbX11_isSort_13 N post   S  → tq_wd D cy z H0 ad N (tq_mix S M) H → va_S (fun q => z ≤ q) s.heap H locs → lv_has ls 1 [] → W p l e (tq_rm 0 0) s m args below meth c H locs 0 0 (MQ below (va_Qi (fun r u => post u r) (fun u => tq_P D cy z H0 ad N u M) (fun q => z ≤ q)) args s 0 0 (fun q => z ≤ q)) (F0 m 13 ls []) := by
  obtain ⟨hx, hb, hr, hml, hown, hts, hlocks, hK, hG⟩ := id C
  have hw : ∀ w ∈ tq_W, w.before args s = true := fun w h => hts w (List.mem_cons_of_mem _ h)
  intro S  H locs ls h hW hS hl
  unfold wbX11_isSort_13 at h
  refine lv_iconst (v := 0) hx hb dX11_isSort_13 (by decide) ?_
  exact bX11_isSort_14 C  _ _ _ _ _ h hW hS (lv_sub hl [] rfl)
set_option maxHeartbeats 4000000 in
set_option maxRecDepth 100000 in
theorem kX11_isSort {post : tq_St → Int32 → Prop} {S : tq_St} {p0 : Int32} (h : wpX11_isSort N post S p0) : tq_sI l yX11_isSort (tq_ws yX11_isSort cX11_isSort 1 (some .boolean)) 0 0 D cy z H0 ad N M S [.int p0] post := by
  unfold wpX11_isSort at h
  refine Met.ofW (cc := cX11_isSort) (maxL := 1) (ret := (some .boolean)) (by decide) rfl ?_
  intro p e s m args below meth c s₁ B hml hv
  obtain ⟨rfl, hW, hK, hG⟩ := hv
  have hx := B.exec
  have hb := B.bytes
  have hr := B.returns
  have hts := atoms_spec (ws := (tq_ws yX11_isSort cX11_isSort 1 (some .boolean))) B.pre
  have hw : ∀ w ∈ tq_W, w.before _ s = true := fun w h => hts w (List.mem_cons_of_mem _ h)
  have hown : s.vm.findClass RX11 = some m.cls := findClass_of_methodNamed B.named
  have hlocks := B.notSynchronized
  have C : tq_At p s m meth c [.int p0].toArray cX11_isSort 1 ((some .boolean)) ((tq_ws yX11_isSort cX11_isSort 1 (some .boolean))) RX11 D cy z ad := ⟨hx, hb, hr, hml, hown, hts, hlocks, hK, hG⟩
  have hS : va_S (fun q => z ≤ q) s.heap s.heap [] := va_S.rf
  have hl := lv_entry ([.int p0]) (n := 1) (Nat.le_of_ble_eq_true rfl)
  rw [lg_entry_eq]
  generalize (lg_sl ([.int p0]) ++ List.replicate (1 - (lg_sl ([.int p0])).length) Slot.unset).toArray = ls at hl ⊢
  have hl : lv_has ls 1 [(0, .int p0)] := hl
  have hW : tq_wd D cy z H0 ad N (tq_mix S M) s.heap := hW
  refine lv_iload_n hx hb dX11_isSort_0 rfl (lv_at hl 0 rfl) ?_
  refine lv_if_lt (tgt := 13) hx hb dX11_isSort_1 (by decide) (fun c1 => ?_) (fun c1 => ?_)
  · have h := h.1 c1
    exact bX11_isSort_13 C  _  _ _ _ h hW hS (lv_sub hl [] rfl)
  · have h := h.2 c1
    refine lv_iload_n hx hb dX11_isSort_4 rfl (lv_at hl 0 rfl) ?_
    refine lv_iconst (v := 4) hx hb dX11_isSort_5 (by decide) ?_
    refine lv_icmp_ge (tgt := 13) hx hb dX11_isSort_6 (by decide) (fun c2 => ?_) (fun c2 => ?_)
    · have h := h.1 c2
      exact bX11_isSort_13 C  _  _ _ _ h hW hS (lv_sub hl [] rfl)
    · have h := h.2 c2
      refine lv_iconst (v := 1) hx hb dX11_isSort_9 (by decide) ?_
      refine lv_goto (tgt := 14) hx hb dX11_isSort_10 (by decide) ?_
      exact bX11_isSort_14 C  _ _ _ _ _ h hW hS (lv_sub hl [] rfl)
-- X11 isSheet
def wbX11_isSheet_14 (N : tq_Nn) (post : tq_St → Int32 → Prop)  (S : tq_St) (y0 : Int32) : Prop :=
  narrow .boolean (.int y0) = .int y0 ∧ post S y0
def wbX11_isSheet_13 (N : tq_Nn) (post : tq_St → Int32 → Prop)  (S : tq_St) : Prop :=
  wbX11_isSheet_14 N post S 0
def wpX11_isSheet (N : tq_Nn) (post : tq_St → Int32 → Prop) (S : tq_St) (p0 : Int32) : Prop :=
  (p0 < 0 → (wbX11_isSheet_13 N post S )) ∧ (¬ p0 < 0 → ((3 ≤ p0 → (wbX11_isSheet_13 N post S )) ∧ (¬ 3 ≤ p0 → (wbX11_isSheet_14 N post S 1))))
set_option maxHeartbeats 4000000 in
set_option maxRecDepth 100000 in
theorem bX11_isSheet_14 {p : Program} {e : Env} {s : State} {m : MethodId} {args : Array Value} {below : List Frame} {meth : Method} {c : Code} {post : tq_St → Int32 → Prop} (C : tq_At p s m meth c args cX11_isSheet 1 ((some .boolean)) ((tq_ws yX11_isSheet cX11_isSheet 1 (some .boolean))) RX11 D cy z ad)  : ∀ (S : tq_St) (y0 : Int32) (H : Heap) (locs : List Loc) (ls : Array Slot), wbX11_isSheet_14 N post   S y0 → tq_wd D cy z H0 ad N (tq_mix S M) H → va_S (fun q => z ≤ q) s.heap H locs → lv_has ls 1 [] → W p l e (tq_rm 0 0) s m args below meth c H locs 0 0 (MQ below (va_Qi (fun r u => post u r) (fun u => tq_P D cy z H0 ad N u M) (fun q => z ≤ q)) args s 0 0 (fun q => z ≤ q)) (F0 m 14 ls [.int y0]) := by
  obtain ⟨hx, hb, hr, hml, hown, hts, hlocks, hK, hG⟩ := id C
  have hw : ∀ w ∈ tq_W, w.before args s = true := fun w h => hts w (List.mem_cons_of_mem _ h)
  intro S y0 H locs ls h hW hS hl
  unfold wbX11_isSheet_14 at h
  obtain ⟨b3, h⟩ := h
  exact W.zret (v := y0) hx hb hr b3 (fun t ht hWm => ⟨⟨_, S, rfl, h, tq_pe ht hW⟩, hS.F ht⟩) hS.2.2 dX11_isSheet_14
set_option maxHeartbeats 4000000 in
set_option maxRecDepth 100000 in
theorem bX11_isSheet_13 {p : Program} {e : Env} {s : State} {m : MethodId} {args : Array Value} {below : List Frame} {meth : Method} {c : Code} {post : tq_St → Int32 → Prop} (C : tq_At p s m meth c args cX11_isSheet 1 ((some .boolean)) ((tq_ws yX11_isSheet cX11_isSheet 1 (some .boolean))) RX11 D cy z ad)  : ∀ (S : tq_St)  (H : Heap) (locs : List Loc) (ls : Array Slot), wbX11_isSheet_13 N post   S  → tq_wd D cy z H0 ad N (tq_mix S M) H → va_S (fun q => z ≤ q) s.heap H locs → lv_has ls 1 [] → W p l e (tq_rm 0 0) s m args below meth c H locs 0 0 (MQ below (va_Qi (fun r u => post u r) (fun u => tq_P D cy z H0 ad N u M) (fun q => z ≤ q)) args s 0 0 (fun q => z ≤ q)) (F0 m 13 ls []) := by
  obtain ⟨hx, hb, hr, hml, hown, hts, hlocks, hK, hG⟩ := id C
  have hw : ∀ w ∈ tq_W, w.before args s = true := fun w h => hts w (List.mem_cons_of_mem _ h)
  intro S  H locs ls h hW hS hl
  unfold wbX11_isSheet_13 at h
  refine lv_iconst (v := 0) hx hb dX11_isSheet_13 (by decide) ?_
  exact bX11_isSheet_14 C  _ _ _ _ _ h hW hS (lv_sub hl [] rfl)
set_option maxHeartbeats 4000000 in
set_option maxRecDepth 100000 in
theorem kX11_isSheet {post : tq_St → Int32 → Prop} {S : tq_St} {p0 : Int32} (h : wpX11_isSheet N post S p0) : tq_sI l yX11_isSheet (tq_ws yX11_isSheet cX11_isSheet 1 (some .boolean)) 0 0 D cy z H0 ad N M S [.int p0] post := by
  unfold wpX11_isSheet at h
  refine Met.ofW (cc := cX11_isSheet) (maxL := 1) (ret := (some .boolean)) (by decide) rfl ?_
  intro p e s m args below meth c s₁ B hml hv
  obtain ⟨rfl, hW, hK, hG⟩ := hv
  have hx := B.exec
  have hb := B.bytes
  have hr := B.returns
  have hts := atoms_spec (ws := (tq_ws yX11_isSheet cX11_isSheet 1 (some .boolean))) B.pre
  have hw : ∀ w ∈ tq_W, w.before _ s = true := fun w h => hts w (List.mem_cons_of_mem _ h)
  have hown : s.vm.findClass RX11 = some m.cls := findClass_of_methodNamed B.named
  have hlocks := B.notSynchronized
  have C : tq_At p s m meth c [.int p0].toArray cX11_isSheet 1 ((some .boolean)) ((tq_ws yX11_isSheet cX11_isSheet 1 (some .boolean))) RX11 D cy z ad := ⟨hx, hb, hr, hml, hown, hts, hlocks, hK, hG⟩
  have hS : va_S (fun q => z ≤ q) s.heap s.heap [] := va_S.rf
  have hl := lv_entry ([.int p0]) (n := 1) (Nat.le_of_ble_eq_true rfl)
  rw [lg_entry_eq]
  generalize (lg_sl ([.int p0]) ++ List.replicate (1 - (lg_sl ([.int p0])).length) Slot.unset).toArray = ls at hl ⊢
  have hl : lv_has ls 1 [(0, .int p0)] := hl
  have hW : tq_wd D cy z H0 ad N (tq_mix S M) s.heap := hW
  refine lv_iload_n hx hb dX11_isSheet_0 rfl (lv_at hl 0 rfl) ?_
  refine lv_if_lt (tgt := 13) hx hb dX11_isSheet_1 (by decide) (fun c1 => ?_) (fun c1 => ?_)
  · have h := h.1 c1
    exact bX11_isSheet_13 C  _  _ _ _ h hW hS (lv_sub hl [] rfl)
  · have h := h.2 c1
    refine lv_iload_n hx hb dX11_isSheet_4 rfl (lv_at hl 0 rfl) ?_
    refine lv_iconst (v := 3) hx hb dX11_isSheet_5 (by decide) ?_
    refine lv_icmp_ge (tgt := 13) hx hb dX11_isSheet_6 (by decide) (fun c2 => ?_) (fun c2 => ?_)
    · have h := h.1 c2
      exact bX11_isSheet_13 C  _  _ _ _ h hW hS (lv_sub hl [] rfl)
    · have h := h.2 c2
      refine lv_iconst (v := 1) hx hb dX11_isSheet_9 (by decide) ?_
      refine lv_goto (tgt := 14) hx hb dX11_isSheet_10 (by decide) ?_
      exact bX11_isSheet_14 C  _ _ _ _ _ h hW hS (lv_sub hl [] rfl)
-- X11 isHolder
def wbX11_isHolder_15 (N : tq_Nn) (post : tq_St → Int32 → Prop)  (S : tq_St) (y0 : Int32) : Prop :=
  narrow .boolean (.int y0) = .int y0 ∧ post S y0
def wbX11_isHolder_14 (N : tq_Nn) (post : tq_St → Int32 → Prop)  (S : tq_St) : Prop :=
  wbX11_isHolder_15 N post S 0
def wpX11_isHolder (N : tq_Nn) (post : tq_St → Int32 → Prop) (S : tq_St) (p0 : Int32) : Prop :=
  (p0 < 0 → (wbX11_isHolder_14 N post S )) ∧ (¬ p0 < 0 → ((8 ≤ p0 → (wbX11_isHolder_14 N post S )) ∧ (¬ 8 ≤ p0 → (wbX11_isHolder_15 N post S 1))))
set_option maxHeartbeats 4000000 in
set_option maxRecDepth 100000 in
theorem bX11_isHolder_15 {p : Program} {e : Env} {s : State} {m : MethodId} {args : Array Value} {below : List Frame} {meth : Method} {c : Code} {post : tq_St → Int32 → Prop} (C : tq_At p s m meth c args cX11_isHolder 1 ((some .boolean)) ((tq_ws yX11_isHolder cX11_isHolder 1 (some .boolean))) RX11 D cy z ad)  : ∀ (S : tq_St) (y0 : Int32) (H : Heap) (locs : List Loc) (ls : Array Slot), wbX11_isHolder_15 N post   S y0 → tq_wd D cy z H0 ad N (tq_mix S M) H → va_S (fun q => z ≤ q) s.heap H locs → lv_has ls 1 [] → W p l e (tq_rm 0 0) s m args below meth c H locs 0 0 (MQ below (va_Qi (fun r u => post u r) (fun u => tq_P D cy z H0 ad N u M) (fun q => z ≤ q)) args s 0 0 (fun q => z ≤ q)) (F0 m 15 ls [.int y0]) := by
  obtain ⟨hx, hb, hr, hml, hown, hts, hlocks, hK, hG⟩ := id C
  have hw : ∀ w ∈ tq_W, w.before args s = true := fun w h => hts w (List.mem_cons_of_mem _ h)
  intro S y0 H locs ls h hW hS hl
  unfold wbX11_isHolder_15 at h
  obtain ⟨b3, h⟩ := h
  exact W.zret (v := y0) hx hb hr b3 (fun t ht hWm => ⟨⟨_, S, rfl, h, tq_pe ht hW⟩, hS.F ht⟩) hS.2.2 dX11_isHolder_15
set_option maxHeartbeats 4000000 in
set_option maxRecDepth 100000 in
theorem bX11_isHolder_14 {p : Program} {e : Env} {s : State} {m : MethodId} {args : Array Value} {below : List Frame} {meth : Method} {c : Code} {post : tq_St → Int32 → Prop} (C : tq_At p s m meth c args cX11_isHolder 1 ((some .boolean)) ((tq_ws yX11_isHolder cX11_isHolder 1 (some .boolean))) RX11 D cy z ad)  : ∀ (S : tq_St)  (H : Heap) (locs : List Loc) (ls : Array Slot), wbX11_isHolder_14 N post   S  → tq_wd D cy z H0 ad N (tq_mix S M) H → va_S (fun q => z ≤ q) s.heap H locs → lv_has ls 1 [] → W p l e (tq_rm 0 0) s m args below meth c H locs 0 0 (MQ below (va_Qi (fun r u => post u r) (fun u => tq_P D cy z H0 ad N u M) (fun q => z ≤ q)) args s 0 0 (fun q => z ≤ q)) (F0 m 14 ls []) := by
  obtain ⟨hx, hb, hr, hml, hown, hts, hlocks, hK, hG⟩ := id C
  have hw : ∀ w ∈ tq_W, w.before args s = true := fun w h => hts w (List.mem_cons_of_mem _ h)
  intro S  H locs ls h hW hS hl
  unfold wbX11_isHolder_14 at h
  refine lv_iconst (v := 0) hx hb dX11_isHolder_14 (by decide) ?_
  exact bX11_isHolder_15 C  _ _ _ _ _ h hW hS (lv_sub hl [] rfl)
set_option maxHeartbeats 4000000 in
set_option maxRecDepth 100000 in
theorem kX11_isHolder {post : tq_St → Int32 → Prop} {S : tq_St} {p0 : Int32} (h : wpX11_isHolder N post S p0) : tq_sI l yX11_isHolder (tq_ws yX11_isHolder cX11_isHolder 1 (some .boolean)) 0 0 D cy z H0 ad N M S [.int p0] post := by
  unfold wpX11_isHolder at h
  refine Met.ofW (cc := cX11_isHolder) (maxL := 1) (ret := (some .boolean)) (by decide) rfl ?_
  intro p e s m args below meth c s₁ B hml hv
  obtain ⟨rfl, hW, hK, hG⟩ := hv
  have hx := B.exec
  have hb := B.bytes
  have hr := B.returns
  have hts := atoms_spec (ws := (tq_ws yX11_isHolder cX11_isHolder 1 (some .boolean))) B.pre
  have hw : ∀ w ∈ tq_W, w.before _ s = true := fun w h => hts w (List.mem_cons_of_mem _ h)
  have hown : s.vm.findClass RX11 = some m.cls := findClass_of_methodNamed B.named
  have hlocks := B.notSynchronized
  have C : tq_At p s m meth c [.int p0].toArray cX11_isHolder 1 ((some .boolean)) ((tq_ws yX11_isHolder cX11_isHolder 1 (some .boolean))) RX11 D cy z ad := ⟨hx, hb, hr, hml, hown, hts, hlocks, hK, hG⟩
  have hS : va_S (fun q => z ≤ q) s.heap s.heap [] := va_S.rf
  have hl := lv_entry ([.int p0]) (n := 1) (Nat.le_of_ble_eq_true rfl)
  rw [lg_entry_eq]
  generalize (lg_sl ([.int p0]) ++ List.replicate (1 - (lg_sl ([.int p0])).length) Slot.unset).toArray = ls at hl ⊢
  have hl : lv_has ls 1 [(0, .int p0)] := hl
  have hW : tq_wd D cy z H0 ad N (tq_mix S M) s.heap := hW
  refine lv_iload_n hx hb dX11_isHolder_0 rfl (lv_at hl 0 rfl) ?_
  refine lv_if_lt (tgt := 14) hx hb dX11_isHolder_1 (by decide) (fun c1 => ?_) (fun c1 => ?_)
  · have h := h.1 c1
    exact bX11_isHolder_14 C  _  _ _ _ h hW hS (lv_sub hl [] rfl)
  · have h := h.2 c1
    refine lv_iload_n hx hb dX11_isHolder_4 rfl (lv_at hl 0 rfl) ?_
    refine lv_bipush (v := 8) hx hb dX11_isHolder_5 (by decide) ?_
    refine lv_icmp_ge (tgt := 14) hx hb dX11_isHolder_7 (by decide) (fun c2 => ?_) (fun c2 => ?_)
    · have h := h.1 c2
      exact bX11_isHolder_14 C  _  _ _ _ h hW hS (lv_sub hl [] rfl)
    · have h := h.2 c2
      refine lv_iconst (v := 1) hx hb dX11_isHolder_10 (by decide) ?_
      refine lv_goto (tgt := 15) hx hb dX11_isHolder_11 (by decide) ?_
      exact bX11_isHolder_15 C  _ _ _ _ _ h hW hS (lv_sub hl [] rfl)
-- X11 isPerson
def wbX11_isPerson_17 (N : tq_Nn) (post : tq_St → Int32 → Prop)  (S : tq_St) (y0 : Int32) : Prop :=
  narrow .boolean (.int y0) = .int y0 ∧ post S y0
def wbX11_isPerson_16 (N : tq_Nn) (post : tq_St → Int32 → Prop)  (S : tq_St) : Prop :=
  wbX11_isPerson_17 N post S 0
def wpX11_isPerson (N : tq_Nn) (post : tq_St → Int32 → Prop) (S : tq_St) (p0 : Int32) : Prop :=
  (p0 < 0 → (wbX11_isPerson_16 N post S )) ∧ (¬ p0 < 0 → (((S 1 0 2) ≤ p0 → (wbX11_isPerson_16 N post S )) ∧ (¬ (S 1 0 2) ≤ p0 → (wbX11_isPerson_17 N post S 1))))
set_option maxHeartbeats 4000000 in
set_option maxRecDepth 100000 in
theorem bX11_isPerson_17 {p : Program} {e : Env} {s : State} {m : MethodId} {args : Array Value} {below : List Frame} {meth : Method} {c : Code} {post : tq_St → Int32 → Prop} (C : tq_At p s m meth c args cX11_isPerson 2 ((some .boolean)) ((tq_ws yX11_isPerson cX11_isPerson 2 (some .boolean))) RX11 D cy z ad)  : ∀ (S : tq_St) (y0 : Int32) (H : Heap) (locs : List Loc) (ls : Array Slot), wbX11_isPerson_17 N post   S y0 → tq_wd D cy z H0 ad N (tq_mix S M) H → va_S (fun q => z ≤ q) s.heap H locs → lv_has ls 2 [] → W p l e (tq_rm 0 0) s m args below meth c H locs 0 0 (MQ below (va_Qi (fun r u => post u r) (fun u => tq_P D cy z H0 ad N u M) (fun q => z ≤ q)) args s 0 0 (fun q => z ≤ q)) (F0 m 17 ls [.int y0]) := by
  obtain ⟨hx, hb, hr, hml, hown, hts, hlocks, hK, hG⟩ := id C
  have hw : ∀ w ∈ tq_W, w.before args s = true := fun w h => hts w (List.mem_cons_of_mem _ h)
  intro S y0 H locs ls h hW hS hl
  unfold wbX11_isPerson_17 at h
  obtain ⟨b3, h⟩ := h
  exact W.zret (v := y0) hx hb hr b3 (fun t ht hWm => ⟨⟨_, S, rfl, h, tq_pe ht hW⟩, hS.F ht⟩) hS.2.2 dX11_isPerson_17
set_option maxHeartbeats 4000000 in
set_option maxRecDepth 100000 in
theorem bX11_isPerson_16 {p : Program} {e : Env} {s : State} {m : MethodId} {args : Array Value} {below : List Frame} {meth : Method} {c : Code} {post : tq_St → Int32 → Prop} (C : tq_At p s m meth c args cX11_isPerson 2 ((some .boolean)) ((tq_ws yX11_isPerson cX11_isPerson 2 (some .boolean))) RX11 D cy z ad)  : ∀ (S : tq_St)  (H : Heap) (locs : List Loc) (ls : Array Slot), wbX11_isPerson_16 N post   S  → tq_wd D cy z H0 ad N (tq_mix S M) H → va_S (fun q => z ≤ q) s.heap H locs → lv_has ls 2 [] → W p l e (tq_rm 0 0) s m args below meth c H locs 0 0 (MQ below (va_Qi (fun r u => post u r) (fun u => tq_P D cy z H0 ad N u M) (fun q => z ≤ q)) args s 0 0 (fun q => z ≤ q)) (F0 m 16 ls []) := by
  obtain ⟨hx, hb, hr, hml, hown, hts, hlocks, hK, hG⟩ := id C
  have hw : ∀ w ∈ tq_W, w.before args s = true := fun w h => hts w (List.mem_cons_of_mem _ h)
  intro S  H locs ls h hW hS hl
  unfold wbX11_isPerson_16 at h
  refine lv_iconst (v := 0) hx hb dX11_isPerson_16 (by decide) ?_
  exact bX11_isPerson_17 C  _ _ _ _ _ h hW hS (lv_sub hl [] rfl)
set_option maxHeartbeats 4000000 in
set_option maxRecDepth 100000 in
theorem kX11_isPerson {post : tq_St → Int32 → Prop} {S : tq_St} {p0 : Int32} (h : wpX11_isPerson N post S p0) : tq_sI l yX11_isPerson (tq_ws yX11_isPerson cX11_isPerson 2 (some .boolean)) 0 0 D cy z H0 ad N M S [.ref (ad 1 0), .int p0] post := by
  unfold wpX11_isPerson at h
  refine Met.ofW (cc := cX11_isPerson) (maxL := 2) (ret := (some .boolean)) (by decide) rfl ?_
  intro p e s m args below meth c s₁ B hml hv
  obtain ⟨rfl, hW, hK, hG⟩ := hv
  have hx := B.exec
  have hb := B.bytes
  have hr := B.returns
  have hts := atoms_spec (ws := (tq_ws yX11_isPerson cX11_isPerson 2 (some .boolean))) B.pre
  have hw : ∀ w ∈ tq_W, w.before _ s = true := fun w h => hts w (List.mem_cons_of_mem _ h)
  have hown : s.vm.findClass RX11 = some m.cls := findClass_of_methodNamed B.named
  have hlocks := B.notSynchronized
  have C : tq_At p s m meth c [.ref (ad 1 0), .int p0].toArray cX11_isPerson 2 ((some .boolean)) ((tq_ws yX11_isPerson cX11_isPerson 2 (some .boolean))) RX11 D cy z ad := ⟨hx, hb, hr, hml, hown, hts, hlocks, hK, hG⟩
  have hS : va_S (fun q => z ≤ q) s.heap s.heap [] := va_S.rf
  have hl := lv_entry ([.ref (ad 1 0), .int p0]) (n := 2) (Nat.le_of_ble_eq_true rfl)
  rw [lg_entry_eq]
  generalize (lg_sl ([.ref (ad 1 0), .int p0]) ++ List.replicate (2 - (lg_sl ([.ref (ad 1 0), .int p0])).length) Slot.unset).toArray = ls at hl ⊢
  have hl : lv_has ls 2 [(0, .ref (ad 1 0)), (1, .int p0)] := hl
  have hW : tq_wd D cy z H0 ad N (tq_mix S M) s.heap := hW
  refine lv_iload_n hx hb dX11_isPerson_0 rfl (lv_at hl 1 rfl) ?_
  refine lv_if_lt (tgt := 16) hx hb dX11_isPerson_1 (by decide) (fun c1 => ?_) (fun c1 => ?_)
  · have h := h.1 c1
    exact bX11_isPerson_16 C  _  _ _ _ h hW hS (lv_sub hl [] rfl)
  · have h := h.2 c1
    refine lv_iload_n hx hb dX11_isPerson_4 rfl (lv_at hl 1 rfl) ?_
    refine lv_aload_n hx hb dX11_isPerson_5 rfl (lv_at hl 0 rfl) ?_
    refine tqc_get (v := .int (S 1 0 2)) hx hb hw tq_inX11 hown hK hW (by decide) (tq_mk_1 (by decide)) rfl 2 (by decide) (hw _ tw_339) (fun _ h9 => h9) rfl dX11_isPerson_6 ?_
    refine lv_icmp_ge (tgt := 16) hx hb dX11_isPerson_9 (by decide) (fun c2 => ?_) (fun c2 => ?_)
    · have h := h.1 c2
      exact bX11_isPerson_16 C  _  _ _ _ h hW hS (lv_sub hl [] rfl)
    · have h := h.2 c2
      refine lv_iconst (v := 1) hx hb dX11_isPerson_12 (by decide) ?_
      refine lv_goto (tgt := 17) hx hb dX11_isPerson_13 (by decide) ?_
      exact bX11_isPerson_17 C  _ _ _ _ _ h hW hS (lv_sub hl [] rfl)
-- X11 isPaper
def wbX11_isPaper_20 (N : tq_Nn) (post : tq_St → Int32 → Prop)  (S : tq_St) (y0 : Int32) : Prop :=
  narrow .boolean (.int y0) = .int y0 ∧ post S y0
def wbX11_isPaper_19 (N : tq_Nn) (post : tq_St → Int32 → Prop)  (S : tq_St) : Prop :=
  wbX11_isPaper_20 N post S 0
def wpX11_isPaper (N : tq_Nn) (post : tq_St → Int32 → Prop) (S : tq_St) (p0 : Int32) : Prop :=
  (p0 < 0 → (wbX11_isPaper_19 N post S )) ∧ (¬ p0 < 0 → (((S 15 0 2) ≤ p0 → (wbX11_isPaper_19 N post S )) ∧ (¬ (S 15 0 2) ≤ p0 → (wbX11_isPaper_20 N post S 1))))
set_option maxHeartbeats 4000000 in
set_option maxRecDepth 100000 in
theorem bX11_isPaper_20 {p : Program} {e : Env} {s : State} {m : MethodId} {args : Array Value} {below : List Frame} {meth : Method} {c : Code} {post : tq_St → Int32 → Prop} (C : tq_At p s m meth c args cX11_isPaper 2 ((some .boolean)) ((tq_ws yX11_isPaper cX11_isPaper 2 (some .boolean))) RX11 D cy z ad)  : ∀ (S : tq_St) (y0 : Int32) (H : Heap) (locs : List Loc) (ls : Array Slot), wbX11_isPaper_20 N post   S y0 → tq_wd D cy z H0 ad N (tq_mix S M) H → va_S (fun q => z ≤ q) s.heap H locs → lv_has ls 2 [] → W p l e (tq_rm 1 20) s m args below meth c H locs 0 0 (MQ below (va_Qi (fun r u => post u r) (fun u => tq_P D cy z H0 ad N u M) (fun q => z ≤ q)) args s 0 0 (fun q => z ≤ q)) (F0 m 20 ls [.int y0]) := by
  obtain ⟨hx, hb, hr, hml, hown, hts, hlocks, hK, hG⟩ := id C
  have hw : ∀ w ∈ tq_W, w.before args s = true := fun w h => hts w (List.mem_cons_of_mem _ h)
  intro S y0 H locs ls h hW hS hl
  unfold wbX11_isPaper_20 at h
  obtain ⟨b5, h⟩ := h
  exact W.zret (v := y0) hx hb hr b5 (fun t ht hWm => ⟨⟨_, S, rfl, h, tq_pe ht hW⟩, hS.F ht⟩) hS.2.2 dX11_isPaper_20
set_option maxHeartbeats 4000000 in
set_option maxRecDepth 100000 in
theorem bX11_isPaper_19 {p : Program} {e : Env} {s : State} {m : MethodId} {args : Array Value} {below : List Frame} {meth : Method} {c : Code} {post : tq_St → Int32 → Prop} (C : tq_At p s m meth c args cX11_isPaper 2 ((some .boolean)) ((tq_ws yX11_isPaper cX11_isPaper 2 (some .boolean))) RX11 D cy z ad)  : ∀ (S : tq_St)  (H : Heap) (locs : List Loc) (ls : Array Slot), wbX11_isPaper_19 N post   S  → tq_wd D cy z H0 ad N (tq_mix S M) H → va_S (fun q => z ≤ q) s.heap H locs → lv_has ls 2 [] → W p l e (tq_rm 1 20) s m args below meth c H locs 0 0 (MQ below (va_Qi (fun r u => post u r) (fun u => tq_P D cy z H0 ad N u M) (fun q => z ≤ q)) args s 0 0 (fun q => z ≤ q)) (F0 m 19 ls []) := by
  obtain ⟨hx, hb, hr, hml, hown, hts, hlocks, hK, hG⟩ := id C
  have hw : ∀ w ∈ tq_W, w.before args s = true := fun w h => hts w (List.mem_cons_of_mem _ h)
  intro S  H locs ls h hW hS hl
  unfold wbX11_isPaper_19 at h
  refine lv_iconst (v := 0) hx hb dX11_isPaper_19 (by decide) ?_
  exact bX11_isPaper_20 C  _ _ _ _ _ h hW hS (lv_sub hl [] rfl)
set_option maxHeartbeats 4000000 in
set_option maxRecDepth 100000 in
theorem kX11_isPaper {post : tq_St → Int32 → Prop} {S : tq_St} {p0 : Int32} (h : wpX11_isPaper N post S p0) : tq_sI l yX11_isPaper (tq_ws yX11_isPaper cX11_isPaper 2 (some .boolean)) 1 20 D cy z H0 ad N M S [.ref (ad 1 0), .int p0] post := by
  unfold wpX11_isPaper at h
  refine Met.ofW (cc := cX11_isPaper) (maxL := 2) (ret := (some .boolean)) (by decide) rfl ?_
  intro p e s m args below meth c s₁ B hml hv
  obtain ⟨rfl, hW, hK, hG⟩ := hv
  have hx := B.exec
  have hb := B.bytes
  have hr := B.returns
  have hts := atoms_spec (ws := (tq_ws yX11_isPaper cX11_isPaper 2 (some .boolean))) B.pre
  have hw : ∀ w ∈ tq_W, w.before _ s = true := fun w h => hts w (List.mem_cons_of_mem _ h)
  have hown : s.vm.findClass RX11 = some m.cls := findClass_of_methodNamed B.named
  have hlocks := B.notSynchronized
  have C : tq_At p s m meth c [.ref (ad 1 0), .int p0].toArray cX11_isPaper 2 ((some .boolean)) ((tq_ws yX11_isPaper cX11_isPaper 2 (some .boolean))) RX11 D cy z ad := ⟨hx, hb, hr, hml, hown, hts, hlocks, hK, hG⟩
  have hS : va_S (fun q => z ≤ q) s.heap s.heap [] := va_S.rf
  have hl := lv_entry ([.ref (ad 1 0), .int p0]) (n := 2) (Nat.le_of_ble_eq_true rfl)
  rw [lg_entry_eq]
  generalize (lg_sl ([.ref (ad 1 0), .int p0]) ++ List.replicate (2 - (lg_sl ([.ref (ad 1 0), .int p0])).length) Slot.unset).toArray = ls at hl ⊢
  have hl : lv_has ls 2 [(0, .ref (ad 1 0)), (1, .int p0)] := hl
  have hW : tq_wd D cy z H0 ad N (tq_mix S M) s.heap := hW
  refine lv_iload_n hx hb dX11_isPaper_0 rfl (lv_at hl 1 rfl) ?_
  refine lv_if_lt (tgt := 19) hx hb dX11_isPaper_1 (by decide) (fun c1 => ?_) (fun c1 => ?_)
  · have h := h.1 c1
    exact bX11_isPaper_19 C  _  _ _ _ h hW hS (lv_sub hl [] rfl)
  · have h := h.2 c1
    refine lv_iload_n hx hb dX11_isPaper_4 rfl (lv_at hl 1 rfl) ?_
    refine lv_aload_n hx hb dX11_isPaper_5 rfl (lv_at hl 0 rfl) ?_
    refine tqc_get (v := .ref (ad 15 0)) hx hb hw tq_inX11 hown hK hW (by decide) (tq_mk_1 (by decide)) rfl 5 (by decide) (hw _ tw_342) (fun _ h9 => h9) rfl dX11_isPaper_6 ?_
    refine tqc_callVi (As := []) (rest := [.int p0]) (kJl_size (post := fun u r => u = S ∧ r = S 15 0 2) (by decide) (tq_mk_15 (by decide)) ⟨rfl, rfl⟩) ⟨hx, hb, hml, hown, hts⟩ (cwV 0 hts (tq_goodV tw_484 tw_485 tw_486 tw_118 tw_487) rfl rfl rfl (by decide +kernel) ⟨(Nat.le_of_ble_eq_true rfl), (Nat.le_of_ble_eq_true rfl)⟩) (tq_recvL hK hW (by decide) (tq_mk_15 (by decide))) hK hG hW hS rfl hl.1 rfl (Nat.le_of_ble_eq_true rfl) dX11_isPaper_9 ⟨(Nat.le_of_ble_eq_true rfl), (Nat.le_of_ble_eq_true rfl)⟩ (fun r3 S2 H locs q9 hW hS => ?_)
    rw [q9.1] at hW
    rw [q9.2]
    refine lv_icmp_ge (tgt := 19) hx hb dX11_isPaper_12 (by decide) (fun c4 => ?_) (fun c4 => ?_)
    · have h := h.1 c4
      exact bX11_isPaper_19 C  _  _ _ _ h hW hS (lv_sub hl [] rfl)
    · have h := h.2 c4
      refine lv_iconst (v := 1) hx hb dX11_isPaper_15 (by decide) ?_
      refine lv_goto (tgt := 20) hx hb dX11_isPaper_16 (by decide) ?_
      exact bX11_isPaper_20 C  _ _ _ _ _ h hW hS (lv_sub hl [] rfl)
-- X11 isShip
def wbX11_isShip_20 (N : tq_Nn) (post : tq_St → Int32 → Prop)  (S : tq_St) (y0 : Int32) : Prop :=
  narrow .boolean (.int y0) = .int y0 ∧ post S y0
def wbX11_isShip_19 (N : tq_Nn) (post : tq_St → Int32 → Prop)  (S : tq_St) : Prop :=
  wbX11_isShip_20 N post S 0
def wpX11_isShip (N : tq_Nn) (post : tq_St → Int32 → Prop) (S : tq_St) (p0 : Int32) : Prop :=
  (p0 < 0 → (wbX11_isShip_19 N post S )) ∧ (¬ p0 < 0 → (((S 19 0 2) ≤ p0 → (wbX11_isShip_19 N post S )) ∧ (¬ (S 19 0 2) ≤ p0 → (wbX11_isShip_20 N post S 1))))
set_option maxHeartbeats 4000000 in
set_option maxRecDepth 100000 in
theorem bX11_isShip_20 {p : Program} {e : Env} {s : State} {m : MethodId} {args : Array Value} {below : List Frame} {meth : Method} {c : Code} {post : tq_St → Int32 → Prop} (C : tq_At p s m meth c args cX11_isShip 2 ((some .boolean)) ((tq_ws yX11_isShip cX11_isShip 2 (some .boolean))) RX11 D cy z ad)  : ∀ (S : tq_St) (y0 : Int32) (H : Heap) (locs : List Loc) (ls : Array Slot), wbX11_isShip_20 N post   S y0 → tq_wd D cy z H0 ad N (tq_mix S M) H → va_S (fun q => z ≤ q) s.heap H locs → lv_has ls 2 [] → W p l e (tq_rm 1 20) s m args below meth c H locs 0 0 (MQ below (va_Qi (fun r u => post u r) (fun u => tq_P D cy z H0 ad N u M) (fun q => z ≤ q)) args s 0 0 (fun q => z ≤ q)) (F0 m 20 ls [.int y0]) := by
  obtain ⟨hx, hb, hr, hml, hown, hts, hlocks, hK, hG⟩ := id C
  have hw : ∀ w ∈ tq_W, w.before args s = true := fun w h => hts w (List.mem_cons_of_mem _ h)
  intro S y0 H locs ls h hW hS hl
  unfold wbX11_isShip_20 at h
  obtain ⟨b5, h⟩ := h
  exact W.zret (v := y0) hx hb hr b5 (fun t ht hWm => ⟨⟨_, S, rfl, h, tq_pe ht hW⟩, hS.F ht⟩) hS.2.2 dX11_isShip_20
set_option maxHeartbeats 4000000 in
set_option maxRecDepth 100000 in
theorem bX11_isShip_19 {p : Program} {e : Env} {s : State} {m : MethodId} {args : Array Value} {below : List Frame} {meth : Method} {c : Code} {post : tq_St → Int32 → Prop} (C : tq_At p s m meth c args cX11_isShip 2 ((some .boolean)) ((tq_ws yX11_isShip cX11_isShip 2 (some .boolean))) RX11 D cy z ad)  : ∀ (S : tq_St)  (H : Heap) (locs : List Loc) (ls : Array Slot), wbX11_isShip_19 N post   S  → tq_wd D cy z H0 ad N (tq_mix S M) H → va_S (fun q => z ≤ q) s.heap H locs → lv_has ls 2 [] → W p l e (tq_rm 1 20) s m args below meth c H locs 0 0 (MQ below (va_Qi (fun r u => post u r) (fun u => tq_P D cy z H0 ad N u M) (fun q => z ≤ q)) args s 0 0 (fun q => z ≤ q)) (F0 m 19 ls []) := by
  obtain ⟨hx, hb, hr, hml, hown, hts, hlocks, hK, hG⟩ := id C
  have hw : ∀ w ∈ tq_W, w.before args s = true := fun w h => hts w (List.mem_cons_of_mem _ h)
  intro S  H locs ls h hW hS hl
  unfold wbX11_isShip_19 at h
  refine lv_iconst (v := 0) hx hb dX11_isShip_19 (by decide) ?_
  exact bX11_isShip_20 C  _ _ _ _ _ h hW hS (lv_sub hl [] rfl)
set_option maxHeartbeats 4000000 in
set_option maxRecDepth 100000 in
theorem kX11_isShip {post : tq_St → Int32 → Prop} {S : tq_St} {p0 : Int32} (h : wpX11_isShip N post S p0) : tq_sI l yX11_isShip (tq_ws yX11_isShip cX11_isShip 2 (some .boolean)) 1 20 D cy z H0 ad N M S [.ref (ad 1 0), .int p0] post := by
  unfold wpX11_isShip at h
  refine Met.ofW (cc := cX11_isShip) (maxL := 2) (ret := (some .boolean)) (by decide) rfl ?_
  intro p e s m args below meth c s₁ B hml hv
  obtain ⟨rfl, hW, hK, hG⟩ := hv
  have hx := B.exec
  have hb := B.bytes
  have hr := B.returns
  have hts := atoms_spec (ws := (tq_ws yX11_isShip cX11_isShip 2 (some .boolean))) B.pre
  have hw : ∀ w ∈ tq_W, w.before _ s = true := fun w h => hts w (List.mem_cons_of_mem _ h)
  have hown : s.vm.findClass RX11 = some m.cls := findClass_of_methodNamed B.named
  have hlocks := B.notSynchronized
  have C : tq_At p s m meth c [.ref (ad 1 0), .int p0].toArray cX11_isShip 2 ((some .boolean)) ((tq_ws yX11_isShip cX11_isShip 2 (some .boolean))) RX11 D cy z ad := ⟨hx, hb, hr, hml, hown, hts, hlocks, hK, hG⟩
  have hS : va_S (fun q => z ≤ q) s.heap s.heap [] := va_S.rf
  have hl := lv_entry ([.ref (ad 1 0), .int p0]) (n := 2) (Nat.le_of_ble_eq_true rfl)
  rw [lg_entry_eq]
  generalize (lg_sl ([.ref (ad 1 0), .int p0]) ++ List.replicate (2 - (lg_sl ([.ref (ad 1 0), .int p0])).length) Slot.unset).toArray = ls at hl ⊢
  have hl : lv_has ls 2 [(0, .ref (ad 1 0)), (1, .int p0)] := hl
  have hW : tq_wd D cy z H0 ad N (tq_mix S M) s.heap := hW
  refine lv_iload_n hx hb dX11_isShip_0 rfl (lv_at hl 1 rfl) ?_
  refine lv_if_lt (tgt := 19) hx hb dX11_isShip_1 (by decide) (fun c1 => ?_) (fun c1 => ?_)
  · have h := h.1 c1
    exact bX11_isShip_19 C  _  _ _ _ h hW hS (lv_sub hl [] rfl)
  · have h := h.2 c1
    refine lv_iload_n hx hb dX11_isShip_4 rfl (lv_at hl 1 rfl) ?_
    refine lv_aload_n hx hb dX11_isShip_5 rfl (lv_at hl 0 rfl) ?_
    refine tqc_get (v := .ref (ad 19 0)) hx hb hw tq_inX11 hown hK hW (by decide) (tq_mk_1 (by decide)) rfl 7 (by decide) (hw _ tw_344) (fun _ h9 => h9) rfl dX11_isShip_6 ?_
    refine tqc_callVi (As := []) (rest := [.int p0]) (kJl_size (post := fun u r => u = S ∧ r = S 19 0 2) (by decide) (tq_mk_19 (by decide)) ⟨rfl, rfl⟩) ⟨hx, hb, hml, hown, hts⟩ (cwV 0 hts (tq_goodV tw_484 tw_485 tw_486 tw_118 tw_487) rfl rfl rfl (by decide +kernel) ⟨(Nat.le_of_ble_eq_true rfl), (Nat.le_of_ble_eq_true rfl)⟩) (tq_recvL hK hW (by decide) (tq_mk_19 (by decide))) hK hG hW hS rfl hl.1 rfl (Nat.le_of_ble_eq_true rfl) dX11_isShip_9 ⟨(Nat.le_of_ble_eq_true rfl), (Nat.le_of_ble_eq_true rfl)⟩ (fun r3 S2 H locs q9 hW hS => ?_)
    rw [q9.1] at hW
    rw [q9.2]
    refine lv_icmp_ge (tgt := 19) hx hb dX11_isShip_12 (by decide) (fun c4 => ?_) (fun c4 => ?_)
    · have h := h.1 c4
      exact bX11_isShip_19 C  _  _ _ _ h hW hS (lv_sub hl [] rfl)
    · have h := h.2 c4
      refine lv_iconst (v := 1) hx hb dX11_isShip_15 (by decide) ?_
      refine lv_goto (tgt := 20) hx hb dX11_isShip_16 (by decide) ?_
      exact bX11_isShip_20 C  _ _ _ _ _ h hW hS (lv_sub hl [] rfl)
-- X11 isVoyage
def wbX11_isVoyage_20 (N : tq_Nn) (post : tq_St → Int32 → Prop)  (S : tq_St) (y0 : Int32) : Prop :=
  narrow .boolean (.int y0) = .int y0 ∧ post S y0
def wbX11_isVoyage_19 (N : tq_Nn) (post : tq_St → Int32 → Prop)  (S : tq_St) : Prop :=
  wbX11_isVoyage_20 N post S 0
def wpX11_isVoyage (N : tq_Nn) (post : tq_St → Int32 → Prop) (S : tq_St) (p0 : Int32) : Prop :=
  (p0 < 0 → (wbX11_isVoyage_19 N post S )) ∧ (¬ p0 < 0 → (((S 22 0 2) ≤ p0 → (wbX11_isVoyage_19 N post S )) ∧ (¬ (S 22 0 2) ≤ p0 → (wbX11_isVoyage_20 N post S 1))))
set_option maxHeartbeats 4000000 in
set_option maxRecDepth 100000 in
theorem bX11_isVoyage_20 {p : Program} {e : Env} {s : State} {m : MethodId} {args : Array Value} {below : List Frame} {meth : Method} {c : Code} {post : tq_St → Int32 → Prop} (C : tq_At p s m meth c args cX11_isVoyage 2 ((some .boolean)) ((tq_ws yX11_isVoyage cX11_isVoyage 2 (some .boolean))) RX11 D cy z ad)  : ∀ (S : tq_St) (y0 : Int32) (H : Heap) (locs : List Loc) (ls : Array Slot), wbX11_isVoyage_20 N post   S y0 → tq_wd D cy z H0 ad N (tq_mix S M) H → va_S (fun q => z ≤ q) s.heap H locs → lv_has ls 2 [] → W p l e (tq_rm 1 20) s m args below meth c H locs 0 0 (MQ below (va_Qi (fun r u => post u r) (fun u => tq_P D cy z H0 ad N u M) (fun q => z ≤ q)) args s 0 0 (fun q => z ≤ q)) (F0 m 20 ls [.int y0]) := by
  obtain ⟨hx, hb, hr, hml, hown, hts, hlocks, hK, hG⟩ := id C
  have hw : ∀ w ∈ tq_W, w.before args s = true := fun w h => hts w (List.mem_cons_of_mem _ h)
  intro S y0 H locs ls h hW hS hl
  unfold wbX11_isVoyage_20 at h
  obtain ⟨b5, h⟩ := h
  exact W.zret (v := y0) hx hb hr b5 (fun t ht hWm => ⟨⟨_, S, rfl, h, tq_pe ht hW⟩, hS.F ht⟩) hS.2.2 dX11_isVoyage_20
set_option maxHeartbeats 4000000 in
set_option maxRecDepth 100000 in
theorem bX11_isVoyage_19 {p : Program} {e : Env} {s : State} {m : MethodId} {args : Array Value} {below : List Frame} {meth : Method} {c : Code} {post : tq_St → Int32 → Prop} (C : tq_At p s m meth c args cX11_isVoyage 2 ((some .boolean)) ((tq_ws yX11_isVoyage cX11_isVoyage 2 (some .boolean))) RX11 D cy z ad)  : ∀ (S : tq_St)  (H : Heap) (locs : List Loc) (ls : Array Slot), wbX11_isVoyage_19 N post   S  → tq_wd D cy z H0 ad N (tq_mix S M) H → va_S (fun q => z ≤ q) s.heap H locs → lv_has ls 2 [] → W p l e (tq_rm 1 20) s m args below meth c H locs 0 0 (MQ below (va_Qi (fun r u => post u r) (fun u => tq_P D cy z H0 ad N u M) (fun q => z ≤ q)) args s 0 0 (fun q => z ≤ q)) (F0 m 19 ls []) := by
  obtain ⟨hx, hb, hr, hml, hown, hts, hlocks, hK, hG⟩ := id C
  have hw : ∀ w ∈ tq_W, w.before args s = true := fun w h => hts w (List.mem_cons_of_mem _ h)
  intro S  H locs ls h hW hS hl
  unfold wbX11_isVoyage_19 at h
  refine lv_iconst (v := 0) hx hb dX11_isVoyage_19 (by decide) ?_
  exact bX11_isVoyage_20 C  _ _ _ _ _ h hW hS (lv_sub hl [] rfl)
set_option maxHeartbeats 4000000 in
set_option maxRecDepth 100000 in
theorem kX11_isVoyage {post : tq_St → Int32 → Prop} {S : tq_St} {p0 : Int32} (h : wpX11_isVoyage N post S p0) : tq_sI l yX11_isVoyage (tq_ws yX11_isVoyage cX11_isVoyage 2 (some .boolean)) 1 20 D cy z H0 ad N M S [.ref (ad 1 0), .int p0] post := by
  unfold wpX11_isVoyage at h
  refine Met.ofW (cc := cX11_isVoyage) (maxL := 2) (ret := (some .boolean)) (by decide) rfl ?_
  intro p e s m args below meth c s₁ B hml hv
  obtain ⟨rfl, hW, hK, hG⟩ := hv
  have hx := B.exec
  have hb := B.bytes
  have hr := B.returns
  have hts := atoms_spec (ws := (tq_ws yX11_isVoyage cX11_isVoyage 2 (some .boolean))) B.pre
  have hw : ∀ w ∈ tq_W, w.before _ s = true := fun w h => hts w (List.mem_cons_of_mem _ h)
  have hown : s.vm.findClass RX11 = some m.cls := findClass_of_methodNamed B.named
  have hlocks := B.notSynchronized
  have C : tq_At p s m meth c [.ref (ad 1 0), .int p0].toArray cX11_isVoyage 2 ((some .boolean)) ((tq_ws yX11_isVoyage cX11_isVoyage 2 (some .boolean))) RX11 D cy z ad := ⟨hx, hb, hr, hml, hown, hts, hlocks, hK, hG⟩
  have hS : va_S (fun q => z ≤ q) s.heap s.heap [] := va_S.rf
  have hl := lv_entry ([.ref (ad 1 0), .int p0]) (n := 2) (Nat.le_of_ble_eq_true rfl)
  rw [lg_entry_eq]
  generalize (lg_sl ([.ref (ad 1 0), .int p0]) ++ List.replicate (2 - (lg_sl ([.ref (ad 1 0), .int p0])).length) Slot.unset).toArray = ls at hl ⊢
  have hl : lv_has ls 2 [(0, .ref (ad 1 0)), (1, .int p0)] := hl
  have hW : tq_wd D cy z H0 ad N (tq_mix S M) s.heap := hW
  refine lv_iload_n hx hb dX11_isVoyage_0 rfl (lv_at hl 1 rfl) ?_
  refine lv_if_lt (tgt := 19) hx hb dX11_isVoyage_1 (by decide) (fun c1 => ?_) (fun c1 => ?_)
  · have h := h.1 c1
    exact bX11_isVoyage_19 C  _  _ _ _ h hW hS (lv_sub hl [] rfl)
  · have h := h.2 c1
    refine lv_iload_n hx hb dX11_isVoyage_4 rfl (lv_at hl 1 rfl) ?_
    refine lv_aload_n hx hb dX11_isVoyage_5 rfl (lv_at hl 0 rfl) ?_
    refine tqc_get (v := .ref (ad 22 0)) hx hb hw tq_inX11 hown hK hW (by decide) (tq_mk_1 (by decide)) rfl 9 (by decide) (hw _ tw_346) (fun _ h9 => h9) rfl dX11_isVoyage_6 ?_
    refine tqc_callVi (As := []) (rest := [.int p0]) (kJl_size (post := fun u r => u = S ∧ r = S 22 0 2) (by decide) (tq_mk_22 (by decide)) ⟨rfl, rfl⟩) ⟨hx, hb, hml, hown, hts⟩ (cwV 0 hts (tq_goodV tw_484 tw_485 tw_486 tw_118 tw_487) rfl rfl rfl (by decide +kernel) ⟨(Nat.le_of_ble_eq_true rfl), (Nat.le_of_ble_eq_true rfl)⟩) (tq_recvL hK hW (by decide) (tq_mk_22 (by decide))) hK hG hW hS rfl hl.1 rfl (Nat.le_of_ble_eq_true rfl) dX11_isVoyage_9 ⟨(Nat.le_of_ble_eq_true rfl), (Nat.le_of_ble_eq_true rfl)⟩ (fun r3 S2 H locs q9 hW hS => ?_)
    rw [q9.1] at hW
    rw [q9.2]
    refine lv_icmp_ge (tgt := 19) hx hb dX11_isVoyage_12 (by decide) (fun c4 => ?_) (fun c4 => ?_)
    · have h := h.1 c4
      exact bX11_isVoyage_19 C  _  _ _ _ h hW hS (lv_sub hl [] rfl)
    · have h := h.2 c4
      refine lv_iconst (v := 1) hx hb dX11_isVoyage_15 (by decide) ?_
      refine lv_goto (tgt := 20) hx hb dX11_isVoyage_16 (by decide) ?_
      exact bX11_isVoyage_20 C  _ _ _ _ _ h hW hS (lv_sub hl [] rfl)
