variable {l : Launch} {D : va_G} {cy : Nat → ClassId} {z : Nat} {H0 : Heap} {ad : Nat → Nat → Nat} {N : tq_Nn} {M : tq_St}
-- X6 takes
def wbX6_takes_51 (N : tq_Nn) (post : tq_St → Int32 → Prop)  (S : tq_St) (x2 : Int32) : Prop :=
  narrow .boolean (.int x2) = .int x2 ∧ post S x2
def wbX6_takes_36 (N : tq_Nn) (post : tq_St → Int32 → Prop)  (S : tq_St) (y0 : Int32) : Prop :=
  (y0 = 0 → (wbX6_takes_51 N post S y0)) ∧ (¬ y0 = 0 → ((∀ S6, S6 = tq_up S 3 0 2 ((S 3 0 2) + 1) → (wbX6_takes_51 N post S6 y0))))
def wbX6_takes_35 (N : tq_Nn) (post : tq_St → Int32 → Prop)  (S : tq_St) : Prop :=
  wbX6_takes_36 N post S 0
def wpX6_takes (N : tq_Nn) (post : tq_St → Int32 → Prop) (S : tq_St) (p0 : Int32) : Prop :=
  (0 ≤ (S 3 0 3) → (wbX6_takes_35 N post S )) ∧ (¬ 0 ≤ (S 3 0 3) → (((S 3 0 1) ≤ (S 3 0 2) → (wbX6_takes_35 N post S )) ∧ (¬ (S 3 0 1) ≤ (S 3 0 2) → (vp_in (S 3 0 2) 120 ∧ ((¬ (S 41 0 ((S 3 0 2).toNatClampNeg)) = p0 → (wbX6_takes_35 N post S )) ∧ ((S 41 0 ((S 3 0 2).toNatClampNeg)) = p0 → (wbX6_takes_36 N post S 1)))))))
set_option maxHeartbeats 4000000 in
set_option maxRecDepth 100000 in
theorem bX6_takes_51 {p : Program} {e : Env} {s : State} {m : MethodId} {args : Array Value} {below : List Frame} {meth : Method} {c : Code} {post : tq_St → Int32 → Prop} (C : tq_At p s m meth c args cX6_takes 3 ((some .boolean)) ((tq_ws yX6_takes cX6_takes 3 (some .boolean))) RX6 D cy z ad)  : ∀ (S : tq_St) (x2 : Int32) (H : Heap) (locs : List Loc) (ls : Array Slot), wbX6_takes_51 N post   S x2 → tq_wd D cy z H0 ad N (tq_mix S M) H → va_S (fun q => z ≤ q) s.heap H locs → lv_has ls 3 [(2, .int x2)] → W p l e (tq_rm 0 0) s m args below meth c H locs 0 0 (MQ below (va_Qi (fun r u => post u r) (fun u => tq_P D cy z H0 ad N u M) (fun q => z ≤ q)) args s 0 0 (fun q => z ≤ q)) (F0 m 51 ls []) := by
  obtain ⟨hx, hb, hr, hml, hown, hts, hlocks, hK, hG⟩ := id C
  have hw : ∀ w ∈ tq_W, w.before args s = true := fun w h => hts w (List.mem_cons_of_mem _ h)
  intro S x2 H locs ls h hW hS hl
  unfold wbX6_takes_51 at h
  refine lv_iload_n hx hb dX6_takes_51 rfl (lv_at hl 0 rfl) ?_
  obtain ⟨b7, h⟩ := h
  exact W.zret (v := x2) hx hb hr b7 (fun t ht hWm => ⟨⟨_, S, rfl, h, tq_pe ht hW⟩, hS.F ht⟩) hS.2.2 dX6_takes_52
set_option maxHeartbeats 4000000 in
set_option maxRecDepth 100000 in
theorem bX6_takes_36 {p : Program} {e : Env} {s : State} {m : MethodId} {args : Array Value} {below : List Frame} {meth : Method} {c : Code} {post : tq_St → Int32 → Prop} (C : tq_At p s m meth c args cX6_takes 3 ((some .boolean)) ((tq_ws yX6_takes cX6_takes 3 (some .boolean))) RX6 D cy z ad)  : ∀ (S : tq_St) (y0 : Int32) (H : Heap) (locs : List Loc) (ls : Array Slot), wbX6_takes_36 N post   S y0 → tq_wd D cy z H0 ad N (tq_mix S M) H → va_S (fun q => z ≤ q) s.heap H locs → lv_has ls 3 [(0, .ref (ad 3 0))] → W p l e (tq_rm 0 0) s m args below meth c H locs 0 0 (MQ below (va_Qi (fun r u => post u r) (fun u => tq_P D cy z H0 ad N u M) (fun q => z ≤ q)) args s 0 0 (fun q => z ≤ q)) (F0 m 36 ls [.int y0]) := by
  obtain ⟨hx, hb, hr, hml, hown, hts, hlocks, hK, hG⟩ := id C
  have hw : ∀ w ∈ tq_W, w.before args s = true := fun w h => hts w (List.mem_cons_of_mem _ h)
  intro S y0 H locs ls h hW hS hl
  unfold wbX6_takes_36 at h
  refine lv_istore_n (lv' := [(2, .int y0), (0, .ref (ad 3 0))]) hx hb dX6_takes_36 rfl hl (by decide) rfl (fun ls hl => ?_)
  refine lv_iload_n hx hb dX6_takes_37 rfl (lv_at hl 0 rfl) ?_
  refine lv_if_eq (tgt := 51) hx hb dX6_takes_38 (by decide) (fun c5 => ?_) (fun c5 => ?_)
  · have h := h.1 c5
    exact bX6_takes_51 C  _ _ _ _ _ h hW hS (lv_sub hl [0] rfl)
  · have h := h.2 c5
    refine lv_aload_n hx hb dX6_takes_41 rfl (lv_at hl 1 rfl) ?_
    refine lv_dup hx hb dX6_takes_42 rfl ?_
    refine tqc_get (v := .int (S 3 0 2)) hx hb hw tq_inX6 hown hK hW (by decide) (tq_mk_3 (by decide)) rfl 2 (by decide) (hw _ tw_187) (fun _ h9 => h9) rfl dX6_takes_43 ?_
    refine lv_iconst (v := 1) hx hb dX6_takes_46 (by decide) ?_
    refine lv_iadd hx hb dX6_takes_47 ?_
    refine tqc_put hx hb hw tq_inX6 tyX6 tyX6_ok nmX6 hown hK hW hS (by decide) (tq_mk_3 (by decide)) rfl 2 (by decide) (hw _ tw_187) (fun _ h9 => h9) rfl rfl rfl rfl (tq_mk_3 (by decide)) dX6_takes_48 (fun H locs hW hS => ?_)
    generalize eS6 : tq_up S 3 0 2 ((S 3 0 2) + 1) = S6 at hW
    have h := h S6 eS6.symm
    exact bX6_takes_51 C  _ _ _ _ _ h hW hS (lv_sub hl [0] rfl)
set_option maxHeartbeats 4000000 in
set_option maxRecDepth 100000 in
theorem bX6_takes_35 {p : Program} {e : Env} {s : State} {m : MethodId} {args : Array Value} {below : List Frame} {meth : Method} {c : Code} {post : tq_St → Int32 → Prop} (C : tq_At p s m meth c args cX6_takes 3 ((some .boolean)) ((tq_ws yX6_takes cX6_takes 3 (some .boolean))) RX6 D cy z ad)  : ∀ (S : tq_St)  (H : Heap) (locs : List Loc) (ls : Array Slot), wbX6_takes_35 N post   S  → tq_wd D cy z H0 ad N (tq_mix S M) H → va_S (fun q => z ≤ q) s.heap H locs → lv_has ls 3 [(0, .ref (ad 3 0))] → W p l e (tq_rm 0 0) s m args below meth c H locs 0 0 (MQ below (va_Qi (fun r u => post u r) (fun u => tq_P D cy z H0 ad N u M) (fun q => z ≤ q)) args s 0 0 (fun q => z ≤ q)) (F0 m 35 ls []) := by
  obtain ⟨hx, hb, hr, hml, hown, hts, hlocks, hK, hG⟩ := id C
  have hw : ∀ w ∈ tq_W, w.before args s = true := fun w h => hts w (List.mem_cons_of_mem _ h)
  intro S  H locs ls h hW hS hl
  unfold wbX6_takes_35 at h
  refine lv_iconst (v := 0) hx hb dX6_takes_35 (by decide) ?_
  exact bX6_takes_36 C  _ _ _ _ _ h hW hS (lv_sub hl [0] rfl)
set_option maxHeartbeats 4000000 in
set_option maxRecDepth 100000 in
theorem kX6_takes {post : tq_St → Int32 → Prop} {S : tq_St} {p0 : Int32} (h : wpX6_takes N post S p0) : tq_sI l yX6_takes (tq_ws yX6_takes cX6_takes 3 (some .boolean)) 0 0 D cy z H0 ad N M S [.ref (ad 3 0), .int p0] post := by
  unfold wpX6_takes at h
  refine Met.ofW (cc := cX6_takes) (maxL := 3) (ret := (some .boolean)) (by decide) rfl ?_
  intro p e s m args below meth c s₁ B hml hv
  obtain ⟨rfl, hW, hK, hG⟩ := hv
  have hx := B.exec
  have hb := B.bytes
  have hr := B.returns
  have hts := atoms_spec (ws := (tq_ws yX6_takes cX6_takes 3 (some .boolean))) B.pre
  have hw : ∀ w ∈ tq_W, w.before _ s = true := fun w h => hts w (List.mem_cons_of_mem _ h)
  have hown : s.vm.findClass RX6 = some m.cls := findClass_of_methodNamed B.named
  have hlocks := B.notSynchronized
  have C : tq_At p s m meth c [.ref (ad 3 0), .int p0].toArray cX6_takes 3 ((some .boolean)) ((tq_ws yX6_takes cX6_takes 3 (some .boolean))) RX6 D cy z ad := ⟨hx, hb, hr, hml, hown, hts, hlocks, hK, hG⟩
  have hS : va_S (fun q => z ≤ q) s.heap s.heap [] := va_S.rf
  have hl := lv_entry ([.ref (ad 3 0), .int p0]) (n := 3) (Nat.le_of_ble_eq_true rfl)
  rw [lg_entry_eq]
  generalize (lg_sl ([.ref (ad 3 0), .int p0]) ++ List.replicate (3 - (lg_sl ([.ref (ad 3 0), .int p0])).length) Slot.unset).toArray = ls at hl ⊢
  have hl : lv_has ls 3 [(0, .ref (ad 3 0)), (1, .int p0)] := hl
  have hW : tq_wd D cy z H0 ad N (tq_mix S M) s.heap := hW
  refine lv_aload_n hx hb dX6_takes_0 rfl (lv_at hl 0 rfl) ?_
  refine tqc_get (v := .int (S 3 0 3)) hx hb hw tq_inX6 hown hK hW (by decide) (tq_mk_3 (by decide)) rfl 3 (by decide) (hw _ tw_188) (fun _ h9 => h9) rfl dX6_takes_1 ?_
  refine lv_if_ge (tgt := 35) hx hb dX6_takes_4 (by decide) (fun c1 => ?_) (fun c1 => ?_)
  · have h := h.1 c1
    exact bX6_takes_35 C  _  _ _ _ h hW hS (lv_sub hl [0] rfl)
  · have h := h.2 c1
    refine lv_aload_n hx hb dX6_takes_7 rfl (lv_at hl 0 rfl) ?_
    refine tqc_get (v := .int (S 3 0 2)) hx hb hw tq_inX6 hown hK hW (by decide) (tq_mk_3 (by decide)) rfl 2 (by decide) (hw _ tw_187) (fun _ h9 => h9) rfl dX6_takes_8 ?_
    refine lv_aload_n hx hb dX6_takes_11 rfl (lv_at hl 0 rfl) ?_
    refine tqc_get (v := .int (S 3 0 1)) hx hb hw tq_inX6 hown hK hW (by decide) (tq_mk_3 (by decide)) rfl 1 (by decide) (hw _ tw_185) (fun _ h9 => h9) rfl dX6_takes_12 ?_
    refine lv_icmp_ge (tgt := 35) hx hb dX6_takes_15 (by decide) (fun c2 => ?_) (fun c2 => ?_)
    · have h := h.1 c2
      exact bX6_takes_35 C  _  _ _ _ h hW hS (lv_sub hl [0] rfl)
    · have h := h.2 c2
      refine lv_aload_n hx hb dX6_takes_18 rfl (lv_at hl 0 rfl) ?_
      refine tqc_get (v := .ref (ad 41 0)) hx hb hw tq_inX6 hown hK hW (by decide) (tq_mk_3 (by decide)) rfl 0 (by decide) (hw _ tw_184) (fun _ h9 => h9) rfl dX6_takes_19 ?_
      refine lv_aload_n hx hb dX6_takes_22 rfl (lv_at hl 0 rfl) ?_
      refine tqc_get (v := .int (S 3 0 2)) hx hb hw tq_inX6 hown hK hW (by decide) (tq_mk_3 (by decide)) rfl 2 (by decide) (hw _ tw_187) (fun _ h9 => h9) rfl dX6_takes_23 ?_
      obtain ⟨b3, h⟩ := h
      refine tqc_iald (jn := (S 3 0 2).toNatClampNeg) hx hb hK hW (by decide) (tq_mk_41 (by decide)) b3 rfl dX6_takes_26 ?_
      refine lv_iload_n hx hb dX6_takes_27 rfl (lv_at hl 1 rfl) ?_
      refine lv_icmp_ne (tgt := 35) hx hb dX6_takes_28 (by decide) (fun c4 => ?_) (fun c4 => ?_)
      · have h := h.1 c4
        exact bX6_takes_35 C  _  _ _ _ h hW hS (lv_sub hl [0] rfl)
      · have h := h.2 c4
        refine lv_iconst (v := 1) hx hb dX6_takes_31 (by decide) ?_
        refine lv_goto (tgt := 36) hx hb dX6_takes_32 (by decide) ?_
        exact bX6_takes_36 C  _ _ _ _ _ h hW hS (lv_sub hl [0] rfl)
-- X6 fail
def wbX6_fail_15 (N : tq_Nn) (post : tq_St → Prop)  (S : tq_St) : Prop :=
  post S
def wpX6_fail (N : tq_Nn) (post : tq_St → Prop) (S : tq_St)  : Prop :=
  (0 ≤ (S 3 0 3) → (wbX6_fail_15 N post S )) ∧ (¬ 0 ≤ (S 3 0 3) → ((∀ S2, S2 = tq_up S 3 0 3 (S 3 0 2) → (wbX6_fail_15 N post S2 ))))
set_option maxHeartbeats 4000000 in
set_option maxRecDepth 100000 in
theorem bX6_fail_15 {p : Program} {e : Env} {s : State} {m : MethodId} {args : Array Value} {below : List Frame} {meth : Method} {c : Code} {post : tq_St → Prop} (C : tq_At p s m meth c args cX6_fail 1 (none) ((tq_ws yX6_fail cX6_fail 1 none)) RX6 D cy z ad)  : ∀ (S : tq_St)  (H : Heap) (locs : List Loc) (ls : Array Slot), wbX6_fail_15 N post   S  → tq_wd D cy z H0 ad N (tq_mix S M) H → va_S (fun q => z ≤ q) s.heap H locs → lv_has ls 1 [] → W p l e (tq_rm 0 0) s m args below meth c H locs 0 0 (MQ below (va_Qv (fun u => post u) (fun u => tq_P D cy z H0 ad N u M) (fun q => z ≤ q)) args s 0 0 (fun q => z ≤ q)) (F0 m 15 ls []) := by
  obtain ⟨hx, hb, hr, hml, hown, hts, hlocks, hK, hG⟩ := id C
  have hw : ∀ w ∈ tq_W, w.before args s = true := fun w h => hts w (List.mem_cons_of_mem _ h)
  intro S  H locs ls h hW hS hl
  unfold wbX6_fail_15 at h
  exact W.vret hx hb hr (fun t ht hWm => ⟨⟨S, rfl, h, tq_pe ht hW⟩, hS.F ht⟩) hS.2.2 dX6_fail_15
set_option maxHeartbeats 4000000 in
set_option maxRecDepth 100000 in
theorem kX6_fail {post : tq_St → Prop} {S : tq_St}  (h : wpX6_fail N post S ) : tq_sV l yX6_fail (tq_ws yX6_fail cX6_fail 1 none) 0 0 D cy z H0 ad N M S [.ref (ad 3 0)] post := by
  unfold wpX6_fail at h
  refine Met.ofW (cc := cX6_fail) (maxL := 1) (ret := none) (by decide) rfl ?_
  intro p e s m args below meth c s₁ B hml hv
  obtain ⟨rfl, hW, hK, hG⟩ := hv
  have hx := B.exec
  have hb := B.bytes
  have hr := B.returns
  have hts := atoms_spec (ws := (tq_ws yX6_fail cX6_fail 1 none)) B.pre
  have hw : ∀ w ∈ tq_W, w.before _ s = true := fun w h => hts w (List.mem_cons_of_mem _ h)
  have hown : s.vm.findClass RX6 = some m.cls := findClass_of_methodNamed B.named
  have hlocks := B.notSynchronized
  have C : tq_At p s m meth c [.ref (ad 3 0)].toArray cX6_fail 1 (none) ((tq_ws yX6_fail cX6_fail 1 none)) RX6 D cy z ad := ⟨hx, hb, hr, hml, hown, hts, hlocks, hK, hG⟩
  have hS : va_S (fun q => z ≤ q) s.heap s.heap [] := va_S.rf
  have hl := lv_entry ([.ref (ad 3 0)]) (n := 1) (Nat.le_of_ble_eq_true rfl)
  rw [lg_entry_eq]
  generalize (lg_sl ([.ref (ad 3 0)]) ++ List.replicate (1 - (lg_sl ([.ref (ad 3 0)])).length) Slot.unset).toArray = ls at hl ⊢
  have hl : lv_has ls 1 [(0, .ref (ad 3 0))] := hl
  have hW : tq_wd D cy z H0 ad N (tq_mix S M) s.heap := hW
  refine lv_aload_n hx hb dX6_fail_0 rfl (lv_at hl 0 rfl) ?_
  refine tqc_get (v := .int (S 3 0 3)) hx hb hw tq_inX6 hown hK hW (by decide) (tq_mk_3 (by decide)) rfl 3 (by decide) (hw _ tw_188) (fun _ h9 => h9) rfl dX6_fail_1 ?_
  refine lv_if_ge (tgt := 15) hx hb dX6_fail_4 (by decide) (fun c1 => ?_) (fun c1 => ?_)
  · have h := h.1 c1
    exact bX6_fail_15 C  _  _ _ _ h hW hS (lv_sub hl [] rfl)
  · have h := h.2 c1
    refine lv_aload_n hx hb dX6_fail_7 rfl (lv_at hl 0 rfl) ?_
    refine lv_aload_n hx hb dX6_fail_8 rfl (lv_at hl 0 rfl) ?_
    refine tqc_get (v := .int (S 3 0 2)) hx hb hw tq_inX6 hown hK hW (by decide) (tq_mk_3 (by decide)) rfl 2 (by decide) (hw _ tw_187) (fun _ h9 => h9) rfl dX6_fail_9 ?_
    refine tqc_put hx hb hw tq_inX6 tyX6 tyX6_ok nmX6 hown hK hW hS (by decide) (tq_mk_3 (by decide)) rfl 3 (by decide) (hw _ tw_188) (fun _ h9 => h9) rfl rfl rfl rfl (tq_mk_3 (by decide)) dX6_fail_12 (fun H locs hW hS => ?_)
    generalize eS2 : tq_up S 3 0 3 (S 3 0 2) = S2 at hW
    have h := h S2 eS2.symm
    exact bX6_fail_15 C  _  _ _ _ h hW hS (lv_sub hl [] rfl)
-- X5 priceOf
def wpX5_priceOf (N : tq_Nn) (post : tq_St → Int32 → Prop) (S : tq_St) (o : Nat) (p1 : Int32) : Prop :=
  o < 5 ∧ (vp_in p1 4 ∧ (post S ((S 31 o p1.toNatClampNeg) + ((S 32 o p1.toNatClampNeg) / 5))))
set_option maxHeartbeats 4000000 in
set_option maxRecDepth 100000 in
theorem kX5_priceOf {post : tq_St → Int32 → Prop} {S : tq_St} {o : Nat} {p1 : Int32} (h : wpX5_priceOf N post S o p1) : tq_sI l yX5_priceOf (tq_ws yX5_priceOf cX5_priceOf 2 (some .int)) 0 0 D cy z H0 ad N M S [.ref (ad 2 o), .int p1] post := by
  unfold wpX5_priceOf at h
  refine Met.ofW (cc := cX5_priceOf) (maxL := 2) (ret := (some .int)) (by decide) rfl ?_
  intro p e s m args below meth c s₁ B hml hv
  obtain ⟨rfl, hW, hK, hG⟩ := hv
  have hx := B.exec
  have hb := B.bytes
  have hr := B.returns
  have hts := atoms_spec (ws := (tq_ws yX5_priceOf cX5_priceOf 2 (some .int))) B.pre
  have hw : ∀ w ∈ tq_W, w.before _ s = true := fun w h => hts w (List.mem_cons_of_mem _ h)
  have hown : s.vm.findClass RX5 = some m.cls := findClass_of_methodNamed B.named
  have hlocks := B.notSynchronized
  have C : tq_At p s m meth c [.ref (ad 2 o), .int p1].toArray cX5_priceOf 2 ((some .int)) ((tq_ws yX5_priceOf cX5_priceOf 2 (some .int))) RX5 D cy z ad := ⟨hx, hb, hr, hml, hown, hts, hlocks, hK, hG⟩
  have hS : va_S (fun q => z ≤ q) s.heap s.heap [] := va_S.rf
  have hl := lv_entry ([.ref (ad 2 o), .int p1]) (n := 2) (Nat.le_of_ble_eq_true rfl)
  rw [lg_entry_eq]
  generalize (lg_sl ([.ref (ad 2 o), .int p1]) ++ List.replicate (2 - (lg_sl ([.ref (ad 2 o), .int p1])).length) Slot.unset).toArray = ls at hl ⊢
  have hl : lv_has ls 2 [(0, .ref (ad 2 o)), (1, .int p1)] := hl
  have hW : tq_wd D cy z H0 ad N (tq_mix S M) s.heap := hW
  refine lv_aload_n hx hb dX5_priceOf_0 rfl (lv_at hl 0 rfl) ?_
  obtain ⟨b1, h⟩ := h
  refine tqc_get (v := .ref (ad 31 o)) hx hb hw tq_inX5 hown hK hW (by decide) (tq_mk_2 b1) rfl 6 (by decide) (hw _ tw_265) (fun _ h9 => h9) rfl dX5_priceOf_1 ?_
  refine lv_iload_n hx hb dX5_priceOf_4 rfl (lv_at hl 1 rfl) ?_
  obtain ⟨b2, h⟩ := h
  refine tqc_iald (jn := p1.toNatClampNeg) hx hb hK hW (by decide) (tq_mk_31 b1) b2 rfl dX5_priceOf_5 ?_
  refine lv_aload_n hx hb dX5_priceOf_6 rfl (lv_at hl 0 rfl) ?_
  refine tqc_get (v := .ref (ad 32 o)) hx hb hw tq_inX5 hown hK hW (by decide) (tq_mk_2 b1) rfl 7 (by decide) (hw _ tw_267) (fun _ h9 => h9) rfl dX5_priceOf_7 ?_
  refine lv_iload_n hx hb dX5_priceOf_10 rfl (lv_at hl 1 rfl) ?_
  refine tqc_iald (jn := p1.toNatClampNeg) hx hb hK hW (by decide) (tq_mk_32 b1) b2 rfl dX5_priceOf_11 ?_
  refine lv_iconst (v := 5) hx hb dX5_priceOf_12 (by decide) ?_
  refine lv_idiv hx hb dX5_priceOf_13 (by decide) ?_
  refine lv_iadd hx hb dX5_priceOf_14 ?_
  exact W.iret (v := (S 31 o p1.toNatClampNeg) + ((S 32 o p1.toNatClampNeg) / 5)) hx hb hr (fun t ht hWm => ⟨⟨_, S, rfl, h, tq_pe ht hW⟩, hS.F ht⟩) hS.2.2 dX5_priceOf_15
-- X5 purchase
def wbX5_purchase_77 (N : tq_Nn) (post : tq_St → Int32 → Prop)  (S : tq_St) (x4 : Int32) : Prop :=
  post S x4
def wbX5_purchase_6 (N : tq_Nn) (post : tq_St → Int32 → Prop) : Nat → tq_St → Nat → Int32 → Int32 → Int32 → Int32 → Int32 → Prop
  | 0, _, _, _, _, _, _, _ => False
  | n + 1, S, x0, x1, x2, x3, x4, x5 =>
    (x2 ≤ x5 → (wbX5_purchase_77 N post S x4)) ∧ (¬ x2 ≤ x5 → (x0 < 5 ∧ wpX5_priceOf N (fun S3 r4 => (r4 ≤ ((S3 2 x0 1) - x3) → ((∀ S6, S6 = tq_up S3 2 x0 1 ((S3 2 x0 1) - r4) → (vp_in x1 4 ∧ (∀ S8, S8 = tq_up S6 30 x0 x1.toNatClampNeg ((S6 30 x0 x1.toNatClampNeg) + 1) → (∀ S9, S9 = tq_up S8 32 x0 x1.toNatClampNeg ((S8 32 x0 x1.toNatClampNeg) + 1) → ((wbX5_purchase_6 N post n) S9 x0 x1 x2 x3 (x4 + r4) (x5 + 1)))))))) ∧ (¬ r4 ≤ ((S3 2 x0 1) - x3) → (wbX5_purchase_77 N post S3 x4))) S x0 x1))
def wpX5_purchase (N : tq_Nn) (post : tq_St → Int32 → Prop) (S : tq_St) (o : Nat) (p1 : Int32) (p2 : Int32) (p3 : Int32) : Prop :=
  ∃ nq, wbX5_purchase_6 N post nq S o p1 p2 p3 0 0
set_option maxHeartbeats 4000000 in
set_option maxRecDepth 100000 in
theorem bX5_purchase_77 {p : Program} {e : Env} {s : State} {m : MethodId} {args : Array Value} {below : List Frame} {meth : Method} {c : Code} {post : tq_St → Int32 → Prop} (C : tq_At p s m meth c args cX5_purchase 7 ((some .int)) ((tq_ws yX5_purchase cX5_purchase 7 (some .int))) RX5 D cy z ad)  : ∀ (S : tq_St) (x4 : Int32) (H : Heap) (locs : List Loc) (ls : Array Slot), wbX5_purchase_77 N post   S x4 → tq_wd D cy z H0 ad N (tq_mix S M) H → va_S (fun q => z ≤ q) s.heap H locs → lv_has ls 7 [(4, .int x4)] → W p l e (tq_rm 1 21) s m args below meth c H locs 0 0 (MQ below (va_Qi (fun r u => post u r) (fun u => tq_P D cy z H0 ad N u M) (fun q => z ≤ q)) args s 0 0 (fun q => z ≤ q)) (F0 m 77 ls []) := by
  obtain ⟨hx, hb, hr, hml, hown, hts, hlocks, hK, hG⟩ := id C
  have hw : ∀ w ∈ tq_W, w.before args s = true := fun w h => hts w (List.mem_cons_of_mem _ h)
  intro S x4 H locs ls h hW hS hl
  unfold wbX5_purchase_77 at h
  refine lv_iload hx hb dX5_purchase_77 (lv_at hl 0 rfl) ?_
  exact W.iret (v := x4) hx hb hr (fun t ht hWm => ⟨⟨_, S, rfl, h, tq_pe ht hW⟩, hS.F ht⟩) hS.2.2 dX5_purchase_79
set_option maxHeartbeats 4000000 in
set_option maxRecDepth 100000 in
theorem bX5_purchase_6 {p : Program} {e : Env} {s : State} {m : MethodId} {args : Array Value} {below : List Frame} {meth : Method} {c : Code} {post : tq_St → Int32 → Prop} (C : tq_At p s m meth c args cX5_purchase 7 ((some .int)) ((tq_ws yX5_purchase cX5_purchase 7 (some .int))) RX5 D cy z ad)  : ∀ n : Nat, ∀ (S : tq_St) (x0 : Nat) (x1 : Int32) (x2 : Int32) (x3 : Int32) (x4 : Int32) (x5 : Int32) (H : Heap) (locs : List Loc) (ls : Array Slot), wbX5_purchase_6 N post   n S x0 x1 x2 x3 x4 x5 → tq_wd D cy z H0 ad N (tq_mix S M) H → va_S (fun q => z ≤ q) s.heap H locs → lv_has ls 7 [(0, .ref (ad 2 x0)), (1, .int x1), (2, .int x2), (3, .int x3), (4, .int x4), (5, .int x5)] → W p l e (tq_rm 1 21) s m args below meth c H locs 0 0 (MQ below (va_Qi (fun r u => post u r) (fun u => tq_P D cy z H0 ad N u M) (fun q => z ≤ q)) args s 0 0 (fun q => z ≤ q)) (F0 m 6 ls []) := by
  obtain ⟨hx, hb, hr, hml, hown, hts, hlocks, hK, hG⟩ := id C
  have hw : ∀ w ∈ tq_W, w.before args s = true := fun w h => hts w (List.mem_cons_of_mem _ h)
  intro n
  induction n with
  | zero =>
    intro S x0 x1 x2 x3 x4 x5 H locs ls h
    exact absurd h (by unfold wbX5_purchase_6; exact id)
  | succ n ih =>
    intro S x0 x1 x2 x3 x4 x5 H locs ls h hW hS hl
    unfold wbX5_purchase_6 at h
    refine lv_iload hx hb dX5_purchase_6 (lv_at hl 5 rfl) ?_
    refine lv_iload_n hx hb dX5_purchase_8 rfl (lv_at hl 2 rfl) ?_
    refine lv_icmp_ge (tgt := 77) hx hb dX5_purchase_9 (by decide) (fun c1 => ?_) (fun c1 => ?_)
    · have h := h.1 c1
      exact bX5_purchase_77 C  _ _ _ _ _ h hW hS (lv_sub hl [4] rfl)
    · have h := h.2 c1
      refine lv_aload_n hx hb dX5_purchase_12 rfl (lv_at hl 0 rfl) ?_
      refine lv_iload_n hx hb dX5_purchase_13 rfl (lv_at hl 1 rfl) ?_
      obtain ⟨b2, h⟩ := h
      refine tqc_callVi (As := [.int x1]) (rest := []) (kX5_priceOf h) ⟨hx, hb, hml, hown, hts⟩ (cwV 1 hts (tq_goodV tw_1148 tw_420 tw_421 tw_122 tw_422) rfl rfl rfl (by decide +kernel) ⟨(Nat.le_of_ble_eq_true rfl), (Nat.le_of_ble_eq_true rfl)⟩) (tq_recvC hK hW (by decide) (tq_mk_2 b2) rfl) hK hG hW hS rfl hl.1 rfl (Nat.le_of_ble_eq_true rfl) dX5_purchase_14 ⟨(Nat.le_of_ble_eq_true rfl), (Nat.le_of_ble_eq_true rfl)⟩ (fun r4 S3 H locs h hW hS => ?_)
      refine lv_istore (lv' := [(6, .int r4), (0, .ref (ad 2 x0)), (1, .int x1), (2, .int x2), (3, .int x3), (4, .int x4), (5, .int x5)]) hx hb dX5_purchase_17 hl (by decide) rfl (fun ls hl => ?_)
      refine lv_iload hx hb dX5_purchase_19 (lv_at hl 0 rfl) ?_
      refine lv_aload_n hx hb dX5_purchase_21 rfl (lv_at hl 1 rfl) ?_
      refine tqc_get (v := .int (S3 2 x0 1)) hx hb hw tq_inX5 hown hK hW (by decide) (tq_mk_2 b2) rfl 1 (by decide) (hw _ tw_254) (fun _ h9 => h9) rfl dX5_purchase_22 ?_
      refine lv_iload_n hx hb dX5_purchase_25 rfl (lv_at hl 4 rfl) ?_
      refine lv_isub hx hb dX5_purchase_26 ?_
      refine lv_icmp_le (tgt := 33) hx hb dX5_purchase_27 (by decide) (fun c5 => ?_) (fun c5 => ?_)
      · have h := h.1 c5
        refine lv_aload_n hx hb dX5_purchase_33 rfl (lv_at hl 1 rfl) ?_
        refine lv_dup hx hb dX5_purchase_34 rfl ?_
        refine tqc_get (v := .int (S3 2 x0 1)) hx hb hw tq_inX5 hown hK hW (by decide) (tq_mk_2 b2) rfl 1 (by decide) (hw _ tw_254) (fun _ h9 => h9) rfl dX5_purchase_35 ?_
        refine lv_iload hx hb dX5_purchase_38 (lv_at hl 0 rfl) ?_
        refine lv_isub hx hb dX5_purchase_40 ?_
        refine tqc_put hx hb hw tq_inX5 tyX5 tyX5_ok nmX5 hown hK hW hS (by decide) (tq_mk_2 b2) rfl 1 (by decide) (hw _ tw_254) (fun _ h9 => h9) rfl rfl rfl rfl (tq_mk_2 b2) dX5_purchase_41 (fun H locs hW hS => ?_)
        generalize eS6 : tq_up S3 2 x0 1 ((S3 2 x0 1) - r4) = S6 at hW
        have h := h S6 eS6.symm
        refine lv_iload hx hb dX5_purchase_44 (lv_at hl 5 rfl) ?_
        refine lv_iload hx hb dX5_purchase_46 (lv_at hl 0 rfl) ?_
        refine lv_iadd hx hb dX5_purchase_48 ?_
        refine lv_istore (lv' := [(4, .int (x4 + r4)), (6, .int r4), (0, .ref (ad 2 x0)), (1, .int x1), (2, .int x2), (3, .int x3), (5, .int x5)]) hx hb dX5_purchase_49 hl (by decide) rfl (fun ls hl => ?_)
        refine lv_aload_n hx hb dX5_purchase_51 rfl (lv_at hl 2 rfl) ?_
        refine tqc_get (v := .ref (ad 30 x0)) hx hb hw tq_inX5 hown hK hW (by decide) (tq_mk_2 b2) rfl 2 (by decide) (hw _ tw_256) (fun _ h9 => h9) rfl dX5_purchase_52 ?_
        refine lv_iload_n hx hb dX5_purchase_55 rfl (lv_at hl 3 rfl) ?_
        refine lv_dup2_11 hx hb dX5_purchase_56 rfl rfl ?_
        obtain ⟨b7, h⟩ := h
        refine tqc_iald (jn := x1.toNatClampNeg) hx hb hK hW (by decide) (tq_mk_30 b2) b7 rfl dX5_purchase_57 ?_
        refine lv_iconst (v := 1) hx hb dX5_purchase_58 (by decide) ?_
        refine lv_iadd hx hb dX5_purchase_59 ?_
        refine tqc_iast (jn := x1.toNatClampNeg) hx hb hK hW hS (by decide) (tq_mk_30 b2) b7 rfl (tq_mk_30 b2) dX5_purchase_60 (fun H locs hW hS => ?_)
        generalize eS8 : tq_up S6 30 x0 x1.toNatClampNeg ((S6 30 x0 x1.toNatClampNeg) + 1) = S8 at hW
        have h := h S8 eS8.symm
        refine lv_aload_n hx hb dX5_purchase_61 rfl (lv_at hl 2 rfl) ?_
        refine tqc_get (v := .ref (ad 32 x0)) hx hb hw tq_inX5 hown hK hW (by decide) (tq_mk_2 b2) rfl 7 (by decide) (hw _ tw_267) (fun _ h9 => h9) rfl dX5_purchase_62 ?_
        refine lv_iload_n hx hb dX5_purchase_65 rfl (lv_at hl 3 rfl) ?_
        refine lv_dup2_11 hx hb dX5_purchase_66 rfl rfl ?_
        refine tqc_iald (jn := x1.toNatClampNeg) hx hb hK hW (by decide) (tq_mk_32 b2) b7 rfl dX5_purchase_67 ?_
        refine lv_iconst (v := 1) hx hb dX5_purchase_68 (by decide) ?_
        refine lv_iadd hx hb dX5_purchase_69 ?_
        refine tqc_iast (jn := x1.toNatClampNeg) hx hb hK hW hS (by decide) (tq_mk_32 b2) b7 rfl (tq_mk_32 b2) dX5_purchase_70 (fun H locs hW hS => ?_)
        generalize eS9 : tq_up S8 32 x0 x1.toNatClampNeg ((S8 32 x0 x1.toNatClampNeg) + 1) = S9 at hW
        have h := h S9 eS9.symm
        refine lv_iinc (v := x5 + 1) (lv' := [(5, .int (x5 + 1)), (4, .int (x4 + r4)), (6, .int r4), (0, .ref (ad 2 x0)), (1, .int x1), (2, .int x2), (3, .int x3)]) hx hb dX5_purchase_71 hl (k := 6) rfl rfl (by decide) rfl (fun ls hl => ?_)
        refine lv_goto (tgt := 6) hx hb dX5_purchase_74 (by decide) ?_
        exact ih _ _ _ _ _ _ _ _ _ _ h hW hS (lv_sub hl [3, 4, 5, 6, 1, 0] rfl)
      · have h := h.2 c5
        refine lv_goto (tgt := 77) hx hb dX5_purchase_30 (by decide) ?_
        exact bX5_purchase_77 C  _ _ _ _ _ h hW hS (lv_sub hl [5] rfl)
set_option maxHeartbeats 4000000 in
set_option maxRecDepth 100000 in
theorem kX5_purchase {post : tq_St → Int32 → Prop} {S : tq_St} {o : Nat} {p1 : Int32} {p2 : Int32} {p3 : Int32} (h : wpX5_purchase N post S o p1 p2 p3) : tq_sI l yX5_purchase (tq_ws yX5_purchase cX5_purchase 7 (some .int)) 1 21 D cy z H0 ad N M S [.ref (ad 2 o), .int p1, .int p2, .int p3] post := by
  unfold wpX5_purchase at h
  refine Met.ofW (cc := cX5_purchase) (maxL := 7) (ret := (some .int)) (by decide) rfl ?_
  intro p e s m args below meth c s₁ B hml hv
  obtain ⟨rfl, hW, hK, hG⟩ := hv
  have hx := B.exec
  have hb := B.bytes
  have hr := B.returns
  have hts := atoms_spec (ws := (tq_ws yX5_purchase cX5_purchase 7 (some .int))) B.pre
  have hw : ∀ w ∈ tq_W, w.before _ s = true := fun w h => hts w (List.mem_cons_of_mem _ h)
  have hown : s.vm.findClass RX5 = some m.cls := findClass_of_methodNamed B.named
  have hlocks := B.notSynchronized
  have C : tq_At p s m meth c [.ref (ad 2 o), .int p1, .int p2, .int p3].toArray cX5_purchase 7 ((some .int)) ((tq_ws yX5_purchase cX5_purchase 7 (some .int))) RX5 D cy z ad := ⟨hx, hb, hr, hml, hown, hts, hlocks, hK, hG⟩
  have hS : va_S (fun q => z ≤ q) s.heap s.heap [] := va_S.rf
  have hl := lv_entry ([.ref (ad 2 o), .int p1, .int p2, .int p3]) (n := 7) (Nat.le_of_ble_eq_true rfl)
  rw [lg_entry_eq]
  generalize (lg_sl ([.ref (ad 2 o), .int p1, .int p2, .int p3]) ++ List.replicate (7 - (lg_sl ([.ref (ad 2 o), .int p1, .int p2, .int p3])).length) Slot.unset).toArray = ls at hl ⊢
  have hl : lv_has ls 7 [(0, .ref (ad 2 o)), (1, .int p1), (2, .int p2), (3, .int p3)] := hl
  have hW : tq_wd D cy z H0 ad N (tq_mix S M) s.heap := hW
  refine lv_iconst (v := 0) hx hb dX5_purchase_0 (by decide) ?_
  refine lv_istore (lv' := [(4, .int 0), (0, .ref (ad 2 o)), (1, .int p1), (2, .int p2), (3, .int p3)]) hx hb dX5_purchase_1 hl (by decide) rfl (fun ls hl => ?_)
  refine lv_iconst (v := 0) hx hb dX5_purchase_3 (by decide) ?_
  refine lv_istore (lv' := [(5, .int 0), (4, .int 0), (0, .ref (ad 2 o)), (1, .int p1), (2, .int p2), (3, .int p3)]) hx hb dX5_purchase_4 hl (by decide) rfl (fun ls hl => ?_)
  obtain ⟨nq, h⟩ := h
  exact bX5_purchase_6 C  nq _ _ _ _ _ _ _ _ _ _ h hW hS (lv_sub hl [2, 3, 4, 5, 1, 0] rfl)
-- X5 receiveAdvances
def wbX5_receiveAdvances_94 (N : tq_Nn) (post : tq_St → Prop) (L2 : tq_St → Nat → Int32 → Int32 → Prop) (S : tq_St) (x0 : Nat) (x1 : Int32) (x2 : Int32) : Prop :=
  L2 S x0 x1 (x2 + 1)
def wbX5_receiveAdvances_59 (N : tq_Nn) (post : tq_St → Prop) (L2 : tq_St → Nat → Int32 → Int32 → Prop) (S : tq_St) (x0 : Nat) (x1 : Int32) (x2 : Int32) (y0 : Int32) : Prop :=
  x0 < 5 ∧ (vp_in x2 4 ∧ (∀ S10, S10 = tq_up S 35 x0 x2.toNatClampNeg ((S 35 x0 x2.toNatClampNeg) - y0) → (∀ S11, S11 = tq_up S10 30 x0 x2.toNatClampNeg ((S10 30 x0 x2.toNatClampNeg) + (y0 - ((y0 * (S10 2 x0 5)) / 100))) → (wbX5_receiveAdvances_94 N post  L2 S11 x0 x1 x2))))
def wbX5_receiveAdvances_2 (N : tq_Nn) (post : tq_St → Prop) : Nat → tq_St → Nat → Int32 → Int32 → Prop
  | 0, _, _, _, _ => False
  | n + 1, S, x0, x1, x2 =>
    (4 ≤ x2 → (post S)) ∧ (¬ 4 ≤ x2 → (x0 < 5 ∧ (vp_in x2 4 ∧ (((S 35 x0 x2.toNatClampNeg) ≤ 0 → (wbX5_receiveAdvances_94 N post  (wbX5_receiveAdvances_2 N post n) S x0 x1 x2)) ∧ (¬ (S 35 x0 x2.toNatClampNeg) ≤ 0 → (((x1 - (S 33 x0 x2.toNatClampNeg)) ≤ 0 → (wbX5_receiveAdvances_94 N post  (wbX5_receiveAdvances_2 N post n) S x0 x1 x2)) ∧ (¬ (x1 - (S 33 x0 x2.toNatClampNeg)) ≤ 0 → ((¬ ((x1 - (S 33 x0 x2.toNatClampNeg)) - (x1 - (S 33 x0 x2.toNatClampNeg)) / 10 * 10) = 0 → (wbX5_receiveAdvances_94 N post  (wbX5_receiveAdvances_2 N post n) S x0 x1 x2)) ∧ (((x1 - (S 33 x0 x2.toNatClampNeg)) - (x1 - (S 33 x0 x2.toNatClampNeg)) / 10 * 10) = 0 → ((50 ≤ (x1 - (S 33 x0 x2.toNatClampNeg)) → (wbX5_receiveAdvances_59 N post  (wbX5_receiveAdvances_2 N post n) S x0 x1 x2 (S 35 x0 x2.toNatClampNeg))) ∧ (¬ 50 ≤ (x1 - (S 33 x0 x2.toNatClampNeg)) → (wbX5_receiveAdvances_59 N post  (wbX5_receiveAdvances_2 N post n) S x0 x1 x2 ((S 34 x0 x2.toNatClampNeg) / 5)))))))))))))
def wpX5_receiveAdvances (N : tq_Nn) (post : tq_St → Prop) (S : tq_St) (o : Nat) (p1 : Int32) : Prop :=
  ∃ nq, wbX5_receiveAdvances_2 N post nq S o p1 0
set_option maxHeartbeats 4000000 in
set_option maxRecDepth 100000 in
theorem bX5_receiveAdvances_94 {p : Program} {e : Env} {s : State} {m : MethodId} {args : Array Value} {below : List Frame} {meth : Method} {c : Code} {post : tq_St → Prop} (C : tq_At p s m meth c args cX5_receiveAdvances 5 (none) ((tq_ws yX5_receiveAdvances cX5_receiveAdvances 5 none)) RX5 D cy z ad) {L2 : tq_St → Nat → Int32 → Int32 → Prop} (hL2 : ∀ (S : tq_St) (x0 : Nat) (x1 : Int32) (x2 : Int32) (H : Heap) (locs : List Loc) (ls : Array Slot), L2 S x0 x1 x2 → tq_wd D cy z H0 ad N (tq_mix S M) H → va_S (fun q => z ≤ q) s.heap H locs → lv_has ls 5 [(0, .ref (ad 2 x0)), (1, .int x1), (2, .int x2)] → W p l e (tq_rm 0 0) s m args below meth c H locs 0 0 (MQ below (va_Qv (fun u => post u) (fun u => tq_P D cy z H0 ad N u M) (fun q => z ≤ q)) args s 0 0 (fun q => z ≤ q)) (F0 m 2 ls [])) : ∀ (S : tq_St) (x0 : Nat) (x1 : Int32) (x2 : Int32) (H : Heap) (locs : List Loc) (ls : Array Slot), wbX5_receiveAdvances_94 N post  L2 S x0 x1 x2 → tq_wd D cy z H0 ad N (tq_mix S M) H → va_S (fun q => z ≤ q) s.heap H locs → lv_has ls 5 [(0, .ref (ad 2 x0)), (1, .int x1), (2, .int x2)] → W p l e (tq_rm 0 0) s m args below meth c H locs 0 0 (MQ below (va_Qv (fun u => post u) (fun u => tq_P D cy z H0 ad N u M) (fun q => z ≤ q)) args s 0 0 (fun q => z ≤ q)) (F0 m 94 ls []) := by
  obtain ⟨hx, hb, hr, hml, hown, hts, hlocks, hK, hG⟩ := id C
  have hw : ∀ w ∈ tq_W, w.before args s = true := fun w h => hts w (List.mem_cons_of_mem _ h)
  intro S x0 x1 x2 H locs ls h hW hS hl
  unfold wbX5_receiveAdvances_94 at h
  refine lv_iinc (v := x2 + 1) (lv' := [(2, .int (x2 + 1)), (0, .ref (ad 2 x0)), (1, .int x1)]) hx hb dX5_receiveAdvances_94 hl (k := 2) rfl rfl (by decide) rfl (fun ls hl => ?_)
  refine lv_goto (tgt := 2) hx hb dX5_receiveAdvances_97 (by decide) ?_
  exact hL2 _ _ _ _ _ _ _ h hW hS (lv_sub hl [1, 2, 0] rfl)
set_option maxHeartbeats 4000000 in
set_option maxRecDepth 100000 in
theorem bX5_receiveAdvances_59 {p : Program} {e : Env} {s : State} {m : MethodId} {args : Array Value} {below : List Frame} {meth : Method} {c : Code} {post : tq_St → Prop} (C : tq_At p s m meth c args cX5_receiveAdvances 5 (none) ((tq_ws yX5_receiveAdvances cX5_receiveAdvances 5 none)) RX5 D cy z ad) {L2 : tq_St → Nat → Int32 → Int32 → Prop} (hL2 : ∀ (S : tq_St) (x0 : Nat) (x1 : Int32) (x2 : Int32) (H : Heap) (locs : List Loc) (ls : Array Slot), L2 S x0 x1 x2 → tq_wd D cy z H0 ad N (tq_mix S M) H → va_S (fun q => z ≤ q) s.heap H locs → lv_has ls 5 [(0, .ref (ad 2 x0)), (1, .int x1), (2, .int x2)] → W p l e (tq_rm 0 0) s m args below meth c H locs 0 0 (MQ below (va_Qv (fun u => post u) (fun u => tq_P D cy z H0 ad N u M) (fun q => z ≤ q)) args s 0 0 (fun q => z ≤ q)) (F0 m 2 ls [])) : ∀ (S : tq_St) (x0 : Nat) (x1 : Int32) (x2 : Int32) (y0 : Int32) (H : Heap) (locs : List Loc) (ls : Array Slot), wbX5_receiveAdvances_59 N post  L2 S x0 x1 x2 y0 → tq_wd D cy z H0 ad N (tq_mix S M) H → va_S (fun q => z ≤ q) s.heap H locs → lv_has ls 5 [(0, .ref (ad 2 x0)), (1, .int x1), (2, .int x2)] → W p l e (tq_rm 0 0) s m args below meth c H locs 0 0 (MQ below (va_Qv (fun u => post u) (fun u => tq_P D cy z H0 ad N u M) (fun q => z ≤ q)) args s 0 0 (fun q => z ≤ q)) (F0 m 59 ls [.int y0]) := by
  obtain ⟨hx, hb, hr, hml, hown, hts, hlocks, hK, hG⟩ := id C
  have hw : ∀ w ∈ tq_W, w.before args s = true := fun w h => hts w (List.mem_cons_of_mem _ h)
  intro S x0 x1 x2 y0 H locs ls h hW hS hl
  unfold wbX5_receiveAdvances_59 at h
  refine lv_istore (lv' := [(4, .int y0), (0, .ref (ad 2 x0)), (1, .int x1), (2, .int x2)]) hx hb dX5_receiveAdvances_59 hl (by decide) rfl (fun ls hl => ?_)
  refine lv_aload_n hx hb dX5_receiveAdvances_61 rfl (lv_at hl 1 rfl) ?_
  obtain ⟨b8, h⟩ := h
  refine tqc_get (v := .ref (ad 35 x0)) hx hb hw tq_inX5 hown hK hW (by decide) (tq_mk_2 b8) rfl 11 (by decide) (hw _ tw_273) (fun _ h9 => h9) rfl dX5_receiveAdvances_62 ?_
  refine lv_iload_n hx hb dX5_receiveAdvances_65 rfl (lv_at hl 3 rfl) ?_
  refine lv_dup2_11 hx hb dX5_receiveAdvances_66 rfl rfl ?_
  obtain ⟨b9, h⟩ := h
  refine tqc_iald (jn := x2.toNatClampNeg) hx hb hK hW (by decide) (tq_mk_35 b8) b9 rfl dX5_receiveAdvances_67 ?_
  refine lv_iload hx hb dX5_receiveAdvances_68 (lv_at hl 0 rfl) ?_
  refine lv_isub hx hb dX5_receiveAdvances_70 ?_
  refine tqc_iast (jn := x2.toNatClampNeg) hx hb hK hW hS (by decide) (tq_mk_35 b8) b9 rfl (tq_mk_35 b8) dX5_receiveAdvances_71 (fun H locs hW hS => ?_)
  generalize eS10 : tq_up S 35 x0 x2.toNatClampNeg ((S 35 x0 x2.toNatClampNeg) - y0) = S10 at hW
  have h := h S10 eS10.symm
  refine lv_aload_n hx hb dX5_receiveAdvances_72 rfl (lv_at hl 1 rfl) ?_
  refine tqc_get (v := .ref (ad 30 x0)) hx hb hw tq_inX5 hown hK hW (by decide) (tq_mk_2 b8) rfl 2 (by decide) (hw _ tw_256) (fun _ h9 => h9) rfl dX5_receiveAdvances_73 ?_
  refine lv_iload_n hx hb dX5_receiveAdvances_76 rfl (lv_at hl 3 rfl) ?_
  refine lv_dup2_11 hx hb dX5_receiveAdvances_77 rfl rfl ?_
  refine tqc_iald (jn := x2.toNatClampNeg) hx hb hK hW (by decide) (tq_mk_30 b8) b9 rfl dX5_receiveAdvances_78 ?_
  refine lv_iload hx hb dX5_receiveAdvances_79 (lv_at hl 0 rfl) ?_
  refine lv_iload hx hb dX5_receiveAdvances_81 (lv_at hl 0 rfl) ?_
  refine lv_aload_n hx hb dX5_receiveAdvances_83 rfl (lv_at hl 1 rfl) ?_
  refine tqc_get (v := .int (S10 2 x0 5)) hx hb hw tq_inX5 hown hK hW (by decide) (tq_mk_2 b8) rfl 5 (by decide) (hw _ tw_264) (fun _ h9 => h9) rfl dX5_receiveAdvances_84 ?_
  refine lv_imul hx hb dX5_receiveAdvances_87 ?_
  refine lv_bipush (v := 100) hx hb dX5_receiveAdvances_88 (by decide) ?_
  refine lv_idiv hx hb dX5_receiveAdvances_90 (by decide) ?_
  refine lv_isub hx hb dX5_receiveAdvances_91 ?_
  refine lv_iadd hx hb dX5_receiveAdvances_92 ?_
  refine tqc_iast (jn := x2.toNatClampNeg) hx hb hK hW hS (by decide) (tq_mk_30 b8) b9 rfl (tq_mk_30 b8) dX5_receiveAdvances_93 (fun H locs hW hS => ?_)
  generalize eS11 : tq_up S10 30 x0 x2.toNatClampNeg ((S10 30 x0 x2.toNatClampNeg) + (y0 - ((y0 * (S10 2 x0 5)) / 100))) = S11 at hW
  have h := h S11 eS11.symm
  exact bX5_receiveAdvances_94 C (fun M9 a09 a19 a29 H9 q9 ls9 h9 hW9 hS9 hl9 => hL2 M9 a09 a19 a29 H9 q9 ls9 h9 hW9 hS9 hl9) _ _ _ _ _ _ _ h hW hS (lv_sub hl [1, 2, 3] rfl)
set_option maxHeartbeats 4000000 in
set_option maxRecDepth 100000 in
theorem bX5_receiveAdvances_2 {p : Program} {e : Env} {s : State} {m : MethodId} {args : Array Value} {below : List Frame} {meth : Method} {c : Code} {post : tq_St → Prop} (C : tq_At p s m meth c args cX5_receiveAdvances 5 (none) ((tq_ws yX5_receiveAdvances cX5_receiveAdvances 5 none)) RX5 D cy z ad)  : ∀ n : Nat, ∀ (S : tq_St) (x0 : Nat) (x1 : Int32) (x2 : Int32) (H : Heap) (locs : List Loc) (ls : Array Slot), wbX5_receiveAdvances_2 N post   n S x0 x1 x2 → tq_wd D cy z H0 ad N (tq_mix S M) H → va_S (fun q => z ≤ q) s.heap H locs → lv_has ls 5 [(0, .ref (ad 2 x0)), (1, .int x1), (2, .int x2)] → W p l e (tq_rm 0 0) s m args below meth c H locs 0 0 (MQ below (va_Qv (fun u => post u) (fun u => tq_P D cy z H0 ad N u M) (fun q => z ≤ q)) args s 0 0 (fun q => z ≤ q)) (F0 m 2 ls []) := by
  obtain ⟨hx, hb, hr, hml, hown, hts, hlocks, hK, hG⟩ := id C
  have hw : ∀ w ∈ tq_W, w.before args s = true := fun w h => hts w (List.mem_cons_of_mem _ h)
  intro n
  induction n with
  | zero =>
    intro S x0 x1 x2 H locs ls h
    exact absurd h (by unfold wbX5_receiveAdvances_2; exact id)
  | succ n ih =>
    intro S x0 x1 x2 H locs ls h hW hS hl
    unfold wbX5_receiveAdvances_2 at h
    refine lv_iload_n hx hb dX5_receiveAdvances_2 rfl (lv_at hl 2 rfl) ?_
    refine lv_iconst (v := 4) hx hb dX5_receiveAdvances_3 (by decide) ?_
    refine lv_icmp_ge (tgt := 100) hx hb dX5_receiveAdvances_4 (by decide) (fun c1 => ?_) (fun c1 => ?_)
    · have h := h.1 c1
      exact W.vret hx hb hr (fun t ht hWm => ⟨⟨S, rfl, h, tq_pe ht hW⟩, hS.F ht⟩) hS.2.2 dX5_receiveAdvances_100
    · have h := h.2 c1
      refine lv_iload_n hx hb dX5_receiveAdvances_7 rfl (lv_at hl 1 rfl) ?_
      refine lv_aload_n hx hb dX5_receiveAdvances_8 rfl (lv_at hl 0 rfl) ?_
      obtain ⟨b2, h⟩ := h
      refine tqc_get (v := .ref (ad 33 x0)) hx hb hw tq_inX5 hown hK hW (by decide) (tq_mk_2 b2) rfl 9 (by decide) (hw _ tw_269) (fun _ h9 => h9) rfl dX5_receiveAdvances_9 ?_
      refine lv_iload_n hx hb dX5_receiveAdvances_12 rfl (lv_at hl 2 rfl) ?_
      obtain ⟨b3, h⟩ := h
      refine tqc_iald (jn := x2.toNatClampNeg) hx hb hK hW (by decide) (tq_mk_33 b2) b3 rfl dX5_receiveAdvances_13 ?_
      refine lv_isub hx hb dX5_receiveAdvances_14 ?_
      refine lv_istore_n (lv' := [(3, .int (x1 - (S 33 x0 x2.toNatClampNeg))), (0, .ref (ad 2 x0)), (1, .int x1), (2, .int x2)]) hx hb dX5_receiveAdvances_15 rfl hl (by decide) rfl (fun ls hl => ?_)
      refine lv_aload_n hx hb dX5_receiveAdvances_16 rfl (lv_at hl 1 rfl) ?_
      refine tqc_get (v := .ref (ad 35 x0)) hx hb hw tq_inX5 hown hK hW (by decide) (tq_mk_2 b2) rfl 11 (by decide) (hw _ tw_273) (fun _ h9 => h9) rfl dX5_receiveAdvances_17 ?_
      refine lv_iload_n hx hb dX5_receiveAdvances_20 rfl (lv_at hl 3 rfl) ?_
      refine tqc_iald (jn := x2.toNatClampNeg) hx hb hK hW (by decide) (tq_mk_35 b2) b3 rfl dX5_receiveAdvances_21 ?_
      refine lv_if_le (tgt := 94) hx hb dX5_receiveAdvances_22 (by decide) (fun c4 => ?_) (fun c4 => ?_)
      · have h := h.1 c4
        exact bX5_receiveAdvances_94 C (fun M9 a09 a19 a29 H9 q9 ls9 h9 hW9 hS9 hl9 => ih M9 a09 a19 a29 H9 q9 ls9 h9 hW9 hS9 hl9) _ _ _ _ _ _ _ h hW hS (lv_sub hl [1, 2, 3] rfl)
      · have h := h.2 c4
        refine lv_iload_n hx hb dX5_receiveAdvances_25 rfl (lv_at hl 0 rfl) ?_
        refine lv_if_le (tgt := 94) hx hb dX5_receiveAdvances_26 (by decide) (fun c5 => ?_) (fun c5 => ?_)
        · have h := h.1 c5
          exact bX5_receiveAdvances_94 C (fun M9 a09 a19 a29 H9 q9 ls9 h9 hW9 hS9 hl9 => ih M9 a09 a19 a29 H9 q9 ls9 h9 hW9 hS9 hl9) _ _ _ _ _ _ _ h hW hS (lv_sub hl [1, 2, 3] rfl)
        · have h := h.2 c5
          refine lv_iload_n hx hb dX5_receiveAdvances_29 rfl (lv_at hl 0 rfl) ?_
          refine lv_bipush (v := 10) hx hb dX5_receiveAdvances_30 (by decide) ?_
          refine lv_irem hx hb dX5_receiveAdvances_32 (by decide) ?_
          refine lv_if_ne (tgt := 94) hx hb dX5_receiveAdvances_33 (by decide) (fun c6 => ?_) (fun c6 => ?_)
          · have h := h.1 c6
            exact bX5_receiveAdvances_94 C (fun M9 a09 a19 a29 H9 q9 ls9 h9 hW9 hS9 hl9 => ih M9 a09 a19 a29 H9 q9 ls9 h9 hW9 hS9 hl9) _ _ _ _ _ _ _ h hW hS (lv_sub hl [1, 2, 3] rfl)
          · have h := h.2 c6
            refine lv_iload_n hx hb dX5_receiveAdvances_36 rfl (lv_at hl 0 rfl) ?_
            refine lv_bipush (v := 50) hx hb dX5_receiveAdvances_37 (by decide) ?_
            refine lv_icmp_ge (tgt := 53) hx hb dX5_receiveAdvances_39 (by decide) (fun c7 => ?_) (fun c7 => ?_)
            · have h := h.1 c7
              refine lv_aload_n hx hb dX5_receiveAdvances_53 rfl (lv_at hl 1 rfl) ?_
              refine tqc_get (v := .ref (ad 35 x0)) hx hb hw tq_inX5 hown hK hW (by decide) (tq_mk_2 b2) rfl 11 (by decide) (hw _ tw_273) (fun _ h9 => h9) rfl dX5_receiveAdvances_54 ?_
              refine lv_iload_n hx hb dX5_receiveAdvances_57 rfl (lv_at hl 3 rfl) ?_
              refine tqc_iald (jn := x2.toNatClampNeg) hx hb hK hW (by decide) (tq_mk_35 b2) b3 rfl dX5_receiveAdvances_58 ?_
              exact bX5_receiveAdvances_59 C (fun M9 a09 a19 a29 H9 q9 ls9 h9 hW9 hS9 hl9 => ih M9 a09 a19 a29 H9 q9 ls9 h9 hW9 hS9 hl9) _ _ _ _ _ _ _ _ h hW hS (lv_sub hl [1, 2, 3] rfl)
            · have h := h.2 c7
              refine lv_aload_n hx hb dX5_receiveAdvances_42 rfl (lv_at hl 1 rfl) ?_
              refine tqc_get (v := .ref (ad 34 x0)) hx hb hw tq_inX5 hown hK hW (by decide) (tq_mk_2 b2) rfl 10 (by decide) (hw _ tw_271) (fun _ h9 => h9) rfl dX5_receiveAdvances_43 ?_
              refine lv_iload_n hx hb dX5_receiveAdvances_46 rfl (lv_at hl 3 rfl) ?_
              refine tqc_iald (jn := x2.toNatClampNeg) hx hb hK hW (by decide) (tq_mk_34 b2) b3 rfl dX5_receiveAdvances_47 ?_
              refine lv_iconst (v := 5) hx hb dX5_receiveAdvances_48 (by decide) ?_
              refine lv_idiv hx hb dX5_receiveAdvances_49 (by decide) ?_
              refine lv_goto (tgt := 59) hx hb dX5_receiveAdvances_50 (by decide) ?_
              exact bX5_receiveAdvances_59 C (fun M9 a09 a19 a29 H9 q9 ls9 h9 hW9 hS9 hl9 => ih M9 a09 a19 a29 H9 q9 ls9 h9 hW9 hS9 hl9) _ _ _ _ _ _ _ _ h hW hS (lv_sub hl [1, 2, 3] rfl)
set_option maxHeartbeats 4000000 in
set_option maxRecDepth 100000 in
theorem kX5_receiveAdvances {post : tq_St → Prop} {S : tq_St} {o : Nat} {p1 : Int32} (h : wpX5_receiveAdvances N post S o p1) : tq_sV l yX5_receiveAdvances (tq_ws yX5_receiveAdvances cX5_receiveAdvances 5 none) 0 0 D cy z H0 ad N M S [.ref (ad 2 o), .int p1] post := by
  unfold wpX5_receiveAdvances at h
  refine Met.ofW (cc := cX5_receiveAdvances) (maxL := 5) (ret := none) (by decide) rfl ?_
  intro p e s m args below meth c s₁ B hml hv
  obtain ⟨rfl, hW, hK, hG⟩ := hv
  have hx := B.exec
  have hb := B.bytes
  have hr := B.returns
  have hts := atoms_spec (ws := (tq_ws yX5_receiveAdvances cX5_receiveAdvances 5 none)) B.pre
  have hw : ∀ w ∈ tq_W, w.before _ s = true := fun w h => hts w (List.mem_cons_of_mem _ h)
  have hown : s.vm.findClass RX5 = some m.cls := findClass_of_methodNamed B.named
  have hlocks := B.notSynchronized
  have C : tq_At p s m meth c [.ref (ad 2 o), .int p1].toArray cX5_receiveAdvances 5 (none) ((tq_ws yX5_receiveAdvances cX5_receiveAdvances 5 none)) RX5 D cy z ad := ⟨hx, hb, hr, hml, hown, hts, hlocks, hK, hG⟩
  have hS : va_S (fun q => z ≤ q) s.heap s.heap [] := va_S.rf
  have hl := lv_entry ([.ref (ad 2 o), .int p1]) (n := 5) (Nat.le_of_ble_eq_true rfl)
  rw [lg_entry_eq]
  generalize (lg_sl ([.ref (ad 2 o), .int p1]) ++ List.replicate (5 - (lg_sl ([.ref (ad 2 o), .int p1])).length) Slot.unset).toArray = ls at hl ⊢
  have hl : lv_has ls 5 [(0, .ref (ad 2 o)), (1, .int p1)] := hl
  have hW : tq_wd D cy z H0 ad N (tq_mix S M) s.heap := hW
  refine lv_iconst (v := 0) hx hb dX5_receiveAdvances_0 (by decide) ?_
  refine lv_istore_n (lv' := [(2, .int 0), (0, .ref (ad 2 o)), (1, .int p1)]) hx hb dX5_receiveAdvances_1 rfl hl (by decide) rfl (fun ls hl => ?_)
  obtain ⟨nq, h⟩ := h
  exact bX5_receiveAdvances_2 C  nq _ _ _ _ _ _ _ h hW hS (lv_sub hl [1, 2, 0] rfl)
-- X5 coolDown
def wbX5_coolDown_2 (N : tq_Nn) (post : tq_St → Prop) : Nat → tq_St → Nat → Int32 → Prop
  | 0, _, _, _ => False
  | n + 1, S, x0, x1 =>
    (4 ≤ x1 → (post S)) ∧ (¬ 4 ≤ x1 → (x0 < 5 ∧ (vp_in x1 4 ∧ (∀ S4, S4 = tq_up S 32 x0 x1.toNatClampNeg (if ((S 32 x0 x1.toNatClampNeg) - 5) < 0 then 0 else ((S 32 x0 x1.toNatClampNeg) - 5)) → ((wbX5_coolDown_2 N post n) S4 x0 (x1 + 1))))))
def wpX5_coolDown (N : tq_Nn) (post : tq_St → Prop) (S : tq_St) (o : Nat) : Prop :=
  ∃ nq, wbX5_coolDown_2 N post nq S o 0
set_option maxHeartbeats 4000000 in
set_option maxRecDepth 100000 in
theorem bX5_coolDown_2 {p : Program} {e : Env} {s : State} {m : MethodId} {args : Array Value} {below : List Frame} {meth : Method} {c : Code} {post : tq_St → Prop} (C : tq_At p s m meth c args cX5_coolDown 2 (none) ((tq_ws yX5_coolDown cX5_coolDown 2 none)) RX5 D cy z ad)  : ∀ n : Nat, ∀ (S : tq_St) (x0 : Nat) (x1 : Int32) (H : Heap) (locs : List Loc) (ls : Array Slot), wbX5_coolDown_2 N post   n S x0 x1 → tq_wd D cy z H0 ad N (tq_mix S M) H → va_S (fun q => z ≤ q) s.heap H locs → lv_has ls 2 [(0, .ref (ad 2 x0)), (1, .int x1)] → W p l e (tq_rm 1 21) s m args below meth c H locs 0 0 (MQ below (va_Qv (fun u => post u) (fun u => tq_P D cy z H0 ad N u M) (fun q => z ≤ q)) args s 0 0 (fun q => z ≤ q)) (F0 m 2 ls []) := by
  obtain ⟨hx, hb, hr, hml, hown, hts, hlocks, hK, hG⟩ := id C
  have hw : ∀ w ∈ tq_W, w.before args s = true := fun w h => hts w (List.mem_cons_of_mem _ h)
  intro n
  induction n with
  | zero =>
    intro S x0 x1 H locs ls h
    exact absurd h (by unfold wbX5_coolDown_2; exact id)
  | succ n ih =>
    intro S x0 x1 H locs ls h hW hS hl
    unfold wbX5_coolDown_2 at h
    refine lv_iload_n hx hb dX5_coolDown_2 rfl (lv_at hl 1 rfl) ?_
    refine lv_iconst (v := 4) hx hb dX5_coolDown_3 (by decide) ?_
    refine lv_icmp_ge (tgt := 31) hx hb dX5_coolDown_4 (by decide) (fun c1 => ?_) (fun c1 => ?_)
    · have h := h.1 c1
      exact W.vret hx hb hr (fun t ht hWm => ⟨⟨S, rfl, h, tq_pe ht hW⟩, hS.F ht⟩) hS.2.2 dX5_coolDown_31
    · have h := h.2 c1
      refine lv_aload_n hx hb dX5_coolDown_7 rfl (lv_at hl 0 rfl) ?_
      obtain ⟨b2, h⟩ := h
      refine tqc_get (v := .ref (ad 32 x0)) hx hb hw tq_inX5 hown hK hW (by decide) (tq_mk_2 b2) rfl 7 (by decide) (hw _ tw_267) (fun _ h9 => h9) rfl dX5_coolDown_8 ?_
      refine lv_iload_n hx hb dX5_coolDown_11 rfl (lv_at hl 1 rfl) ?_
      refine lv_aload_n hx hb dX5_coolDown_12 rfl (lv_at hl 0 rfl) ?_
      refine tqc_get (v := .ref (ad 32 x0)) hx hb hw tq_inX5 hown hK hW (by decide) (tq_mk_2 b2) rfl 7 (by decide) (hw _ tw_267) (fun _ h9 => h9) rfl dX5_coolDown_13 ?_
      refine lv_iload_n hx hb dX5_coolDown_16 rfl (lv_at hl 1 rfl) ?_
      obtain ⟨b3, h⟩ := h
      refine tqc_iald (jn := x1.toNatClampNeg) hx hb hK hW (by decide) (tq_mk_32 b2) b3 rfl dX5_coolDown_17 ?_
      refine lv_iconst (v := 5) hx hb dX5_coolDown_18 (by decide) ?_
      refine lv_isub hx hb dX5_coolDown_19 ?_
      refine lv_iconst (v := 0) hx hb dX5_coolDown_20 (by decide) ?_
      refine va_mmax hx hb (hml.trans hl.1.symm) hown (hw _ tw_1135) (hw _ tw_660) (hw _ tw_132) (hw _ tw_661) (Nat.le_of_ble_eq_true rfl) (Nat.le_of_ble_eq_true rfl) (Nat.zero_le _) (Nat.zero_le _) dX5_coolDown_21 ?_
      refine tqc_iast (jn := x1.toNatClampNeg) hx hb hK hW hS (by decide) (tq_mk_32 b2) b3 rfl (tq_mk_32 b2) dX5_coolDown_24 (fun H locs hW hS => ?_)
      generalize eS4 : tq_up S 32 x0 x1.toNatClampNeg (if ((S 32 x0 x1.toNatClampNeg) - 5) < 0 then 0 else ((S 32 x0 x1.toNatClampNeg) - 5)) = S4 at hW
      have h := h S4 eS4.symm
      refine lv_iinc (v := x1 + 1) (lv' := [(1, .int (x1 + 1)), (0, .ref (ad 2 x0))]) hx hb dX5_coolDown_25 hl (k := 1) rfl rfl (by decide) rfl (fun ls hl => ?_)
      refine lv_goto (tgt := 2) hx hb dX5_coolDown_28 (by decide) ?_
      exact ih _ _ _ _ _ _ h hW hS (lv_sub hl [1, 0] rfl)
set_option maxHeartbeats 4000000 in
set_option maxRecDepth 100000 in
theorem kX5_coolDown {post : tq_St → Prop} {S : tq_St} {o : Nat} (h : wpX5_coolDown N post S o) : tq_sV l yX5_coolDown (tq_ws yX5_coolDown cX5_coolDown 2 none) 1 21 D cy z H0 ad N M S [.ref (ad 2 o)] post := by
  unfold wpX5_coolDown at h
  refine Met.ofW (cc := cX5_coolDown) (maxL := 2) (ret := none) (by decide) rfl ?_
  intro p e s m args below meth c s₁ B hml hv
  obtain ⟨rfl, hW, hK, hG⟩ := hv
  have hx := B.exec
  have hb := B.bytes
  have hr := B.returns
  have hts := atoms_spec (ws := (tq_ws yX5_coolDown cX5_coolDown 2 none)) B.pre
  have hw : ∀ w ∈ tq_W, w.before _ s = true := fun w h => hts w (List.mem_cons_of_mem _ h)
  have hown : s.vm.findClass RX5 = some m.cls := findClass_of_methodNamed B.named
  have hlocks := B.notSynchronized
  have C : tq_At p s m meth c [.ref (ad 2 o)].toArray cX5_coolDown 2 (none) ((tq_ws yX5_coolDown cX5_coolDown 2 none)) RX5 D cy z ad := ⟨hx, hb, hr, hml, hown, hts, hlocks, hK, hG⟩
  have hS : va_S (fun q => z ≤ q) s.heap s.heap [] := va_S.rf
  have hl := lv_entry ([.ref (ad 2 o)]) (n := 2) (Nat.le_of_ble_eq_true rfl)
  rw [lg_entry_eq]
  generalize (lg_sl ([.ref (ad 2 o)]) ++ List.replicate (2 - (lg_sl ([.ref (ad 2 o)])).length) Slot.unset).toArray = ls at hl ⊢
  have hl : lv_has ls 2 [(0, .ref (ad 2 o))] := hl
  have hW : tq_wd D cy z H0 ad N (tq_mix S M) s.heap := hW
  refine lv_iconst (v := 0) hx hb dX5_coolDown_0 (by decide) ?_
  refine lv_istore_n (lv' := [(1, .int 0), (0, .ref (ad 2 o))]) hx hb dX5_coolDown_1 rfl hl (by decide) rfl (fun ls hl => ?_)
  obtain ⟨nq, h⟩ := h
  exact bX5_coolDown_2 C  nq _ _ _ _ _ _ h hW hS (lv_sub hl [1, 0] rfl)
-- X5 comesBehind
def wbX5_comesBehind_37 (N : tq_Nn) (post : tq_St → Int32 → Prop)  (S : tq_St) (y0 : Int32) : Prop :=
  narrow .boolean (.int y0) = .int y0 ∧ post S y0
def wbX5_comesBehind_36 (N : tq_Nn) (post : tq_St → Int32 → Prop)  (S : tq_St) : Prop :=
  wbX5_comesBehind_37 N post S 0
def wpX5_comesBehind (N : tq_Nn) (post : tq_St → Int32 → Prop) (S : tq_St) (o : Nat) (p1 : Nat) (p2 : Nat) : Prop :=
  N 7 p1 = 1 ∧ (o < 5 ∧ (vp_in (S 2 o 0) 5 ∧ N 50 p1 = 1 ∧ (N 7 p2 = 1 ∧ (N 50 p2 = 1 ∧ ((¬ (S 50 p1 ((S 2 o 0).toNatClampNeg)) = (S 50 p2 ((S 2 o 0).toNatClampNeg)) → (wbX5_comesBehind_36 N post S )) ∧ ((S 50 p1 ((S 2 o 0).toNatClampNeg)) = (S 50 p2 ((S 2 o 0).toNatClampNeg)) → (((S 7 p1 0) ≤ (S 7 p2 0) → (wbX5_comesBehind_36 N post S )) ∧ (¬ (S 7 p1 0) ≤ (S 7 p2 0) → (wbX5_comesBehind_37 N post S 1)))))))))
set_option maxHeartbeats 4000000 in
set_option maxRecDepth 100000 in
theorem bX5_comesBehind_37 {p : Program} {e : Env} {s : State} {m : MethodId} {args : Array Value} {below : List Frame} {meth : Method} {c : Code} {post : tq_St → Int32 → Prop} (C : tq_At p s m meth c args cX5_comesBehind 3 ((some .boolean)) ((tq_ws yX5_comesBehind cX5_comesBehind 3 (some .boolean))) RX5 D cy z ad)  : ∀ (S : tq_St) (y0 : Int32) (H : Heap) (locs : List Loc) (ls : Array Slot), wbX5_comesBehind_37 N post   S y0 → tq_wd D cy z H0 ad N (tq_mix S M) H → va_S (fun q => z ≤ q) s.heap H locs → lv_has ls 3 [] → W p l e (tq_rm 0 0) s m args below meth c H locs 0 0 (MQ below (va_Qi (fun r u => post u r) (fun u => tq_P D cy z H0 ad N u M) (fun q => z ≤ q)) args s 0 0 (fun q => z ≤ q)) (F0 m 37 ls [.int y0]) := by
  obtain ⟨hx, hb, hr, hml, hown, hts, hlocks, hK, hG⟩ := id C
  have hw : ∀ w ∈ tq_W, w.before args s = true := fun w h => hts w (List.mem_cons_of_mem _ h)
  intro S y0 H locs ls h hW hS hl
  unfold wbX5_comesBehind_37 at h
  obtain ⟨b9, h⟩ := h
  exact W.zret (v := y0) hx hb hr b9 (fun t ht hWm => ⟨⟨_, S, rfl, h, tq_pe ht hW⟩, hS.F ht⟩) hS.2.2 dX5_comesBehind_37
set_option maxHeartbeats 4000000 in
set_option maxRecDepth 100000 in
theorem bX5_comesBehind_36 {p : Program} {e : Env} {s : State} {m : MethodId} {args : Array Value} {below : List Frame} {meth : Method} {c : Code} {post : tq_St → Int32 → Prop} (C : tq_At p s m meth c args cX5_comesBehind 3 ((some .boolean)) ((tq_ws yX5_comesBehind cX5_comesBehind 3 (some .boolean))) RX5 D cy z ad)  : ∀ (S : tq_St)  (H : Heap) (locs : List Loc) (ls : Array Slot), wbX5_comesBehind_36 N post   S  → tq_wd D cy z H0 ad N (tq_mix S M) H → va_S (fun q => z ≤ q) s.heap H locs → lv_has ls 3 [] → W p l e (tq_rm 0 0) s m args below meth c H locs 0 0 (MQ below (va_Qi (fun r u => post u r) (fun u => tq_P D cy z H0 ad N u M) (fun q => z ≤ q)) args s 0 0 (fun q => z ≤ q)) (F0 m 36 ls []) := by
  obtain ⟨hx, hb, hr, hml, hown, hts, hlocks, hK, hG⟩ := id C
  have hw : ∀ w ∈ tq_W, w.before args s = true := fun w h => hts w (List.mem_cons_of_mem _ h)
  intro S  H locs ls h hW hS hl
  unfold wbX5_comesBehind_36 at h
  refine lv_iconst (v := 0) hx hb dX5_comesBehind_36 (by decide) ?_
  exact bX5_comesBehind_37 C  _ _ _ _ _ h hW hS (lv_sub hl [] rfl)
set_option maxHeartbeats 4000000 in
set_option maxRecDepth 100000 in
theorem kX5_comesBehind {post : tq_St → Int32 → Prop} {S : tq_St} {o : Nat} {p1 : Nat} {p2 : Nat} (h : wpX5_comesBehind N post S o p1 p2) : tq_sI l yX5_comesBehind (tq_ws yX5_comesBehind cX5_comesBehind 3 (some .boolean)) 0 0 D cy z H0 ad N M S [.ref (ad 2 o), .ref (ad 7 p1), .ref (ad 7 p2)] post := by
  unfold wpX5_comesBehind at h
  refine Met.ofW (cc := cX5_comesBehind) (maxL := 3) (ret := (some .boolean)) (by decide) rfl ?_
  intro p e s m args below meth c s₁ B hml hv
  obtain ⟨rfl, hW, hK, hG⟩ := hv
  have hx := B.exec
  have hb := B.bytes
  have hr := B.returns
  have hts := atoms_spec (ws := (tq_ws yX5_comesBehind cX5_comesBehind 3 (some .boolean))) B.pre
  have hw : ∀ w ∈ tq_W, w.before _ s = true := fun w h => hts w (List.mem_cons_of_mem _ h)
  have hown : s.vm.findClass RX5 = some m.cls := findClass_of_methodNamed B.named
  have hlocks := B.notSynchronized
  have C : tq_At p s m meth c [.ref (ad 2 o), .ref (ad 7 p1), .ref (ad 7 p2)].toArray cX5_comesBehind 3 ((some .boolean)) ((tq_ws yX5_comesBehind cX5_comesBehind 3 (some .boolean))) RX5 D cy z ad := ⟨hx, hb, hr, hml, hown, hts, hlocks, hK, hG⟩
  have hS : va_S (fun q => z ≤ q) s.heap s.heap [] := va_S.rf
  have hl := lv_entry ([.ref (ad 2 o), .ref (ad 7 p1), .ref (ad 7 p2)]) (n := 3) (Nat.le_of_ble_eq_true rfl)
  rw [lg_entry_eq]
  generalize (lg_sl ([.ref (ad 2 o), .ref (ad 7 p1), .ref (ad 7 p2)]) ++ List.replicate (3 - (lg_sl ([.ref (ad 2 o), .ref (ad 7 p1), .ref (ad 7 p2)])).length) Slot.unset).toArray = ls at hl ⊢
  have hl : lv_has ls 3 [(0, .ref (ad 2 o)), (1, .ref (ad 7 p1)), (2, .ref (ad 7 p2))] := hl
  have hW : tq_wd D cy z H0 ad N (tq_mix S M) s.heap := hW
  refine lv_aload_n hx hb dX5_comesBehind_0 rfl (lv_at hl 1 rfl) ?_
  obtain ⟨b1, h⟩ := h
  refine tqc_get7 (v := .ref (ad 50 p1)) hx hb hw tq_inX3 tq_inX1 hown hK hW b1 5 (by decide) (hw _ tw_524) (fun _ h9 => h9) rfl dX5_comesBehind_1 ?_
  refine lv_aload_n hx hb dX5_comesBehind_4 rfl (lv_at hl 0 rfl) ?_
  obtain ⟨b2, h⟩ := h
  refine tqc_get (v := .int (S 2 o 0)) hx hb hw tq_inX5 hown hK hW (by decide) (tq_mk_2 b2) rfl 0 (by decide) (hw _ tw_252) (fun _ h9 => h9) rfl dX5_comesBehind_5 ?_
  obtain ⟨b3, h⟩ := h
  obtain ⟨b4, h⟩ := h
  refine tqc_iald (jn := (S 2 o 0).toNatClampNeg) hx hb hK hW (by decide) (tq_mk_50 b4) b3 rfl dX5_comesBehind_8 ?_
  refine lv_aload_n hx hb dX5_comesBehind_9 rfl (lv_at hl 2 rfl) ?_
  obtain ⟨b5, h⟩ := h
  refine tqc_get7 (v := .ref (ad 50 p2)) hx hb hw tq_inX3 tq_inX1 hown hK hW b5 5 (by decide) (hw _ tw_524) (fun _ h9 => h9) rfl dX5_comesBehind_10 ?_
  refine lv_aload_n hx hb dX5_comesBehind_13 rfl (lv_at hl 0 rfl) ?_
  refine tqc_get (v := .int (S 2 o 0)) hx hb hw tq_inX5 hown hK hW (by decide) (tq_mk_2 b2) rfl 0 (by decide) (hw _ tw_252) (fun _ h9 => h9) rfl dX5_comesBehind_14 ?_
  obtain ⟨b6, h⟩ := h
  refine tqc_iald (jn := (S 2 o 0).toNatClampNeg) hx hb hK hW (by decide) (tq_mk_50 b6) b3 rfl dX5_comesBehind_17 ?_
  refine lv_icmp_ne (tgt := 36) hx hb dX5_comesBehind_18 (by decide) (fun c7 => ?_) (fun c7 => ?_)
  · have h := h.1 c7
    exact bX5_comesBehind_36 C  _  _ _ _ h hW hS (lv_sub hl [] rfl)
  · have h := h.2 c7
    refine lv_aload_n hx hb dX5_comesBehind_21 rfl (lv_at hl 1 rfl) ?_
    refine tqc_get7 (v := .int (S 7 p1 0)) hx hb hw tq_inX3 tq_inX1 hown hK hW b1 0 (by decide) (hw _ tw_507) (fun _ h9 => h9) rfl dX5_comesBehind_22 ?_
    refine lv_aload_n hx hb dX5_comesBehind_25 rfl (lv_at hl 2 rfl) ?_
    refine tqc_get7 (v := .int (S 7 p2 0)) hx hb hw tq_inX3 tq_inX1 hown hK hW b5 0 (by decide) (hw _ tw_507) (fun _ h9 => h9) rfl dX5_comesBehind_26 ?_
    refine lv_icmp_le (tgt := 36) hx hb dX5_comesBehind_29 (by decide) (fun c8 => ?_) (fun c8 => ?_)
    · have h := h.1 c8
      exact bX5_comesBehind_36 C  _  _ _ _ h hW hS (lv_sub hl [] rfl)
    · have h := h.2 c8
      refine lv_iconst (v := 1) hx hb dX5_comesBehind_32 (by decide) ?_
      refine lv_goto (tgt := 37) hx hb dX5_comesBehind_33 (by decide) ?_
      exact bX5_comesBehind_37 C  _ _ _ _ _ h hW hS (lv_sub hl [] rfl)
-- X3 comesAboard
def wpX3_comesAboard (N : tq_Nn) (post : tq_St → Prop) (S : tq_St) (o : Nat) (p1 : Nat) : Prop :=
  N 7 o = 1 ∧ ((∀ S2, S2 = tq_up S 7 o 9 ((S 7 o 9) + 1) → (N 8 p1 = 1 ∧ (vp_in (S2 7 o 0) 150 ∧ N 56 p1 = 1 ∧ (∀ S6, S6 = tq_up S2 56 p1 ((S2 7 o 0).toNatClampNeg) ((S2 56 p1 ((S2 7 o 0).toNatClampNeg)) + 1) → (post S6))))))
set_option maxHeartbeats 4000000 in
set_option maxRecDepth 100000 in
theorem kX3_comesAboard {post : tq_St → Prop} {S : tq_St} {o : Nat} {p1 : Nat} (h : wpX3_comesAboard N post S o p1) : tq_sV l yX3_comesAboard (tq_ws yX3_comesAboard cX3_comesAboard 2 none) 0 0 D cy z H0 ad N M S [.ref (ad 7 o), .ref (ad 8 p1)] post := by
  unfold wpX3_comesAboard at h
  refine Met.ofW (cc := cX3_comesAboard) (maxL := 2) (ret := none) (by decide) rfl ?_
  intro p e s m args below meth c s₁ B hml hv
  obtain ⟨rfl, hW, hK, hG⟩ := hv
  have hx := B.exec
  have hb := B.bytes
  have hr := B.returns
  have hts := atoms_spec (ws := (tq_ws yX3_comesAboard cX3_comesAboard 2 none)) B.pre
  have hw : ∀ w ∈ tq_W, w.before _ s = true := fun w h => hts w (List.mem_cons_of_mem _ h)
  have hown : s.vm.findClass RX3 = some m.cls := findClass_of_methodNamed B.named
  have hlocks := B.notSynchronized
  have C : tq_At p s m meth c [.ref (ad 7 o), .ref (ad 8 p1)].toArray cX3_comesAboard 2 (none) ((tq_ws yX3_comesAboard cX3_comesAboard 2 none)) RX3 D cy z ad := ⟨hx, hb, hr, hml, hown, hts, hlocks, hK, hG⟩
  have hS : va_S (fun q => z ≤ q) s.heap s.heap [] := va_S.rf
  have hl := lv_entry ([.ref (ad 7 o), .ref (ad 8 p1)]) (n := 2) (Nat.le_of_ble_eq_true rfl)
  rw [lg_entry_eq]
  generalize (lg_sl ([.ref (ad 7 o), .ref (ad 8 p1)]) ++ List.replicate (2 - (lg_sl ([.ref (ad 7 o), .ref (ad 8 p1)])).length) Slot.unset).toArray = ls at hl ⊢
  have hl : lv_has ls 2 [(0, .ref (ad 7 o)), (1, .ref (ad 8 p1))] := hl
  have hW : tq_wd D cy z H0 ad N (tq_mix S M) s.heap := hW
  refine lv_aload_n hx hb dX3_comesAboard_0 rfl (lv_at hl 0 rfl) ?_
  refine lv_dup hx hb dX3_comesAboard_1 rfl ?_
  obtain ⟨b1, h⟩ := h
  refine tqc_get7 (v := .int (S 7 o 9)) hx hb hw tq_inX3 tq_inX1 hown hK hW b1 9 (by decide) (hw _ tw_537) (fun _ h9 => h9) rfl dX3_comesAboard_2 ?_
  refine lv_iconst (v := 1) hx hb dX3_comesAboard_5 (by decide) ?_
  refine lv_iadd hx hb dX3_comesAboard_6 ?_
  refine tqc_put7 hx hb hw tq_inX3 tq_inX1 hown hK hW hS b1 9 (by decide) (hw _ tw_537) (fun _ h9 => h9) dX3_comesAboard_7 (fun H locs hW hS => ?_)
  generalize eS2 : tq_up S 7 o 9 ((S 7 o 9) + 1) = S2 at hW
  have h := h S2 eS2.symm
  refine lv_aload_n hx hb dX3_comesAboard_10 rfl (lv_at hl 1 rfl) ?_
  obtain ⟨b3, h⟩ := h
  refine tqc_get (v := .ref (ad 56 p1)) hx hb hw tq_inX8 hown hK hW (by decide) (tq_mk_8 b3) rfl 10 (by decide) (hw _ tw_918) (fun _ h9 => h9) rfl dX3_comesAboard_11 ?_
  refine lv_aload_n hx hb dX3_comesAboard_14 rfl (lv_at hl 0 rfl) ?_
  refine tqc_get7 (v := .int (S2 7 o 0)) hx hb hw tq_inX3 tq_inX1 hown hK hW b1 0 (by decide) (hw _ tw_504) (fun _ h9 => h9) rfl dX3_comesAboard_15 ?_
  refine lv_dup2_11 hx hb dX3_comesAboard_18 rfl rfl ?_
  obtain ⟨b4, h⟩ := h
  obtain ⟨b5, h⟩ := h
  refine tqc_iald (jn := (S2 7 o 0).toNatClampNeg) hx hb hK hW (by decide) (tq_mk_56 b5) b4 rfl dX3_comesAboard_19 ?_
  refine lv_iconst (v := 1) hx hb dX3_comesAboard_20 (by decide) ?_
  refine lv_iadd hx hb dX3_comesAboard_21 ?_
  refine tqc_iast (jn := (S2 7 o 0).toNatClampNeg) hx hb hK hW hS (by decide) (tq_mk_56 b5) b4 rfl (tq_mk_56 b5) dX3_comesAboard_22 (fun H locs hW hS => ?_)
  generalize eS6 : tq_up S2 56 p1 ((S2 7 o 0).toNatClampNeg) ((S2 56 p1 ((S2 7 o 0).toNatClampNeg)) + 1) = S6 at hW
  have h := h S6 eS6.symm
  exact W.vret hx hb hr (fun t ht hWm => ⟨⟨S6, rfl, h, tq_pe ht hW⟩, hS.F ht⟩) hS.2.2 dX3_comesAboard_23
