variable {l : Launch} {D : va_G} {cy : Nat → ClassId} {z : Nat} {H0 : Heap} {ad : Nat → Nat → Nat} {N : Nat → Nat} {M : tq_St}
-- X6 readNumber
def wbX6_readNumber_58 (N : Nat → Nat) (post : tq_St → Int32 → Prop)  (S : tq_St) (x1 : Int32) : Prop :=
  post S x1
def wbX6_readNumber_50 (N : Nat → Nat) (post : tq_St → Int32 → Prop)  (S : tq_St) (x1 : Int32) (x2 : Int32) : Prop :=
  (¬ x2 = 0 → (wbX6_readNumber_58 N post S x1)) ∧ (x2 = 0 → (wpX6_fail N (fun S8 => wbX6_readNumber_58 N post S8 x1) S ))
def wbX6_readNumber_4 (N : Nat → Nat) (post : tq_St → Int32 → Prop) : Nat → tq_St → Int32 → Int32 → Prop
  | 0, _, _, _ => False
  | n + 1, S, x1, x2 =>
    (4 ≤ x2 → (wbX6_readNumber_50 N post S x1 x2)) ∧ (¬ 4 ≤ x2 → (wpX6_isDigitNext N (fun S2 r3 => (r3 = 0 → (wbX6_readNumber_50 N post S2 x1 x2)) ∧ (¬ r3 = 0 → (vp_in (S2 3 0 2) 120 ∧ ((∀ S6, S6 = tq_up S2 3 0 2 ((S2 3 0 2) + 1) → ((wbX6_readNumber_4 N post n) S6 (((10 * x1) + (S2 41 0 ((S2 3 0 2).toNatClampNeg))) - 48) (x2 + 1))))))) S ))
def wpX6_readNumber (N : Nat → Nat) (post : tq_St → Int32 → Prop) (S : tq_St)  : Prop :=
  ∃ nq, wbX6_readNumber_4 N post nq S 0 0
set_option maxHeartbeats 4000000 in
set_option maxRecDepth 100000 in
theorem bX6_readNumber_58 {p : Program} {e : Env} {s : State} {m : MethodId} {args : Array Value} {below : List Frame} {meth : Method} {c : Code} {post : tq_St → Int32 → Prop} (C : tq_At p s m meth c args cX6_readNumber 3 ((some .int)) ((tq_ws yX6_readNumber cX6_readNumber 3 (some .int))) RX6 D cy z ad)  : ∀ (S : tq_St) (x1 : Int32) (H : Heap) (locs : List Loc) (ls : Array Slot), wbX6_readNumber_58 N post   S x1 → tq_wd D cy z H0 ad N (tq_mix S M) H → va_S (fun q => z ≤ q) s.heap H locs → lv_has ls 3 [(1, .int x1)] → W p l e (tq_rm 1 20) s m args below meth c H locs 0 0 (MQ below (va_Qi (fun r u => post u r) (fun u => tq_P D cy z H0 ad N u M) (fun q => z ≤ q)) args s 0 0 (fun q => z ≤ q)) (F0 m 58 ls []) := by
  obtain ⟨hx, hb, hr, hml, hown, hts, hlocks, hK, hG⟩ := id C
  have hw : ∀ w ∈ tq_W, w.before args s = true := fun w h => hts w (List.mem_cons_of_mem _ h)
  intro S x1 H locs ls h hW hS hl
  unfold wbX6_readNumber_58 at h
  refine lv_iload_n hx hb dX6_readNumber_58 rfl (lv_at hl 0 rfl) ?_
  exact W.iret (v := x1) hx hb hr (fun t ht hWm => ⟨⟨_, S, rfl, h, tq_pe ht hW⟩, hS.F ht⟩) hS.2.2 dX6_readNumber_59
set_option maxHeartbeats 4000000 in
set_option maxRecDepth 100000 in
theorem bX6_readNumber_50 {p : Program} {e : Env} {s : State} {m : MethodId} {args : Array Value} {below : List Frame} {meth : Method} {c : Code} {post : tq_St → Int32 → Prop} (C : tq_At p s m meth c args cX6_readNumber 3 ((some .int)) ((tq_ws yX6_readNumber cX6_readNumber 3 (some .int))) RX6 D cy z ad)  : ∀ (S : tq_St) (x1 : Int32) (x2 : Int32) (H : Heap) (locs : List Loc) (ls : Array Slot), wbX6_readNumber_50 N post   S x1 x2 → tq_wd D cy z H0 ad N (tq_mix S M) H → va_S (fun q => z ≤ q) s.heap H locs → lv_has ls 3 [(0, .ref (ad 3 0)), (1, .int x1), (2, .int x2)] → W p l e (tq_rm 1 20) s m args below meth c H locs 0 0 (MQ below (va_Qi (fun r u => post u r) (fun u => tq_P D cy z H0 ad N u M) (fun q => z ≤ q)) args s 0 0 (fun q => z ≤ q)) (F0 m 50 ls []) := by
  obtain ⟨hx, hb, hr, hml, hown, hts, hlocks, hK, hG⟩ := id C
  have hw : ∀ w ∈ tq_W, w.before args s = true := fun w h => hts w (List.mem_cons_of_mem _ h)
  intro S x1 x2 H locs ls h hW hS hl
  unfold wbX6_readNumber_50 at h
  refine lv_iload_n hx hb dX6_readNumber_50 rfl (lv_at hl 2 rfl) ?_
  refine lv_if_ne (tgt := 58) hx hb dX6_readNumber_51 (by decide) (fun c7 => ?_) (fun c7 => ?_)
  · have h := h.1 c7
    exact bX6_readNumber_58 C  _ _ _ _ _ h hW hS (lv_sub hl [1] rfl)
  · have h := h.2 c7
    refine lv_aload_n hx hb dX6_readNumber_54 rfl (lv_at hl 0 rfl) ?_
    refine tqc_callVv (As := []) (rest := []) (kX6_fail h) ⟨hx, hb, hml, hown, hts⟩ (cwV 0 hts (tq_goodV tw_629 tw_631 tw_6 tw_119 tw_632) rfl rfl rfl (by decide +kernel) ⟨(Nat.le_of_ble_eq_true rfl), (Nat.le_of_ble_eq_true rfl)⟩) (tq_recvC hK hW (by decide) (tq_mk_3 (by decide)) rfl) hK hG hW hS rfl hl.1 rfl (Nat.le_of_ble_eq_true rfl) dX6_readNumber_55 ⟨(Nat.le_of_ble_eq_true rfl), (Nat.le_of_ble_eq_true rfl)⟩ (fun S8 H locs h hW hS => ?_)
    exact bX6_readNumber_58 C  _ _ _ _ _ h hW hS (lv_sub hl [1] rfl)
set_option maxHeartbeats 4000000 in
set_option maxRecDepth 100000 in
theorem bX6_readNumber_4 {p : Program} {e : Env} {s : State} {m : MethodId} {args : Array Value} {below : List Frame} {meth : Method} {c : Code} {post : tq_St → Int32 → Prop} (C : tq_At p s m meth c args cX6_readNumber 3 ((some .int)) ((tq_ws yX6_readNumber cX6_readNumber 3 (some .int))) RX6 D cy z ad)  : ∀ n : Nat, ∀ (S : tq_St) (x1 : Int32) (x2 : Int32) (H : Heap) (locs : List Loc) (ls : Array Slot), wbX6_readNumber_4 N post   n S x1 x2 → tq_wd D cy z H0 ad N (tq_mix S M) H → va_S (fun q => z ≤ q) s.heap H locs → lv_has ls 3 [(0, .ref (ad 3 0)), (1, .int x1), (2, .int x2)] → W p l e (tq_rm 1 20) s m args below meth c H locs 0 0 (MQ below (va_Qi (fun r u => post u r) (fun u => tq_P D cy z H0 ad N u M) (fun q => z ≤ q)) args s 0 0 (fun q => z ≤ q)) (F0 m 4 ls []) := by
  obtain ⟨hx, hb, hr, hml, hown, hts, hlocks, hK, hG⟩ := id C
  have hw : ∀ w ∈ tq_W, w.before args s = true := fun w h => hts w (List.mem_cons_of_mem _ h)
  intro n
  induction n with
  | zero =>
    intro S x1 x2 H locs ls h
    exact absurd h (by unfold wbX6_readNumber_4; exact id)
  | succ n ih =>
    intro S x1 x2 H locs ls h hW hS hl
    unfold wbX6_readNumber_4 at h
    refine lv_iload_n hx hb dX6_readNumber_4 rfl (lv_at hl 2 rfl) ?_
    refine lv_iconst (v := 4) hx hb dX6_readNumber_5 (by decide) ?_
    refine lv_icmp_ge (tgt := 50) hx hb dX6_readNumber_6 (by decide) (fun c1 => ?_) (fun c1 => ?_)
    · have h := h.1 c1
      exact bX6_readNumber_50 C  _ _ _ _ _ _ h hW hS (lv_sub hl [0, 1, 2] rfl)
    · have h := h.2 c1
      refine lv_aload_n hx hb dX6_readNumber_9 rfl (lv_at hl 0 rfl) ?_
      refine tqc_callVi (As := []) (rest := []) (kX6_isDigitNext h) ⟨hx, hb, hml, hown, hts⟩ (cwV 0 hts (tq_goodV tw_649 tw_651 tw_9 tw_119 tw_652) rfl rfl rfl (by decide +kernel) ⟨(Nat.le_of_ble_eq_true rfl), (Nat.le_of_ble_eq_true rfl)⟩) (tq_recvC hK hW (by decide) (tq_mk_3 (by decide)) rfl) hK hG hW hS rfl hl.1 rfl (Nat.le_of_ble_eq_true rfl) dX6_readNumber_10 ⟨(Nat.le_of_ble_eq_true rfl), (Nat.le_of_ble_eq_true rfl)⟩ (fun r3 S2 H locs h hW hS => ?_)
      refine lv_if_eq (tgt := 50) hx hb dX6_readNumber_13 (by decide) (fun c4 => ?_) (fun c4 => ?_)
      · have h := h.1 c4
        exact bX6_readNumber_50 C  _ _ _ _ _ _ h hW hS (lv_sub hl [0, 1, 2] rfl)
      · have h := h.2 c4
        refine lv_bipush (v := 10) hx hb dX6_readNumber_16 (by decide) ?_
        refine lv_iload_n hx hb dX6_readNumber_18 rfl (lv_at hl 1 rfl) ?_
        refine lv_imul hx hb dX6_readNumber_19 ?_
        refine lv_aload_n hx hb dX6_readNumber_20 rfl (lv_at hl 0 rfl) ?_
        refine tqc_get (v := .ref (ad 41 0)) hx hb hw tq_inX6 hown hK hW (by decide) (tq_mk_3 (by decide)) rfl 0 (by decide) (hw _ tw_184) (fun _ h9 => h9) rfl dX6_readNumber_21 ?_
        refine lv_aload_n hx hb dX6_readNumber_24 rfl (lv_at hl 0 rfl) ?_
        refine tqc_get (v := .int (S2 3 0 2)) hx hb hw tq_inX6 hown hK hW (by decide) (tq_mk_3 (by decide)) rfl 2 (by decide) (hw _ tw_187) (fun _ h9 => h9) rfl dX6_readNumber_25 ?_
        obtain ⟨b5, h⟩ := h
        refine tqc_iald (jn := (S2 3 0 2).toNatClampNeg) hx hb hK hW (by decide) (tq_mk_41 (by decide)) b5 rfl dX6_readNumber_28 ?_
        refine lv_iadd hx hb dX6_readNumber_29 ?_
        refine lv_bipush (v := 48) hx hb dX6_readNumber_30 (by decide) ?_
        refine lv_isub hx hb dX6_readNumber_32 ?_
        refine lv_istore_n (lv' := [(1, .int (((10 * x1) + (S2 41 0 ((S2 3 0 2).toNatClampNeg))) - 48)), (0, .ref (ad 3 0)), (2, .int x2)]) hx hb dX6_readNumber_33 rfl hl (by decide) rfl (fun ls hl => ?_)
        refine lv_aload_n hx hb dX6_readNumber_34 rfl (lv_at hl 1 rfl) ?_
        refine lv_dup hx hb dX6_readNumber_35 rfl ?_
        refine tqc_get (v := .int (S2 3 0 2)) hx hb hw tq_inX6 hown hK hW (by decide) (tq_mk_3 (by decide)) rfl 2 (by decide) (hw _ tw_187) (fun _ h9 => h9) rfl dX6_readNumber_36 ?_
        refine lv_iconst (v := 1) hx hb dX6_readNumber_39 (by decide) ?_
        refine lv_iadd hx hb dX6_readNumber_40 ?_
        refine tqc_put hx hb hw tq_inX6 tyX6 tyX6_ok nmX6 hown hK hW hS (by decide) (tq_mk_3 (by decide)) rfl 2 (by decide) (hw _ tw_187) (fun _ h9 => h9) rfl rfl rfl rfl (tq_mk_3 (by decide)) dX6_readNumber_41 (fun H locs hW hS => ?_)
        generalize eS6 : tq_up S2 3 0 2 ((S2 3 0 2) + 1) = S6 at hW
        have h := h S6 eS6.symm
        refine lv_iinc (v := x2 + 1) (lv' := [(2, .int (x2 + 1)), (1, .int (((10 * x1) + (S2 41 0 ((S2 3 0 2).toNatClampNeg))) - 48)), (0, .ref (ad 3 0))]) hx hb dX6_readNumber_44 hl (k := 2) rfl rfl (by decide) rfl (fun ls hl => ?_)
        refine lv_goto (tgt := 4) hx hb dX6_readNumber_47 (by decide) ?_
        exact ih _ _ _ _ _ _ h hW hS (lv_sub hl [2, 1, 0] rfl)
set_option maxHeartbeats 4000000 in
set_option maxRecDepth 100000 in
theorem kX6_readNumber {post : tq_St → Int32 → Prop} {S : tq_St}  (h : wpX6_readNumber N post S ) : tq_sI l yX6_readNumber (tq_ws yX6_readNumber cX6_readNumber 3 (some .int)) 1 20 D cy z H0 ad N M S [.ref (ad 3 0)] post := by
  unfold wpX6_readNumber at h
  refine Met.ofW (cc := cX6_readNumber) (maxL := 3) (ret := (some .int)) (by decide) rfl ?_
  intro p e s m args below meth c s₁ B hml hv
  obtain ⟨rfl, hW, hK, hG⟩ := hv
  have hx := B.exec
  have hb := B.bytes
  have hr := B.returns
  have hts := atoms_spec (ws := (tq_ws yX6_readNumber cX6_readNumber 3 (some .int))) B.pre
  have hw : ∀ w ∈ tq_W, w.before _ s = true := fun w h => hts w (List.mem_cons_of_mem _ h)
  have hown : s.vm.findClass RX6 = some m.cls := findClass_of_methodNamed B.named
  have hlocks := B.notSynchronized
  have C : tq_At p s m meth c [.ref (ad 3 0)].toArray cX6_readNumber 3 ((some .int)) ((tq_ws yX6_readNumber cX6_readNumber 3 (some .int))) RX6 D cy z ad := ⟨hx, hb, hr, hml, hown, hts, hlocks, hK, hG⟩
  have hS : va_S (fun q => z ≤ q) s.heap s.heap [] := va_S.rf
  have hl := lv_entry ([.ref (ad 3 0)]) (n := 3) (Nat.le_of_ble_eq_true rfl)
  rw [lg_entry_eq]
  generalize (lg_sl ([.ref (ad 3 0)]) ++ List.replicate (3 - (lg_sl ([.ref (ad 3 0)])).length) Slot.unset).toArray = ls at hl ⊢
  have hl : lv_has ls 3 [(0, .ref (ad 3 0))] := hl
  have hW : tq_wd D cy z H0 ad N (tq_mix S M) s.heap := hW
  refine lv_iconst (v := 0) hx hb dX6_readNumber_0 (by decide) ?_
  refine lv_istore_n (lv' := [(1, .int 0), (0, .ref (ad 3 0))]) hx hb dX6_readNumber_1 rfl hl (by decide) rfl (fun ls hl => ?_)
  refine lv_iconst (v := 0) hx hb dX6_readNumber_2 (by decide) ?_
  refine lv_istore_n (lv' := [(2, .int 0), (1, .int 0), (0, .ref (ad 3 0))]) hx hb dX6_readNumber_3 rfl hl (by decide) rfl (fun ls hl => ?_)
  obtain ⟨nq, h⟩ := h
  exact bX6_readNumber_4 C  nq _ _ _ _ _ _ h hW hS (lv_sub hl [2, 1, 0] rfl)
-- X11 factory
def wbX11_factory_16 (N : Nat → Nat) (post : tq_St → Int32 → Prop)  (S : tq_St) : Prop :=
  post S ((-1))
def wbX11_factory_108 (N : Nat → Nat) (post : tq_St → Int32 → Prop)  (S : tq_St) (x5 : Int32) : Prop :=
  post S x5
def wpX11_factory (N : Nat → Nat) (post : tq_St → Int32 → Prop) (S : tq_St) (p0 : Int32) (p1 : Int32) (p2 : Int32) : Prop :=
  wpX11_isFactory N (fun S1 r2 => (r2 = 0 → (wbX11_factory_16 N post S1 )) ∧ (¬ r2 = 0 → (wpX11_within N (fun S4 r5 => (¬ r5 = 0 → (vp_in p0 5 ∧ ((¬ p1 = 2 → (wpX11_within N (fun S9 r10 => (¬ r10 = 0 → ((¬ p1 = 0 → ((∀ S13, S13 = tq_up S9 2 p0.toNatClampNeg 4 p2 → (wbX11_factory_108 N post S13 (S9 2 p0.toNatClampNeg 4))))) ∧ (p1 = 0 → ((∀ S14, S14 = tq_up S9 2 p0.toNatClampNeg 3 p2 → (wbX11_factory_108 N post S14 (S9 2 p0.toNatClampNeg 3))))))) ∧ (r10 = 0 → (post S9 ((-2))))) S4 p2 20 240)) ∧ (p1 = 2 → (wpX11_within N (fun S15 r16 => (¬ r16 = 0 → ((∀ S18, S18 = tq_up S15 2 p0.toNatClampNeg 5 p2 → (post S18 (S15 2 p0.toNatClampNeg 5))))) ∧ (r16 = 0 → (post S15 ((-2))))) S4 p2 0 50))))) ∧ (r5 = 0 → (wbX11_factory_16 N post S4 ))) S1 p1 0 2))) S p0
set_option maxHeartbeats 4000000 in
set_option maxRecDepth 100000 in
theorem bX11_factory_16 {p : Program} {e : Env} {s : State} {m : MethodId} {args : Array Value} {below : List Frame} {meth : Method} {c : Code} {post : tq_St → Int32 → Prop} (C : tq_At p s m meth c args cX11_factory 6 ((some .int)) ((tq_ws yX11_factory cX11_factory 6 (some .int))) RX11 D cy z ad)  : ∀ (S : tq_St)  (H : Heap) (locs : List Loc) (ls : Array Slot), wbX11_factory_16 N post   S  → tq_wd D cy z H0 ad N (tq_mix S M) H → va_S (fun q => z ≤ q) s.heap H locs → lv_has ls 6 [] → W p l e (tq_rm 1 22) s m args below meth c H locs 0 0 (MQ below (va_Qi (fun r u => post u r) (fun u => tq_P D cy z H0 ad N u M) (fun q => z ≤ q)) args s 0 0 (fun q => z ≤ q)) (F0 m 16 ls []) := by
  obtain ⟨hx, hb, hr, hml, hown, hts, hlocks, hK, hG⟩ := id C
  have hw : ∀ w ∈ tq_W, w.before args s = true := fun w h => hts w (List.mem_cons_of_mem _ h)
  intro S  H locs ls h hW hS hl
  unfold wbX11_factory_16 at h
  refine lv_iconst (v := (-1)) hx hb dX11_factory_16 (by decide) ?_
  exact W.iret (v := (-1)) hx hb hr (fun t ht hWm => ⟨⟨_, S, rfl, h, tq_pe ht hW⟩, hS.F ht⟩) hS.2.2 dX11_factory_17
set_option maxHeartbeats 4000000 in
set_option maxRecDepth 100000 in
theorem bX11_factory_108 {p : Program} {e : Env} {s : State} {m : MethodId} {args : Array Value} {below : List Frame} {meth : Method} {c : Code} {post : tq_St → Int32 → Prop} (C : tq_At p s m meth c args cX11_factory 6 ((some .int)) ((tq_ws yX11_factory cX11_factory 6 (some .int))) RX11 D cy z ad)  : ∀ (S : tq_St) (x5 : Int32) (H : Heap) (locs : List Loc) (ls : Array Slot), wbX11_factory_108 N post   S x5 → tq_wd D cy z H0 ad N (tq_mix S M) H → va_S (fun q => z ≤ q) s.heap H locs → lv_has ls 6 [(5, .int x5)] → W p l e (tq_rm 1 22) s m args below meth c H locs 0 0 (MQ below (va_Qi (fun r u => post u r) (fun u => tq_P D cy z H0 ad N u M) (fun q => z ≤ q)) args s 0 0 (fun q => z ≤ q)) (F0 m 108 ls []) := by
  obtain ⟨hx, hb, hr, hml, hown, hts, hlocks, hK, hG⟩ := id C
  have hw : ∀ w ∈ tq_W, w.before args s = true := fun w h => hts w (List.mem_cons_of_mem _ h)
  intro S x5 H locs ls h hW hS hl
  unfold wbX11_factory_108 at h
  refine lv_iload hx hb dX11_factory_108 (lv_at hl 0 rfl) ?_
  exact W.iret (v := x5) hx hb hr (fun t ht hWm => ⟨⟨_, S, rfl, h, tq_pe ht hW⟩, hS.F ht⟩) hS.2.2 dX11_factory_110
set_option maxHeartbeats 4000000 in
set_option maxRecDepth 100000 in
theorem kX11_factory {post : tq_St → Int32 → Prop} {S : tq_St} {p0 : Int32} {p1 : Int32} {p2 : Int32} (h : wpX11_factory N post S p0 p1 p2) : tq_sI l yX11_factory (tq_ws yX11_factory cX11_factory 6 (some .int)) 1 22 D cy z H0 ad N M S [.ref (ad 1 0), .int p0, .int p1, .int p2] post := by
  unfold wpX11_factory at h
  refine Met.ofW (cc := cX11_factory) (maxL := 6) (ret := (some .int)) (by decide) rfl ?_
  intro p e s m args below meth c s₁ B hml hv
  obtain ⟨rfl, hW, hK, hG⟩ := hv
  have hx := B.exec
  have hb := B.bytes
  have hr := B.returns
  have hts := atoms_spec (ws := (tq_ws yX11_factory cX11_factory 6 (some .int))) B.pre
  have hw : ∀ w ∈ tq_W, w.before _ s = true := fun w h => hts w (List.mem_cons_of_mem _ h)
  have hown : s.vm.findClass RX11 = some m.cls := findClass_of_methodNamed B.named
  have hlocks := B.notSynchronized
  have C : tq_At p s m meth c [.ref (ad 1 0), .int p0, .int p1, .int p2].toArray cX11_factory 6 ((some .int)) ((tq_ws yX11_factory cX11_factory 6 (some .int))) RX11 D cy z ad := ⟨hx, hb, hr, hml, hown, hts, hlocks, hK, hG⟩
  have hS : va_S (fun q => z ≤ q) s.heap s.heap [] := va_S.rf
  have hl := lv_entry ([.ref (ad 1 0), .int p0, .int p1, .int p2]) (n := 6) (Nat.le_of_ble_eq_true rfl)
  rw [lg_entry_eq]
  generalize (lg_sl ([.ref (ad 1 0), .int p0, .int p1, .int p2]) ++ List.replicate (6 - (lg_sl ([.ref (ad 1 0), .int p0, .int p1, .int p2])).length) Slot.unset).toArray = ls at hl ⊢
  have hl : lv_has ls 6 [(0, .ref (ad 1 0)), (1, .int p0), (2, .int p1), (3, .int p2)] := hl
  have hW : tq_wd D cy z H0 ad N (tq_mix S M) s.heap := hW
  refine lv_iload_n hx hb dX11_factory_0 rfl (lv_at hl 1 rfl) ?_
  refine tqc_callSi (As := [.int p0]) (rest := []) (kX11_isFactory h) ⟨hx, hb, hml, hown, hts⟩ (va_cwS 1 hts (tq_goodS tw_402 tw_403 tw_115 tw_404) rfl rfl rfl (by decide +kernel) ⟨(Nat.le_of_ble_eq_true rfl), (Nat.le_of_ble_eq_true rfl)⟩) hK hG hW hS rfl hl.1 rfl (Nat.le_of_ble_eq_true rfl) dX11_factory_1 ⟨(Nat.le_of_ble_eq_true rfl), (Nat.le_of_ble_eq_true rfl)⟩ (fun r2 S1 H locs h hW hS => ?_)
  refine lv_if_eq (tgt := 16) hx hb dX11_factory_4 (by decide) (fun c3 => ?_) (fun c3 => ?_)
  · have h := h.1 c3
    exact bX11_factory_16 C  _  _ _ _ h hW hS (lv_sub hl [] rfl)
  · have h := h.2 c3
    refine lv_iload_n hx hb dX11_factory_7 rfl (lv_at hl 2 rfl) ?_
    refine lv_iconst (v := 0) hx hb dX11_factory_8 (by decide) ?_
    refine lv_iconst (v := 2) hx hb dX11_factory_9 (by decide) ?_
    refine tqc_callSi (As := [.int p1, .int 0, .int 2]) (rest := []) (kX11_within h) ⟨hx, hb, hml, hown, hts⟩ (va_cwS 3 hts (tq_goodS tw_405 tw_406 tw_115 tw_407) rfl rfl rfl (by decide +kernel) ⟨(Nat.le_of_ble_eq_true rfl), (Nat.le_of_ble_eq_true rfl)⟩) hK hG hW hS rfl hl.1 rfl (Nat.le_of_ble_eq_true rfl) dX11_factory_10 ⟨(Nat.le_of_ble_eq_true rfl), (Nat.le_of_ble_eq_true rfl)⟩ (fun r5 S4 H locs h hW hS => ?_)
    refine lv_if_ne (tgt := 18) hx hb dX11_factory_13 (by decide) (fun c6 => ?_) (fun c6 => ?_)
    · have h := h.1 c6
      refine lv_aload_n hx hb dX11_factory_18 rfl (lv_at hl 0 rfl) ?_
      refine tqc_get (v := .ref (ad 12 0)) hx hb hw tq_inX11 hown hK hW (by decide) (tq_mk_1 (by decide)) rfl 1 (by decide) (hw _ tw_338) (fun _ h9 => h9) rfl dX11_factory_19 ?_
      refine lv_iload_n hx hb dX11_factory_22 rfl (lv_at hl 1 rfl) ?_
      obtain ⟨b7, h⟩ := h
      refine tqc_aald (jn := p0.toNatClampNeg) (v := .ref (ad 2 p0.toNatClampNeg)) hx hb hK hW (by decide) (tq_mk_12 (by decide)) 3 rfl rfl b7 rfl rfl dX11_factory_23 ?_
      refine lv_astore (lv' := [(4, .ref (ad 2 p0.toNatClampNeg)), (0, .ref (ad 1 0)), (1, .int p0), (2, .int p1), (3, .int p2)]) hx hb dX11_factory_24 hl (by decide) rfl (fun ls hl => ?_)
      refine lv_iload_n hx hb dX11_factory_26 rfl (lv_at hl 3 rfl) ?_
      refine lv_iconst (v := 2) hx hb dX11_factory_27 (by decide) ?_
      refine lv_icmp_ne (tgt := 60) hx hb dX11_factory_28 (by decide) (fun c8 => ?_) (fun c8 => ?_)
      · have h := h.1 c8
        refine lv_iload_n hx hb dX11_factory_60 rfl (lv_at hl 4 rfl) ?_
        refine lv_bipush (v := 20) hx hb dX11_factory_61 (by decide) ?_
        refine lv_sipush (v := 240) hx hb dX11_factory_63 (by decide) ?_
        refine tqc_callSi (As := [.int p2, .int 20, .int 240]) (rest := []) (kX11_within h) ⟨hx, hb, hml, hown, hts⟩ (va_cwS 3 hts (tq_goodS tw_405 tw_406 tw_115 tw_407) rfl rfl rfl (by decide +kernel) ⟨(Nat.le_of_ble_eq_true rfl), (Nat.le_of_ble_eq_true rfl)⟩) hK hG hW hS rfl hl.1 rfl (Nat.le_of_ble_eq_true rfl) dX11_factory_66 ⟨(Nat.le_of_ble_eq_true rfl), (Nat.le_of_ble_eq_true rfl)⟩ (fun r10 S9 H locs h hW hS => ?_)
        refine lv_if_ne (tgt := 75) hx hb dX11_factory_69 (by decide) (fun c11 => ?_) (fun c11 => ?_)
        · have h := h.1 c11
          refine lv_iload_n hx hb dX11_factory_75 rfl (lv_at hl 3 rfl) ?_
          refine lv_if_ne (tgt := 95) hx hb dX11_factory_76 (by decide) (fun c12 => ?_) (fun c12 => ?_)
          · have h := h.1 c12
            refine lv_aload hx hb dX11_factory_95 (lv_at hl 0 rfl) ?_
            refine tqc_get (v := .int (S9 2 p0.toNatClampNeg 4)) hx hb hw tq_inX5 hown hK hW (by decide) (tq_mk_2 (tq_lt b7)) rfl 4 (by decide) (hw _ tw_262) (fun _ h9 => h9) rfl dX11_factory_97 ?_
            refine lv_istore (lv' := [(5, .int (S9 2 p0.toNatClampNeg 4)), (4, .ref (ad 2 p0.toNatClampNeg)), (0, .ref (ad 1 0)), (1, .int p0), (2, .int p1), (3, .int p2)]) hx hb dX11_factory_100 hl (by decide) rfl (fun ls hl => ?_)
            refine lv_aload hx hb dX11_factory_102 (lv_at hl 1 rfl) ?_
            refine lv_iload_n hx hb dX11_factory_104 rfl (lv_at hl 5 rfl) ?_
            refine tqc_put hx hb hw tq_inX5 tyX5 tyX5_ok nmX5 hown hK hW hS (by decide) (tq_mk_2 (tq_lt b7)) rfl 4 (by decide) (hw _ tw_262) (fun _ h9 => h9) rfl rfl rfl rfl (tq_mk_2 (tq_lt b7)) dX11_factory_105 (fun H locs hW hS => ?_)
            generalize eS13 : tq_up S9 2 p0.toNatClampNeg 4 p2 = S13 at hW
            have h := h S13 eS13.symm
            exact bX11_factory_108 C  _ _ _ _ _ h hW hS (lv_sub hl [0] rfl)
          · have h := h.2 c12
            refine lv_aload hx hb dX11_factory_79 (lv_at hl 0 rfl) ?_
            refine tqc_get (v := .int (S9 2 p0.toNatClampNeg 3)) hx hb hw tq_inX5 hown hK hW (by decide) (tq_mk_2 (tq_lt b7)) rfl 3 (by decide) (hw _ tw_260) (fun _ h9 => h9) rfl dX11_factory_81 ?_
            refine lv_istore (lv' := [(5, .int (S9 2 p0.toNatClampNeg 3)), (4, .ref (ad 2 p0.toNatClampNeg)), (0, .ref (ad 1 0)), (1, .int p0), (2, .int p1), (3, .int p2)]) hx hb dX11_factory_84 hl (by decide) rfl (fun ls hl => ?_)
            refine lv_aload hx hb dX11_factory_86 (lv_at hl 1 rfl) ?_
            refine lv_iload_n hx hb dX11_factory_88 rfl (lv_at hl 5 rfl) ?_
            refine tqc_put hx hb hw tq_inX5 tyX5 tyX5_ok nmX5 hown hK hW hS (by decide) (tq_mk_2 (tq_lt b7)) rfl 3 (by decide) (hw _ tw_260) (fun _ h9 => h9) rfl rfl rfl rfl (tq_mk_2 (tq_lt b7)) dX11_factory_89 (fun H locs hW hS => ?_)
            generalize eS14 : tq_up S9 2 p0.toNatClampNeg 3 p2 = S14 at hW
            have h := h S14 eS14.symm
            refine lv_goto (tgt := 108) hx hb dX11_factory_92 (by decide) ?_
            exact bX11_factory_108 C  _ _ _ _ _ h hW hS (lv_sub hl [0] rfl)
        · have h := h.2 c11
          refine lv_bipush (v := (-2)) hx hb dX11_factory_72 (by decide) ?_
          exact W.iret (v := (-2)) hx hb hr (fun t ht hWm => ⟨⟨_, S9, rfl, h, tq_pe ht hW⟩, hS.F ht⟩) hS.2.2 dX11_factory_74
      · have h := h.2 c8
        refine lv_iload_n hx hb dX11_factory_31 rfl (lv_at hl 4 rfl) ?_
        refine lv_iconst (v := 0) hx hb dX11_factory_32 (by decide) ?_
        refine lv_bipush (v := 50) hx hb dX11_factory_33 (by decide) ?_
        refine tqc_callSi (As := [.int p2, .int 0, .int 50]) (rest := []) (kX11_within h) ⟨hx, hb, hml, hown, hts⟩ (va_cwS 3 hts (tq_goodS tw_405 tw_406 tw_115 tw_407) rfl rfl rfl (by decide +kernel) ⟨(Nat.le_of_ble_eq_true rfl), (Nat.le_of_ble_eq_true rfl)⟩) hK hG hW hS rfl hl.1 rfl (Nat.le_of_ble_eq_true rfl) dX11_factory_35 ⟨(Nat.le_of_ble_eq_true rfl), (Nat.le_of_ble_eq_true rfl)⟩ (fun r16 S15 H locs h hW hS => ?_)
        refine lv_if_ne (tgt := 44) hx hb dX11_factory_38 (by decide) (fun c17 => ?_) (fun c17 => ?_)
        · have h := h.1 c17
          refine lv_aload hx hb dX11_factory_44 (lv_at hl 0 rfl) ?_
          refine tqc_get (v := .int (S15 2 p0.toNatClampNeg 5)) hx hb hw tq_inX5 hown hK hW (by decide) (tq_mk_2 (tq_lt b7)) rfl 5 (by decide) (hw _ tw_263) (fun _ h9 => h9) rfl dX11_factory_46 ?_
          refine lv_istore (lv' := [(5, .int (S15 2 p0.toNatClampNeg 5)), (4, .ref (ad 2 p0.toNatClampNeg)), (0, .ref (ad 1 0)), (1, .int p0), (2, .int p1), (3, .int p2)]) hx hb dX11_factory_49 hl (by decide) rfl (fun ls hl => ?_)
          refine lv_aload hx hb dX11_factory_51 (lv_at hl 1 rfl) ?_
          refine lv_iload_n hx hb dX11_factory_53 rfl (lv_at hl 5 rfl) ?_
          refine tqc_put hx hb hw tq_inX5 tyX5 tyX5_ok nmX5 hown hK hW hS (by decide) (tq_mk_2 (tq_lt b7)) rfl 5 (by decide) (hw _ tw_263) (fun _ h9 => h9) rfl rfl rfl rfl (tq_mk_2 (tq_lt b7)) dX11_factory_54 (fun H locs hW hS => ?_)
          generalize eS18 : tq_up S15 2 p0.toNatClampNeg 5 p2 = S18 at hW
          have h := h S18 eS18.symm
          refine lv_iload hx hb dX11_factory_57 (lv_at hl 0 rfl) ?_
          exact W.iret (v := S15 2 p0.toNatClampNeg 5) hx hb hr (fun t ht hWm => ⟨⟨_, S18, rfl, h, tq_pe ht hW⟩, hS.F ht⟩) hS.2.2 dX11_factory_59
        · have h := h.2 c17
          refine lv_bipush (v := (-2)) hx hb dX11_factory_41 (by decide) ?_
          exact W.iret (v := (-2)) hx hb hr (fun t ht hWm => ⟨⟨_, S15, rfl, h, tq_pe ht hW⟩, hS.F ht⟩) hS.2.2 dX11_factory_43
    · have h := h.2 c6
      exact bX11_factory_16 C  _  _ _ _ h hW hS (lv_sub hl [] rfl)
-- X11 base
def wbX11_base_14 (N : Nat → Nat) (post : tq_St → Int32 → Prop)  (S : tq_St) : Prop :=
  post S ((-1))
def wpX11_base (N : Nat → Nat) (post : tq_St → Int32 → Prop) (S : tq_St) (p0 : Int32) (p1 : Int32) (p2 : Int32) : Prop :=
  wpX11_isFactory N (fun S1 r2 => (r2 = 0 → (wbX11_base_14 N post S1 )) ∧ (¬ r2 = 0 → (wpX11_isSort N (fun S4 r5 => (¬ r5 = 0 → (wpX11_within N (fun S7 r8 => (¬ r8 = 0 → (vp_in p0 5 ∧ (vp_in p1 4 ∧ (∀ S12, S12 = tq_up S7 31 p0.toNatClampNeg p1.toNatClampNeg p2 → (post S12 (S7 31 p0.toNatClampNeg p1.toNatClampNeg)))))) ∧ (r8 = 0 → (post S7 ((-2))))) S4 p2 1 999)) ∧ (r5 = 0 → (wbX11_base_14 N post S4 ))) S1 p1))) S p0
set_option maxHeartbeats 4000000 in
set_option maxRecDepth 100000 in
theorem bX11_base_14 {p : Program} {e : Env} {s : State} {m : MethodId} {args : Array Value} {below : List Frame} {meth : Method} {c : Code} {post : tq_St → Int32 → Prop} (C : tq_At p s m meth c args cX11_base 5 ((some .int)) ((tq_ws yX11_base cX11_base 5 (some .int))) RX11 D cy z ad)  : ∀ (S : tq_St)  (H : Heap) (locs : List Loc) (ls : Array Slot), wbX11_base_14 N post   S  → tq_wd D cy z H0 ad N (tq_mix S M) H → va_S (fun q => z ≤ q) s.heap H locs → lv_has ls 5 [] → W p l e (tq_rm 1 22) s m args below meth c H locs 0 0 (MQ below (va_Qi (fun r u => post u r) (fun u => tq_P D cy z H0 ad N u M) (fun q => z ≤ q)) args s 0 0 (fun q => z ≤ q)) (F0 m 14 ls []) := by
  obtain ⟨hx, hb, hr, hml, hown, hts, hlocks, hK, hG⟩ := id C
  have hw : ∀ w ∈ tq_W, w.before args s = true := fun w h => hts w (List.mem_cons_of_mem _ h)
  intro S  H locs ls h hW hS hl
  unfold wbX11_base_14 at h
  refine lv_iconst (v := (-1)) hx hb dX11_base_14 (by decide) ?_
  exact W.iret (v := (-1)) hx hb hr (fun t ht hWm => ⟨⟨_, S, rfl, h, tq_pe ht hW⟩, hS.F ht⟩) hS.2.2 dX11_base_15
set_option maxHeartbeats 4000000 in
set_option maxRecDepth 100000 in
theorem kX11_base {post : tq_St → Int32 → Prop} {S : tq_St} {p0 : Int32} {p1 : Int32} {p2 : Int32} (h : wpX11_base N post S p0 p1 p2) : tq_sI l yX11_base (tq_ws yX11_base cX11_base 5 (some .int)) 1 22 D cy z H0 ad N M S [.ref (ad 1 0), .int p0, .int p1, .int p2] post := by
  unfold wpX11_base at h
  refine Met.ofW (cc := cX11_base) (maxL := 5) (ret := (some .int)) (by decide) rfl ?_
  intro p e s m args below meth c s₁ B hml hv
  obtain ⟨rfl, hW, hK, hG⟩ := hv
  have hx := B.exec
  have hb := B.bytes
  have hr := B.returns
  have hts := atoms_spec (ws := (tq_ws yX11_base cX11_base 5 (some .int))) B.pre
  have hw : ∀ w ∈ tq_W, w.before _ s = true := fun w h => hts w (List.mem_cons_of_mem _ h)
  have hown : s.vm.findClass RX11 = some m.cls := findClass_of_methodNamed B.named
  have hlocks := B.notSynchronized
  have C : tq_At p s m meth c [.ref (ad 1 0), .int p0, .int p1, .int p2].toArray cX11_base 5 ((some .int)) ((tq_ws yX11_base cX11_base 5 (some .int))) RX11 D cy z ad := ⟨hx, hb, hr, hml, hown, hts, hlocks, hK, hG⟩
  have hS : va_S (fun q => z ≤ q) s.heap s.heap [] := va_S.rf
  have hl := lv_entry ([.ref (ad 1 0), .int p0, .int p1, .int p2]) (n := 5) (Nat.le_of_ble_eq_true rfl)
  rw [lg_entry_eq]
  generalize (lg_sl ([.ref (ad 1 0), .int p0, .int p1, .int p2]) ++ List.replicate (5 - (lg_sl ([.ref (ad 1 0), .int p0, .int p1, .int p2])).length) Slot.unset).toArray = ls at hl ⊢
  have hl : lv_has ls 5 [(0, .ref (ad 1 0)), (1, .int p0), (2, .int p1), (3, .int p2)] := hl
  have hW : tq_wd D cy z H0 ad N (tq_mix S M) s.heap := hW
  refine lv_iload_n hx hb dX11_base_0 rfl (lv_at hl 1 rfl) ?_
  refine tqc_callSi (As := [.int p0]) (rest := []) (kX11_isFactory h) ⟨hx, hb, hml, hown, hts⟩ (va_cwS 1 hts (tq_goodS tw_402 tw_403 tw_115 tw_404) rfl rfl rfl (by decide +kernel) ⟨(Nat.le_of_ble_eq_true rfl), (Nat.le_of_ble_eq_true rfl)⟩) hK hG hW hS rfl hl.1 rfl (Nat.le_of_ble_eq_true rfl) dX11_base_1 ⟨(Nat.le_of_ble_eq_true rfl), (Nat.le_of_ble_eq_true rfl)⟩ (fun r2 S1 H locs h hW hS => ?_)
  refine lv_if_eq (tgt := 14) hx hb dX11_base_4 (by decide) (fun c3 => ?_) (fun c3 => ?_)
  · have h := h.1 c3
    exact bX11_base_14 C  _  _ _ _ h hW hS (lv_sub hl [] rfl)
  · have h := h.2 c3
    refine lv_iload_n hx hb dX11_base_7 rfl (lv_at hl 2 rfl) ?_
    refine tqc_callSi (As := [.int p1]) (rest := []) (kX11_isSort h) ⟨hx, hb, hml, hown, hts⟩ (va_cwS 1 hts (tq_goodS tw_412 tw_413 tw_115 tw_414) rfl rfl rfl (by decide +kernel) ⟨(Nat.le_of_ble_eq_true rfl), (Nat.le_of_ble_eq_true rfl)⟩) hK hG hW hS rfl hl.1 rfl (Nat.le_of_ble_eq_true rfl) dX11_base_8 ⟨(Nat.le_of_ble_eq_true rfl), (Nat.le_of_ble_eq_true rfl)⟩ (fun r5 S4 H locs h hW hS => ?_)
    refine lv_if_ne (tgt := 16) hx hb dX11_base_11 (by decide) (fun c6 => ?_) (fun c6 => ?_)
    · have h := h.1 c6
      refine lv_iload_n hx hb dX11_base_16 rfl (lv_at hl 3 rfl) ?_
      refine lv_iconst (v := 1) hx hb dX11_base_17 (by decide) ?_
      refine lv_sipush (v := 999) hx hb dX11_base_18 (by decide) ?_
      refine tqc_callSi (As := [.int p2, .int 1, .int 999]) (rest := []) (kX11_within h) ⟨hx, hb, hml, hown, hts⟩ (va_cwS 3 hts (tq_goodS tw_405 tw_406 tw_115 tw_407) rfl rfl rfl (by decide +kernel) ⟨(Nat.le_of_ble_eq_true rfl), (Nat.le_of_ble_eq_true rfl)⟩) hK hG hW hS rfl hl.1 rfl (Nat.le_of_ble_eq_true rfl) dX11_base_21 ⟨(Nat.le_of_ble_eq_true rfl), (Nat.le_of_ble_eq_true rfl)⟩ (fun r8 S7 H locs h hW hS => ?_)
      refine lv_if_ne (tgt := 30) hx hb dX11_base_24 (by decide) (fun c9 => ?_) (fun c9 => ?_)
      · have h := h.1 c9
        refine lv_aload_n hx hb dX11_base_30 rfl (lv_at hl 0 rfl) ?_
        refine tqc_get (v := .ref (ad 12 0)) hx hb hw tq_inX11 hown hK hW (by decide) (tq_mk_1 (by decide)) rfl 1 (by decide) (hw _ tw_338) (fun _ h9 => h9) rfl dX11_base_31 ?_
        refine lv_iload_n hx hb dX11_base_34 rfl (lv_at hl 1 rfl) ?_
        obtain ⟨b10, h⟩ := h
        refine tqc_aald (jn := p0.toNatClampNeg) (v := .ref (ad 2 p0.toNatClampNeg)) hx hb hK hW (by decide) (tq_mk_12 (by decide)) 3 rfl rfl b10 rfl rfl dX11_base_35 ?_
        refine tqc_get (v := .ref (ad 31 p0.toNatClampNeg)) hx hb hw tq_inX5 hown hK hW (by decide) (tq_mk_2 (tq_lt b10)) rfl 6 (by decide) (hw _ tw_266) (fun _ h9 => h9) rfl dX11_base_36 ?_
        refine lv_iload_n hx hb dX11_base_39 rfl (lv_at hl 2 rfl) ?_
        obtain ⟨b11, h⟩ := h
        refine tqc_iald (jn := p1.toNatClampNeg) hx hb hK hW (by decide) (tq_mk_31 (tq_lt b10)) b11 rfl dX11_base_40 ?_
        refine lv_istore (lv' := [(4, .int (S7 31 p0.toNatClampNeg p1.toNatClampNeg)), (0, .ref (ad 1 0)), (1, .int p0), (2, .int p1), (3, .int p2)]) hx hb dX11_base_41 hl (by decide) rfl (fun ls hl => ?_)
        refine lv_aload_n hx hb dX11_base_43 rfl (lv_at hl 1 rfl) ?_
        refine tqc_get (v := .ref (ad 12 0)) hx hb hw tq_inX11 hown hK hW (by decide) (tq_mk_1 (by decide)) rfl 1 (by decide) (hw _ tw_338) (fun _ h9 => h9) rfl dX11_base_44 ?_
        refine lv_iload_n hx hb dX11_base_47 rfl (lv_at hl 2 rfl) ?_
        refine tqc_aald (jn := p0.toNatClampNeg) (v := .ref (ad 2 p0.toNatClampNeg)) hx hb hK hW (by decide) (tq_mk_12 (by decide)) 3 rfl rfl b10 rfl rfl dX11_base_48 ?_
        refine tqc_get (v := .ref (ad 31 p0.toNatClampNeg)) hx hb hw tq_inX5 hown hK hW (by decide) (tq_mk_2 (tq_lt b10)) rfl 6 (by decide) (hw _ tw_266) (fun _ h9 => h9) rfl dX11_base_49 ?_
        refine lv_iload_n hx hb dX11_base_52 rfl (lv_at hl 3 rfl) ?_
        refine lv_iload_n hx hb dX11_base_53 rfl (lv_at hl 4 rfl) ?_
        refine tqc_iast (jn := p1.toNatClampNeg) hx hb hK hW hS (by decide) (tq_mk_31 (tq_lt b10)) b11 rfl (tq_mk_31 (tq_lt b10)) dX11_base_54 (fun H locs hW hS => ?_)
        generalize eS12 : tq_up S7 31 p0.toNatClampNeg p1.toNatClampNeg p2 = S12 at hW
        have h := h S12 eS12.symm
        refine lv_iload hx hb dX11_base_55 (lv_at hl 0 rfl) ?_
        exact W.iret (v := S7 31 p0.toNatClampNeg p1.toNatClampNeg) hx hb hr (fun t ht hWm => ⟨⟨_, S12, rfl, h, tq_pe ht hW⟩, hS.F ht⟩) hS.2.2 dX11_base_57
      · have h := h.2 c9
        refine lv_bipush (v := (-2)) hx hb dX11_base_27 (by decide) ?_
        exact W.iret (v := (-2)) hx hb hr (fun t ht hWm => ⟨⟨_, S7, rfl, h, tq_pe ht hW⟩, hS.F ht⟩) hS.2.2 dX11_base_29
    · have h := h.2 c6
      exact bX11_base_14 C  _  _ _ _ h hW hS (lv_sub hl [] rfl)
-- X11 price
def wbX11_price_28 (N : Nat → Nat) (post : tq_St → Int32 → Prop)  (S : tq_St) (y0 : Int32) : Prop :=
  post S y0
def wbX11_price_27 (N : Nat → Nat) (post : tq_St → Int32 → Prop)  (S : tq_St) : Prop :=
  wbX11_price_28 N post S ((-1))
def wpX11_price (N : Nat → Nat) (post : tq_St → Int32 → Prop) (S : tq_St) (p0 : Int32) (p1 : Int32) : Prop :=
  wpX11_isFactory N (fun S1 r2 => (r2 = 0 → (wbX11_price_27 N post S1 )) ∧ (¬ r2 = 0 → (wpX11_isSort N (fun S4 r5 => (r5 = 0 → (wbX11_price_27 N post S4 )) ∧ (¬ r5 = 0 → (vp_in p0 5 ∧ (wpX5_priceOf N (fun S8 r9 => wbX11_price_28 N post S8 r9) S4 p0.toNatClampNeg p1)))) S1 p1))) S p0
set_option maxHeartbeats 4000000 in
set_option maxRecDepth 100000 in
theorem bX11_price_28 {p : Program} {e : Env} {s : State} {m : MethodId} {args : Array Value} {below : List Frame} {meth : Method} {c : Code} {post : tq_St → Int32 → Prop} (C : tq_At p s m meth c args cX11_price 3 ((some .int)) ((tq_ws yX11_price cX11_price 3 (some .int))) RX11 D cy z ad)  : ∀ (S : tq_St) (y0 : Int32) (H : Heap) (locs : List Loc) (ls : Array Slot), wbX11_price_28 N post   S y0 → tq_wd D cy z H0 ad N (tq_mix S M) H → va_S (fun q => z ≤ q) s.heap H locs → lv_has ls 3 [] → W p l e (tq_rm 1 21) s m args below meth c H locs 0 0 (MQ below (va_Qi (fun r u => post u r) (fun u => tq_P D cy z H0 ad N u M) (fun q => z ≤ q)) args s 0 0 (fun q => z ≤ q)) (F0 m 28 ls [.int y0]) := by
  obtain ⟨hx, hb, hr, hml, hown, hts, hlocks, hK, hG⟩ := id C
  have hw : ∀ w ∈ tq_W, w.before args s = true := fun w h => hts w (List.mem_cons_of_mem _ h)
  intro S y0 H locs ls h hW hS hl
  unfold wbX11_price_28 at h
  exact W.iret (v := y0) hx hb hr (fun t ht hWm => ⟨⟨_, S, rfl, h, tq_pe ht hW⟩, hS.F ht⟩) hS.2.2 dX11_price_28
set_option maxHeartbeats 4000000 in
set_option maxRecDepth 100000 in
theorem bX11_price_27 {p : Program} {e : Env} {s : State} {m : MethodId} {args : Array Value} {below : List Frame} {meth : Method} {c : Code} {post : tq_St → Int32 → Prop} (C : tq_At p s m meth c args cX11_price 3 ((some .int)) ((tq_ws yX11_price cX11_price 3 (some .int))) RX11 D cy z ad)  : ∀ (S : tq_St)  (H : Heap) (locs : List Loc) (ls : Array Slot), wbX11_price_27 N post   S  → tq_wd D cy z H0 ad N (tq_mix S M) H → va_S (fun q => z ≤ q) s.heap H locs → lv_has ls 3 [] → W p l e (tq_rm 1 21) s m args below meth c H locs 0 0 (MQ below (va_Qi (fun r u => post u r) (fun u => tq_P D cy z H0 ad N u M) (fun q => z ≤ q)) args s 0 0 (fun q => z ≤ q)) (F0 m 27 ls []) := by
  obtain ⟨hx, hb, hr, hml, hown, hts, hlocks, hK, hG⟩ := id C
  have hw : ∀ w ∈ tq_W, w.before args s = true := fun w h => hts w (List.mem_cons_of_mem _ h)
  intro S  H locs ls h hW hS hl
  unfold wbX11_price_27 at h
  refine lv_iconst (v := (-1)) hx hb dX11_price_27 (by decide) ?_
  exact bX11_price_28 C  _ _ _ _ _ h hW hS (lv_sub hl [] rfl)
set_option maxHeartbeats 4000000 in
set_option maxRecDepth 100000 in
theorem kX11_price {post : tq_St → Int32 → Prop} {S : tq_St} {p0 : Int32} {p1 : Int32} (h : wpX11_price N post S p0 p1) : tq_sI l yX11_price (tq_ws yX11_price cX11_price 3 (some .int)) 1 21 D cy z H0 ad N M S [.ref (ad 1 0), .int p0, .int p1] post := by
  unfold wpX11_price at h
  refine Met.ofW (cc := cX11_price) (maxL := 3) (ret := (some .int)) (by decide) rfl ?_
  intro p e s m args below meth c s₁ B hml hv
  obtain ⟨rfl, hW, hK, hG⟩ := hv
  have hx := B.exec
  have hb := B.bytes
  have hr := B.returns
  have hts := atoms_spec (ws := (tq_ws yX11_price cX11_price 3 (some .int))) B.pre
  have hw : ∀ w ∈ tq_W, w.before _ s = true := fun w h => hts w (List.mem_cons_of_mem _ h)
  have hown : s.vm.findClass RX11 = some m.cls := findClass_of_methodNamed B.named
  have hlocks := B.notSynchronized
  have C : tq_At p s m meth c [.ref (ad 1 0), .int p0, .int p1].toArray cX11_price 3 ((some .int)) ((tq_ws yX11_price cX11_price 3 (some .int))) RX11 D cy z ad := ⟨hx, hb, hr, hml, hown, hts, hlocks, hK, hG⟩
  have hS : va_S (fun q => z ≤ q) s.heap s.heap [] := va_S.rf
  have hl := lv_entry ([.ref (ad 1 0), .int p0, .int p1]) (n := 3) (Nat.le_of_ble_eq_true rfl)
  rw [lg_entry_eq]
  generalize (lg_sl ([.ref (ad 1 0), .int p0, .int p1]) ++ List.replicate (3 - (lg_sl ([.ref (ad 1 0), .int p0, .int p1])).length) Slot.unset).toArray = ls at hl ⊢
  have hl : lv_has ls 3 [(0, .ref (ad 1 0)), (1, .int p0), (2, .int p1)] := hl
  have hW : tq_wd D cy z H0 ad N (tq_mix S M) s.heap := hW
  refine lv_iload_n hx hb dX11_price_0 rfl (lv_at hl 1 rfl) ?_
  refine tqc_callSi (As := [.int p0]) (rest := []) (kX11_isFactory h) ⟨hx, hb, hml, hown, hts⟩ (va_cwS 1 hts (tq_goodS tw_402 tw_403 tw_115 tw_404) rfl rfl rfl (by decide +kernel) ⟨(Nat.le_of_ble_eq_true rfl), (Nat.le_of_ble_eq_true rfl)⟩) hK hG hW hS rfl hl.1 rfl (Nat.le_of_ble_eq_true rfl) dX11_price_1 ⟨(Nat.le_of_ble_eq_true rfl), (Nat.le_of_ble_eq_true rfl)⟩ (fun r2 S1 H locs h hW hS => ?_)
  refine lv_if_eq (tgt := 27) hx hb dX11_price_4 (by decide) (fun c3 => ?_) (fun c3 => ?_)
  · have h := h.1 c3
    exact bX11_price_27 C  _  _ _ _ h hW hS (lv_sub hl [] rfl)
  · have h := h.2 c3
    refine lv_iload_n hx hb dX11_price_7 rfl (lv_at hl 2 rfl) ?_
    refine tqc_callSi (As := [.int p1]) (rest := []) (kX11_isSort h) ⟨hx, hb, hml, hown, hts⟩ (va_cwS 1 hts (tq_goodS tw_412 tw_413 tw_115 tw_414) rfl rfl rfl (by decide +kernel) ⟨(Nat.le_of_ble_eq_true rfl), (Nat.le_of_ble_eq_true rfl)⟩) hK hG hW hS rfl hl.1 rfl (Nat.le_of_ble_eq_true rfl) dX11_price_8 ⟨(Nat.le_of_ble_eq_true rfl), (Nat.le_of_ble_eq_true rfl)⟩ (fun r5 S4 H locs h hW hS => ?_)
    refine lv_if_eq (tgt := 27) hx hb dX11_price_11 (by decide) (fun c6 => ?_) (fun c6 => ?_)
    · have h := h.1 c6
      exact bX11_price_27 C  _  _ _ _ h hW hS (lv_sub hl [] rfl)
    · have h := h.2 c6
      refine lv_aload_n hx hb dX11_price_14 rfl (lv_at hl 0 rfl) ?_
      refine tqc_get (v := .ref (ad 12 0)) hx hb hw tq_inX11 hown hK hW (by decide) (tq_mk_1 (by decide)) rfl 1 (by decide) (hw _ tw_338) (fun _ h9 => h9) rfl dX11_price_15 ?_
      refine lv_iload_n hx hb dX11_price_18 rfl (lv_at hl 1 rfl) ?_
      obtain ⟨b7, h⟩ := h
      refine tqc_aald (jn := p0.toNatClampNeg) (v := .ref (ad 2 p0.toNatClampNeg)) hx hb hK hW (by decide) (tq_mk_12 (by decide)) 3 rfl rfl b7 rfl rfl dX11_price_19 ?_
      refine lv_iload_n hx hb dX11_price_20 rfl (lv_at hl 2 rfl) ?_
      refine tqc_callVi (As := [.int p1]) (rest := []) (kX5_priceOf h) ⟨hx, hb, hml, hown, hts⟩ (cwV 1 hts (tq_goodV tw_419 tw_420 tw_421 tw_122 tw_422) rfl rfl rfl (by decide +kernel) ⟨(Nat.le_of_ble_eq_true rfl), (Nat.le_of_ble_eq_true rfl)⟩) (tq_recvC hK hW (by decide) (tq_mk_2 (tq_lt b7)) rfl) hK hG hW hS rfl hl.1 rfl (Nat.le_of_ble_eq_true rfl) dX11_price_21 ⟨(Nat.le_of_ble_eq_true rfl), (Nat.le_of_ble_eq_true rfl)⟩ (fun r9 S8 H locs h hW hS => ?_)
      refine lv_goto (tgt := 28) hx hb dX11_price_24 (by decide) ?_
      exact bX11_price_28 C  _ _ _ _ _ h hW hS (lv_sub hl [] rfl)
-- X11 bullion
def wbX11_bullion_40 (N : Nat → Nat) (post : tq_St → Int32 → Prop)  (S : tq_St) : Prop :=
  post S ((-2))
def wpX11_bullion (N : Nat → Nat) (post : tq_St → Int32 → Prop) (S : tq_St) (p0 : Int32) (p1 : Int32) : Prop :=
  wpX11_isPlace N (fun S1 r2 => (¬ r2 = 0 → (wpX11_within N (fun S4 r5 => (r5 = 0 → (wbX11_bullion_40 N post S4 )) ∧ (¬ r5 = 0 → (vp_in p0 5 ∧ (wpX11_within N (fun S8 r9 => (¬ r9 = 0 → ((∀ S11, S11 = tq_up S8 2 p0.toNatClampNeg 1 ((S8 2 p0.toNatClampNeg 1) + p1) → (post S11 (S11 2 p0.toNatClampNeg 1))))) ∧ (r9 = 0 → (wbX11_bullion_40 N post S8 ))) S4 ((S4 2 p0.toNatClampNeg 1) + p1) 0 (100000000))))) S1 p1 (-1000000) (1000000))) ∧ (r2 = 0 → (post S1 ((-1))))) S p0
set_option maxHeartbeats 4000000 in
set_option maxRecDepth 100000 in
theorem bX11_bullion_40 {p : Program} {e : Env} {s : State} {m : MethodId} {args : Array Value} {below : List Frame} {meth : Method} {c : Code} {post : tq_St → Int32 → Prop} (C : tq_At p s m meth c args cX11_bullion 3 ((some .int)) ((tq_ws yX11_bullion cX11_bullion 3 (some .int))) RX11 D cy z ad)  : ∀ (S : tq_St)  (H : Heap) (locs : List Loc) (ls : Array Slot), wbX11_bullion_40 N post   S  → tq_wd D cy z H0 ad N (tq_mix S M) H → va_S (fun q => z ≤ q) s.heap H locs → lv_has ls 3 [] → W p l e (tq_rm 1 22) s m args below meth c H locs 0 0 (MQ below (va_Qi (fun r u => post u r) (fun u => tq_P D cy z H0 ad N u M) (fun q => z ≤ q)) args s 0 0 (fun q => z ≤ q)) (F0 m 40 ls []) := by
  obtain ⟨hx, hb, hr, hml, hown, hts, hlocks, hK, hG⟩ := id C
  have hw : ∀ w ∈ tq_W, w.before args s = true := fun w h => hts w (List.mem_cons_of_mem _ h)
  intro S  H locs ls h hW hS hl
  unfold wbX11_bullion_40 at h
  refine lv_bipush (v := (-2)) hx hb dX11_bullion_40 (by decide) ?_
  exact W.iret (v := (-2)) hx hb hr (fun t ht hWm => ⟨⟨_, S, rfl, h, tq_pe ht hW⟩, hS.F ht⟩) hS.2.2 dX11_bullion_42
set_option maxHeartbeats 4000000 in
set_option maxRecDepth 100000 in
theorem kX11_bullion {post : tq_St → Int32 → Prop} {S : tq_St} {p0 : Int32} {p1 : Int32} (h : wpX11_bullion N post S p0 p1) : tq_sI l yX11_bullion (tq_ws yX11_bullion cX11_bullion 3 (some .int)) 1 22 D cy z H0 ad N M S [.ref (ad 1 0), .int p0, .int p1] post := by
  unfold wpX11_bullion at h
  refine Met.ofW (cc := cX11_bullion) (maxL := 3) (ret := (some .int)) (by decide) rfl ?_
  intro p e s m args below meth c s₁ B hml hv
  obtain ⟨rfl, hW, hK, hG⟩ := hv
  have hx := B.exec
  have hb := B.bytes
  have hr := B.returns
  have hts := atoms_spec (ws := (tq_ws yX11_bullion cX11_bullion 3 (some .int))) B.pre
  have hw : ∀ w ∈ tq_W, w.before _ s = true := fun w h => hts w (List.mem_cons_of_mem _ h)
  have hown : s.vm.findClass RX11 = some m.cls := findClass_of_methodNamed B.named
  have hlocks := B.notSynchronized
  have C : tq_At p s m meth c [.ref (ad 1 0), .int p0, .int p1].toArray cX11_bullion 3 ((some .int)) ((tq_ws yX11_bullion cX11_bullion 3 (some .int))) RX11 D cy z ad := ⟨hx, hb, hr, hml, hown, hts, hlocks, hK, hG⟩
  have hS : va_S (fun q => z ≤ q) s.heap s.heap [] := va_S.rf
  have hl := lv_entry ([.ref (ad 1 0), .int p0, .int p1]) (n := 3) (Nat.le_of_ble_eq_true rfl)
  rw [lg_entry_eq]
  generalize (lg_sl ([.ref (ad 1 0), .int p0, .int p1]) ++ List.replicate (3 - (lg_sl ([.ref (ad 1 0), .int p0, .int p1])).length) Slot.unset).toArray = ls at hl ⊢
  have hl : lv_has ls 3 [(0, .ref (ad 1 0)), (1, .int p0), (2, .int p1)] := hl
  have hW : tq_wd D cy z H0 ad N (tq_mix S M) s.heap := hW
  refine lv_iload_n hx hb dX11_bullion_0 rfl (lv_at hl 1 rfl) ?_
  refine tqc_callSi (As := [.int p0]) (rest := []) (kX11_isPlace h) ⟨hx, hb, hml, hown, hts⟩ (va_cwS 1 hts (tq_goodS tw_427 tw_428 tw_115 tw_429) rfl rfl rfl (by decide +kernel) ⟨(Nat.le_of_ble_eq_true rfl), (Nat.le_of_ble_eq_true rfl)⟩) hK hG hW hS rfl hl.1 rfl (Nat.le_of_ble_eq_true rfl) dX11_bullion_1 ⟨(Nat.le_of_ble_eq_true rfl), (Nat.le_of_ble_eq_true rfl)⟩ (fun r2 S1 H locs h hW hS => ?_)
  refine lv_if_ne (tgt := 9) hx hb dX11_bullion_4 (by decide) (fun c3 => ?_) (fun c3 => ?_)
  · have h := h.1 c3
    refine lv_iload_n hx hb dX11_bullion_9 rfl (lv_at hl 2 rfl) ?_
    refine lv_ldc hx hb hown (hw _ tw_430) dX11_bullion_10 ?_
    refine lv_ldc hx hb hown (hw _ tw_431) dX11_bullion_12 ?_
    refine tqc_callSi (As := [.int p1, .int ((-1000000)), .int ((1000000))]) (rest := []) (kX11_within h) ⟨hx, hb, hml, hown, hts⟩ (va_cwS 3 hts (tq_goodS tw_405 tw_406 tw_115 tw_407) rfl rfl rfl (by decide +kernel) ⟨(Nat.le_of_ble_eq_true rfl), (Nat.le_of_ble_eq_true rfl)⟩) hK hG hW hS rfl hl.1 rfl (Nat.le_of_ble_eq_true rfl) dX11_bullion_14 ⟨(Nat.le_of_ble_eq_true rfl), (Nat.le_of_ble_eq_true rfl)⟩ (fun r5 S4 H locs h hW hS => ?_)
    refine lv_if_eq (tgt := 40) hx hb dX11_bullion_17 (by decide) (fun c6 => ?_) (fun c6 => ?_)
    · have h := h.1 c6
      exact bX11_bullion_40 C  _  _ _ _ h hW hS (lv_sub hl [] rfl)
    · have h := h.2 c6
      refine lv_aload_n hx hb dX11_bullion_20 rfl (lv_at hl 0 rfl) ?_
      refine tqc_get (v := .ref (ad 12 0)) hx hb hw tq_inX11 hown hK hW (by decide) (tq_mk_1 (by decide)) rfl 1 (by decide) (hw _ tw_338) (fun _ h9 => h9) rfl dX11_bullion_21 ?_
      refine lv_iload_n hx hb dX11_bullion_24 rfl (lv_at hl 1 rfl) ?_
      obtain ⟨b7, h⟩ := h
      refine tqc_aald (jn := p0.toNatClampNeg) (v := .ref (ad 2 p0.toNatClampNeg)) hx hb hK hW (by decide) (tq_mk_12 (by decide)) 3 rfl rfl b7 rfl rfl dX11_bullion_25 ?_
      refine tqc_get (v := .int (S4 2 p0.toNatClampNeg 1)) hx hb hw tq_inX5 hown hK hW (by decide) (tq_mk_2 (tq_lt b7)) rfl 1 (by decide) (hw _ tw_255) (fun _ h9 => h9) rfl dX11_bullion_26 ?_
      refine lv_iload_n hx hb dX11_bullion_29 rfl (lv_at hl 2 rfl) ?_
      refine lv_iadd hx hb dX11_bullion_30 ?_
      refine lv_iconst (v := 0) hx hb dX11_bullion_31 (by decide) ?_
      refine lv_ldc hx hb hown (hw _ tw_432) dX11_bullion_32 ?_
      refine tqc_callSi (As := [.int ((S4 2 p0.toNatClampNeg 1) + p1), .int 0, .int ((100000000))]) (rest := []) (kX11_within h) ⟨hx, hb, hml, hown, hts⟩ (va_cwS 3 hts (tq_goodS tw_405 tw_406 tw_115 tw_407) rfl rfl rfl (by decide +kernel) ⟨(Nat.le_of_ble_eq_true rfl), (Nat.le_of_ble_eq_true rfl)⟩) hK hG hW hS rfl hl.1 rfl (Nat.le_of_ble_eq_true rfl) dX11_bullion_34 ⟨(Nat.le_of_ble_eq_true rfl), (Nat.le_of_ble_eq_true rfl)⟩ (fun r9 S8 H locs h hW hS => ?_)
      refine lv_if_ne (tgt := 43) hx hb dX11_bullion_37 (by decide) (fun c10 => ?_) (fun c10 => ?_)
      · have h := h.1 c10
        refine lv_aload_n hx hb dX11_bullion_43 rfl (lv_at hl 0 rfl) ?_
        refine tqc_get (v := .ref (ad 12 0)) hx hb hw tq_inX11 hown hK hW (by decide) (tq_mk_1 (by decide)) rfl 1 (by decide) (hw _ tw_338) (fun _ h9 => h9) rfl dX11_bullion_44 ?_
        refine lv_iload_n hx hb dX11_bullion_47 rfl (lv_at hl 1 rfl) ?_
        refine tqc_aald (jn := p0.toNatClampNeg) (v := .ref (ad 2 p0.toNatClampNeg)) hx hb hK hW (by decide) (tq_mk_12 (by decide)) 3 rfl rfl b7 rfl rfl dX11_bullion_48 ?_
        refine lv_dup hx hb dX11_bullion_49 rfl ?_
        refine tqc_get (v := .int (S8 2 p0.toNatClampNeg 1)) hx hb hw tq_inX5 hown hK hW (by decide) (tq_mk_2 (tq_lt b7)) rfl 1 (by decide) (hw _ tw_255) (fun _ h9 => h9) rfl dX11_bullion_50 ?_
        refine lv_iload_n hx hb dX11_bullion_53 rfl (lv_at hl 2 rfl) ?_
        refine lv_iadd hx hb dX11_bullion_54 ?_
        refine tqc_put hx hb hw tq_inX5 tyX5 tyX5_ok nmX5 hown hK hW hS (by decide) (tq_mk_2 (tq_lt b7)) rfl 1 (by decide) (hw _ tw_255) (fun _ h9 => h9) rfl rfl rfl rfl (tq_mk_2 (tq_lt b7)) dX11_bullion_55 (fun H locs hW hS => ?_)
        generalize eS11 : tq_up S8 2 p0.toNatClampNeg 1 ((S8 2 p0.toNatClampNeg 1) + p1) = S11 at hW
        have h := h S11 eS11.symm
        refine lv_aload_n hx hb dX11_bullion_58 rfl (lv_at hl 0 rfl) ?_
        refine tqc_get (v := .ref (ad 12 0)) hx hb hw tq_inX11 hown hK hW (by decide) (tq_mk_1 (by decide)) rfl 1 (by decide) (hw _ tw_338) (fun _ h9 => h9) rfl dX11_bullion_59 ?_
        refine lv_iload_n hx hb dX11_bullion_62 rfl (lv_at hl 1 rfl) ?_
        refine tqc_aald (jn := p0.toNatClampNeg) (v := .ref (ad 2 p0.toNatClampNeg)) hx hb hK hW (by decide) (tq_mk_12 (by decide)) 3 rfl rfl b7 rfl rfl dX11_bullion_63 ?_
        refine tqc_get (v := .int (S11 2 p0.toNatClampNeg 1)) hx hb hw tq_inX5 hown hK hW (by decide) (tq_mk_2 (tq_lt b7)) rfl 1 (by decide) (hw _ tw_255) (fun _ h9 => h9) rfl dX11_bullion_64 ?_
        exact W.iret (v := S11 2 p0.toNatClampNeg 1) hx hb hr (fun t ht hWm => ⟨⟨_, S11, rfl, h, tq_pe ht hW⟩, hS.F ht⟩) hS.2.2 dX11_bullion_67
      · have h := h.2 c10
        exact bX11_bullion_40 C  _  _ _ _ h hW hS (lv_sub hl [] rfl)
  · have h := h.2 c3
    refine lv_iconst (v := (-1)) hx hb dX11_bullion_7 (by decide) ?_
    exact W.iret (v := (-1)) hx hb hr (fun t ht hWm => ⟨⟨_, S1, rfl, h, tq_pe ht hW⟩, hS.F ht⟩) hS.2.2 dX11_bullion_8
-- X11 stock
def wbX11_stock_29 (N : Nat → Nat) (post : tq_St → Int32 → Prop)  (S : tq_St) (y0 : Int32) : Prop :=
  post S y0
def wbX11_stock_28 (N : Nat → Nat) (post : tq_St → Int32 → Prop)  (S : tq_St) : Prop :=
  wbX11_stock_29 N post S ((-1))
def wpX11_stock (N : Nat → Nat) (post : tq_St → Int32 → Prop) (S : tq_St) (p0 : Int32) (p1 : Int32) : Prop :=
  wpX11_isPlace N (fun S1 r2 => (r2 = 0 → (wbX11_stock_28 N post S1 )) ∧ (¬ r2 = 0 → (wpX11_isSort N (fun S4 r5 => (r5 = 0 → (wbX11_stock_28 N post S4 )) ∧ (¬ r5 = 0 → (vp_in p0 5 ∧ (vp_in p1 4 ∧ (wbX11_stock_29 N post S4 (S4 30 p0.toNatClampNeg p1.toNatClampNeg)))))) S1 p1))) S p0
set_option maxHeartbeats 4000000 in
set_option maxRecDepth 100000 in
theorem bX11_stock_29 {p : Program} {e : Env} {s : State} {m : MethodId} {args : Array Value} {below : List Frame} {meth : Method} {c : Code} {post : tq_St → Int32 → Prop} (C : tq_At p s m meth c args cX11_stock 3 ((some .int)) ((tq_ws yX11_stock cX11_stock 3 (some .int))) RX11 D cy z ad)  : ∀ (S : tq_St) (y0 : Int32) (H : Heap) (locs : List Loc) (ls : Array Slot), wbX11_stock_29 N post   S y0 → tq_wd D cy z H0 ad N (tq_mix S M) H → va_S (fun q => z ≤ q) s.heap H locs → lv_has ls 3 [] → W p l e (tq_rm 1 20) s m args below meth c H locs 0 0 (MQ below (va_Qi (fun r u => post u r) (fun u => tq_P D cy z H0 ad N u M) (fun q => z ≤ q)) args s 0 0 (fun q => z ≤ q)) (F0 m 29 ls [.int y0]) := by
  obtain ⟨hx, hb, hr, hml, hown, hts, hlocks, hK, hG⟩ := id C
  have hw : ∀ w ∈ tq_W, w.before args s = true := fun w h => hts w (List.mem_cons_of_mem _ h)
  intro S y0 H locs ls h hW hS hl
  unfold wbX11_stock_29 at h
  exact W.iret (v := y0) hx hb hr (fun t ht hWm => ⟨⟨_, S, rfl, h, tq_pe ht hW⟩, hS.F ht⟩) hS.2.2 dX11_stock_29
set_option maxHeartbeats 4000000 in
set_option maxRecDepth 100000 in
theorem bX11_stock_28 {p : Program} {e : Env} {s : State} {m : MethodId} {args : Array Value} {below : List Frame} {meth : Method} {c : Code} {post : tq_St → Int32 → Prop} (C : tq_At p s m meth c args cX11_stock 3 ((some .int)) ((tq_ws yX11_stock cX11_stock 3 (some .int))) RX11 D cy z ad)  : ∀ (S : tq_St)  (H : Heap) (locs : List Loc) (ls : Array Slot), wbX11_stock_28 N post   S  → tq_wd D cy z H0 ad N (tq_mix S M) H → va_S (fun q => z ≤ q) s.heap H locs → lv_has ls 3 [] → W p l e (tq_rm 1 20) s m args below meth c H locs 0 0 (MQ below (va_Qi (fun r u => post u r) (fun u => tq_P D cy z H0 ad N u M) (fun q => z ≤ q)) args s 0 0 (fun q => z ≤ q)) (F0 m 28 ls []) := by
  obtain ⟨hx, hb, hr, hml, hown, hts, hlocks, hK, hG⟩ := id C
  have hw : ∀ w ∈ tq_W, w.before args s = true := fun w h => hts w (List.mem_cons_of_mem _ h)
  intro S  H locs ls h hW hS hl
  unfold wbX11_stock_28 at h
  refine lv_iconst (v := (-1)) hx hb dX11_stock_28 (by decide) ?_
  exact bX11_stock_29 C  _ _ _ _ _ h hW hS (lv_sub hl [] rfl)
set_option maxHeartbeats 4000000 in
set_option maxRecDepth 100000 in
theorem kX11_stock {post : tq_St → Int32 → Prop} {S : tq_St} {p0 : Int32} {p1 : Int32} (h : wpX11_stock N post S p0 p1) : tq_sI l yX11_stock (tq_ws yX11_stock cX11_stock 3 (some .int)) 1 20 D cy z H0 ad N M S [.ref (ad 1 0), .int p0, .int p1] post := by
  unfold wpX11_stock at h
  refine Met.ofW (cc := cX11_stock) (maxL := 3) (ret := (some .int)) (by decide) rfl ?_
  intro p e s m args below meth c s₁ B hml hv
  obtain ⟨rfl, hW, hK, hG⟩ := hv
  have hx := B.exec
  have hb := B.bytes
  have hr := B.returns
  have hts := atoms_spec (ws := (tq_ws yX11_stock cX11_stock 3 (some .int))) B.pre
  have hw : ∀ w ∈ tq_W, w.before _ s = true := fun w h => hts w (List.mem_cons_of_mem _ h)
  have hown : s.vm.findClass RX11 = some m.cls := findClass_of_methodNamed B.named
  have hlocks := B.notSynchronized
  have C : tq_At p s m meth c [.ref (ad 1 0), .int p0, .int p1].toArray cX11_stock 3 ((some .int)) ((tq_ws yX11_stock cX11_stock 3 (some .int))) RX11 D cy z ad := ⟨hx, hb, hr, hml, hown, hts, hlocks, hK, hG⟩
  have hS : va_S (fun q => z ≤ q) s.heap s.heap [] := va_S.rf
  have hl := lv_entry ([.ref (ad 1 0), .int p0, .int p1]) (n := 3) (Nat.le_of_ble_eq_true rfl)
  rw [lg_entry_eq]
  generalize (lg_sl ([.ref (ad 1 0), .int p0, .int p1]) ++ List.replicate (3 - (lg_sl ([.ref (ad 1 0), .int p0, .int p1])).length) Slot.unset).toArray = ls at hl ⊢
  have hl : lv_has ls 3 [(0, .ref (ad 1 0)), (1, .int p0), (2, .int p1)] := hl
  have hW : tq_wd D cy z H0 ad N (tq_mix S M) s.heap := hW
  refine lv_iload_n hx hb dX11_stock_0 rfl (lv_at hl 1 rfl) ?_
  refine tqc_callSi (As := [.int p0]) (rest := []) (kX11_isPlace h) ⟨hx, hb, hml, hown, hts⟩ (va_cwS 1 hts (tq_goodS tw_427 tw_428 tw_115 tw_429) rfl rfl rfl (by decide +kernel) ⟨(Nat.le_of_ble_eq_true rfl), (Nat.le_of_ble_eq_true rfl)⟩) hK hG hW hS rfl hl.1 rfl (Nat.le_of_ble_eq_true rfl) dX11_stock_1 ⟨(Nat.le_of_ble_eq_true rfl), (Nat.le_of_ble_eq_true rfl)⟩ (fun r2 S1 H locs h hW hS => ?_)
  refine lv_if_eq (tgt := 28) hx hb dX11_stock_4 (by decide) (fun c3 => ?_) (fun c3 => ?_)
  · have h := h.1 c3
    exact bX11_stock_28 C  _  _ _ _ h hW hS (lv_sub hl [] rfl)
  · have h := h.2 c3
    refine lv_iload_n hx hb dX11_stock_7 rfl (lv_at hl 2 rfl) ?_
    refine tqc_callSi (As := [.int p1]) (rest := []) (kX11_isSort h) ⟨hx, hb, hml, hown, hts⟩ (va_cwS 1 hts (tq_goodS tw_412 tw_413 tw_115 tw_414) rfl rfl rfl (by decide +kernel) ⟨(Nat.le_of_ble_eq_true rfl), (Nat.le_of_ble_eq_true rfl)⟩) hK hG hW hS rfl hl.1 rfl (Nat.le_of_ble_eq_true rfl) dX11_stock_8 ⟨(Nat.le_of_ble_eq_true rfl), (Nat.le_of_ble_eq_true rfl)⟩ (fun r5 S4 H locs h hW hS => ?_)
    refine lv_if_eq (tgt := 28) hx hb dX11_stock_11 (by decide) (fun c6 => ?_) (fun c6 => ?_)
    · have h := h.1 c6
      exact bX11_stock_28 C  _  _ _ _ h hW hS (lv_sub hl [] rfl)
    · have h := h.2 c6
      refine lv_aload_n hx hb dX11_stock_14 rfl (lv_at hl 0 rfl) ?_
      refine tqc_get (v := .ref (ad 12 0)) hx hb hw tq_inX11 hown hK hW (by decide) (tq_mk_1 (by decide)) rfl 1 (by decide) (hw _ tw_338) (fun _ h9 => h9) rfl dX11_stock_15 ?_
      refine lv_iload_n hx hb dX11_stock_18 rfl (lv_at hl 1 rfl) ?_
      obtain ⟨b7, h⟩ := h
      refine tqc_aald (jn := p0.toNatClampNeg) (v := .ref (ad 2 p0.toNatClampNeg)) hx hb hK hW (by decide) (tq_mk_12 (by decide)) 3 rfl rfl b7 rfl rfl dX11_stock_19 ?_
      refine tqc_get (v := .ref (ad 30 p0.toNatClampNeg)) hx hb hw tq_inX5 hown hK hW (by decide) (tq_mk_2 (tq_lt b7)) rfl 2 (by decide) (hw _ tw_258) (fun _ h9 => h9) rfl dX11_stock_20 ?_
      refine lv_iload_n hx hb dX11_stock_23 rfl (lv_at hl 2 rfl) ?_
      obtain ⟨b8, h⟩ := h
      refine tqc_iald (jn := p1.toNatClampNeg) hx hb hK hW (by decide) (tq_mk_30 (tq_lt b7)) b8 rfl dX11_stock_24 ?_
      refine lv_goto (tgt := 29) hx hb dX11_stock_25 (by decide) ?_
      exact bX11_stock_29 C  _ _ _ _ _ h hW hS (lv_sub hl [] rfl)
