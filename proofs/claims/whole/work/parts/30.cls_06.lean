variable {l : Launch} {D : va_G} {cy : Nat → ClassId} {z : Nat} {H0 : Heap} {ad : Nat → Nat → Nat} {N : Nat → Nat} {M : tq_St}
-- X11 isUnder
def wbX11_isUnder_39 (N : Nat → Nat) (post : tq_St → Int32 → Prop)  (S : tq_St) : Prop :=
  post S 0
def wbX11_isUnder_4 (N : Nat → Nat) (post : tq_St → Int32 → Prop) : Nat → tq_St → Int32 → Int32 → Int32 → Prop
  | 0, _, _, _, _ => False
  | n + 1, S, x1, x2, x3 =>
    (7 ≤ x3 → (wbX11_isUnder_39 N post S )) ∧ (¬ 7 ≤ x3 → ((x2 < 0 → (wbX11_isUnder_39 N post S )) ∧ (¬ x2 < 0 → ((7 ≤ x2 → (wbX11_isUnder_39 N post S )) ∧ (¬ 7 ≤ x2 → ((¬ x2 = x1 → (vp_in x2 7 ∧ ((wbX11_isUnder_4 N post n) S x1 (tq_above.getD x2.toNatClampNeg 0) (x3 + 1)))) ∧ (x2 = x1 → (post S 1))))))))
def wpX11_isUnder (N : Nat → Nat) (post : tq_St → Int32 → Prop) (S : tq_St) (p0 : Int32) (p1 : Int32) : Prop :=
  ∃ nq, wbX11_isUnder_4 N post nq S p1 p0 0
set_option maxHeartbeats 4000000 in
set_option maxRecDepth 100000 in
theorem bX11_isUnder_39 {p : Program} {e : Env} {s : State} {m : MethodId} {args : Array Value} {below : List Frame} {meth : Method} {c : Code} {post : tq_St → Int32 → Prop} (C : tq_At p s m meth c args cX11_isUnder 4 ((some .boolean)) ((tq_ws yX11_isUnder cX11_isUnder 4 (some .boolean))) RX11 D cy z ad)  : ∀ (S : tq_St)  (H : Heap) (locs : List Loc) (ls : Array Slot), wbX11_isUnder_39 N post   S  → tq_wd D cy z H0 ad N (tq_mix S M) H → va_S (fun q => z ≤ q) s.heap H locs → lv_has ls 4 [] → W p l e (tq_rm 0 0) s m args below meth c H locs 0 0 (MQ below (va_Qi (fun r u => post u r) (fun u => tq_P D cy z H0 ad N u M) (fun q => z ≤ q)) args s 0 0 (fun q => z ≤ q)) (F0 m 39 ls []) := by
  obtain ⟨hx, hb, hr, hml, hown, hts, hlocks, hK, hG⟩ := id C
  have hw : ∀ w ∈ tq_W, w.before args s = true := fun w h => hts w (List.mem_cons_of_mem _ h)
  intro S  H locs ls h hW hS hl
  unfold wbX11_isUnder_39 at h
  refine lv_iconst (v := 0) hx hb dX11_isUnder_39 (by decide) ?_
  exact W.zret (v := 0) hx hb hr rfl (fun t ht hWm => ⟨⟨_, S, rfl, h, tq_pe ht hW⟩, hS.F ht⟩) hS.2.2 dX11_isUnder_40
set_option maxHeartbeats 4000000 in
set_option maxRecDepth 100000 in
theorem bX11_isUnder_4 {p : Program} {e : Env} {s : State} {m : MethodId} {args : Array Value} {below : List Frame} {meth : Method} {c : Code} {post : tq_St → Int32 → Prop} (C : tq_At p s m meth c args cX11_isUnder 4 ((some .boolean)) ((tq_ws yX11_isUnder cX11_isUnder 4 (some .boolean))) RX11 D cy z ad)  : ∀ n : Nat, ∀ (S : tq_St) (x1 : Int32) (x2 : Int32) (x3 : Int32) (H : Heap) (locs : List Loc) (ls : Array Slot), wbX11_isUnder_4 N post   n S x1 x2 x3 → tq_wd D cy z H0 ad N (tq_mix S M) H → va_S (fun q => z ≤ q) s.heap H locs → lv_has ls 4 [(1, .int x1), (2, .int x2), (3, .int x3)] → W p l e (tq_rm 0 0) s m args below meth c H locs 0 0 (MQ below (va_Qi (fun r u => post u r) (fun u => tq_P D cy z H0 ad N u M) (fun q => z ≤ q)) args s 0 0 (fun q => z ≤ q)) (F0 m 4 ls []) := by
  obtain ⟨hx, hb, hr, hml, hown, hts, hlocks, hK, hG⟩ := id C
  have hw : ∀ w ∈ tq_W, w.before args s = true := fun w h => hts w (List.mem_cons_of_mem _ h)
  intro n
  induction n with
  | zero =>
    intro S x1 x2 x3 H locs ls h
    exact absurd h (by unfold wbX11_isUnder_4; exact id)
  | succ n ih =>
    intro S x1 x2 x3 H locs ls h hW hS hl
    unfold wbX11_isUnder_4 at h
    refine lv_iload_n hx hb dX11_isUnder_4 rfl (lv_at hl 2 rfl) ?_
    refine lv_bipush (v := 7) hx hb dX11_isUnder_5 (by decide) ?_
    refine lv_icmp_ge (tgt := 39) hx hb dX11_isUnder_7 (by decide) (fun c1 => ?_) (fun c1 => ?_)
    · have h := h.1 c1
      exact bX11_isUnder_39 C  _  _ _ _ h hW hS (lv_sub hl [] rfl)
    · have h := h.2 c1
      refine lv_iload_n hx hb dX11_isUnder_10 rfl (lv_at hl 1 rfl) ?_
      refine lv_if_lt (tgt := 39) hx hb dX11_isUnder_11 (by decide) (fun c2 => ?_) (fun c2 => ?_)
      · have h := h.1 c2
        exact bX11_isUnder_39 C  _  _ _ _ h hW hS (lv_sub hl [] rfl)
      · have h := h.2 c2
        refine lv_iload_n hx hb dX11_isUnder_14 rfl (lv_at hl 1 rfl) ?_
        refine lv_bipush (v := 7) hx hb dX11_isUnder_15 (by decide) ?_
        refine lv_icmp_ge (tgt := 39) hx hb dX11_isUnder_17 (by decide) (fun c3 => ?_) (fun c3 => ?_)
        · have h := h.1 c3
          exact bX11_isUnder_39 C  _  _ _ _ h hW hS (lv_sub hl [] rfl)
        · have h := h.2 c3
          refine lv_iload_n hx hb dX11_isUnder_20 rfl (lv_at hl 1 rfl) ?_
          refine lv_iload_n hx hb dX11_isUnder_21 rfl (lv_at hl 0 rfl) ?_
          refine lv_icmp_ne (tgt := 27) hx hb dX11_isUnder_22 (by decide) (fun c4 => ?_) (fun c4 => ?_)
          · have h := h.1 c4
            refine va_gets hx hb hG.2.2.2.1.1 hS hown (hw _ tw_1372) (fun _ h9 => h9) dX11_isUnder_27 ?_
            refine lv_iload_n hx hb dX11_isUnder_30 rfl (lv_at hl 1 rfl) ?_
            obtain ⟨b5, h⟩ := h
            refine va_ti (v := .int (tq_above.getD x2.toNatClampNeg 0)) hx hb hG.2.2.2.1.2 hS b5 rfl dX11_isUnder_31 ?_
            refine lv_istore_n (lv' := [(2, .int (tq_above.getD x2.toNatClampNeg 0)), (1, .int x1), (3, .int x3)]) hx hb dX11_isUnder_32 rfl hl (by decide) rfl (fun ls hl => ?_)
            refine lv_iinc (v := x3 + 1) (lv' := [(3, .int (x3 + 1)), (2, .int (tq_above.getD x2.toNatClampNeg 0)), (1, .int x1)]) hx hb dX11_isUnder_33 hl (k := 2) rfl rfl (by decide) rfl (fun ls hl => ?_)
            refine lv_goto (tgt := 4) hx hb dX11_isUnder_36 (by decide) ?_
            exact ih _ _ _ _ _ _ _ h hW hS (lv_sub hl [2, 1, 0] rfl)
          · have h := h.2 c4
            refine lv_iconst (v := 1) hx hb dX11_isUnder_25 (by decide) ?_
            exact W.zret (v := 1) hx hb hr rfl (fun t ht hWm => ⟨⟨_, S, rfl, h, tq_pe ht hW⟩, hS.F ht⟩) hS.2.2 dX11_isUnder_26
set_option maxHeartbeats 4000000 in
set_option maxRecDepth 100000 in
theorem kX11_isUnder {post : tq_St → Int32 → Prop} {S : tq_St} {p0 : Int32} {p1 : Int32} (h : wpX11_isUnder N post S p0 p1) : tq_sI l yX11_isUnder (tq_ws yX11_isUnder cX11_isUnder 4 (some .boolean)) 0 0 D cy z H0 ad N M S [.int p0, .int p1] post := by
  unfold wpX11_isUnder at h
  refine Met.ofW (cc := cX11_isUnder) (maxL := 4) (ret := (some .boolean)) (by decide) rfl ?_
  intro p e s m args below meth c s₁ B hml hv
  obtain ⟨rfl, hW, hK, hG⟩ := hv
  have hx := B.exec
  have hb := B.bytes
  have hr := B.returns
  have hts := atoms_spec (ws := (tq_ws yX11_isUnder cX11_isUnder 4 (some .boolean))) B.pre
  have hw : ∀ w ∈ tq_W, w.before _ s = true := fun w h => hts w (List.mem_cons_of_mem _ h)
  have hown : s.vm.findClass RX11 = some m.cls := findClass_of_methodNamed B.named
  have hlocks := B.notSynchronized
  have C : tq_At p s m meth c [.int p0, .int p1].toArray cX11_isUnder 4 ((some .boolean)) ((tq_ws yX11_isUnder cX11_isUnder 4 (some .boolean))) RX11 D cy z ad := ⟨hx, hb, hr, hml, hown, hts, hlocks, hK, hG⟩
  have hS : va_S (fun q => z ≤ q) s.heap s.heap [] := va_S.rf
  have hl := lv_entry ([.int p0, .int p1]) (n := 4) (Nat.le_of_ble_eq_true rfl)
  rw [lg_entry_eq]
  generalize (lg_sl ([.int p0, .int p1]) ++ List.replicate (4 - (lg_sl ([.int p0, .int p1])).length) Slot.unset).toArray = ls at hl ⊢
  have hl : lv_has ls 4 [(0, .int p0), (1, .int p1)] := hl
  have hW : tq_wd D cy z H0 ad N (tq_mix S M) s.heap := hW
  refine lv_iload_n hx hb dX11_isUnder_0 rfl (lv_at hl 0 rfl) ?_
  refine lv_istore_n (lv' := [(2, .int p0), (0, .int p0), (1, .int p1)]) hx hb dX11_isUnder_1 rfl hl (by decide) rfl (fun ls hl => ?_)
  refine lv_iconst (v := 0) hx hb dX11_isUnder_2 (by decide) ?_
  refine lv_istore_n (lv' := [(3, .int 0), (2, .int p0), (0, .int p0), (1, .int p1)]) hx hb dX11_isUnder_3 rfl hl (by decide) rfl (fun ls hl => ?_)
  obtain ⟨nq, h⟩ := h
  exact bX11_isUnder_4 C  nq _ _ _ _ _ _ _ h hW hS (lv_sub hl [3, 1, 0] rfl)
-- X6 readSort
def wbX6_readSort_2 (N : Nat → Nat) (post : tq_St → Int32 → Prop) : Nat → tq_St → Int32 → Prop
  | 0, _, _ => False
  | n + 1, S, x1 =>
    (4 ≤ x1 → (wpX6_fail N (fun S2 => post S2 0) S )) ∧ (¬ 4 ≤ x1 → (wpX6_takes N (fun S3 r4 => (r4 = 0 → ((wbX6_readSort_2 N post n) S3 (x1 + 1))) ∧ (¬ r4 = 0 → (post S3 x1))) S (48 + x1)))
def wpX6_readSort (N : Nat → Nat) (post : tq_St → Int32 → Prop) (S : tq_St)  : Prop :=
  ∃ nq, wbX6_readSort_2 N post nq S 0
set_option maxHeartbeats 4000000 in
set_option maxRecDepth 100000 in
theorem bX6_readSort_2 {p : Program} {e : Env} {s : State} {m : MethodId} {args : Array Value} {below : List Frame} {meth : Method} {c : Code} {post : tq_St → Int32 → Prop} (C : tq_At p s m meth c args cX6_readSort 2 ((some .int)) ((tq_ws yX6_readSort cX6_readSort 2 (some .int))) RX6 D cy z ad)  : ∀ n : Nat, ∀ (S : tq_St) (x1 : Int32) (H : Heap) (locs : List Loc) (ls : Array Slot), wbX6_readSort_2 N post   n S x1 → tq_wd D cy z H0 ad N (tq_mix S M) H → va_S (fun q => z ≤ q) s.heap H locs → lv_has ls 2 [(0, .ref (ad 3 0)), (1, .int x1)] → W p l e (tq_rm 1 22) s m args below meth c H locs 0 0 (MQ below (va_Qi (fun r u => post u r) (fun u => tq_P D cy z H0 ad N u M) (fun q => z ≤ q)) args s 0 0 (fun q => z ≤ q)) (F0 m 2 ls []) := by
  obtain ⟨hx, hb, hr, hml, hown, hts, hlocks, hK, hG⟩ := id C
  have hw : ∀ w ∈ tq_W, w.before args s = true := fun w h => hts w (List.mem_cons_of_mem _ h)
  intro n
  induction n with
  | zero =>
    intro S x1 H locs ls h
    exact absurd h (by unfold wbX6_readSort_2; exact id)
  | succ n ih =>
    intro S x1 H locs ls h hW hS hl
    unfold wbX6_readSort_2 at h
    refine lv_iload_n hx hb dX6_readSort_2 rfl (lv_at hl 1 rfl) ?_
    refine lv_iconst (v := 4) hx hb dX6_readSort_3 (by decide) ?_
    refine lv_icmp_ge (tgt := 26) hx hb dX6_readSort_4 (by decide) (fun c1 => ?_) (fun c1 => ?_)
    · have h := h.1 c1
      refine lv_aload_n hx hb dX6_readSort_26 rfl (lv_at hl 0 rfl) ?_
      refine tqc_callVv (As := []) (rest := []) (kX6_fail h) ⟨hx, hb, hml, hown, hts⟩ (cwV 0 hts (tq_goodV tw_629 tw_631 tw_6 tw_119 tw_632) rfl rfl rfl (by decide +kernel) ⟨(Nat.le_of_ble_eq_true rfl), (Nat.le_of_ble_eq_true rfl)⟩) (tq_recvC hK hW (by decide) (tq_mk_3 (by decide)) rfl) hK hG hW hS rfl hl.1 rfl (Nat.le_of_ble_eq_true rfl) dX6_readSort_27 ⟨(Nat.le_of_ble_eq_true rfl), (Nat.le_of_ble_eq_true rfl)⟩ (fun S2 H locs h hW hS => ?_)
      refine lv_iconst (v := 0) hx hb dX6_readSort_30 (by decide) ?_
      exact W.iret (v := 0) hx hb hr (fun t ht hWm => ⟨⟨_, S2, rfl, h, tq_pe ht hW⟩, hS.F ht⟩) hS.2.2 dX6_readSort_31
    · have h := h.2 c1
      refine lv_aload_n hx hb dX6_readSort_7 rfl (lv_at hl 0 rfl) ?_
      refine lv_bipush (v := 48) hx hb dX6_readSort_8 (by decide) ?_
      refine lv_iload_n hx hb dX6_readSort_10 rfl (lv_at hl 1 rfl) ?_
      refine lv_iadd hx hb dX6_readSort_11 ?_
      refine tqc_callVi (As := [.int (48 + x1)]) (rest := []) (kX6_takes h) ⟨hx, hb, hml, hown, hts⟩ (cwV 1 hts (tq_goodV tw_572 tw_574 tw_4 tw_119 tw_575) rfl rfl rfl (by decide +kernel) ⟨(Nat.le_of_ble_eq_true rfl), (Nat.le_of_ble_eq_true rfl)⟩) (tq_recvC hK hW (by decide) (tq_mk_3 (by decide)) rfl) hK hG hW hS rfl hl.1 rfl (Nat.le_of_ble_eq_true rfl) dX6_readSort_12 ⟨(Nat.le_of_ble_eq_true rfl), (Nat.le_of_ble_eq_true rfl)⟩ (fun r4 S3 H locs h hW hS => ?_)
      refine lv_if_eq (tgt := 20) hx hb dX6_readSort_15 (by decide) (fun c5 => ?_) (fun c5 => ?_)
      · have h := h.1 c5
        refine lv_iinc (v := x1 + 1) (lv' := [(1, .int (x1 + 1)), (0, .ref (ad 3 0))]) hx hb dX6_readSort_20 hl (k := 1) rfl rfl (by decide) rfl (fun ls hl => ?_)
        refine lv_goto (tgt := 2) hx hb dX6_readSort_23 (by decide) ?_
        exact ih _ _ _ _ _ h hW hS (lv_sub hl [1, 0] rfl)
      · have h := h.2 c5
        refine lv_iload_n hx hb dX6_readSort_18 rfl (lv_at hl 1 rfl) ?_
        exact W.iret (v := x1) hx hb hr (fun t ht hWm => ⟨⟨_, S3, rfl, h, tq_pe ht hW⟩, hS.F ht⟩) hS.2.2 dX6_readSort_19
set_option maxHeartbeats 4000000 in
set_option maxRecDepth 100000 in
theorem kX6_readSort {post : tq_St → Int32 → Prop} {S : tq_St}  (h : wpX6_readSort N post S ) : tq_sI l yX6_readSort (tq_ws yX6_readSort cX6_readSort 2 (some .int)) 1 22 D cy z H0 ad N M S [.ref (ad 3 0)] post := by
  unfold wpX6_readSort at h
  refine Met.ofW (cc := cX6_readSort) (maxL := 2) (ret := (some .int)) (by decide) rfl ?_
  intro p e s m args below meth c s₁ B hml hv
  obtain ⟨rfl, hW, hK, hG⟩ := hv
  have hx := B.exec
  have hb := B.bytes
  have hr := B.returns
  have hts := atoms_spec (ws := (tq_ws yX6_readSort cX6_readSort 2 (some .int))) B.pre
  have hw : ∀ w ∈ tq_W, w.before _ s = true := fun w h => hts w (List.mem_cons_of_mem _ h)
  have hown : s.vm.findClass RX6 = some m.cls := findClass_of_methodNamed B.named
  have hlocks := B.notSynchronized
  have C : tq_At p s m meth c [.ref (ad 3 0)].toArray cX6_readSort 2 ((some .int)) ((tq_ws yX6_readSort cX6_readSort 2 (some .int))) RX6 D cy z ad := ⟨hx, hb, hr, hml, hown, hts, hlocks, hK, hG⟩
  have hS : va_S (fun q => z ≤ q) s.heap s.heap [] := va_S.rf
  have hl := lv_entry ([.ref (ad 3 0)]) (n := 2) (Nat.le_of_ble_eq_true rfl)
  rw [lg_entry_eq]
  generalize (lg_sl ([.ref (ad 3 0)]) ++ List.replicate (2 - (lg_sl ([.ref (ad 3 0)])).length) Slot.unset).toArray = ls at hl ⊢
  have hl : lv_has ls 2 [(0, .ref (ad 3 0))] := hl
  have hW : tq_wd D cy z H0 ad N (tq_mix S M) s.heap := hW
  refine lv_iconst (v := 0) hx hb dX6_readSort_0 (by decide) ?_
  refine lv_istore_n (lv' := [(1, .int 0), (0, .ref (ad 3 0))]) hx hb dX6_readSort_1 rfl hl (by decide) rfl (fun ls hl => ?_)
  obtain ⟨nq, h⟩ := h
  exact bX6_readSort_2 C  nq _ _ _ _ _ h hW hS (lv_sub hl [1, 0] rfl)
-- X6 readNumber
def wbX6_readNumber_58 (N : Nat → Nat) (post : tq_St → Int32 → Prop)  (S : tq_St) (x1 : Int32) : Prop :=
  post S x1
def wbX6_readNumber_50 (N : Nat → Nat) (post : tq_St → Int32 → Prop)  (S : tq_St) (x1 : Int32) (x2 : Int32) : Prop :=
  (¬ x2 = 0 → (wbX6_readNumber_58 N post S x1)) ∧ (x2 = 0 → (wpX6_fail N (fun S8 => wbX6_readNumber_58 N post S8 x1) S ))
def wbX6_readNumber_4 (N : Nat → Nat) (post : tq_St → Int32 → Prop) : Nat → tq_St → Int32 → Int32 → Prop
  | 0, _, _, _ => False
  | n + 1, S, x1, x2 =>
    (4 ≤ x2 → (wbX6_readNumber_50 N post S x1 x2)) ∧ (¬ 4 ≤ x2 → (wpX6_isDigitNext N (fun S2 r3 => (r3 = 0 → (wbX6_readNumber_50 N post S2 x1 x2)) ∧ (¬ r3 = 0 → (vp_in (S2 3 0 2) 120 ∧ ((∀ S6, S6 = tq_up S2 3 0 2 ((S2 3 0 2) + 1) → ((wbX6_readNumber_4 N post n) S6 (((10 * x1) + (S2 41 0 ((S2 3 0 2).toNatClampNeg))) - 48) (x2 + 1))))))) S ))
def wpX6_readNumber (N : Nat → Nat) (post : tq_St → Int32 → Prop) (S : tq_St)  : Prop :=
  ∃ nq, wbX6_readNumber_4 N post nq S 0 0
set_option maxHeartbeats 4000000 in
set_option maxRecDepth 100000 in
theorem bX6_readNumber_58 {p : Program} {e : Env} {s : State} {m : MethodId} {args : Array Value} {below : List Frame} {meth : Method} {c : Code} {post : tq_St → Int32 → Prop} (C : tq_At p s m meth c args cX6_readNumber 3 ((some .int)) ((tq_ws yX6_readNumber cX6_readNumber 3 (some .int))) RX6 D cy z ad)  : ∀ (S : tq_St) (x1 : Int32) (H : Heap) (locs : List Loc) (ls : Array Slot), wbX6_readNumber_58 N post   S x1 → tq_wd D cy z H0 ad N (tq_mix S M) H → va_S (fun q => z ≤ q) s.heap H locs → lv_has ls 3 [(1, .int x1)] → W p l e (tq_rm 1 20) s m args below meth c H locs 0 0 (MQ below (va_Qi (fun r u => post u r) (fun u => tq_P D cy z H0 ad N u M) (fun q => z ≤ q)) args s 0 0 (fun q => z ≤ q)) (F0 m 58 ls []) := by
  obtain ⟨hx, hb, hr, hml, hown, hts, hlocks, hK, hG⟩ := id C
  have hw : ∀ w ∈ tq_W, w.before args s = true := fun w h => hts w (List.mem_cons_of_mem _ h)
  intro S x1 H locs ls h hW hS hl
  unfold wbX6_readNumber_58 at h
  refine lv_iload_n hx hb dX6_readNumber_58 rfl (lv_at hl 0 rfl) ?_
  exact W.iret (v := x1) hx hb hr (fun t ht hWm => ⟨⟨_, S, rfl, h, tq_pe ht hW⟩, hS.F ht⟩) hS.2.2 dX6_readNumber_59
set_option maxHeartbeats 4000000 in
set_option maxRecDepth 100000 in
theorem bX6_readNumber_50 {p : Program} {e : Env} {s : State} {m : MethodId} {args : Array Value} {below : List Frame} {meth : Method} {c : Code} {post : tq_St → Int32 → Prop} (C : tq_At p s m meth c args cX6_readNumber 3 ((some .int)) ((tq_ws yX6_readNumber cX6_readNumber 3 (some .int))) RX6 D cy z ad)  : ∀ (S : tq_St) (x1 : Int32) (x2 : Int32) (H : Heap) (locs : List Loc) (ls : Array Slot), wbX6_readNumber_50 N post   S x1 x2 → tq_wd D cy z H0 ad N (tq_mix S M) H → va_S (fun q => z ≤ q) s.heap H locs → lv_has ls 3 [(0, .ref (ad 3 0)), (1, .int x1), (2, .int x2)] → W p l e (tq_rm 1 20) s m args below meth c H locs 0 0 (MQ below (va_Qi (fun r u => post u r) (fun u => tq_P D cy z H0 ad N u M) (fun q => z ≤ q)) args s 0 0 (fun q => z ≤ q)) (F0 m 50 ls []) := by
  obtain ⟨hx, hb, hr, hml, hown, hts, hlocks, hK, hG⟩ := id C
  have hw : ∀ w ∈ tq_W, w.before args s = true := fun w h => hts w (List.mem_cons_of_mem _ h)
  intro S x1 x2 H locs ls h hW hS hl
  unfold wbX6_readNumber_50 at h
  refine lv_iload_n hx hb dX6_readNumber_50 rfl (lv_at hl 2 rfl) ?_
  refine lv_if_ne (tgt := 58) hx hb dX6_readNumber_51 (by decide) (fun c7 => ?_) (fun c7 => ?_)
  · have h := h.1 c7
    exact bX6_readNumber_58 C  _ _ _ _ _ h hW hS (lv_sub hl [1] rfl)
  · have h := h.2 c7
    refine lv_aload_n hx hb dX6_readNumber_54 rfl (lv_at hl 0 rfl) ?_
    refine tqc_callVv (As := []) (rest := []) (kX6_fail h) ⟨hx, hb, hml, hown, hts⟩ (cwV 0 hts (tq_goodV tw_629 tw_631 tw_6 tw_119 tw_632) rfl rfl rfl (by decide +kernel) ⟨(Nat.le_of_ble_eq_true rfl), (Nat.le_of_ble_eq_true rfl)⟩) (tq_recvC hK hW (by decide) (tq_mk_3 (by decide)) rfl) hK hG hW hS rfl hl.1 rfl (Nat.le_of_ble_eq_true rfl) dX6_readNumber_55 ⟨(Nat.le_of_ble_eq_true rfl), (Nat.le_of_ble_eq_true rfl)⟩ (fun S8 H locs h hW hS => ?_)
    exact bX6_readNumber_58 C  _ _ _ _ _ h hW hS (lv_sub hl [1] rfl)
set_option maxHeartbeats 4000000 in
set_option maxRecDepth 100000 in
theorem bX6_readNumber_4 {p : Program} {e : Env} {s : State} {m : MethodId} {args : Array Value} {below : List Frame} {meth : Method} {c : Code} {post : tq_St → Int32 → Prop} (C : tq_At p s m meth c args cX6_readNumber 3 ((some .int)) ((tq_ws yX6_readNumber cX6_readNumber 3 (some .int))) RX6 D cy z ad)  : ∀ n : Nat, ∀ (S : tq_St) (x1 : Int32) (x2 : Int32) (H : Heap) (locs : List Loc) (ls : Array Slot), wbX6_readNumber_4 N post   n S x1 x2 → tq_wd D cy z H0 ad N (tq_mix S M) H → va_S (fun q => z ≤ q) s.heap H locs → lv_has ls 3 [(0, .ref (ad 3 0)), (1, .int x1), (2, .int x2)] → W p l e (tq_rm 1 20) s m args below meth c H locs 0 0 (MQ below (va_Qi (fun r u => post u r) (fun u => tq_P D cy z H0 ad N u M) (fun q => z ≤ q)) args s 0 0 (fun q => z ≤ q)) (F0 m 4 ls []) := by
  obtain ⟨hx, hb, hr, hml, hown, hts, hlocks, hK, hG⟩ := id C
  have hw : ∀ w ∈ tq_W, w.before args s = true := fun w h => hts w (List.mem_cons_of_mem _ h)
  intro n
  induction n with
  | zero =>
    intro S x1 x2 H locs ls h
    exact absurd h (by unfold wbX6_readNumber_4; exact id)
  | succ n ih =>
    intro S x1 x2 H locs ls h hW hS hl
    unfold wbX6_readNumber_4 at h
    refine lv_iload_n hx hb dX6_readNumber_4 rfl (lv_at hl 2 rfl) ?_
    refine lv_iconst (v := 4) hx hb dX6_readNumber_5 (by decide) ?_
    refine lv_icmp_ge (tgt := 50) hx hb dX6_readNumber_6 (by decide) (fun c1 => ?_) (fun c1 => ?_)
    · have h := h.1 c1
      exact bX6_readNumber_50 C  _ _ _ _ _ _ h hW hS (lv_sub hl [0, 1, 2] rfl)
    · have h := h.2 c1
      refine lv_aload_n hx hb dX6_readNumber_9 rfl (lv_at hl 0 rfl) ?_
      refine tqc_callVi (As := []) (rest := []) (kX6_isDigitNext h) ⟨hx, hb, hml, hown, hts⟩ (cwV 0 hts (tq_goodV tw_649 tw_651 tw_9 tw_119 tw_652) rfl rfl rfl (by decide +kernel) ⟨(Nat.le_of_ble_eq_true rfl), (Nat.le_of_ble_eq_true rfl)⟩) (tq_recvC hK hW (by decide) (tq_mk_3 (by decide)) rfl) hK hG hW hS rfl hl.1 rfl (Nat.le_of_ble_eq_true rfl) dX6_readNumber_10 ⟨(Nat.le_of_ble_eq_true rfl), (Nat.le_of_ble_eq_true rfl)⟩ (fun r3 S2 H locs h hW hS => ?_)
      refine lv_if_eq (tgt := 50) hx hb dX6_readNumber_13 (by decide) (fun c4 => ?_) (fun c4 => ?_)
      · have h := h.1 c4
        exact bX6_readNumber_50 C  _ _ _ _ _ _ h hW hS (lv_sub hl [0, 1, 2] rfl)
      · have h := h.2 c4
        refine lv_bipush (v := 10) hx hb dX6_readNumber_16 (by decide) ?_
        refine lv_iload_n hx hb dX6_readNumber_18 rfl (lv_at hl 1 rfl) ?_
        refine lv_imul hx hb dX6_readNumber_19 ?_
        refine lv_aload_n hx hb dX6_readNumber_20 rfl (lv_at hl 0 rfl) ?_
        refine tqc_get (v := .ref (ad 41 0)) hx hb hw tq_inX6 hown hK hW (by decide) (tq_mk_3 (by decide)) rfl 0 (by decide) (hw _ tw_184) (fun _ h9 => h9) rfl dX6_readNumber_21 ?_
        refine lv_aload_n hx hb dX6_readNumber_24 rfl (lv_at hl 0 rfl) ?_
        refine tqc_get (v := .int (S2 3 0 2)) hx hb hw tq_inX6 hown hK hW (by decide) (tq_mk_3 (by decide)) rfl 2 (by decide) (hw _ tw_187) (fun _ h9 => h9) rfl dX6_readNumber_25 ?_
        obtain ⟨b5, h⟩ := h
        refine tqc_iald (jn := (S2 3 0 2).toNatClampNeg) hx hb hK hW (by decide) (tq_mk_41 (by decide)) b5 rfl dX6_readNumber_28 ?_
        refine lv_iadd hx hb dX6_readNumber_29 ?_
        refine lv_bipush (v := 48) hx hb dX6_readNumber_30 (by decide) ?_
        refine lv_isub hx hb dX6_readNumber_32 ?_
        refine lv_istore_n (lv' := [(1, .int (((10 * x1) + (S2 41 0 ((S2 3 0 2).toNatClampNeg))) - 48)), (0, .ref (ad 3 0)), (2, .int x2)]) hx hb dX6_readNumber_33 rfl hl (by decide) rfl (fun ls hl => ?_)
        refine lv_aload_n hx hb dX6_readNumber_34 rfl (lv_at hl 1 rfl) ?_
        refine lv_dup hx hb dX6_readNumber_35 rfl ?_
        refine tqc_get (v := .int (S2 3 0 2)) hx hb hw tq_inX6 hown hK hW (by decide) (tq_mk_3 (by decide)) rfl 2 (by decide) (hw _ tw_187) (fun _ h9 => h9) rfl dX6_readNumber_36 ?_
        refine lv_iconst (v := 1) hx hb dX6_readNumber_39 (by decide) ?_
        refine lv_iadd hx hb dX6_readNumber_40 ?_
        refine tqc_put hx hb hw tq_inX6 tyX6 tyX6_ok nmX6 hown hK hW hS (by decide) (tq_mk_3 (by decide)) rfl 2 (by decide) (hw _ tw_187) (fun _ h9 => h9) rfl rfl rfl rfl (tq_mk_3 (by decide)) dX6_readNumber_41 (fun H locs hW hS => ?_)
        generalize eS6 : tq_up S2 3 0 2 ((S2 3 0 2) + 1) = S6 at hW
        have h := h S6 eS6.symm
        refine lv_iinc (v := x2 + 1) (lv' := [(2, .int (x2 + 1)), (1, .int (((10 * x1) + (S2 41 0 ((S2 3 0 2).toNatClampNeg))) - 48)), (0, .ref (ad 3 0))]) hx hb dX6_readNumber_44 hl (k := 2) rfl rfl (by decide) rfl (fun ls hl => ?_)
        refine lv_goto (tgt := 4) hx hb dX6_readNumber_47 (by decide) ?_
        exact ih _ _ _ _ _ _ h hW hS (lv_sub hl [2, 1, 0] rfl)
set_option maxHeartbeats 4000000 in
set_option maxRecDepth 100000 in
theorem kX6_readNumber {post : tq_St → Int32 → Prop} {S : tq_St}  (h : wpX6_readNumber N post S ) : tq_sI l yX6_readNumber (tq_ws yX6_readNumber cX6_readNumber 3 (some .int)) 1 20 D cy z H0 ad N M S [.ref (ad 3 0)] post := by
  unfold wpX6_readNumber at h
  refine Met.ofW (cc := cX6_readNumber) (maxL := 3) (ret := (some .int)) (by decide) rfl ?_
  intro p e s m args below meth c s₁ B hml hv
  obtain ⟨rfl, hW, hK, hG⟩ := hv
  have hx := B.exec
  have hb := B.bytes
  have hr := B.returns
  have hts := atoms_spec (ws := (tq_ws yX6_readNumber cX6_readNumber 3 (some .int))) B.pre
  have hw : ∀ w ∈ tq_W, w.before _ s = true := fun w h => hts w (List.mem_cons_of_mem _ h)
  have hown : s.vm.findClass RX6 = some m.cls := findClass_of_methodNamed B.named
  have hlocks := B.notSynchronized
  have C : tq_At p s m meth c [.ref (ad 3 0)].toArray cX6_readNumber 3 ((some .int)) ((tq_ws yX6_readNumber cX6_readNumber 3 (some .int))) RX6 D cy z ad := ⟨hx, hb, hr, hml, hown, hts, hlocks, hK, hG⟩
  have hS : va_S (fun q => z ≤ q) s.heap s.heap [] := va_S.rf
  have hl := lv_entry ([.ref (ad 3 0)]) (n := 3) (Nat.le_of_ble_eq_true rfl)
  rw [lg_entry_eq]
  generalize (lg_sl ([.ref (ad 3 0)]) ++ List.replicate (3 - (lg_sl ([.ref (ad 3 0)])).length) Slot.unset).toArray = ls at hl ⊢
  have hl : lv_has ls 3 [(0, .ref (ad 3 0))] := hl
  have hW : tq_wd D cy z H0 ad N (tq_mix S M) s.heap := hW
  refine lv_iconst (v := 0) hx hb dX6_readNumber_0 (by decide) ?_
  refine lv_istore_n (lv' := [(1, .int 0), (0, .ref (ad 3 0))]) hx hb dX6_readNumber_1 rfl hl (by decide) rfl (fun ls hl => ?_)
  refine lv_iconst (v := 0) hx hb dX6_readNumber_2 (by decide) ?_
  refine lv_istore_n (lv' := [(2, .int 0), (1, .int 0), (0, .ref (ad 3 0))]) hx hb dX6_readNumber_3 rfl hl (by decide) rfl (fun ls hl => ?_)
  obtain ⟨nq, h⟩ := h
  exact bX6_readNumber_4 C  nq _ _ _ _ _ _ h hW hS (lv_sub hl [2, 1, 0] rfl)
-- X6 expect
def wbX6_expect_26 (N : Nat → Nat) (post : tq_St → Prop) (L2 : tq_St → Nat → Int32 → Prop) (S : tq_St) (x1 : Nat) (x2 : Int32) : Prop :=
  L2 S x1 (x2 + 1)
def wbX6_expect_2 (N : Nat → Nat) (post : tq_St → Prop) : Nat → tq_St → Nat → Int32 → Prop
  | 0, _, _, _ => False
  | n + 1, S, x1, x2 =>
    x1 < tq_nS ∧ (((nI (tq_len.getD x1 0)) ≤ x2 → (post S)) ∧ (¬ (nI (tq_len.getD x1 0)) ≤ x2 → (x1 < tq_nS ∧ vp_in x2 (tq_len.getD x1 0) ∧ (wpX6_takes N (fun S9 r10 => (¬ r10 = 0 → (wbX6_expect_26 N post  (wbX6_expect_2 N post n) S9 x1 x2)) ∧ (r10 = 0 → (wpX6_fail N (fun S12 => wbX6_expect_26 N post  (wbX6_expect_2 N post n) S12 x1 x2) S9 ))) S (tq_ch x1 x2)))))
def wpX6_expect (N : Nat → Nat) (post : tq_St → Prop) (S : tq_St) (p0 : Nat) : Prop :=
  ∃ nq, wbX6_expect_2 N post nq S p0 0
set_option maxHeartbeats 4000000 in
set_option maxRecDepth 100000 in
theorem bX6_expect_26 {p : Program} {e : Env} {s : State} {m : MethodId} {args : Array Value} {below : List Frame} {meth : Method} {c : Code} {post : tq_St → Prop} (C : tq_At p s m meth c args cX6_expect 3 (none) ((tq_ws yX6_expect cX6_expect 3 none)) RX6 D cy z ad) {L2 : tq_St → Nat → Int32 → Prop} (hL2 : ∀ (S : tq_St) (x1 : Nat) (x2 : Int32) (H : Heap) (locs : List Loc) (ls : Array Slot), L2 S x1 x2 → tq_wd D cy z H0 ad N (tq_mix S M) H → va_S (fun q => z ≤ q) s.heap H locs → lv_has ls 3 [(0, .ref (ad 3 0)), (1, .ref (ad 61 x1)), (2, .int x2)] → W p l e (tq_rm 4 85) s m args below meth c H locs 0 0 (MQ below (va_Qv (fun u => post u) (fun u => tq_P D cy z H0 ad N u M) (fun q => z ≤ q)) args s 0 0 (fun q => z ≤ q)) (F0 m 2 ls [])) : ∀ (S : tq_St) (x1 : Nat) (x2 : Int32) (H : Heap) (locs : List Loc) (ls : Array Slot), wbX6_expect_26 N post  L2 S x1 x2 → tq_wd D cy z H0 ad N (tq_mix S M) H → va_S (fun q => z ≤ q) s.heap H locs → lv_has ls 3 [(0, .ref (ad 3 0)), (1, .ref (ad 61 x1)), (2, .int x2)] → W p l e (tq_rm 4 85) s m args below meth c H locs 0 0 (MQ below (va_Qv (fun u => post u) (fun u => tq_P D cy z H0 ad N u M) (fun q => z ≤ q)) args s 0 0 (fun q => z ≤ q)) (F0 m 26 ls []) := by
  obtain ⟨hx, hb, hr, hml, hown, hts, hlocks, hK, hG⟩ := id C
  have hw : ∀ w ∈ tq_W, w.before args s = true := fun w h => hts w (List.mem_cons_of_mem _ h)
  intro S x1 x2 H locs ls h hW hS hl
  unfold wbX6_expect_26 at h
  refine lv_iinc (v := x2 + 1) (lv' := [(2, .int (x2 + 1)), (0, .ref (ad 3 0)), (1, .ref (ad 61 x1))]) hx hb dX6_expect_26 hl (k := 2) rfl rfl (by decide) rfl (fun ls hl => ?_)
  refine lv_goto (tgt := 2) hx hb dX6_expect_29 (by decide) ?_
  exact hL2 _ _ _ _ _ _ h hW hS (lv_sub hl [1, 2, 0] rfl)
set_option maxHeartbeats 4000000 in
set_option maxRecDepth 100000 in
theorem bX6_expect_2 {p : Program} {e : Env} {s : State} {m : MethodId} {args : Array Value} {below : List Frame} {meth : Method} {c : Code} {post : tq_St → Prop} (C : tq_At p s m meth c args cX6_expect 3 (none) ((tq_ws yX6_expect cX6_expect 3 none)) RX6 D cy z ad)  : ∀ n : Nat, ∀ (S : tq_St) (x1 : Nat) (x2 : Int32) (H : Heap) (locs : List Loc) (ls : Array Slot), wbX6_expect_2 N post   n S x1 x2 → tq_wd D cy z H0 ad N (tq_mix S M) H → va_S (fun q => z ≤ q) s.heap H locs → lv_has ls 3 [(0, .ref (ad 3 0)), (1, .ref (ad 61 x1)), (2, .int x2)] → W p l e (tq_rm 4 85) s m args below meth c H locs 0 0 (MQ below (va_Qv (fun u => post u) (fun u => tq_P D cy z H0 ad N u M) (fun q => z ≤ q)) args s 0 0 (fun q => z ≤ q)) (F0 m 2 ls []) := by
  obtain ⟨hx, hb, hr, hml, hown, hts, hlocks, hK, hG⟩ := id C
  have hw : ∀ w ∈ tq_W, w.before args s = true := fun w h => hts w (List.mem_cons_of_mem _ h)
  intro n
  induction n with
  | zero =>
    intro S x1 x2 H locs ls h
    exact absurd h (by unfold wbX6_expect_2; exact id)
  | succ n ih =>
    intro S x1 x2 H locs ls h hW hS hl
    unfold wbX6_expect_2 at h
    refine lv_iload_n hx hb dX6_expect_2 rfl (lv_at hl 2 rfl) ?_
    refine lv_aload_n hx hb dX6_expect_3 rfl (lv_at hl 1 rfl) ?_
    obtain ⟨b1, h⟩ := h
    refine tqc_callVi (As := []) (rest := [.int x2]) (tq_mI.toS (kJ0_length_8abf5 (post := fun u r => u = M ∧ r = nI (tq_len.getD x1 0)) ⟨b1, rfl, rfl⟩) (post := fun u r => u = S ∧ r = nI (tq_len.getD x1 0)) ⟨rfl, rfl⟩) ⟨hx, hb, hml, hown, hts⟩ (cwV 0 hts (tq_goodV tw_581 tw_582 tw_583 tw_127 tw_584) rfl rfl rfl (by decide +kernel) ⟨(Nat.le_of_ble_eq_true rfl), (Nat.le_of_ble_eq_true rfl)⟩) (vk_recv hG.1 b1 hS) hK hG hW hS rfl hl.1 rfl (Nat.le_of_ble_eq_true rfl) dX6_expect_4 ⟨(Nat.le_of_ble_eq_true rfl), (Nat.le_of_ble_eq_true rfl)⟩ (fun r3 S2 H locs q9 hW hS => ?_)
    rw [q9.1] at hW
    rw [q9.2]
    refine lv_icmp_ge (tgt := 32) hx hb dX6_expect_7 (by decide) (fun c4 => ?_) (fun c4 => ?_)
    · have h := h.1 c4
      exact W.vret hx hb hr (fun t ht hWm => ⟨⟨S, rfl, h, tq_pe ht hW⟩, hS.F ht⟩) hS.2.2 dX6_expect_32
    · have h := h.2 c4
      refine lv_aload_n hx hb dX6_expect_10 rfl (lv_at hl 0 rfl) ?_
      refine lv_aload_n hx hb dX6_expect_11 rfl (lv_at hl 1 rfl) ?_
      refine lv_iload_n hx hb dX6_expect_12 rfl (lv_at hl 2 rfl) ?_
      obtain ⟨b5, h⟩ := h
      obtain ⟨b8, h⟩ := h
      refine tqc_callVi (As := [.int x2]) (rest := [.ref (ad 3 0)]) (tq_mI.toS (kJ0_charAt_5068e (post := fun u r => u = M ∧ r = tq_ch x1 x2) ⟨b5, b8, rfl, rfl⟩) (post := fun u r => u = S ∧ r = tq_ch x1 x2) ⟨rfl, rfl⟩) ⟨hx, hb, hml, hown, hts⟩ (cwV 1 hts (tq_goodV tw_591 tw_592 tw_593 tw_127 tw_594) rfl rfl rfl (by decide +kernel) ⟨(Nat.le_of_ble_eq_true rfl), (Nat.le_of_ble_eq_true rfl)⟩) (vk_recv hG.1 b5 hS) hK hG hW hS rfl hl.1 rfl (Nat.le_of_ble_eq_true rfl) dX6_expect_13 ⟨(Nat.le_of_ble_eq_true rfl), (Nat.le_of_ble_eq_true rfl)⟩ (fun r7 S6 H locs q9 hW hS => ?_)
      rw [q9.1] at hW
      rw [q9.2]
      refine tqc_callVi (As := [.int (tq_ch x1 x2)]) (rest := []) (kX6_takes h) ⟨hx, hb, hml, hown, hts⟩ (cwV 1 hts (tq_goodV tw_572 tw_574 tw_4 tw_119 tw_575) rfl rfl rfl (by decide +kernel) ⟨(Nat.le_of_ble_eq_true rfl), (Nat.le_of_ble_eq_true rfl)⟩) (tq_recvC hK hW (by decide) (tq_mk_3 (by decide)) rfl) hK hG hW hS rfl hl.1 rfl (Nat.le_of_ble_eq_true rfl) dX6_expect_16 ⟨(Nat.le_of_ble_eq_true rfl), (Nat.le_of_ble_eq_true rfl)⟩ (fun r10 S9 H locs h hW hS => ?_)
      refine lv_if_ne (tgt := 26) hx hb dX6_expect_19 (by decide) (fun c11 => ?_) (fun c11 => ?_)
      · have h := h.1 c11
        exact bX6_expect_26 C (fun M9 a09 a19 H9 q9 ls9 h9 hW9 hS9 hl9 => ih M9 a09 a19 H9 q9 ls9 h9 hW9 hS9 hl9) _ _ _ _ _ _ h hW hS (lv_sub hl [0, 1, 2] rfl)
      · have h := h.2 c11
        refine lv_aload_n hx hb dX6_expect_22 rfl (lv_at hl 0 rfl) ?_
        refine tqc_callVv (As := []) (rest := []) (kX6_fail h) ⟨hx, hb, hml, hown, hts⟩ (cwV 0 hts (tq_goodV tw_629 tw_631 tw_6 tw_119 tw_632) rfl rfl rfl (by decide +kernel) ⟨(Nat.le_of_ble_eq_true rfl), (Nat.le_of_ble_eq_true rfl)⟩) (tq_recvC hK hW (by decide) (tq_mk_3 (by decide)) rfl) hK hG hW hS rfl hl.1 rfl (Nat.le_of_ble_eq_true rfl) dX6_expect_23 ⟨(Nat.le_of_ble_eq_true rfl), (Nat.le_of_ble_eq_true rfl)⟩ (fun S12 H locs h hW hS => ?_)
        exact bX6_expect_26 C (fun M9 a09 a19 H9 q9 ls9 h9 hW9 hS9 hl9 => ih M9 a09 a19 H9 q9 ls9 h9 hW9 hS9 hl9) _ _ _ _ _ _ h hW hS (lv_sub hl [0, 1, 2] rfl)
set_option maxHeartbeats 4000000 in
set_option maxRecDepth 100000 in
theorem kX6_expect {post : tq_St → Prop} {S : tq_St} {p0 : Nat} (h : wpX6_expect N post S p0) : tq_sV l yX6_expect (tq_ws yX6_expect cX6_expect 3 none) 4 85 D cy z H0 ad N M S [.ref (ad 3 0), .ref (ad 61 p0)] post := by
  unfold wpX6_expect at h
  refine Met.ofW (cc := cX6_expect) (maxL := 3) (ret := none) (by decide) rfl ?_
  intro p e s m args below meth c s₁ B hml hv
  obtain ⟨rfl, hW, hK, hG⟩ := hv
  have hx := B.exec
  have hb := B.bytes
  have hr := B.returns
  have hts := atoms_spec (ws := (tq_ws yX6_expect cX6_expect 3 none)) B.pre
  have hw : ∀ w ∈ tq_W, w.before _ s = true := fun w h => hts w (List.mem_cons_of_mem _ h)
  have hown : s.vm.findClass RX6 = some m.cls := findClass_of_methodNamed B.named
  have hlocks := B.notSynchronized
  have C : tq_At p s m meth c [.ref (ad 3 0), .ref (ad 61 p0)].toArray cX6_expect 3 (none) ((tq_ws yX6_expect cX6_expect 3 none)) RX6 D cy z ad := ⟨hx, hb, hr, hml, hown, hts, hlocks, hK, hG⟩
  have hS : va_S (fun q => z ≤ q) s.heap s.heap [] := va_S.rf
  have hl := lv_entry ([.ref (ad 3 0), .ref (ad 61 p0)]) (n := 3) (Nat.le_of_ble_eq_true rfl)
  rw [lg_entry_eq]
  generalize (lg_sl ([.ref (ad 3 0), .ref (ad 61 p0)]) ++ List.replicate (3 - (lg_sl ([.ref (ad 3 0), .ref (ad 61 p0)])).length) Slot.unset).toArray = ls at hl ⊢
  have hl : lv_has ls 3 [(0, .ref (ad 3 0)), (1, .ref (ad 61 p0))] := hl
  have hW : tq_wd D cy z H0 ad N (tq_mix S M) s.heap := hW
  refine lv_iconst (v := 0) hx hb dX6_expect_0 (by decide) ?_
  refine lv_istore_n (lv' := [(2, .int 0), (0, .ref (ad 3 0)), (1, .ref (ad 61 p0))]) hx hb dX6_expect_1 rfl hl (by decide) rfl (fun ls hl => ?_)
  obtain ⟨nq, h⟩ := h
  exact bX6_expect_2 C  nq _ _ _ _ _ _ h hW hS (lv_sub hl [1, 2, 0] rfl)
-- X11 factory
def wbX11_factory_16 (N : Nat → Nat) (post : tq_St → Int32 → Prop)  (S : tq_St) : Prop :=
  post S ((-1))
def wbX11_factory_108 (N : Nat → Nat) (post : tq_St → Int32 → Prop)  (S : tq_St) (x5 : Int32) : Prop :=
  post S x5
def wpX11_factory (N : Nat → Nat) (post : tq_St → Int32 → Prop) (S : tq_St) (p0 : Int32) (p1 : Int32) (p2 : Int32) : Prop :=
  wpX11_isFactory N (fun S1 r2 => (r2 = 0 → (wbX11_factory_16 N post S1 )) ∧ (¬ r2 = 0 → (wpX11_within N (fun S4 r5 => (¬ r5 = 0 → (vp_in p0 5 ∧ ((¬ p1 = 2 → (wpX11_within N (fun S9 r10 => (¬ r10 = 0 → ((¬ p1 = 0 → ((∀ S13, S13 = tq_up S9 2 p0.toNatClampNeg 4 p2 → (wbX11_factory_108 N post S13 (S9 2 p0.toNatClampNeg 4))))) ∧ (p1 = 0 → ((∀ S14, S14 = tq_up S9 2 p0.toNatClampNeg 3 p2 → (wbX11_factory_108 N post S14 (S9 2 p0.toNatClampNeg 3))))))) ∧ (r10 = 0 → (post S9 ((-2))))) S4 p2 20 240)) ∧ (p1 = 2 → (wpX11_within N (fun S15 r16 => (¬ r16 = 0 → ((∀ S18, S18 = tq_up S15 2 p0.toNatClampNeg 5 p2 → (post S18 (S15 2 p0.toNatClampNeg 5))))) ∧ (r16 = 0 → (post S15 ((-2))))) S4 p2 0 50))))) ∧ (r5 = 0 → (wbX11_factory_16 N post S4 ))) S1 p1 0 2))) S p0
set_option maxHeartbeats 4000000 in
set_option maxRecDepth 100000 in
theorem bX11_factory_16 {p : Program} {e : Env} {s : State} {m : MethodId} {args : Array Value} {below : List Frame} {meth : Method} {c : Code} {post : tq_St → Int32 → Prop} (C : tq_At p s m meth c args cX11_factory 6 ((some .int)) ((tq_ws yX11_factory cX11_factory 6 (some .int))) RX11 D cy z ad)  : ∀ (S : tq_St)  (H : Heap) (locs : List Loc) (ls : Array Slot), wbX11_factory_16 N post   S  → tq_wd D cy z H0 ad N (tq_mix S M) H → va_S (fun q => z ≤ q) s.heap H locs → lv_has ls 6 [] → W p l e (tq_rm 1 22) s m args below meth c H locs 0 0 (MQ below (va_Qi (fun r u => post u r) (fun u => tq_P D cy z H0 ad N u M) (fun q => z ≤ q)) args s 0 0 (fun q => z ≤ q)) (F0 m 16 ls []) := by
  obtain ⟨hx, hb, hr, hml, hown, hts, hlocks, hK, hG⟩ := id C
  have hw : ∀ w ∈ tq_W, w.before args s = true := fun w h => hts w (List.mem_cons_of_mem _ h)
  intro S  H locs ls h hW hS hl
  unfold wbX11_factory_16 at h
  refine lv_iconst (v := (-1)) hx hb dX11_factory_16 (by decide) ?_
  exact W.iret (v := (-1)) hx hb hr (fun t ht hWm => ⟨⟨_, S, rfl, h, tq_pe ht hW⟩, hS.F ht⟩) hS.2.2 dX11_factory_17
set_option maxHeartbeats 4000000 in
set_option maxRecDepth 100000 in
theorem bX11_factory_108 {p : Program} {e : Env} {s : State} {m : MethodId} {args : Array Value} {below : List Frame} {meth : Method} {c : Code} {post : tq_St → Int32 → Prop} (C : tq_At p s m meth c args cX11_factory 6 ((some .int)) ((tq_ws yX11_factory cX11_factory 6 (some .int))) RX11 D cy z ad)  : ∀ (S : tq_St) (x5 : Int32) (H : Heap) (locs : List Loc) (ls : Array Slot), wbX11_factory_108 N post   S x5 → tq_wd D cy z H0 ad N (tq_mix S M) H → va_S (fun q => z ≤ q) s.heap H locs → lv_has ls 6 [(5, .int x5)] → W p l e (tq_rm 1 22) s m args below meth c H locs 0 0 (MQ below (va_Qi (fun r u => post u r) (fun u => tq_P D cy z H0 ad N u M) (fun q => z ≤ q)) args s 0 0 (fun q => z ≤ q)) (F0 m 108 ls []) := by
  obtain ⟨hx, hb, hr, hml, hown, hts, hlocks, hK, hG⟩ := id C
  have hw : ∀ w ∈ tq_W, w.before args s = true := fun w h => hts w (List.mem_cons_of_mem _ h)
  intro S x5 H locs ls h hW hS hl
  unfold wbX11_factory_108 at h
  refine lv_iload hx hb dX11_factory_108 (lv_at hl 0 rfl) ?_
  exact W.iret (v := x5) hx hb hr (fun t ht hWm => ⟨⟨_, S, rfl, h, tq_pe ht hW⟩, hS.F ht⟩) hS.2.2 dX11_factory_110
set_option maxHeartbeats 4000000 in
set_option maxRecDepth 100000 in
theorem kX11_factory {post : tq_St → Int32 → Prop} {S : tq_St} {p0 : Int32} {p1 : Int32} {p2 : Int32} (h : wpX11_factory N post S p0 p1 p2) : tq_sI l yX11_factory (tq_ws yX11_factory cX11_factory 6 (some .int)) 1 22 D cy z H0 ad N M S [.ref (ad 1 0), .int p0, .int p1, .int p2] post := by
  unfold wpX11_factory at h
  refine Met.ofW (cc := cX11_factory) (maxL := 6) (ret := (some .int)) (by decide) rfl ?_
  intro p e s m args below meth c s₁ B hml hv
  obtain ⟨rfl, hW, hK, hG⟩ := hv
  have hx := B.exec
  have hb := B.bytes
  have hr := B.returns
  have hts := atoms_spec (ws := (tq_ws yX11_factory cX11_factory 6 (some .int))) B.pre
  have hw : ∀ w ∈ tq_W, w.before _ s = true := fun w h => hts w (List.mem_cons_of_mem _ h)
  have hown : s.vm.findClass RX11 = some m.cls := findClass_of_methodNamed B.named
  have hlocks := B.notSynchronized
  have C : tq_At p s m meth c [.ref (ad 1 0), .int p0, .int p1, .int p2].toArray cX11_factory 6 ((some .int)) ((tq_ws yX11_factory cX11_factory 6 (some .int))) RX11 D cy z ad := ⟨hx, hb, hr, hml, hown, hts, hlocks, hK, hG⟩
  have hS : va_S (fun q => z ≤ q) s.heap s.heap [] := va_S.rf
  have hl := lv_entry ([.ref (ad 1 0), .int p0, .int p1, .int p2]) (n := 6) (Nat.le_of_ble_eq_true rfl)
  rw [lg_entry_eq]
  generalize (lg_sl ([.ref (ad 1 0), .int p0, .int p1, .int p2]) ++ List.replicate (6 - (lg_sl ([.ref (ad 1 0), .int p0, .int p1, .int p2])).length) Slot.unset).toArray = ls at hl ⊢
  have hl : lv_has ls 6 [(0, .ref (ad 1 0)), (1, .int p0), (2, .int p1), (3, .int p2)] := hl
  have hW : tq_wd D cy z H0 ad N (tq_mix S M) s.heap := hW
  refine lv_iload_n hx hb dX11_factory_0 rfl (lv_at hl 1 rfl) ?_
  refine tqc_callSi (As := [.int p0]) (rest := []) (kX11_isFactory h) ⟨hx, hb, hml, hown, hts⟩ (va_cwS 1 hts (tq_goodS tw_402 tw_403 tw_115 tw_404) rfl rfl rfl (by decide +kernel) ⟨(Nat.le_of_ble_eq_true rfl), (Nat.le_of_ble_eq_true rfl)⟩) hK hG hW hS rfl hl.1 rfl (Nat.le_of_ble_eq_true rfl) dX11_factory_1 ⟨(Nat.le_of_ble_eq_true rfl), (Nat.le_of_ble_eq_true rfl)⟩ (fun r2 S1 H locs h hW hS => ?_)
  refine lv_if_eq (tgt := 16) hx hb dX11_factory_4 (by decide) (fun c3 => ?_) (fun c3 => ?_)
  · have h := h.1 c3
    exact bX11_factory_16 C  _  _ _ _ h hW hS (lv_sub hl [] rfl)
  · have h := h.2 c3
    refine lv_iload_n hx hb dX11_factory_7 rfl (lv_at hl 2 rfl) ?_
    refine lv_iconst (v := 0) hx hb dX11_factory_8 (by decide) ?_
    refine lv_iconst (v := 2) hx hb dX11_factory_9 (by decide) ?_
    refine tqc_callSi (As := [.int p1, .int 0, .int 2]) (rest := []) (kX11_within h) ⟨hx, hb, hml, hown, hts⟩ (va_cwS 3 hts (tq_goodS tw_405 tw_406 tw_115 tw_407) rfl rfl rfl (by decide +kernel) ⟨(Nat.le_of_ble_eq_true rfl), (Nat.le_of_ble_eq_true rfl)⟩) hK hG hW hS rfl hl.1 rfl (Nat.le_of_ble_eq_true rfl) dX11_factory_10 ⟨(Nat.le_of_ble_eq_true rfl), (Nat.le_of_ble_eq_true rfl)⟩ (fun r5 S4 H locs h hW hS => ?_)
    refine lv_if_ne (tgt := 18) hx hb dX11_factory_13 (by decide) (fun c6 => ?_) (fun c6 => ?_)
    · have h := h.1 c6
      refine lv_aload_n hx hb dX11_factory_18 rfl (lv_at hl 0 rfl) ?_
      refine tqc_get (v := .ref (ad 12 0)) hx hb hw tq_inX11 hown hK hW (by decide) (tq_mk_1 (by decide)) rfl 1 (by decide) (hw _ tw_338) (fun _ h9 => h9) rfl dX11_factory_19 ?_
      refine lv_iload_n hx hb dX11_factory_22 rfl (lv_at hl 1 rfl) ?_
      obtain ⟨b7, h⟩ := h
      refine tqc_aald (jn := p0.toNatClampNeg) (v := .ref (ad 2 p0.toNatClampNeg)) hx hb hK hW (by decide) (tq_mk_12 (by decide)) 3 rfl rfl b7 rfl rfl dX11_factory_23 ?_
      refine lv_astore (lv' := [(4, .ref (ad 2 p0.toNatClampNeg)), (0, .ref (ad 1 0)), (1, .int p0), (2, .int p1), (3, .int p2)]) hx hb dX11_factory_24 hl (by decide) rfl (fun ls hl => ?_)
      refine lv_iload_n hx hb dX11_factory_26 rfl (lv_at hl 3 rfl) ?_
      refine lv_iconst (v := 2) hx hb dX11_factory_27 (by decide) ?_
      refine lv_icmp_ne (tgt := 60) hx hb dX11_factory_28 (by decide) (fun c8 => ?_) (fun c8 => ?_)
      · have h := h.1 c8
        refine lv_iload_n hx hb dX11_factory_60 rfl (lv_at hl 4 rfl) ?_
        refine lv_bipush (v := 20) hx hb dX11_factory_61 (by decide) ?_
        refine lv_sipush (v := 240) hx hb dX11_factory_63 (by decide) ?_
        refine tqc_callSi (As := [.int p2, .int 20, .int 240]) (rest := []) (kX11_within h) ⟨hx, hb, hml, hown, hts⟩ (va_cwS 3 hts (tq_goodS tw_405 tw_406 tw_115 tw_407) rfl rfl rfl (by decide +kernel) ⟨(Nat.le_of_ble_eq_true rfl), (Nat.le_of_ble_eq_true rfl)⟩) hK hG hW hS rfl hl.1 rfl (Nat.le_of_ble_eq_true rfl) dX11_factory_66 ⟨(Nat.le_of_ble_eq_true rfl), (Nat.le_of_ble_eq_true rfl)⟩ (fun r10 S9 H locs h hW hS => ?_)
        refine lv_if_ne (tgt := 75) hx hb dX11_factory_69 (by decide) (fun c11 => ?_) (fun c11 => ?_)
        · have h := h.1 c11
          refine lv_iload_n hx hb dX11_factory_75 rfl (lv_at hl 3 rfl) ?_
          refine lv_if_ne (tgt := 95) hx hb dX11_factory_76 (by decide) (fun c12 => ?_) (fun c12 => ?_)
          · have h := h.1 c12
            refine lv_aload hx hb dX11_factory_95 (lv_at hl 0 rfl) ?_
            refine tqc_get (v := .int (S9 2 p0.toNatClampNeg 4)) hx hb hw tq_inX5 hown hK hW (by decide) (tq_mk_2 (tq_lt b7)) rfl 4 (by decide) (hw _ tw_262) (fun _ h9 => h9) rfl dX11_factory_97 ?_
            refine lv_istore (lv' := [(5, .int (S9 2 p0.toNatClampNeg 4)), (4, .ref (ad 2 p0.toNatClampNeg)), (0, .ref (ad 1 0)), (1, .int p0), (2, .int p1), (3, .int p2)]) hx hb dX11_factory_100 hl (by decide) rfl (fun ls hl => ?_)
            refine lv_aload hx hb dX11_factory_102 (lv_at hl 1 rfl) ?_
            refine lv_iload_n hx hb dX11_factory_104 rfl (lv_at hl 5 rfl) ?_
            refine tqc_put hx hb hw tq_inX5 tyX5 tyX5_ok nmX5 hown hK hW hS (by decide) (tq_mk_2 (tq_lt b7)) rfl 4 (by decide) (hw _ tw_262) (fun _ h9 => h9) rfl rfl rfl rfl (tq_mk_2 (tq_lt b7)) dX11_factory_105 (fun H locs hW hS => ?_)
            generalize eS13 : tq_up S9 2 p0.toNatClampNeg 4 p2 = S13 at hW
            have h := h S13 eS13.symm
            exact bX11_factory_108 C  _ _ _ _ _ h hW hS (lv_sub hl [0] rfl)
          · have h := h.2 c12
            refine lv_aload hx hb dX11_factory_79 (lv_at hl 0 rfl) ?_
            refine tqc_get (v := .int (S9 2 p0.toNatClampNeg 3)) hx hb hw tq_inX5 hown hK hW (by decide) (tq_mk_2 (tq_lt b7)) rfl 3 (by decide) (hw _ tw_260) (fun _ h9 => h9) rfl dX11_factory_81 ?_
            refine lv_istore (lv' := [(5, .int (S9 2 p0.toNatClampNeg 3)), (4, .ref (ad 2 p0.toNatClampNeg)), (0, .ref (ad 1 0)), (1, .int p0), (2, .int p1), (3, .int p2)]) hx hb dX11_factory_84 hl (by decide) rfl (fun ls hl => ?_)
            refine lv_aload hx hb dX11_factory_86 (lv_at hl 1 rfl) ?_
            refine lv_iload_n hx hb dX11_factory_88 rfl (lv_at hl 5 rfl) ?_
            refine tqc_put hx hb hw tq_inX5 tyX5 tyX5_ok nmX5 hown hK hW hS (by decide) (tq_mk_2 (tq_lt b7)) rfl 3 (by decide) (hw _ tw_260) (fun _ h9 => h9) rfl rfl rfl rfl (tq_mk_2 (tq_lt b7)) dX11_factory_89 (fun H locs hW hS => ?_)
            generalize eS14 : tq_up S9 2 p0.toNatClampNeg 3 p2 = S14 at hW
            have h := h S14 eS14.symm
            refine lv_goto (tgt := 108) hx hb dX11_factory_92 (by decide) ?_
            exact bX11_factory_108 C  _ _ _ _ _ h hW hS (lv_sub hl [0] rfl)
        · have h := h.2 c11
          refine lv_bipush (v := (-2)) hx hb dX11_factory_72 (by decide) ?_
          exact W.iret (v := (-2)) hx hb hr (fun t ht hWm => ⟨⟨_, S9, rfl, h, tq_pe ht hW⟩, hS.F ht⟩) hS.2.2 dX11_factory_74
      · have h := h.2 c8
        refine lv_iload_n hx hb dX11_factory_31 rfl (lv_at hl 4 rfl) ?_
        refine lv_iconst (v := 0) hx hb dX11_factory_32 (by decide) ?_
        refine lv_bipush (v := 50) hx hb dX11_factory_33 (by decide) ?_
        refine tqc_callSi (As := [.int p2, .int 0, .int 50]) (rest := []) (kX11_within h) ⟨hx, hb, hml, hown, hts⟩ (va_cwS 3 hts (tq_goodS tw_405 tw_406 tw_115 tw_407) rfl rfl rfl (by decide +kernel) ⟨(Nat.le_of_ble_eq_true rfl), (Nat.le_of_ble_eq_true rfl)⟩) hK hG hW hS rfl hl.1 rfl (Nat.le_of_ble_eq_true rfl) dX11_factory_35 ⟨(Nat.le_of_ble_eq_true rfl), (Nat.le_of_ble_eq_true rfl)⟩ (fun r16 S15 H locs h hW hS => ?_)
        refine lv_if_ne (tgt := 44) hx hb dX11_factory_38 (by decide) (fun c17 => ?_) (fun c17 => ?_)
        · have h := h.1 c17
          refine lv_aload hx hb dX11_factory_44 (lv_at hl 0 rfl) ?_
          refine tqc_get (v := .int (S15 2 p0.toNatClampNeg 5)) hx hb hw tq_inX5 hown hK hW (by decide) (tq_mk_2 (tq_lt b7)) rfl 5 (by decide) (hw _ tw_263) (fun _ h9 => h9) rfl dX11_factory_46 ?_
          refine lv_istore (lv' := [(5, .int (S15 2 p0.toNatClampNeg 5)), (4, .ref (ad 2 p0.toNatClampNeg)), (0, .ref (ad 1 0)), (1, .int p0), (2, .int p1), (3, .int p2)]) hx hb dX11_factory_49 hl (by decide) rfl (fun ls hl => ?_)
          refine lv_aload hx hb dX11_factory_51 (lv_at hl 1 rfl) ?_
          refine lv_iload_n hx hb dX11_factory_53 rfl (lv_at hl 5 rfl) ?_
          refine tqc_put hx hb hw tq_inX5 tyX5 tyX5_ok nmX5 hown hK hW hS (by decide) (tq_mk_2 (tq_lt b7)) rfl 5 (by decide) (hw _ tw_263) (fun _ h9 => h9) rfl rfl rfl rfl (tq_mk_2 (tq_lt b7)) dX11_factory_54 (fun H locs hW hS => ?_)
          generalize eS18 : tq_up S15 2 p0.toNatClampNeg 5 p2 = S18 at hW
          have h := h S18 eS18.symm
          refine lv_iload hx hb dX11_factory_57 (lv_at hl 0 rfl) ?_
          exact W.iret (v := S15 2 p0.toNatClampNeg 5) hx hb hr (fun t ht hWm => ⟨⟨_, S18, rfl, h, tq_pe ht hW⟩, hS.F ht⟩) hS.2.2 dX11_factory_59
        · have h := h.2 c17
          refine lv_bipush (v := (-2)) hx hb dX11_factory_41 (by decide) ?_
          exact W.iret (v := (-2)) hx hb hr (fun t ht hWm => ⟨⟨_, S15, rfl, h, tq_pe ht hW⟩, hS.F ht⟩) hS.2.2 dX11_factory_43
    · have h := h.2 c6
      exact bX11_factory_16 C  _  _ _ _ h hW hS (lv_sub hl [] rfl)
-- X11 base
def wbX11_base_14 (N : Nat → Nat) (post : tq_St → Int32 → Prop)  (S : tq_St) : Prop :=
  post S ((-1))
def wpX11_base (N : Nat → Nat) (post : tq_St → Int32 → Prop) (S : tq_St) (p0 : Int32) (p1 : Int32) (p2 : Int32) : Prop :=
  wpX11_isFactory N (fun S1 r2 => (r2 = 0 → (wbX11_base_14 N post S1 )) ∧ (¬ r2 = 0 → (wpX11_isSort N (fun S4 r5 => (¬ r5 = 0 → (wpX11_within N (fun S7 r8 => (¬ r8 = 0 → (vp_in p0 5 ∧ (vp_in p1 4 ∧ (∀ S12, S12 = tq_up S7 31 p0.toNatClampNeg p1.toNatClampNeg p2 → (post S12 (S7 31 p0.toNatClampNeg p1.toNatClampNeg)))))) ∧ (r8 = 0 → (post S7 ((-2))))) S4 p2 1 999)) ∧ (r5 = 0 → (wbX11_base_14 N post S4 ))) S1 p1))) S p0
set_option maxHeartbeats 4000000 in
set_option maxRecDepth 100000 in
theorem bX11_base_14 {p : Program} {e : Env} {s : State} {m : MethodId} {args : Array Value} {below : List Frame} {meth : Method} {c : Code} {post : tq_St → Int32 → Prop} (C : tq_At p s m meth c args cX11_base 5 ((some .int)) ((tq_ws yX11_base cX11_base 5 (some .int))) RX11 D cy z ad)  : ∀ (S : tq_St)  (H : Heap) (locs : List Loc) (ls : Array Slot), wbX11_base_14 N post   S  → tq_wd D cy z H0 ad N (tq_mix S M) H → va_S (fun q => z ≤ q) s.heap H locs → lv_has ls 5 [] → W p l e (tq_rm 1 22) s m args below meth c H locs 0 0 (MQ below (va_Qi (fun r u => post u r) (fun u => tq_P D cy z H0 ad N u M) (fun q => z ≤ q)) args s 0 0 (fun q => z ≤ q)) (F0 m 14 ls []) := by
  obtain ⟨hx, hb, hr, hml, hown, hts, hlocks, hK, hG⟩ := id C
  have hw : ∀ w ∈ tq_W, w.before args s = true := fun w h => hts w (List.mem_cons_of_mem _ h)
  intro S  H locs ls h hW hS hl
  unfold wbX11_base_14 at h
  refine lv_iconst (v := (-1)) hx hb dX11_base_14 (by decide) ?_
  exact W.iret (v := (-1)) hx hb hr (fun t ht hWm => ⟨⟨_, S, rfl, h, tq_pe ht hW⟩, hS.F ht⟩) hS.2.2 dX11_base_15
set_option maxHeartbeats 4000000 in
set_option maxRecDepth 100000 in
theorem kX11_base {post : tq_St → Int32 → Prop} {S : tq_St} {p0 : Int32} {p1 : Int32} {p2 : Int32} (h : wpX11_base N post S p0 p1 p2) : tq_sI l yX11_base (tq_ws yX11_base cX11_base 5 (some .int)) 1 22 D cy z H0 ad N M S [.ref (ad 1 0), .int p0, .int p1, .int p2] post := by
  unfold wpX11_base at h
  refine Met.ofW (cc := cX11_base) (maxL := 5) (ret := (some .int)) (by decide) rfl ?_
  intro p e s m args below meth c s₁ B hml hv
  obtain ⟨rfl, hW, hK, hG⟩ := hv
  have hx := B.exec
  have hb := B.bytes
  have hr := B.returns
  have hts := atoms_spec (ws := (tq_ws yX11_base cX11_base 5 (some .int))) B.pre
  have hw : ∀ w ∈ tq_W, w.before _ s = true := fun w h => hts w (List.mem_cons_of_mem _ h)
  have hown : s.vm.findClass RX11 = some m.cls := findClass_of_methodNamed B.named
  have hlocks := B.notSynchronized
  have C : tq_At p s m meth c [.ref (ad 1 0), .int p0, .int p1, .int p2].toArray cX11_base 5 ((some .int)) ((tq_ws yX11_base cX11_base 5 (some .int))) RX11 D cy z ad := ⟨hx, hb, hr, hml, hown, hts, hlocks, hK, hG⟩
  have hS : va_S (fun q => z ≤ q) s.heap s.heap [] := va_S.rf
  have hl := lv_entry ([.ref (ad 1 0), .int p0, .int p1, .int p2]) (n := 5) (Nat.le_of_ble_eq_true rfl)
  rw [lg_entry_eq]
  generalize (lg_sl ([.ref (ad 1 0), .int p0, .int p1, .int p2]) ++ List.replicate (5 - (lg_sl ([.ref (ad 1 0), .int p0, .int p1, .int p2])).length) Slot.unset).toArray = ls at hl ⊢
  have hl : lv_has ls 5 [(0, .ref (ad 1 0)), (1, .int p0), (2, .int p1), (3, .int p2)] := hl
  have hW : tq_wd D cy z H0 ad N (tq_mix S M) s.heap := hW
  refine lv_iload_n hx hb dX11_base_0 rfl (lv_at hl 1 rfl) ?_
  refine tqc_callSi (As := [.int p0]) (rest := []) (kX11_isFactory h) ⟨hx, hb, hml, hown, hts⟩ (va_cwS 1 hts (tq_goodS tw_402 tw_403 tw_115 tw_404) rfl rfl rfl (by decide +kernel) ⟨(Nat.le_of_ble_eq_true rfl), (Nat.le_of_ble_eq_true rfl)⟩) hK hG hW hS rfl hl.1 rfl (Nat.le_of_ble_eq_true rfl) dX11_base_1 ⟨(Nat.le_of_ble_eq_true rfl), (Nat.le_of_ble_eq_true rfl)⟩ (fun r2 S1 H locs h hW hS => ?_)
  refine lv_if_eq (tgt := 14) hx hb dX11_base_4 (by decide) (fun c3 => ?_) (fun c3 => ?_)
  · have h := h.1 c3
    exact bX11_base_14 C  _  _ _ _ h hW hS (lv_sub hl [] rfl)
  · have h := h.2 c3
    refine lv_iload_n hx hb dX11_base_7 rfl (lv_at hl 2 rfl) ?_
    refine tqc_callSi (As := [.int p1]) (rest := []) (kX11_isSort h) ⟨hx, hb, hml, hown, hts⟩ (va_cwS 1 hts (tq_goodS tw_412 tw_413 tw_115 tw_414) rfl rfl rfl (by decide +kernel) ⟨(Nat.le_of_ble_eq_true rfl), (Nat.le_of_ble_eq_true rfl)⟩) hK hG hW hS rfl hl.1 rfl (Nat.le_of_ble_eq_true rfl) dX11_base_8 ⟨(Nat.le_of_ble_eq_true rfl), (Nat.le_of_ble_eq_true rfl)⟩ (fun r5 S4 H locs h hW hS => ?_)
    refine lv_if_ne (tgt := 16) hx hb dX11_base_11 (by decide) (fun c6 => ?_) (fun c6 => ?_)
    · have h := h.1 c6
      refine lv_iload_n hx hb dX11_base_16 rfl (lv_at hl 3 rfl) ?_
      refine lv_iconst (v := 1) hx hb dX11_base_17 (by decide) ?_
      refine lv_sipush (v := 999) hx hb dX11_base_18 (by decide) ?_
      refine tqc_callSi (As := [.int p2, .int 1, .int 999]) (rest := []) (kX11_within h) ⟨hx, hb, hml, hown, hts⟩ (va_cwS 3 hts (tq_goodS tw_405 tw_406 tw_115 tw_407) rfl rfl rfl (by decide +kernel) ⟨(Nat.le_of_ble_eq_true rfl), (Nat.le_of_ble_eq_true rfl)⟩) hK hG hW hS rfl hl.1 rfl (Nat.le_of_ble_eq_true rfl) dX11_base_21 ⟨(Nat.le_of_ble_eq_true rfl), (Nat.le_of_ble_eq_true rfl)⟩ (fun r8 S7 H locs h hW hS => ?_)
      refine lv_if_ne (tgt := 30) hx hb dX11_base_24 (by decide) (fun c9 => ?_) (fun c9 => ?_)
      · have h := h.1 c9
        refine lv_aload_n hx hb dX11_base_30 rfl (lv_at hl 0 rfl) ?_
        refine tqc_get (v := .ref (ad 12 0)) hx hb hw tq_inX11 hown hK hW (by decide) (tq_mk_1 (by decide)) rfl 1 (by decide) (hw _ tw_338) (fun _ h9 => h9) rfl dX11_base_31 ?_
        refine lv_iload_n hx hb dX11_base_34 rfl (lv_at hl 1 rfl) ?_
        obtain ⟨b10, h⟩ := h
        refine tqc_aald (jn := p0.toNatClampNeg) (v := .ref (ad 2 p0.toNatClampNeg)) hx hb hK hW (by decide) (tq_mk_12 (by decide)) 3 rfl rfl b10 rfl rfl dX11_base_35 ?_
        refine tqc_get (v := .ref (ad 31 p0.toNatClampNeg)) hx hb hw tq_inX5 hown hK hW (by decide) (tq_mk_2 (tq_lt b10)) rfl 6 (by decide) (hw _ tw_266) (fun _ h9 => h9) rfl dX11_base_36 ?_
        refine lv_iload_n hx hb dX11_base_39 rfl (lv_at hl 2 rfl) ?_
        obtain ⟨b11, h⟩ := h
        refine tqc_iald (jn := p1.toNatClampNeg) hx hb hK hW (by decide) (tq_mk_31 (tq_lt b10)) b11 rfl dX11_base_40 ?_
        refine lv_istore (lv' := [(4, .int (S7 31 p0.toNatClampNeg p1.toNatClampNeg)), (0, .ref (ad 1 0)), (1, .int p0), (2, .int p1), (3, .int p2)]) hx hb dX11_base_41 hl (by decide) rfl (fun ls hl => ?_)
        refine lv_aload_n hx hb dX11_base_43 rfl (lv_at hl 1 rfl) ?_
        refine tqc_get (v := .ref (ad 12 0)) hx hb hw tq_inX11 hown hK hW (by decide) (tq_mk_1 (by decide)) rfl 1 (by decide) (hw _ tw_338) (fun _ h9 => h9) rfl dX11_base_44 ?_
        refine lv_iload_n hx hb dX11_base_47 rfl (lv_at hl 2 rfl) ?_
        refine tqc_aald (jn := p0.toNatClampNeg) (v := .ref (ad 2 p0.toNatClampNeg)) hx hb hK hW (by decide) (tq_mk_12 (by decide)) 3 rfl rfl b10 rfl rfl dX11_base_48 ?_
        refine tqc_get (v := .ref (ad 31 p0.toNatClampNeg)) hx hb hw tq_inX5 hown hK hW (by decide) (tq_mk_2 (tq_lt b10)) rfl 6 (by decide) (hw _ tw_266) (fun _ h9 => h9) rfl dX11_base_49 ?_
        refine lv_iload_n hx hb dX11_base_52 rfl (lv_at hl 3 rfl) ?_
        refine lv_iload_n hx hb dX11_base_53 rfl (lv_at hl 4 rfl) ?_
        refine tqc_iast (jn := p1.toNatClampNeg) hx hb hK hW hS (by decide) (tq_mk_31 (tq_lt b10)) b11 rfl (tq_mk_31 (tq_lt b10)) dX11_base_54 (fun H locs hW hS => ?_)
        generalize eS12 : tq_up S7 31 p0.toNatClampNeg p1.toNatClampNeg p2 = S12 at hW
        have h := h S12 eS12.symm
        refine lv_iload hx hb dX11_base_55 (lv_at hl 0 rfl) ?_
        exact W.iret (v := S7 31 p0.toNatClampNeg p1.toNatClampNeg) hx hb hr (fun t ht hWm => ⟨⟨_, S12, rfl, h, tq_pe ht hW⟩, hS.F ht⟩) hS.2.2 dX11_base_57
      · have h := h.2 c9
        refine lv_bipush (v := (-2)) hx hb dX11_base_27 (by decide) ?_
        exact W.iret (v := (-2)) hx hb hr (fun t ht hWm => ⟨⟨_, S7, rfl, h, tq_pe ht hW⟩, hS.F ht⟩) hS.2.2 dX11_base_29
    · have h := h.2 c6
      exact bX11_base_14 C  _  _ _ _ h hW hS (lv_sub hl [] rfl)
