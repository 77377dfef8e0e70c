variable {l : Launch} {D : va_G} {cy : Nat → ClassId} {z : Nat} {H0 : Heap} {ad : Nat → Nat → Nat} {N : tq_Nn} {S : tq_St}
-- anyOpen
def wbX12_anyOpen_42 (post : tq_St → Int32 → Prop) (L2 : tq_St → Int32 → Int32 → Int32 → Prop) (M : tq_St) (x1 : Int32) (x2 : Int32) (x3 : Int32) : Prop :=
  L2 M x1 x2 (x3 + 1)
def wbX12_anyOpen_2 (post : tq_St → Int32 → Prop) : Nat → tq_St → Int32 → Int32 → Int32 → Prop
  | 0, _, _, _, _ => False
  | n + 1, M, x1, x2, x3 =>
    ((M 64 0 45) ≤ x3 → (post M 0)) ∧ (¬ (M 64 0 45) ≤ x3 → (vp_in x3 64 ∧ ((¬ (M 146 0 x3.toNatClampNeg) = x1 → (wbX12_anyOpen_42 post  (wbX12_anyOpen_2 post n) M x1 x2 x3)) ∧ ((M 146 0 x3.toNatClampNeg) = x1 → ((¬ (M 147 0 x3.toNatClampNeg) = x2 → (wbX12_anyOpen_42 post  (wbX12_anyOpen_2 post n) M x1 x2 x3)) ∧ ((M 147 0 x3.toNatClampNeg) = x2 → ((5 ≤ (M 150 0 x3.toNatClampNeg) → (wbX12_anyOpen_42 post  (wbX12_anyOpen_2 post n) M x1 x2 x3)) ∧ (¬ 5 ≤ (M 150 0 x3.toNatClampNeg) → (post M 1)))))))))
def wpX12_anyOpen (post : tq_St → Int32 → Prop) (M : tq_St) (p0 : Int32) (p1 : Int32) : Prop :=
  ∃ nq, wbX12_anyOpen_2 post nq M p0 p1 0
set_option maxHeartbeats 4000000 in
set_option maxRecDepth 100000 in
theorem bX12_anyOpen_42 {p : Program} {e : Env} {s : State} {m : MethodId} {args : Array Value} {below : List Frame} {meth : Method} {c : Code} {post : tq_St → Int32 → Prop} (C : tq_At p s m meth c args cX12_anyOpen 4 ((some .boolean)) ((tq_ws yX12_anyOpen cX12_anyOpen 4 (some .boolean))) RX12 D cy z ad) {L2 : tq_St → Int32 → Int32 → Int32 → Prop} (hL2 : ∀ (M : tq_St) (x1 : Int32) (x2 : Int32) (x3 : Int32) (H : Heap) (locs : List Loc) (ls : Array Slot), L2 M x1 x2 x3 → tq_wd D cy z H0 ad N (tq_mix S M) H → va_S (fun q => z ≤ q) s.heap H locs → lv_has ls 4 [(0, .ref (ad 64 0)), (1, .int x1), (2, .int x2), (3, .int x3)] → W p l e (tq_rm 0 0) s m args below meth c H locs 0 0 (MQ below (va_Qi (fun r u => post u r) (tq_P D cy z H0 ad N S) (fun q => z ≤ q)) args s 0 0 (fun q => z ≤ q)) (F0 m 2 ls [])) : ∀ (M : tq_St) (x1 : Int32) (x2 : Int32) (x3 : Int32) (H : Heap) (locs : List Loc) (ls : Array Slot), wbX12_anyOpen_42 post  L2 M x1 x2 x3 → tq_wd D cy z H0 ad N (tq_mix S M) H → va_S (fun q => z ≤ q) s.heap H locs → lv_has ls 4 [(0, .ref (ad 64 0)), (1, .int x1), (2, .int x2), (3, .int x3)] → W p l e (tq_rm 0 0) s m args below meth c H locs 0 0 (MQ below (va_Qi (fun r u => post u r) (tq_P D cy z H0 ad N S) (fun q => z ≤ q)) args s 0 0 (fun q => z ≤ q)) (F0 m 42 ls []) := by
  obtain ⟨hx, hb, hr, hml, hown, hts, hlocks, hK, hG⟩ := id C
  have hw : ∀ w ∈ tq_W, w.before args s = true := fun w h => hts w (List.mem_cons_of_mem _ h)
  intro M x1 x2 x3 H locs ls h hW hS hl
  unfold wbX12_anyOpen_42 at h
  refine lv_iinc (v := x3 + 1) (lv' := [(3, .int (x3 + 1)), (0, .ref (ad 64 0)), (1, .int x1), (2, .int x2)]) hx hb dX12_anyOpen_42 hl (k := 3) rfl rfl (by decide) rfl (fun ls hl => ?_)
  refine lv_goto (tgt := 2) hx hb dX12_anyOpen_45 (by decide) ?_
  exact hL2 _ _ _ _ _ _ _ h hW hS (lv_sub hl [1, 2, 3, 0] rfl)
set_option maxHeartbeats 4000000 in
set_option maxRecDepth 100000 in
theorem bX12_anyOpen_2 {p : Program} {e : Env} {s : State} {m : MethodId} {args : Array Value} {below : List Frame} {meth : Method} {c : Code} {post : tq_St → Int32 → Prop} (C : tq_At p s m meth c args cX12_anyOpen 4 ((some .boolean)) ((tq_ws yX12_anyOpen cX12_anyOpen 4 (some .boolean))) RX12 D cy z ad)  : ∀ n : Nat, ∀ (M : tq_St) (x1 : Int32) (x2 : Int32) (x3 : Int32) (H : Heap) (locs : List Loc) (ls : Array Slot), wbX12_anyOpen_2 post   n M x1 x2 x3 → tq_wd D cy z H0 ad N (tq_mix S M) H → va_S (fun q => z ≤ q) s.heap H locs → lv_has ls 4 [(0, .ref (ad 64 0)), (1, .int x1), (2, .int x2), (3, .int x3)] → W p l e (tq_rm 0 0) s m args below meth c H locs 0 0 (MQ below (va_Qi (fun r u => post u r) (tq_P D cy z H0 ad N S) (fun q => z ≤ q)) args s 0 0 (fun q => z ≤ q)) (F0 m 2 ls []) := by
  obtain ⟨hx, hb, hr, hml, hown, hts, hlocks, hK, hG⟩ := id C
  have hw : ∀ w ∈ tq_W, w.before args s = true := fun w h => hts w (List.mem_cons_of_mem _ h)
  intro n
  induction n with
  | zero =>
    intro M x1 x2 x3 H locs ls h
    exact absurd h (by unfold wbX12_anyOpen_2; exact id)
  | succ n ih =>
    intro M x1 x2 x3 H locs ls h hW hS hl
    unfold wbX12_anyOpen_2 at h
    refine lv_iload_n hx hb dX12_anyOpen_2 rfl (lv_at hl 3 rfl) ?_
    refine lv_aload_n hx hb dX12_anyOpen_3 rfl (lv_at hl 0 rfl) ?_
    refine tqm_get (v := .int (M 64 0 45)) hx hb hw tq_inX12 hown hK hW (by decide) (tq_mk_64 (by decide)) rfl 45 (by decide) (hw _ tw_1453) (fun _ h9 => h9) rfl dX12_anyOpen_4 ?_
    refine lv_icmp_ge (tgt := 48) hx hb dX12_anyOpen_7 (by decide) (fun c1 => ?_) (fun c1 => ?_)
    · have h := h.1 c1
      refine lv_iconst (v := 0) hx hb dX12_anyOpen_48 (by decide) ?_
      exact W.zret (v := 0) hx hb hr rfl (fun t ht hWm => ⟨⟨_, M, rfl, h, tq_pe ht hW⟩, hS.F ht⟩) hS.2.2 dX12_anyOpen_49
    · have h := h.2 c1
      refine lv_aload_n hx hb dX12_anyOpen_10 rfl (lv_at hl 0 rfl) ?_
      refine tqm_get (v := .ref (ad 146 0)) hx hb hw tq_inX12 hown hK hW (by decide) (tq_mk_64 (by decide)) rfl 46 (by decide) (hw _ tw_1454) (fun _ h9 => h9) rfl dX12_anyOpen_11 ?_
      refine lv_iload_n hx hb dX12_anyOpen_14 rfl (lv_at hl 3 rfl) ?_
      obtain ⟨b2, h⟩ := h
      refine tqm_iald (jn := x3.toNatClampNeg) hx hb hK hW (by decide) (tq_mk_146 (by decide)) b2 rfl dX12_anyOpen_15 ?_
      refine lv_iload_n hx hb dX12_anyOpen_16 rfl (lv_at hl 1 rfl) ?_
      refine lv_icmp_ne (tgt := 42) hx hb dX12_anyOpen_17 (by decide) (fun c3 => ?_) (fun c3 => ?_)
      · have h := h.1 c3
        exact bX12_anyOpen_42 C (fun M9 a09 a19 a29 H9 q9 ls9 h9 hW9 hS9 hl9 => ih M9 a09 a19 a29 H9 q9 ls9 h9 hW9 hS9 hl9) _ _ _ _ _ _ _ h hW hS (lv_sub hl [0, 1, 2, 3] rfl)
      · have h := h.2 c3
        refine lv_aload_n hx hb dX12_anyOpen_20 rfl (lv_at hl 0 rfl) ?_
        refine tqm_get (v := .ref (ad 147 0)) hx hb hw tq_inX12 hown hK hW (by decide) (tq_mk_64 (by decide)) rfl 47 (by decide) (hw _ tw_1455) (fun _ h9 => h9) rfl dX12_anyOpen_21 ?_
        refine lv_iload_n hx hb dX12_anyOpen_24 rfl (lv_at hl 3 rfl) ?_
        refine tqm_iald (jn := x3.toNatClampNeg) hx hb hK hW (by decide) (tq_mk_147 (by decide)) b2 rfl dX12_anyOpen_25 ?_
        refine lv_iload_n hx hb dX12_anyOpen_26 rfl (lv_at hl 2 rfl) ?_
        refine lv_icmp_ne (tgt := 42) hx hb dX12_anyOpen_27 (by decide) (fun c4 => ?_) (fun c4 => ?_)
        · have h := h.1 c4
          exact bX12_anyOpen_42 C (fun M9 a09 a19 a29 H9 q9 ls9 h9 hW9 hS9 hl9 => ih M9 a09 a19 a29 H9 q9 ls9 h9 hW9 hS9 hl9) _ _ _ _ _ _ _ h hW hS (lv_sub hl [0, 1, 2, 3] rfl)
        · have h := h.2 c4
          refine lv_aload_n hx hb dX12_anyOpen_30 rfl (lv_at hl 0 rfl) ?_
          refine tqm_get (v := .ref (ad 150 0)) hx hb hw tq_inX12 hown hK hW (by decide) (tq_mk_64 (by decide)) rfl 50 (by decide) (hw _ tw_1458) (fun _ h9 => h9) rfl dX12_anyOpen_31 ?_
          refine lv_iload_n hx hb dX12_anyOpen_34 rfl (lv_at hl 3 rfl) ?_
          refine tqm_iald (jn := x3.toNatClampNeg) hx hb hK hW (by decide) (tq_mk_150 (by decide)) b2 rfl dX12_anyOpen_35 ?_
          refine lv_iconst (v := 5) hx hb dX12_anyOpen_36 (by decide) ?_
          refine lv_icmp_ge (tgt := 42) hx hb dX12_anyOpen_37 (by decide) (fun c5 => ?_) (fun c5 => ?_)
          · have h := h.1 c5
            exact bX12_anyOpen_42 C (fun M9 a09 a19 a29 H9 q9 ls9 h9 hW9 hS9 hl9 => ih M9 a09 a19 a29 H9 q9 ls9 h9 hW9 hS9 hl9) _ _ _ _ _ _ _ h hW hS (lv_sub hl [0, 1, 2, 3] rfl)
          · have h := h.2 c5
            refine lv_iconst (v := 1) hx hb dX12_anyOpen_40 (by decide) ?_
            exact W.zret (v := 1) hx hb hr rfl (fun t ht hWm => ⟨⟨_, M, rfl, h, tq_pe ht hW⟩, hS.F ht⟩) hS.2.2 dX12_anyOpen_41
set_option maxHeartbeats 4000000 in
set_option maxRecDepth 100000 in
theorem kX12_anyOpen {post : tq_St → Int32 → Prop} {M : tq_St} {p0 : Int32} {p1 : Int32} (h : wpX12_anyOpen post M p0 p1) : tq_mI l yX12_anyOpen (tq_ws yX12_anyOpen cX12_anyOpen 4 (some .boolean)) 0 0 D cy z H0 ad N S M [.ref (ad 64 0), .int p0, .int p1] post := by
  unfold wpX12_anyOpen at h
  refine Met.ofW (cc := cX12_anyOpen) (maxL := 4) (ret := (some .boolean)) (by decide) rfl ?_
  intro p e s m args below meth c s₁ B hml hv
  obtain ⟨rfl, hW, hK, hG⟩ := hv
  have hx := B.exec
  have hb := B.bytes
  have hr := B.returns
  have hts := atoms_spec (ws := (tq_ws yX12_anyOpen cX12_anyOpen 4 (some .boolean))) B.pre
  have hw : ∀ w ∈ tq_W, w.before _ s = true := fun w h => hts w (List.mem_cons_of_mem _ h)
  have hown : s.vm.findClass RX12 = some m.cls := findClass_of_methodNamed B.named
  have hlocks := B.notSynchronized
  have C : tq_At p s m meth c [.ref (ad 64 0), .int p0, .int p1].toArray cX12_anyOpen 4 ((some .boolean)) ((tq_ws yX12_anyOpen cX12_anyOpen 4 (some .boolean))) RX12 D cy z ad := ⟨hx, hb, hr, hml, hown, hts, hlocks, hK, hG⟩
  have hS : va_S (fun q => z ≤ q) s.heap s.heap [] := va_S.rf
  have hl := lv_entry ([.ref (ad 64 0), .int p0, .int p1]) (n := 4) (Nat.le_of_ble_eq_true rfl)
  rw [lg_entry_eq]
  generalize (lg_sl ([.ref (ad 64 0), .int p0, .int p1]) ++ List.replicate (4 - (lg_sl ([.ref (ad 64 0), .int p0, .int p1])).length) Slot.unset).toArray = ls at hl ⊢
  have hl : lv_has ls 4 [(0, .ref (ad 64 0)), (1, .int p0), (2, .int p1)] := hl
  have hW : tq_wd D cy z H0 ad N (tq_mix S M) s.heap := hW
  refine lv_iconst (v := 0) hx hb dX12_anyOpen_0 (by decide) ?_
  refine lv_istore_n (lv' := [(3, .int 0), (0, .ref (ad 64 0)), (1, .int p0), (2, .int p1)]) hx hb dX12_anyOpen_1 rfl hl (by decide) rfl (fun ls hl => ?_)
  obtain ⟨nq, h⟩ := h
  exact bX12_anyOpen_2 C  nq _ _ _ _ _ _ _ h hW hS (lv_sub hl [1, 2, 3, 0] rfl)
-- give
def wbX12_give_99 (post : tq_St → Prop) (L6 : tq_St → Int32 → Int32 → Int32 → Int32 → Int32 → Prop) (M : tq_St) (x1 : Int32) (x2 : Int32) (x3 : Int32) (x4 : Int32) (x5 : Int32) : Prop :=
  L6 M x1 x2 x3 x4 (x5 + 1)
def wbX12_give_6 (post : tq_St → Prop) : Nat → tq_St → Int32 → Int32 → Int32 → Int32 → Int32 → Prop
  | 0, _, _, _, _, _, _ => False
  | n + 1, M, x1, x2, x3, x4, x5 =>
    ((M 64 0 45) ≤ x5 → (vp_in x4 64 ∧ (∀ M3, M3 = tq_up M 146 0 x4.toNatClampNeg x1 → (∀ M4, M4 = tq_up M3 147 0 x4.toNatClampNeg x2 → (∀ M5, M5 = tq_up M4 148 0 x4.toNatClampNeg x3 → (∀ M6, M6 = tq_up M5 149 0 x4.toNatClampNeg (M5 64 0 0) → (∀ M7, M7 = tq_up M6 150 0 x4.toNatClampNeg 0 → (∀ M8, M8 = tq_up M7 64 0 45 (x4 + 1) → (post M8))))))))) ∧ (¬ (M 64 0 45) ≤ x5 → (vp_in x5 64 ∧ ((5 ≤ (M 150 0 x5.toNatClampNeg) → (wbX12_give_99 post  (wbX12_give_6 post n) M x1 x2 x3 x4 x5)) ∧ (¬ 5 ≤ (M 150 0 x5.toNatClampNeg) → (vp_in x4 64 ∧ (∀ M12, M12 = tq_up M 146 0 x4.toNatClampNeg (M 146 0 x5.toNatClampNeg) → (∀ M13, M13 = tq_up M12 147 0 x4.toNatClampNeg (M12 147 0 x5.toNatClampNeg) → (∀ M14, M14 = tq_up M13 148 0 x4.toNatClampNeg (M13 148 0 x5.toNatClampNeg) → (∀ M15, M15 = tq_up M14 149 0 x4.toNatClampNeg (M14 149 0 x5.toNatClampNeg) → (∀ M16, M16 = tq_up M15 150 0 x4.toNatClampNeg (M15 150 0 x5.toNatClampNeg) → (wbX12_give_99 post  (wbX12_give_6 post n) M16 x1 x2 x3 (x4 + 1) x5)))))))))))
def wpX12_give (post : tq_St → Prop) (M : tq_St) (p0 : Int32) (p1 : Int32) (p2 : Int32) : Prop :=
  ∃ nq, wbX12_give_6 post nq M p0 p1 p2 0 0
set_option maxHeartbeats 4000000 in
set_option maxRecDepth 100000 in
theorem bX12_give_99 {p : Program} {e : Env} {s : State} {m : MethodId} {args : Array Value} {below : List Frame} {meth : Method} {c : Code} {post : tq_St → Prop} (C : tq_At p s m meth c args cX12_give 6 (none) ((tq_ws yX12_give cX12_give 6 none)) RX12 D cy z ad) {L6 : tq_St → Int32 → Int32 → Int32 → Int32 → Int32 → Prop} (hL6 : ∀ (M : tq_St) (x1 : Int32) (x2 : Int32) (x3 : Int32) (x4 : Int32) (x5 : Int32) (H : Heap) (locs : List Loc) (ls : Array Slot), L6 M x1 x2 x3 x4 x5 → tq_wd D cy z H0 ad N (tq_mix S M) H → va_S (fun q => z ≤ q) s.heap H locs → lv_has ls 6 [(0, .ref (ad 64 0)), (1, .int x1), (2, .int x2), (3, .int x3), (4, .int x4), (5, .int x5)] → W p l e (tq_rm 0 0) s m args below meth c H locs 0 0 (MQ below (va_Qv (fun u => post u) (tq_P D cy z H0 ad N S) (fun q => z ≤ q)) args s 0 0 (fun q => z ≤ q)) (F0 m 6 ls [])) : ∀ (M : tq_St) (x1 : Int32) (x2 : Int32) (x3 : Int32) (x4 : Int32) (x5 : Int32) (H : Heap) (locs : List Loc) (ls : Array Slot), wbX12_give_99 post  L6 M x1 x2 x3 x4 x5 → tq_wd D cy z H0 ad N (tq_mix S M) H → va_S (fun q => z ≤ q) s.heap H locs → lv_has ls 6 [(0, .ref (ad 64 0)), (1, .int x1), (2, .int x2), (3, .int x3), (4, .int x4), (5, .int x5)] → W p l e (tq_rm 0 0) s m args below meth c H locs 0 0 (MQ below (va_Qv (fun u => post u) (tq_P D cy z H0 ad N S) (fun q => z ≤ q)) args s 0 0 (fun q => z ≤ q)) (F0 m 99 ls []) := by
  obtain ⟨hx, hb, hr, hml, hown, hts, hlocks, hK, hG⟩ := id C
  have hw : ∀ w ∈ tq_W, w.before args s = true := fun w h => hts w (List.mem_cons_of_mem _ h)
  intro M x1 x2 x3 x4 x5 H locs ls h hW hS hl
  unfold wbX12_give_99 at h
  refine lv_iinc (v := x5 + 1) (lv' := [(5, .int (x5 + 1)), (0, .ref (ad 64 0)), (1, .int x1), (2, .int x2), (3, .int x3), (4, .int x4)]) hx hb dX12_give_99 hl (k := 5) rfl rfl (by decide) rfl (fun ls hl => ?_)
  refine lv_goto (tgt := 6) hx hb dX12_give_102 (by decide) ?_
  exact hL6 _ _ _ _ _ _ _ _ _ h hW hS (lv_sub hl [1, 2, 3, 4, 5, 0] rfl)
set_option maxHeartbeats 4000000 in
set_option maxRecDepth 100000 in
theorem bX12_give_6 {p : Program} {e : Env} {s : State} {m : MethodId} {args : Array Value} {below : List Frame} {meth : Method} {c : Code} {post : tq_St → Prop} (C : tq_At p s m meth c args cX12_give 6 (none) ((tq_ws yX12_give cX12_give 6 none)) RX12 D cy z ad)  : ∀ n : Nat, ∀ (M : tq_St) (x1 : Int32) (x2 : Int32) (x3 : Int32) (x4 : Int32) (x5 : Int32) (H : Heap) (locs : List Loc) (ls : Array Slot), wbX12_give_6 post   n M x1 x2 x3 x4 x5 → tq_wd D cy z H0 ad N (tq_mix S M) H → va_S (fun q => z ≤ q) s.heap H locs → lv_has ls 6 [(0, .ref (ad 64 0)), (1, .int x1), (2, .int x2), (3, .int x3), (4, .int x4), (5, .int x5)] → W p l e (tq_rm 0 0) s m args below meth c H locs 0 0 (MQ below (va_Qv (fun u => post u) (tq_P D cy z H0 ad N S) (fun q => z ≤ q)) args s 0 0 (fun q => z ≤ q)) (F0 m 6 ls []) := by
  obtain ⟨hx, hb, hr, hml, hown, hts, hlocks, hK, hG⟩ := id C
  have hw : ∀ w ∈ tq_W, w.before args s = true := fun w h => hts w (List.mem_cons_of_mem _ h)
  intro n
  induction n with
  | zero =>
    intro M x1 x2 x3 x4 x5 H locs ls h
    exact absurd h (by unfold wbX12_give_6; exact id)
  | succ n ih =>
    intro M x1 x2 x3 x4 x5 H locs ls h hW hS hl
    unfold wbX12_give_6 at h
    refine lv_iload hx hb dX12_give_6 (lv_at hl 5 rfl) ?_
    refine lv_aload_n hx hb dX12_give_8 rfl (lv_at hl 0 rfl) ?_
    refine tqm_get (v := .int (M 64 0 45)) hx hb hw tq_inX12 hown hK hW (by decide) (tq_mk_64 (by decide)) rfl 45 (by decide) (hw _ tw_1453) (fun _ h9 => h9) rfl dX12_give_9 ?_
    refine lv_icmp_ge (tgt := 105) hx hb dX12_give_12 (by decide) (fun c1 => ?_) (fun c1 => ?_)
    · have h := h.1 c1
      refine lv_aload_n hx hb dX12_give_105 rfl (lv_at hl 0 rfl) ?_
      refine tqm_get (v := .ref (ad 146 0)) hx hb hw tq_inX12 hown hK hW (by decide) (tq_mk_64 (by decide)) rfl 46 (by decide) (hw _ tw_1454) (fun _ h9 => h9) rfl dX12_give_106 ?_
      refine lv_iload hx hb dX12_give_109 (lv_at hl 4 rfl) ?_
      refine lv_iload_n hx hb dX12_give_111 rfl (lv_at hl 1 rfl) ?_
      obtain ⟨b2, h⟩ := h
      refine tqm_iast (jn := x4.toNatClampNeg) hx hb hK hW hS (by decide) (tq_mk_146 (by decide)) b2 rfl (tq_mk_146 (by decide)) dX12_give_112 (fun H locs hW hS => ?_)
      generalize eM3 : tq_up M 146 0 x4.toNatClampNeg x1 = M3 at hW
      have h := h M3 eM3.symm
      refine lv_aload_n hx hb dX12_give_113 rfl (lv_at hl 0 rfl) ?_
      refine tqm_get (v := .ref (ad 147 0)) hx hb hw tq_inX12 hown hK hW (by decide) (tq_mk_64 (by decide)) rfl 47 (by decide) (hw _ tw_1455) (fun _ h9 => h9) rfl dX12_give_114 ?_
      refine lv_iload hx hb dX12_give_117 (lv_at hl 4 rfl) ?_
      refine lv_iload_n hx hb dX12_give_119 rfl (lv_at hl 2 rfl) ?_
      refine tqm_iast (jn := x4.toNatClampNeg) hx hb hK hW hS (by decide) (tq_mk_147 (by decide)) b2 rfl (tq_mk_147 (by decide)) dX12_give_120 (fun H locs hW hS => ?_)
      generalize eM4 : tq_up M3 147 0 x4.toNatClampNeg x2 = M4 at hW
      have h := h M4 eM4.symm
      refine lv_aload_n hx hb dX12_give_121 rfl (lv_at hl 0 rfl) ?_
      refine tqm_get (v := .ref (ad 148 0)) hx hb hw tq_inX12 hown hK hW (by decide) (tq_mk_64 (by decide)) rfl 48 (by decide) (hw _ tw_1456) (fun _ h9 => h9) rfl dX12_give_122 ?_
      refine lv_iload hx hb dX12_give_125 (lv_at hl 4 rfl) ?_
      refine lv_iload_n hx hb dX12_give_127 rfl (lv_at hl 3 rfl) ?_
      refine tqm_iast (jn := x4.toNatClampNeg) hx hb hK hW hS (by decide) (tq_mk_148 (by decide)) b2 rfl (tq_mk_148 (by decide)) dX12_give_128 (fun H locs hW hS => ?_)
      generalize eM5 : tq_up M4 148 0 x4.toNatClampNeg x3 = M5 at hW
      have h := h M5 eM5.symm
      refine lv_aload_n hx hb dX12_give_129 rfl (lv_at hl 0 rfl) ?_
      refine tqm_get (v := .ref (ad 149 0)) hx hb hw tq_inX12 hown hK hW (by decide) (tq_mk_64 (by decide)) rfl 49 (by decide) (hw _ tw_1457) (fun _ h9 => h9) rfl dX12_give_130 ?_
      refine lv_iload hx hb dX12_give_133 (lv_at hl 4 rfl) ?_
      refine lv_aload_n hx hb dX12_give_135 rfl (lv_at hl 0 rfl) ?_
      refine tqm_get (v := .int (M5 64 0 0)) hx hb hw tq_inX12 hown hK hW (by decide) (tq_mk_64 (by decide)) rfl 0 (by decide) (hw _ tw_1408) (fun _ h9 => h9) rfl dX12_give_136 ?_
      refine tqm_iast (jn := x4.toNatClampNeg) hx hb hK hW hS (by decide) (tq_mk_149 (by decide)) b2 rfl (tq_mk_149 (by decide)) dX12_give_139 (fun H locs hW hS => ?_)
      generalize eM6 : tq_up M5 149 0 x4.toNatClampNeg (M5 64 0 0) = M6 at hW
      have h := h M6 eM6.symm
      refine lv_aload_n hx hb dX12_give_140 rfl (lv_at hl 0 rfl) ?_
      refine tqm_get (v := .ref (ad 150 0)) hx hb hw tq_inX12 hown hK hW (by decide) (tq_mk_64 (by decide)) rfl 50 (by decide) (hw _ tw_1458) (fun _ h9 => h9) rfl dX12_give_141 ?_
      refine lv_iload hx hb dX12_give_144 (lv_at hl 4 rfl) ?_
      refine lv_iconst (v := 0) hx hb dX12_give_146 (by decide) ?_
      refine tqm_iast (jn := x4.toNatClampNeg) hx hb hK hW hS (by decide) (tq_mk_150 (by decide)) b2 rfl (tq_mk_150 (by decide)) dX12_give_147 (fun H locs hW hS => ?_)
      generalize eM7 : tq_up M6 150 0 x4.toNatClampNeg 0 = M7 at hW
      have h := h M7 eM7.symm
      refine lv_aload_n hx hb dX12_give_148 rfl (lv_at hl 0 rfl) ?_
      refine lv_iload hx hb dX12_give_149 (lv_at hl 4 rfl) ?_
      refine lv_iconst (v := 1) hx hb dX12_give_151 (by decide) ?_
      refine lv_iadd hx hb dX12_give_152 ?_
      refine tqm_put hx hb hw tq_inX12 tyX12 tyX12_ok nmX12 hown hK hW hS (by decide) (tq_mk_64 (by decide)) rfl 45 (by decide) (hw _ tw_1453) (fun _ h9 => h9) rfl rfl rfl rfl (tq_mk_64 (by decide)) dX12_give_153 (fun H locs hW hS => ?_)
      generalize eM8 : tq_up M7 64 0 45 (x4 + 1) = M8 at hW
      have h := h M8 eM8.symm
      exact W.vret hx hb hr (fun t ht hWm => ⟨⟨M8, rfl, h, tq_pe ht hW⟩, hS.F ht⟩) hS.2.2 dX12_give_156
    · have h := h.2 c1
      refine lv_aload_n hx hb dX12_give_15 rfl (lv_at hl 0 rfl) ?_
      refine tqm_get (v := .ref (ad 150 0)) hx hb hw tq_inX12 hown hK hW (by decide) (tq_mk_64 (by decide)) rfl 50 (by decide) (hw _ tw_1458) (fun _ h9 => h9) rfl dX12_give_16 ?_
      refine lv_iload hx hb dX12_give_19 (lv_at hl 5 rfl) ?_
      obtain ⟨b9, h⟩ := h
      refine tqm_iald (jn := x5.toNatClampNeg) hx hb hK hW (by decide) (tq_mk_150 (by decide)) b9 rfl dX12_give_21 ?_
      refine lv_iconst (v := 5) hx hb dX12_give_22 (by decide) ?_
      refine lv_icmp_ge (tgt := 99) hx hb dX12_give_23 (by decide) (fun c10 => ?_) (fun c10 => ?_)
      · have h := h.1 c10
        exact bX12_give_99 C (fun M9 a09 a19 a29 a39 a49 H9 q9 ls9 h9 hW9 hS9 hl9 => ih M9 a09 a19 a29 a39 a49 H9 q9 ls9 h9 hW9 hS9 hl9) _ _ _ _ _ _ _ _ _ h hW hS (lv_sub hl [0, 1, 2, 3, 4, 5] rfl)
      · have h := h.2 c10
        refine lv_aload_n hx hb dX12_give_26 rfl (lv_at hl 0 rfl) ?_
        refine tqm_get (v := .ref (ad 146 0)) hx hb hw tq_inX12 hown hK hW (by decide) (tq_mk_64 (by decide)) rfl 46 (by decide) (hw _ tw_1454) (fun _ h9 => h9) rfl dX12_give_27 ?_
        refine lv_iload hx hb dX12_give_30 (lv_at hl 4 rfl) ?_
        refine lv_aload_n hx hb dX12_give_32 rfl (lv_at hl 0 rfl) ?_
        refine tqm_get (v := .ref (ad 146 0)) hx hb hw tq_inX12 hown hK hW (by decide) (tq_mk_64 (by decide)) rfl 46 (by decide) (hw _ tw_1454) (fun _ h9 => h9) rfl dX12_give_33 ?_
        refine lv_iload hx hb dX12_give_36 (lv_at hl 5 rfl) ?_
        refine tqm_iald (jn := x5.toNatClampNeg) hx hb hK hW (by decide) (tq_mk_146 (by decide)) b9 rfl dX12_give_38 ?_
        obtain ⟨b11, h⟩ := h
        refine tqm_iast (jn := x4.toNatClampNeg) hx hb hK hW hS (by decide) (tq_mk_146 (by decide)) b11 rfl (tq_mk_146 (by decide)) dX12_give_39 (fun H locs hW hS => ?_)
        generalize eM12 : tq_up M 146 0 x4.toNatClampNeg (M 146 0 x5.toNatClampNeg) = M12 at hW
        have h := h M12 eM12.symm
        refine lv_aload_n hx hb dX12_give_40 rfl (lv_at hl 0 rfl) ?_
        refine tqm_get (v := .ref (ad 147 0)) hx hb hw tq_inX12 hown hK hW (by decide) (tq_mk_64 (by decide)) rfl 47 (by decide) (hw _ tw_1455) (fun _ h9 => h9) rfl dX12_give_41 ?_
        refine lv_iload hx hb dX12_give_44 (lv_at hl 4 rfl) ?_
        refine lv_aload_n hx hb dX12_give_46 rfl (lv_at hl 0 rfl) ?_
        refine tqm_get (v := .ref (ad 147 0)) hx hb hw tq_inX12 hown hK hW (by decide) (tq_mk_64 (by decide)) rfl 47 (by decide) (hw _ tw_1455) (fun _ h9 => h9) rfl dX12_give_47 ?_
        refine lv_iload hx hb dX12_give_50 (lv_at hl 5 rfl) ?_
        refine tqm_iald (jn := x5.toNatClampNeg) hx hb hK hW (by decide) (tq_mk_147 (by decide)) b9 rfl dX12_give_52 ?_
        refine tqm_iast (jn := x4.toNatClampNeg) hx hb hK hW hS (by decide) (tq_mk_147 (by decide)) b11 rfl (tq_mk_147 (by decide)) dX12_give_53 (fun H locs hW hS => ?_)
        generalize eM13 : tq_up M12 147 0 x4.toNatClampNeg (M12 147 0 x5.toNatClampNeg) = M13 at hW
        have h := h M13 eM13.symm
        refine lv_aload_n hx hb dX12_give_54 rfl (lv_at hl 0 rfl) ?_
        refine tqm_get (v := .ref (ad 148 0)) hx hb hw tq_inX12 hown hK hW (by decide) (tq_mk_64 (by decide)) rfl 48 (by decide) (hw _ tw_1456) (fun _ h9 => h9) rfl dX12_give_55 ?_
        refine lv_iload hx hb dX12_give_58 (lv_at hl 4 rfl) ?_
        refine lv_aload_n hx hb dX12_give_60 rfl (lv_at hl 0 rfl) ?_
        refine tqm_get (v := .ref (ad 148 0)) hx hb hw tq_inX12 hown hK hW (by decide) (tq_mk_64 (by decide)) rfl 48 (by decide) (hw _ tw_1456) (fun _ h9 => h9) rfl dX12_give_61 ?_
        refine lv_iload hx hb dX12_give_64 (lv_at hl 5 rfl) ?_
        refine tqm_iald (jn := x5.toNatClampNeg) hx hb hK hW (by decide) (tq_mk_148 (by decide)) b9 rfl dX12_give_66 ?_
        refine tqm_iast (jn := x4.toNatClampNeg) hx hb hK hW hS (by decide) (tq_mk_148 (by decide)) b11 rfl (tq_mk_148 (by decide)) dX12_give_67 (fun H locs hW hS => ?_)
        generalize eM14 : tq_up M13 148 0 x4.toNatClampNeg (M13 148 0 x5.toNatClampNeg) = M14 at hW
        have h := h M14 eM14.symm
        refine lv_aload_n hx hb dX12_give_68 rfl (lv_at hl 0 rfl) ?_
        refine tqm_get (v := .ref (ad 149 0)) hx hb hw tq_inX12 hown hK hW (by decide) (tq_mk_64 (by decide)) rfl 49 (by decide) (hw _ tw_1457) (fun _ h9 => h9) rfl dX12_give_69 ?_
        refine lv_iload hx hb dX12_give_72 (lv_at hl 4 rfl) ?_
        refine lv_aload_n hx hb dX12_give_74 rfl (lv_at hl 0 rfl) ?_
        refine tqm_get (v := .ref (ad 149 0)) hx hb hw tq_inX12 hown hK hW (by decide) (tq_mk_64 (by decide)) rfl 49 (by decide) (hw _ tw_1457) (fun _ h9 => h9) rfl dX12_give_75 ?_
        refine lv_iload hx hb dX12_give_78 (lv_at hl 5 rfl) ?_
        refine tqm_iald (jn := x5.toNatClampNeg) hx hb hK hW (by decide) (tq_mk_149 (by decide)) b9 rfl dX12_give_80 ?_
        refine tqm_iast (jn := x4.toNatClampNeg) hx hb hK hW hS (by decide) (tq_mk_149 (by decide)) b11 rfl (tq_mk_149 (by decide)) dX12_give_81 (fun H locs hW hS => ?_)
        generalize eM15 : tq_up M14 149 0 x4.toNatClampNeg (M14 149 0 x5.toNatClampNeg) = M15 at hW
        have h := h M15 eM15.symm
        refine lv_aload_n hx hb dX12_give_82 rfl (lv_at hl 0 rfl) ?_
        refine tqm_get (v := .ref (ad 150 0)) hx hb hw tq_inX12 hown hK hW (by decide) (tq_mk_64 (by decide)) rfl 50 (by decide) (hw _ tw_1458) (fun _ h9 => h9) rfl dX12_give_83 ?_
        refine lv_iload hx hb dX12_give_86 (lv_at hl 4 rfl) ?_
        refine lv_aload_n hx hb dX12_give_88 rfl (lv_at hl 0 rfl) ?_
        refine tqm_get (v := .ref (ad 150 0)) hx hb hw tq_inX12 hown hK hW (by decide) (tq_mk_64 (by decide)) rfl 50 (by decide) (hw _ tw_1458) (fun _ h9 => h9) rfl dX12_give_89 ?_
        refine lv_iload hx hb dX12_give_92 (lv_at hl 5 rfl) ?_
        refine tqm_iald (jn := x5.toNatClampNeg) hx hb hK hW (by decide) (tq_mk_150 (by decide)) b9 rfl dX12_give_94 ?_
        refine tqm_iast (jn := x4.toNatClampNeg) hx hb hK hW hS (by decide) (tq_mk_150 (by decide)) b11 rfl (tq_mk_150 (by decide)) dX12_give_95 (fun H locs hW hS => ?_)
        generalize eM16 : tq_up M15 150 0 x4.toNatClampNeg (M15 150 0 x5.toNatClampNeg) = M16 at hW
        have h := h M16 eM16.symm
        refine lv_iinc (v := x4 + 1) (lv' := [(4, .int (x4 + 1)), (0, .ref (ad 64 0)), (1, .int x1), (2, .int x2), (3, .int x3), (5, .int x5)]) hx hb dX12_give_96 hl (k := 4) rfl rfl (by decide) rfl (fun ls hl => ?_)
        exact bX12_give_99 C (fun M9 a09 a19 a29 a39 a49 H9 q9 ls9 h9 hW9 hS9 hl9 => ih M9 a09 a19 a29 a39 a49 H9 q9 ls9 h9 hW9 hS9 hl9) _ _ _ _ _ _ _ _ _ h hW hS (lv_sub hl [1, 2, 3, 4, 0, 5] rfl)
set_option maxHeartbeats 4000000 in
set_option maxRecDepth 100000 in
theorem kX12_give {post : tq_St → Prop} {M : tq_St} {p0 : Int32} {p1 : Int32} {p2 : Int32} (h : wpX12_give post M p0 p1 p2) : tq_mV l yX12_give (tq_ws yX12_give cX12_give 6 none) 0 0 D cy z H0 ad N S M [.ref (ad 64 0), .int p0, .int p1, .int p2] post := by
  unfold wpX12_give at h
  refine Met.ofW (cc := cX12_give) (maxL := 6) (ret := none) (by decide) rfl ?_
  intro p e s m args below meth c s₁ B hml hv
  obtain ⟨rfl, hW, hK, hG⟩ := hv
  have hx := B.exec
  have hb := B.bytes
  have hr := B.returns
  have hts := atoms_spec (ws := (tq_ws yX12_give cX12_give 6 none)) B.pre
  have hw : ∀ w ∈ tq_W, w.before _ s = true := fun w h => hts w (List.mem_cons_of_mem _ h)
  have hown : s.vm.findClass RX12 = some m.cls := findClass_of_methodNamed B.named
  have hlocks := B.notSynchronized
  have C : tq_At p s m meth c [.ref (ad 64 0), .int p0, .int p1, .int p2].toArray cX12_give 6 (none) ((tq_ws yX12_give cX12_give 6 none)) RX12 D cy z ad := ⟨hx, hb, hr, hml, hown, hts, hlocks, hK, hG⟩
  have hS : va_S (fun q => z ≤ q) s.heap s.heap [] := va_S.rf
  have hl := lv_entry ([.ref (ad 64 0), .int p0, .int p1, .int p2]) (n := 6) (Nat.le_of_ble_eq_true rfl)
  rw [lg_entry_eq]
  generalize (lg_sl ([.ref (ad 64 0), .int p0, .int p1, .int p2]) ++ List.replicate (6 - (lg_sl ([.ref (ad 64 0), .int p0, .int p1, .int p2])).length) Slot.unset).toArray = ls at hl ⊢
  have hl : lv_has ls 6 [(0, .ref (ad 64 0)), (1, .int p0), (2, .int p1), (3, .int p2)] := hl
  have hW : tq_wd D cy z H0 ad N (tq_mix S M) s.heap := hW
  refine lv_iconst (v := 0) hx hb dX12_give_0 (by decide) ?_
  refine lv_istore (lv' := [(4, .int 0), (0, .ref (ad 64 0)), (1, .int p0), (2, .int p1), (3, .int p2)]) hx hb dX12_give_1 hl (by decide) rfl (fun ls hl => ?_)
  refine lv_iconst (v := 0) hx hb dX12_give_3 (by decide) ?_
  refine lv_istore (lv' := [(5, .int 0), (4, .int 0), (0, .ref (ad 64 0)), (1, .int p0), (2, .int p1), (3, .int p2)]) hx hb dX12_give_4 hl (by decide) rfl (fun ls hl => ?_)
  obtain ⟨nq, h⟩ := h
  exact bX12_give_6 C  nq _ _ _ _ _ _ _ _ _ h hW hS (lv_sub hl [2, 3, 4, 5, 1, 0] rfl)
-- open
def wbX12_open_24 (post : tq_St → Int32 → Prop)  (M : tq_St) (y0 : Int32) : Prop :=
  post M y0
def wbX12_open_23 (post : tq_St → Int32 → Prop)  (M : tq_St) : Prop :=
  wbX12_open_24 post M ((-1))
def wpX12_open (post : tq_St → Int32 → Prop) (M : tq_St) (p0 : Int32) (p1 : Int32) : Prop :=
  wpX12_isFactory (fun M1 r2 => (r2 = 0 → (wbX12_open_23 post M1 )) ∧ (¬ r2 = 0 → (wpX12_isSort (fun M4 r5 => (r5 = 0 → (wbX12_open_23 post M4 )) ∧ (¬ r5 = 0 → (wpX12_openOf (fun M7 r8 => wbX12_open_24 post M7 r8) M4 p0 p1))) M1 p1))) M p0
set_option maxHeartbeats 4000000 in
set_option maxRecDepth 100000 in
theorem bX12_open_24 {p : Program} {e : Env} {s : State} {m : MethodId} {args : Array Value} {below : List Frame} {meth : Method} {c : Code} {post : tq_St → Int32 → Prop} (C : tq_At p s m meth c args cX12_open 3 ((some .int)) ((tq_ws yX12_open cX12_open 3 (some .int))) RX12 D cy z ad)  : ∀ (M : tq_St) (y0 : Int32) (H : Heap) (locs : List Loc) (ls : Array Slot), wbX12_open_24 post   M y0 → tq_wd D cy z H0 ad N (tq_mix S M) H → va_S (fun q => z ≤ q) s.heap H locs → lv_has ls 3 [] → W p l e (tq_rm 2 45) s m args below meth c H locs 0 0 (MQ below (va_Qi (fun r u => post u r) (tq_P D cy z H0 ad N S) (fun q => z ≤ q)) args s 0 0 (fun q => z ≤ q)) (F0 m 24 ls [.int y0]) := by
  obtain ⟨hx, hb, hr, hml, hown, hts, hlocks, hK, hG⟩ := id C
  have hw : ∀ w ∈ tq_W, w.before args s = true := fun w h => hts w (List.mem_cons_of_mem _ h)
  intro M y0 H locs ls h hW hS hl
  unfold wbX12_open_24 at h
  exact W.iret (v := y0) hx hb hr (fun t ht hWm => ⟨⟨_, M, rfl, h, tq_pe ht hW⟩, hS.F ht⟩) hS.2.2 dX12_open_24
set_option maxHeartbeats 4000000 in
set_option maxRecDepth 100000 in
theorem bX12_open_23 {p : Program} {e : Env} {s : State} {m : MethodId} {args : Array Value} {below : List Frame} {meth : Method} {c : Code} {post : tq_St → Int32 → Prop} (C : tq_At p s m meth c args cX12_open 3 ((some .int)) ((tq_ws yX12_open cX12_open 3 (some .int))) RX12 D cy z ad)  : ∀ (M : tq_St)  (H : Heap) (locs : List Loc) (ls : Array Slot), wbX12_open_23 post   M  → tq_wd D cy z H0 ad N (tq_mix S M) H → va_S (fun q => z ≤ q) s.heap H locs → lv_has ls 3 [] → W p l e (tq_rm 2 45) s m args below meth c H locs 0 0 (MQ below (va_Qi (fun r u => post u r) (tq_P D cy z H0 ad N S) (fun q => z ≤ q)) args s 0 0 (fun q => z ≤ q)) (F0 m 23 ls []) := by
  obtain ⟨hx, hb, hr, hml, hown, hts, hlocks, hK, hG⟩ := id C
  have hw : ∀ w ∈ tq_W, w.before args s = true := fun w h => hts w (List.mem_cons_of_mem _ h)
  intro M  H locs ls h hW hS hl
  unfold wbX12_open_23 at h
  refine lv_iconst (v := (-1)) hx hb dX12_open_23 (by decide) ?_
  exact bX12_open_24 C  _ _ _ _ _ h hW hS (lv_sub hl [] rfl)
set_option maxHeartbeats 4000000 in
set_option maxRecDepth 100000 in
theorem kX12_open {post : tq_St → Int32 → Prop} {M : tq_St} {p0 : Int32} {p1 : Int32} (h : wpX12_open post M p0 p1) : tq_mI l yX12_open (tq_ws yX12_open cX12_open 3 (some .int)) 2 45 D cy z H0 ad N S M [.ref (ad 64 0), .int p0, .int p1] post := by
  unfold wpX12_open at h
  refine Met.ofW (cc := cX12_open) (maxL := 3) (ret := (some .int)) (by decide) rfl ?_
  intro p e s m args below meth c s₁ B hml hv
  obtain ⟨rfl, hW, hK, hG⟩ := hv
  have hx := B.exec
  have hb := B.bytes
  have hr := B.returns
  have hts := atoms_spec (ws := (tq_ws yX12_open cX12_open 3 (some .int))) B.pre
  have hw : ∀ w ∈ tq_W, w.before _ s = true := fun w h => hts w (List.mem_cons_of_mem _ h)
  have hown : s.vm.findClass RX12 = some m.cls := findClass_of_methodNamed B.named
  have hlocks := B.notSynchronized
  have C : tq_At p s m meth c [.ref (ad 64 0), .int p0, .int p1].toArray cX12_open 3 ((some .int)) ((tq_ws yX12_open cX12_open 3 (some .int))) RX12 D cy z ad := ⟨hx, hb, hr, hml, hown, hts, hlocks, hK, hG⟩
  have hS : va_S (fun q => z ≤ q) s.heap s.heap [] := va_S.rf
  have hl := lv_entry ([.ref (ad 64 0), .int p0, .int p1]) (n := 3) (Nat.le_of_ble_eq_true rfl)
  rw [lg_entry_eq]
  generalize (lg_sl ([.ref (ad 64 0), .int p0, .int p1]) ++ List.replicate (3 - (lg_sl ([.ref (ad 64 0), .int p0, .int p1])).length) Slot.unset).toArray = ls at hl ⊢
  have hl : lv_has ls 3 [(0, .ref (ad 64 0)), (1, .int p0), (2, .int p1)] := hl
  have hW : tq_wd D cy z H0 ad N (tq_mix S M) s.heap := hW
  refine lv_iload_n hx hb dX12_open_0 rfl (lv_at hl 1 rfl) ?_
  refine tq_callSi (As := [.int p0]) (rest := []) (kX12_isFactory h) ⟨hx, hb, hml, hown, hts⟩ (va_cwS 1 hts (tq_goodS tw_1645 tw_1646 tw_125 tw_1647) rfl rfl rfl (by decide +kernel) ⟨Nat.le_of_ble_eq_true rfl, Nat.le_of_ble_eq_true rfl⟩) hK hG hW hS rfl hl.1 rfl (Nat.le_of_ble_eq_true rfl) dX12_open_1 ⟨Nat.le_of_ble_eq_true rfl, Nat.le_of_ble_eq_true rfl⟩ (fun r2 M1 H locs h hW hS => ?_)
  refine lv_if_eq (tgt := 23) hx hb dX12_open_4 (by decide) (fun c3 => ?_) (fun c3 => ?_)
  · have h := h.1 c3
    exact bX12_open_23 C  _  _ _ _ h hW hS (lv_sub hl [] rfl)
  · have h := h.2 c3
    refine lv_iload_n hx hb dX12_open_7 rfl (lv_at hl 2 rfl) ?_
    refine tq_callSi (As := [.int p1]) (rest := []) (kX12_isSort h) ⟨hx, hb, hml, hown, hts⟩ (va_cwS 1 hts (tq_goodS tw_1655 tw_1656 tw_125 tw_1657) rfl rfl rfl (by decide +kernel) ⟨Nat.le_of_ble_eq_true rfl, Nat.le_of_ble_eq_true rfl⟩) hK hG hW hS rfl hl.1 rfl (Nat.le_of_ble_eq_true rfl) dX12_open_8 ⟨Nat.le_of_ble_eq_true rfl, Nat.le_of_ble_eq_true rfl⟩ (fun r5 M4 H locs h hW hS => ?_)
    refine lv_if_eq (tgt := 23) hx hb dX12_open_11 (by decide) (fun c6 => ?_) (fun c6 => ?_)
    · have h := h.1 c6
      exact bX12_open_23 C  _  _ _ _ h hW hS (lv_sub hl [] rfl)
    · have h := h.2 c6
      refine lv_aload_n hx hb dX12_open_14 rfl (lv_at hl 0 rfl) ?_
      refine lv_iload_n hx hb dX12_open_15 rfl (lv_at hl 1 rfl) ?_
      refine lv_iload_n hx hb dX12_open_16 rfl (lv_at hl 2 rfl) ?_
      refine tq_callVi (As := [.int p0, .int p1]) (rest := []) (kX12_openOf h) ⟨hx, hb, hml, hown, hts⟩ (cwV 2 hts (tq_goodV tw_1905 tw_1907 tw_86 tw_125 tw_1908) rfl rfl rfl (by decide +kernel) ⟨Nat.le_of_ble_eq_true rfl, Nat.le_of_ble_eq_true rfl⟩) hK hG hW hS rfl hl.1 rfl (Nat.le_of_ble_eq_true rfl) dX12_open_17 ⟨Nat.le_of_ble_eq_true rfl, Nat.le_of_ble_eq_true rfl⟩ (fun r8 M7 H locs h hW hS => ?_)
      refine lv_goto (tgt := 24) hx hb dX12_open_20 (by decide) ?_
      exact bX12_open_24 C  _ _ _ _ _ h hW hS (lv_sub hl [] rfl)
-- enter
def wbX12_enter_70 (post : tq_St → Prop)  (M : tq_St) : Prop :=
  ∀ M11, M11 = tq_up M 64 0 43 ((M 64 0 43) + 1) → (post M11)
def wpX12_enter (post : tq_St → Prop) (M : tq_St) (p0 : Int32) (p1 : Int32) (p2 : Int32) (p3 : Int32) (p4 : Int32) (p5 : Int32) (p6 : Int32) : Prop :=
  (500 ≤ (M 64 0 43) → (wbX12_enter_70 post M )) ∧ (¬ 500 ≤ (M 64 0 43) → (vp_in (M 64 0 43) 500 ∧ (∀ M3, M3 = tq_up M 144 ((M 64 0 43).toNatClampNeg) 0 (M 64 0 0) → (∀ M4, M4 = tq_up M3 144 ((M 64 0 43).toNatClampNeg) 1 p0 → (∀ M5, M5 = tq_up M4 144 ((M 64 0 43).toNatClampNeg) 2 p1 → (∀ M6, M6 = tq_up M5 144 ((M 64 0 43).toNatClampNeg) 3 p2 → (∀ M7, M7 = tq_up M6 144 ((M 64 0 43).toNatClampNeg) 4 p3 → (∀ M8, M8 = tq_up M7 144 ((M 64 0 43).toNatClampNeg) 5 p4 → (∀ M9, M9 = tq_up M8 144 ((M 64 0 43).toNatClampNeg) 6 p5 → (∀ M10, M10 = tq_up M9 144 ((M 64 0 43).toNatClampNeg) 7 p6 → (wbX12_enter_70 post M10 )))))))))))
set_option maxHeartbeats 4000000 in
set_option maxRecDepth 100000 in
theorem bX12_enter_70 {p : Program} {e : Env} {s : State} {m : MethodId} {args : Array Value} {below : List Frame} {meth : Method} {c : Code} {post : tq_St → Prop} (C : tq_At p s m meth c args cX12_enter 9 (none) ((tq_ws yX12_enter cX12_enter 9 none)) RX12 D cy z ad)  : ∀ (M : tq_St)  (H : Heap) (locs : List Loc) (ls : Array Slot), wbX12_enter_70 post   M  → tq_wd D cy z H0 ad N (tq_mix S M) H → va_S (fun q => z ≤ q) s.heap H locs → lv_has ls 9 [(0, .ref (ad 64 0))] → W p l e (tq_rm 0 0) s m args below meth c H locs 0 0 (MQ below (va_Qv (fun u => post u) (tq_P D cy z H0 ad N S) (fun q => z ≤ q)) args s 0 0 (fun q => z ≤ q)) (F0 m 70 ls []) := by
  obtain ⟨hx, hb, hr, hml, hown, hts, hlocks, hK, hG⟩ := id C
  have hw : ∀ w ∈ tq_W, w.before args s = true := fun w h => hts w (List.mem_cons_of_mem _ h)
  intro M  H locs ls h hW hS hl
  unfold wbX12_enter_70 at h
  refine lv_aload_n hx hb dX12_enter_70 rfl (lv_at hl 0 rfl) ?_
  refine lv_dup hx hb dX12_enter_71 rfl ?_
  refine tqm_get (v := .int (M 64 0 43)) hx hb hw tq_inX12 hown hK hW (by decide) (tq_mk_64 (by decide)) rfl 43 (by decide) (hw _ tw_1451) (fun _ h9 => h9) rfl dX12_enter_72 ?_
  refine lv_iconst (v := 1) hx hb dX12_enter_75 (by decide) ?_
  refine lv_iadd hx hb dX12_enter_76 ?_
  refine tqm_put hx hb hw tq_inX12 tyX12 tyX12_ok nmX12 hown hK hW hS (by decide) (tq_mk_64 (by decide)) rfl 43 (by decide) (hw _ tw_1451) (fun _ h9 => h9) rfl rfl rfl rfl (tq_mk_64 (by decide)) dX12_enter_77 (fun H locs hW hS => ?_)
  generalize eM11 : tq_up M 64 0 43 ((M 64 0 43) + 1) = M11 at hW
  have h := h M11 eM11.symm
  exact W.vret hx hb hr (fun t ht hWm => ⟨⟨M11, rfl, h, tq_pe ht hW⟩, hS.F ht⟩) hS.2.2 dX12_enter_80
set_option maxHeartbeats 4000000 in
set_option maxRecDepth 100000 in
theorem kX12_enter {post : tq_St → Prop} {M : tq_St} {p0 : Int32} {p1 : Int32} {p2 : Int32} {p3 : Int32} {p4 : Int32} {p5 : Int32} {p6 : Int32} (h : wpX12_enter post M p0 p1 p2 p3 p4 p5 p6) : tq_mV l yX12_enter (tq_ws yX12_enter cX12_enter 9 none) 0 0 D cy z H0 ad N S M [.ref (ad 64 0), .int p0, .int p1, .int p2, .int p3, .int p4, .int p5, .int p6] post := by
  unfold wpX12_enter at h
  refine Met.ofW (cc := cX12_enter) (maxL := 9) (ret := none) (by decide) rfl ?_
  intro p e s m args below meth c s₁ B hml hv
  obtain ⟨rfl, hW, hK, hG⟩ := hv
  have hx := B.exec
  have hb := B.bytes
  have hr := B.returns
  have hts := atoms_spec (ws := (tq_ws yX12_enter cX12_enter 9 none)) B.pre
  have hw : ∀ w ∈ tq_W, w.before _ s = true := fun w h => hts w (List.mem_cons_of_mem _ h)
  have hown : s.vm.findClass RX12 = some m.cls := findClass_of_methodNamed B.named
  have hlocks := B.notSynchronized
  have C : tq_At p s m meth c [.ref (ad 64 0), .int p0, .int p1, .int p2, .int p3, .int p4, .int p5, .int p6].toArray cX12_enter 9 (none) ((tq_ws yX12_enter cX12_enter 9 none)) RX12 D cy z ad := ⟨hx, hb, hr, hml, hown, hts, hlocks, hK, hG⟩
  have hS : va_S (fun q => z ≤ q) s.heap s.heap [] := va_S.rf
  have hl := lv_entry ([.ref (ad 64 0), .int p0, .int p1, .int p2, .int p3, .int p4, .int p5, .int p6]) (n := 9) (Nat.le_of_ble_eq_true rfl)
  rw [lg_entry_eq]
  generalize (lg_sl ([.ref (ad 64 0), .int p0, .int p1, .int p2, .int p3, .int p4, .int p5, .int p6]) ++ List.replicate (9 - (lg_sl ([.ref (ad 64 0), .int p0, .int p1, .int p2, .int p3, .int p4, .int p5, .int p6])).length) Slot.unset).toArray = ls at hl ⊢
  have hl : lv_has ls 9 [(0, .ref (ad 64 0)), (1, .int p0), (2, .int p1), (3, .int p2), (4, .int p3), (5, .int p4), (6, .int p5), (7, .int p6)] := hl
  have hW : tq_wd D cy z H0 ad N (tq_mix S M) s.heap := hW
  refine lv_aload_n hx hb dX12_enter_0 rfl (lv_at hl 0 rfl) ?_
  refine tqm_get (v := .int (M 64 0 43)) hx hb hw tq_inX12 hown hK hW (by decide) (tq_mk_64 (by decide)) rfl 43 (by decide) (hw _ tw_1451) (fun _ h9 => h9) rfl dX12_enter_1 ?_
  refine lv_sipush (v := 500) hx hb dX12_enter_4 (by decide) ?_
  refine lv_icmp_ge (tgt := 70) hx hb dX12_enter_7 (by decide) (fun c1 => ?_) (fun c1 => ?_)
  · have h := h.1 c1
    exact bX12_enter_70 C  _  _ _ _ h hW hS (lv_sub hl [0] rfl)
  · have h := h.2 c1
    refine lv_aload_n hx hb dX12_enter_10 rfl (lv_at hl 0 rfl) ?_
    refine tqm_get (v := .ref (ad 244 0)) hx hb hw tq_inX12 hown hK hW (by decide) (tq_mk_64 (by decide)) rfl 44 (by decide) (hw _ tw_1452) (fun _ h9 => h9) rfl dX12_enter_11 ?_
    refine lv_aload_n hx hb dX12_enter_14 rfl (lv_at hl 0 rfl) ?_
    refine tqm_get (v := .int (M 64 0 43)) hx hb hw tq_inX12 hown hK hW (by decide) (tq_mk_64 (by decide)) rfl 43 (by decide) (hw _ tw_1451) (fun _ h9 => h9) rfl dX12_enter_15 ?_
    obtain ⟨b2, h⟩ := h
    refine tqm_aald (jn := (M 64 0 43).toNatClampNeg) (v := .ref (ad 144 ((M 64 0 43).toNatClampNeg))) hx hb hK hW (by decide) (tq_mk_244 (by decide)) 2 rfl rfl b2 rfl rfl dX12_enter_18 ?_
    refine lv_astore (lv' := [(8, .ref (ad 144 ((M 64 0 43).toNatClampNeg))), (0, .ref (ad 64 0)), (1, .int p0), (2, .int p1), (3, .int p2), (4, .int p3), (5, .int p4), (6, .int p5), (7, .int p6)]) hx hb dX12_enter_19 hl (by decide) rfl (fun ls hl => ?_)
    refine lv_aload hx hb dX12_enter_21 (lv_at hl 0 rfl) ?_
    refine lv_iconst (v := 0) hx hb dX12_enter_23 (by decide) ?_
    refine lv_aload_n hx hb dX12_enter_24 rfl (lv_at hl 1 rfl) ?_
    refine tqm_get (v := .int (M 64 0 0)) hx hb hw tq_inX12 hown hK hW (by decide) (tq_mk_64 (by decide)) rfl 0 (by decide) (hw _ tw_1408) (fun _ h9 => h9) rfl dX12_enter_25 ?_
    refine tqm_iast (jn := 0) hx hb hK hW hS (by decide) (tq_mk_144 (tq_lt b2)) (by unfold vp_in; decide) (by decide) (tq_mk_144 (tq_lt b2)) dX12_enter_28 (fun H locs hW hS => ?_)
    generalize eM3 : tq_up M 144 ((M 64 0 43).toNatClampNeg) 0 (M 64 0 0) = M3 at hW
    have h := h M3 eM3.symm
    refine lv_aload hx hb dX12_enter_29 (lv_at hl 0 rfl) ?_
    refine lv_iconst (v := 1) hx hb dX12_enter_31 (by decide) ?_
    refine lv_iload_n hx hb dX12_enter_32 rfl (lv_at hl 2 rfl) ?_
    refine tqm_iast (jn := 1) hx hb hK hW hS (by decide) (tq_mk_144 (tq_lt b2)) (by unfold vp_in; decide) (by decide) (tq_mk_144 (tq_lt b2)) dX12_enter_33 (fun H locs hW hS => ?_)
    generalize eM4 : tq_up M3 144 ((M 64 0 43).toNatClampNeg) 1 p0 = M4 at hW
    have h := h M4 eM4.symm
    refine lv_aload hx hb dX12_enter_34 (lv_at hl 0 rfl) ?_
    refine lv_iconst (v := 2) hx hb dX12_enter_36 (by decide) ?_
    refine lv_iload_n hx hb dX12_enter_37 rfl (lv_at hl 3 rfl) ?_
    refine tqm_iast (jn := 2) hx hb hK hW hS (by decide) (tq_mk_144 (tq_lt b2)) (by unfold vp_in; decide) (by decide) (tq_mk_144 (tq_lt b2)) dX12_enter_38 (fun H locs hW hS => ?_)
    generalize eM5 : tq_up M4 144 ((M 64 0 43).toNatClampNeg) 2 p1 = M5 at hW
    have h := h M5 eM5.symm
    refine lv_aload hx hb dX12_enter_39 (lv_at hl 0 rfl) ?_
    refine lv_iconst (v := 3) hx hb dX12_enter_41 (by decide) ?_
    refine lv_iload_n hx hb dX12_enter_42 rfl (lv_at hl 4 rfl) ?_
    refine tqm_iast (jn := 3) hx hb hK hW hS (by decide) (tq_mk_144 (tq_lt b2)) (by unfold vp_in; decide) (by decide) (tq_mk_144 (tq_lt b2)) dX12_enter_43 (fun H locs hW hS => ?_)
    generalize eM6 : tq_up M5 144 ((M 64 0 43).toNatClampNeg) 3 p2 = M6 at hW
    have h := h M6 eM6.symm
    refine lv_aload hx hb dX12_enter_44 (lv_at hl 0 rfl) ?_
    refine lv_iconst (v := 4) hx hb dX12_enter_46 (by decide) ?_
    refine lv_iload hx hb dX12_enter_47 (lv_at hl 5 rfl) ?_
    refine tqm_iast (jn := 4) hx hb hK hW hS (by decide) (tq_mk_144 (tq_lt b2)) (by unfold vp_in; decide) (by decide) (tq_mk_144 (tq_lt b2)) dX12_enter_49 (fun H locs hW hS => ?_)
    generalize eM7 : tq_up M6 144 ((M 64 0 43).toNatClampNeg) 4 p3 = M7 at hW
    have h := h M7 eM7.symm
    refine lv_aload hx hb dX12_enter_50 (lv_at hl 0 rfl) ?_
    refine lv_iconst (v := 5) hx hb dX12_enter_52 (by decide) ?_
    refine lv_iload hx hb dX12_enter_53 (lv_at hl 6 rfl) ?_
    refine tqm_iast (jn := 5) hx hb hK hW hS (by decide) (tq_mk_144 (tq_lt b2)) (by unfold vp_in; decide) (by decide) (tq_mk_144 (tq_lt b2)) dX12_enter_55 (fun H locs hW hS => ?_)
    generalize eM8 : tq_up M7 144 ((M 64 0 43).toNatClampNeg) 5 p4 = M8 at hW
    have h := h M8 eM8.symm
    refine lv_aload hx hb dX12_enter_56 (lv_at hl 0 rfl) ?_
    refine lv_bipush (v := 6) hx hb dX12_enter_58 (by decide) ?_
    refine lv_iload hx hb dX12_enter_60 (lv_at hl 7 rfl) ?_
    refine tqm_iast (jn := 6) hx hb hK hW hS (by decide) (tq_mk_144 (tq_lt b2)) (by unfold vp_in; decide) (by decide) (tq_mk_144 (tq_lt b2)) dX12_enter_62 (fun H locs hW hS => ?_)
    generalize eM9 : tq_up M8 144 ((M 64 0 43).toNatClampNeg) 6 p5 = M9 at hW
    have h := h M9 eM9.symm
    refine lv_aload hx hb dX12_enter_63 (lv_at hl 0 rfl) ?_
    refine lv_bipush (v := 7) hx hb dX12_enter_65 (by decide) ?_
    refine lv_iload hx hb dX12_enter_67 (lv_at hl 8 rfl) ?_
    refine tqm_iast (jn := 7) hx hb hK hW hS (by decide) (tq_mk_144 (tq_lt b2)) (by unfold vp_in; decide) (by decide) (tq_mk_144 (tq_lt b2)) dX12_enter_69 (fun H locs hW hS => ?_)
    generalize eM10 : tq_up M9 144 ((M 64 0 43).toNatClampNeg) 7 p6 = M10 at hW
    have h := h M10 eM10.symm
    exact bX12_enter_70 C  _  _ _ _ h hW hS (lv_sub hl [1] rfl)
-- buy
def wbX12_buy_96 (post : tq_St → Int32 → Prop)  (M : tq_St) (x5 : Int32) : Prop :=
  post M x5
def wbX12_buy_8 (post : tq_St → Int32 → Prop) : Nat → tq_St → Int32 → Int32 → Int32 → Int32 → Int32 → Prop
  | 0, _, _, _, _, _, _ => False
  | n + 1, M, x1, x2, x3, x4, x5 =>
    (x3 ≤ x5 → (wbX12_buy_96 post M x5)) ∧ (¬ x3 ≤ x5 → (wpX12_priceOf (fun M3 r4 => vp_in x1 5 ∧ ((0 < (lg_cmp r4.toInt64 (((M3 101 0 x1.toNatClampNeg).toInt64) - x4.toInt64)) → (wbX12_buy_96 post M3 x5)) ∧ (¬ 0 < (lg_cmp r4.toInt64 (((M3 101 0 x1.toNatClampNeg).toInt64) - x4.toInt64)) → (wpX12_priceOf (fun M7 r8 => ∀ M9, M9 = tq_up M7 101 0 x1.toNatClampNeg ((M7 101 0 x1.toNatClampNeg) - r8) → (∀ M10, M10 = tq_up M9 64 0 73 ((M9 64 0 73) + r8) → (vp_in x2 4 ∧ (∀ M12, M12 = tq_up M10 102 x1.toNatClampNeg x2.toNatClampNeg ((M10 102 x1.toNatClampNeg x2.toNatClampNeg) + 1) → (∀ M13, M13 = tq_up M12 105 x1.toNatClampNeg x2.toNatClampNeg ((M12 105 x1.toNatClampNeg x2.toNatClampNeg) + 1) → ((wbX12_buy_8 post n) M13 x1 x2 x3 x4 (x5 + 1))))))) M3 x1 x2)))) M x1 x2))
def wpX12_buy (post : tq_St → Int32 → Prop) (M : tq_St) (p0 : Int32) (p1 : Int32) (p2 : Int32) (p3 : Int32) : Prop :=
  ∀ M1, M1 = tq_up M 64 0 73 0 → (∃ nq, wbX12_buy_8 post nq M1 p0 p1 p2 p3 0)
set_option maxHeartbeats 4000000 in
set_option maxRecDepth 100000 in
theorem bX12_buy_96 {p : Program} {e : Env} {s : State} {m : MethodId} {args : Array Value} {below : List Frame} {meth : Method} {c : Code} {post : tq_St → Int32 → Prop} (C : tq_At p s m meth c args cX12_buy 7 ((some .int)) ((tq_ws yX12_buy cX12_buy 7 (some .int))) RX12 D cy z ad)  : ∀ (M : tq_St) (x5 : Int32) (H : Heap) (locs : List Loc) (ls : Array Slot), wbX12_buy_96 post   M x5 → tq_wd D cy z H0 ad N (tq_mix S M) H → va_S (fun q => z ≤ q) s.heap H locs → lv_has ls 7 [(5, .int x5)] → W p l e (tq_rm 1 22) s m args below meth c H locs 0 0 (MQ below (va_Qi (fun r u => post u r) (tq_P D cy z H0 ad N S) (fun q => z ≤ q)) args s 0 0 (fun q => z ≤ q)) (F0 m 96 ls []) := by
  obtain ⟨hx, hb, hr, hml, hown, hts, hlocks, hK, hG⟩ := id C
  have hw : ∀ w ∈ tq_W, w.before args s = true := fun w h => hts w (List.mem_cons_of_mem _ h)
  intro M x5 H locs ls h hW hS hl
  unfold wbX12_buy_96 at h
  refine lv_iload hx hb dX12_buy_96 (lv_at hl 0 rfl) ?_
  exact W.iret (v := x5) hx hb hr (fun t ht hWm => ⟨⟨_, M, rfl, h, tq_pe ht hW⟩, hS.F ht⟩) hS.2.2 dX12_buy_98
set_option maxHeartbeats 4000000 in
set_option maxRecDepth 100000 in
theorem bX12_buy_8 {p : Program} {e : Env} {s : State} {m : MethodId} {args : Array Value} {below : List Frame} {meth : Method} {c : Code} {post : tq_St → Int32 → Prop} (C : tq_At p s m meth c args cX12_buy 7 ((some .int)) ((tq_ws yX12_buy cX12_buy 7 (some .int))) RX12 D cy z ad)  : ∀ n : Nat, ∀ (M : tq_St) (x1 : Int32) (x2 : Int32) (x3 : Int32) (x4 : Int32) (x5 : Int32) (H : Heap) (locs : List Loc) (ls : Array Slot), wbX12_buy_8 post   n M x1 x2 x3 x4 x5 → tq_wd D cy z H0 ad N (tq_mix S M) H → va_S (fun q => z ≤ q) s.heap H locs → lv_has ls 7 [(0, .ref (ad 64 0)), (1, .int x1), (2, .int x2), (3, .int x3), (4, .int x4), (5, .int x5)] → W p l e (tq_rm 1 22) s m args below meth c H locs 0 0 (MQ below (va_Qi (fun r u => post u r) (tq_P D cy z H0 ad N S) (fun q => z ≤ q)) args s 0 0 (fun q => z ≤ q)) (F0 m 8 ls []) := by
  obtain ⟨hx, hb, hr, hml, hown, hts, hlocks, hK, hG⟩ := id C
  have hw : ∀ w ∈ tq_W, w.before args s = true := fun w h => hts w (List.mem_cons_of_mem _ h)
  intro n
  induction n with
  | zero =>
    intro M x1 x2 x3 x4 x5 H locs ls h
    exact absurd h (by unfold wbX12_buy_8; exact id)
  | succ n ih =>
    intro M x1 x2 x3 x4 x5 H locs ls h hW hS hl
    unfold wbX12_buy_8 at h
    refine lv_iload hx hb dX12_buy_8 (lv_at hl 5 rfl) ?_
    refine lv_iload_n hx hb dX12_buy_10 rfl (lv_at hl 3 rfl) ?_
    refine lv_icmp_ge (tgt := 96) hx hb dX12_buy_11 (by decide) (fun c2 => ?_) (fun c2 => ?_)
    · have h := h.1 c2
      exact bX12_buy_96 C  _ _ _ _ _ h hW hS (lv_sub hl [5] rfl)
    · have h := h.2 c2
      refine lv_aload_n hx hb dX12_buy_14 rfl (lv_at hl 0 rfl) ?_
      refine lv_iload_n hx hb dX12_buy_15 rfl (lv_at hl 1 rfl) ?_
      refine lv_iload_n hx hb dX12_buy_16 rfl (lv_at hl 2 rfl) ?_
      refine tq_callVi (As := [.int x1, .int x2]) (rest := []) (kX12_priceOf h) ⟨hx, hb, hml, hown, hts⟩ (cwV 2 hts (tq_goodV tw_1662 tw_1664 tw_56 tw_125 tw_1665) rfl rfl rfl (by decide +kernel) ⟨Nat.le_of_ble_eq_true rfl, Nat.le_of_ble_eq_true rfl⟩) hK hG hW hS rfl hl.1 rfl (Nat.le_of_ble_eq_true rfl) dX12_buy_17 ⟨Nat.le_of_ble_eq_true rfl, Nat.le_of_ble_eq_true rfl⟩ (fun r4 M3 H locs h hW hS => ?_)
      refine lv_i2l (v := r4.toInt64) hx hb dX12_buy_20 rfl ?_
      refine lv_aload_n hx hb dX12_buy_21 rfl (lv_at hl 0 rfl) ?_
      refine tqm_get (v := .ref (ad 101 0)) hx hb hw tq_inX12 hown hK hW (by decide) (tq_mk_64 (by decide)) rfl 1 (by decide) (hw _ tw_1409) (fun _ h9 => h9) rfl dX12_buy_22 ?_
      refine lv_iload_n hx hb dX12_buy_25 rfl (lv_at hl 1 rfl) ?_
      obtain ⟨b5, h⟩ := h
      refine tqm_iald (jn := x1.toNatClampNeg) hx hb hK hW (by decide) (tq_mk_101 (by decide)) b5 rfl dX12_buy_26 ?_
      refine lv_i2l (v := (M3 101 0 x1.toNatClampNeg).toInt64) hx hb dX12_buy_27 rfl ?_
      refine lv_iload hx hb dX12_buy_28 (lv_at hl 4 rfl) ?_
      refine lv_i2l (v := x4.toInt64) hx hb dX12_buy_30 rfl ?_
      refine lv_lsub hx hb dX12_buy_31 ?_
      refine W.lcmp hx hb dX12_buy_32 ?_
      refine lv_if_gt (tgt := 96) hx hb dX12_buy_33 (by decide) (fun c6 => ?_) (fun c6 => ?_)
      · have h := h.1 c6
        exact bX12_buy_96 C  _ _ _ _ _ h hW hS (lv_sub hl [5] rfl)
      · have h := h.2 c6
        refine lv_aload_n hx hb dX12_buy_36 rfl (lv_at hl 0 rfl) ?_
        refine lv_iload_n hx hb dX12_buy_37 rfl (lv_at hl 1 rfl) ?_
        refine lv_iload_n hx hb dX12_buy_38 rfl (lv_at hl 2 rfl) ?_
        refine tq_callVi (As := [.int x1, .int x2]) (rest := []) (kX12_priceOf h) ⟨hx, hb, hml, hown, hts⟩ (cwV 2 hts (tq_goodV tw_1662 tw_1664 tw_56 tw_125 tw_1665) rfl rfl rfl (by decide +kernel) ⟨Nat.le_of_ble_eq_true rfl, Nat.le_of_ble_eq_true rfl⟩) hK hG hW hS rfl hl.1 rfl (Nat.le_of_ble_eq_true rfl) dX12_buy_39 ⟨Nat.le_of_ble_eq_true rfl, Nat.le_of_ble_eq_true rfl⟩ (fun r8 M7 H locs h hW hS => ?_)
        refine lv_istore (lv' := [(6, .int r8), (0, .ref (ad 64 0)), (1, .int x1), (2, .int x2), (3, .int x3), (4, .int x4), (5, .int x5)]) hx hb dX12_buy_42 hl (by decide) rfl (fun ls hl => ?_)
        refine lv_aload_n hx hb dX12_buy_44 rfl (lv_at hl 1 rfl) ?_
        refine tqm_get (v := .ref (ad 101 0)) hx hb hw tq_inX12 hown hK hW (by decide) (tq_mk_64 (by decide)) rfl 1 (by decide) (hw _ tw_1409) (fun _ h9 => h9) rfl dX12_buy_45 ?_
        refine lv_iload_n hx hb dX12_buy_48 rfl (lv_at hl 2 rfl) ?_
        refine lv_dup2_11 hx hb dX12_buy_49 rfl rfl ?_
        refine tqm_iald (jn := x1.toNatClampNeg) hx hb hK hW (by decide) (tq_mk_101 (by decide)) b5 rfl dX12_buy_50 ?_
        refine lv_iload hx hb dX12_buy_51 (lv_at hl 0 rfl) ?_
        refine lv_isub hx hb dX12_buy_53 ?_
        refine tqm_iast (jn := x1.toNatClampNeg) hx hb hK hW hS (by decide) (tq_mk_101 (by decide)) b5 rfl (tq_mk_101 (by decide)) dX12_buy_54 (fun H locs hW hS => ?_)
        generalize eM9 : tq_up M7 101 0 x1.toNatClampNeg ((M7 101 0 x1.toNatClampNeg) - r8) = M9 at hW
        have h := h M9 eM9.symm
        refine lv_aload_n hx hb dX12_buy_55 rfl (lv_at hl 1 rfl) ?_
        refine lv_dup hx hb dX12_buy_56 rfl ?_
        refine tqm_get (v := .int (M9 64 0 73)) hx hb hw tq_inX12 hown hK hW (by decide) (tq_mk_64 (by decide)) rfl 73 (by decide) (hw _ tw_1481) (fun _ h9 => h9) rfl dX12_buy_57 ?_
        refine lv_iload hx hb dX12_buy_60 (lv_at hl 0 rfl) ?_
        refine lv_iadd hx hb dX12_buy_62 ?_
        refine tqm_put hx hb hw tq_inX12 tyX12 tyX12_ok nmX12 hown hK hW hS (by decide) (tq_mk_64 (by decide)) rfl 73 (by decide) (hw _ tw_1481) (fun _ h9 => h9) rfl rfl rfl rfl (tq_mk_64 (by decide)) dX12_buy_63 (fun H locs hW hS => ?_)
        generalize eM10 : tq_up M9 64 0 73 ((M9 64 0 73) + r8) = M10 at hW
        have h := h M10 eM10.symm
        refine lv_aload_n hx hb dX12_buy_66 rfl (lv_at hl 1 rfl) ?_
        refine tqm_get (v := .ref (ad 202 0)) hx hb hw tq_inX12 hown hK hW (by decide) (tq_mk_64 (by decide)) rfl 2 (by decide) (hw _ tw_1410) (fun _ h9 => h9) rfl dX12_buy_67 ?_
        refine lv_iload_n hx hb dX12_buy_70 rfl (lv_at hl 2 rfl) ?_
        refine tqm_aald (jn := x1.toNatClampNeg) (v := .ref (ad 102 x1.toNatClampNeg)) hx hb hK hW (by decide) (tq_mk_202 (by decide)) 2 rfl rfl b5 rfl rfl dX12_buy_71 ?_
        refine lv_iload_n hx hb dX12_buy_72 rfl (lv_at hl 3 rfl) ?_
        refine lv_dup2_11 hx hb dX12_buy_73 rfl rfl ?_
        obtain ⟨b11, h⟩ := h
        refine tqm_iald (jn := x2.toNatClampNeg) hx hb hK hW (by decide) (tq_mk_102 (tq_lt b5)) b11 rfl dX12_buy_74 ?_
        refine lv_iconst (v := 1) hx hb dX12_buy_75 (by decide) ?_
        refine lv_iadd hx hb dX12_buy_76 ?_
        refine tqm_iast (jn := x2.toNatClampNeg) hx hb hK hW hS (by decide) (tq_mk_102 (tq_lt b5)) b11 rfl (tq_mk_102 (tq_lt b5)) dX12_buy_77 (fun H locs hW hS => ?_)
        generalize eM12 : tq_up M10 102 x1.toNatClampNeg x2.toNatClampNeg ((M10 102 x1.toNatClampNeg x2.toNatClampNeg) + 1) = M12 at hW
        have h := h M12 eM12.symm
        refine lv_aload_n hx hb dX12_buy_78 rfl (lv_at hl 1 rfl) ?_
        refine tqm_get (v := .ref (ad 205 0)) hx hb hw tq_inX12 hown hK hW (by decide) (tq_mk_64 (by decide)) rfl 5 (by decide) (hw _ tw_1413) (fun _ h9 => h9) rfl dX12_buy_79 ?_
        refine lv_iload_n hx hb dX12_buy_82 rfl (lv_at hl 2 rfl) ?_
        refine tqm_aald (jn := x1.toNatClampNeg) (v := .ref (ad 105 x1.toNatClampNeg)) hx hb hK hW (by decide) (tq_mk_205 (by decide)) 2 rfl rfl b5 rfl rfl dX12_buy_83 ?_
        refine lv_iload_n hx hb dX12_buy_84 rfl (lv_at hl 3 rfl) ?_
        refine lv_dup2_11 hx hb dX12_buy_85 rfl rfl ?_
        refine tqm_iald (jn := x2.toNatClampNeg) hx hb hK hW (by decide) (tq_mk_105 (tq_lt b5)) b11 rfl dX12_buy_86 ?_
        refine lv_iconst (v := 1) hx hb dX12_buy_87 (by decide) ?_
        refine lv_iadd hx hb dX12_buy_88 ?_
        refine tqm_iast (jn := x2.toNatClampNeg) hx hb hK hW hS (by decide) (tq_mk_105 (tq_lt b5)) b11 rfl (tq_mk_105 (tq_lt b5)) dX12_buy_89 (fun H locs hW hS => ?_)
        generalize eM13 : tq_up M12 105 x1.toNatClampNeg x2.toNatClampNeg ((M12 105 x1.toNatClampNeg x2.toNatClampNeg) + 1) = M13 at hW
        have h := h M13 eM13.symm
        refine lv_iinc (v := x5 + 1) (lv' := [(5, .int (x5 + 1)), (6, .int r8), (0, .ref (ad 64 0)), (1, .int x1), (2, .int x2), (3, .int x3), (4, .int x4)]) hx hb dX12_buy_90 hl (k := 6) rfl rfl (by decide) rfl (fun ls hl => ?_)
        refine lv_goto (tgt := 8) hx hb dX12_buy_93 (by decide) ?_
        exact ih _ _ _ _ _ _ _ _ _ h hW hS (lv_sub hl [2, 3, 4, 5, 6, 0] rfl)
set_option maxHeartbeats 4000000 in
set_option maxRecDepth 100000 in
theorem kX12_buy {post : tq_St → Int32 → Prop} {M : tq_St} {p0 : Int32} {p1 : Int32} {p2 : Int32} {p3 : Int32} (h : wpX12_buy post M p0 p1 p2 p3) : tq_mI l yX12_buy (tq_ws yX12_buy cX12_buy 7 (some .int)) 1 22 D cy z H0 ad N S M [.ref (ad 64 0), .int p0, .int p1, .int p2, .int p3] post := by
  unfold wpX12_buy at h
  refine Met.ofW (cc := cX12_buy) (maxL := 7) (ret := (some .int)) (by decide) rfl ?_
  intro p e s m args below meth c s₁ B hml hv
  obtain ⟨rfl, hW, hK, hG⟩ := hv
  have hx := B.exec
  have hb := B.bytes
  have hr := B.returns
  have hts := atoms_spec (ws := (tq_ws yX12_buy cX12_buy 7 (some .int))) B.pre
  have hw : ∀ w ∈ tq_W, w.before _ s = true := fun w h => hts w (List.mem_cons_of_mem _ h)
  have hown : s.vm.findClass RX12 = some m.cls := findClass_of_methodNamed B.named
  have hlocks := B.notSynchronized
  have C : tq_At p s m meth c [.ref (ad 64 0), .int p0, .int p1, .int p2, .int p3].toArray cX12_buy 7 ((some .int)) ((tq_ws yX12_buy cX12_buy 7 (some .int))) RX12 D cy z ad := ⟨hx, hb, hr, hml, hown, hts, hlocks, hK, hG⟩
  have hS : va_S (fun q => z ≤ q) s.heap s.heap [] := va_S.rf
  have hl := lv_entry ([.ref (ad 64 0), .int p0, .int p1, .int p2, .int p3]) (n := 7) (Nat.le_of_ble_eq_true rfl)
  rw [lg_entry_eq]
  generalize (lg_sl ([.ref (ad 64 0), .int p0, .int p1, .int p2, .int p3]) ++ List.replicate (7 - (lg_sl ([.ref (ad 64 0), .int p0, .int p1, .int p2, .int p3])).length) Slot.unset).toArray = ls at hl ⊢
  have hl : lv_has ls 7 [(0, .ref (ad 64 0)), (1, .int p0), (2, .int p1), (3, .int p2), (4, .int p3)] := hl
  have hW : tq_wd D cy z H0 ad N (tq_mix S M) s.heap := hW
  refine lv_iconst (v := 0) hx hb dX12_buy_0 (by decide) ?_
  refine lv_istore (lv' := [(5, .int 0), (0, .ref (ad 64 0)), (1, .int p0), (2, .int p1), (3, .int p2), (4, .int p3)]) hx hb dX12_buy_1 hl (by decide) rfl (fun ls hl => ?_)
  refine lv_aload_n hx hb dX12_buy_3 rfl (lv_at hl 1 rfl) ?_
  refine lv_iconst (v := 0) hx hb dX12_buy_4 (by decide) ?_
  refine tqm_put hx hb hw tq_inX12 tyX12 tyX12_ok nmX12 hown hK hW hS (by decide) (tq_mk_64 (by decide)) rfl 73 (by decide) (hw _ tw_1481) (fun _ h9 => h9) rfl rfl rfl rfl (tq_mk_64 (by decide)) dX12_buy_5 (fun H locs hW hS => ?_)
  generalize eM1 : tq_up M 64 0 73 0 = M1 at hW
  have h := h M1 eM1.symm
  obtain ⟨nq, h⟩ := h
  exact bX12_buy_8 C  nq _ _ _ _ _ _ _ _ _ h hW hS (lv_sub hl [1, 2, 3, 4, 5, 0] rfl)
