variable {l : Launch} {D : va_G} {cy : Nat → ClassId} {z : Nat} {H0 : Heap} {ad : Nat → Nat → Nat} {N : tq_Nn} {S : tq_St}
-- nextOrder
def wbX12_nextOrder_61 (post : tq_St → Int32 → Prop) (L5 : tq_St → Int32 → Int32 → Int32 → Int32 → Prop) (M : tq_St) (x1 : Int32) (x2 : Int32) (x3 : Int32) (x4 : Int32) : Prop :=
  L5 M x1 x2 x3 (x4 + 1)
def wbX12_nextOrder_58 (post : tq_St → Int32 → Prop) (L5 : tq_St → Int32 → Int32 → Int32 → Int32 → Prop) (M : tq_St) (x1 : Int32) (x2 : Int32) (x4 : Int32) : Prop :=
  wbX12_nextOrder_61 post  L5 M x1 x2 x4 x4
def wbX12_nextOrder_43 (post : tq_St → Int32 → Prop) (L5 : tq_St → Int32 → Int32 → Int32 → Int32 → Prop) (M : tq_St) (x1 : Int32) (x2 : Int32) (x3 : Int32) (x4 : Int32) : Prop :=
  (x3 < 0 → (wbX12_nextOrder_58 post  L5 M x1 x2 x4)) ∧ (¬ x3 < 0 → (wpX12_ahead (fun M10 r11 => (r11 = 0 → (wbX12_nextOrder_61 post  L5 M10 x1 x2 x3 x4)) ∧ (¬ r11 = 0 → (wbX12_nextOrder_58 post  L5 M10 x1 x2 x4))) M x4 x3 x2))
def wbX12_nextOrder_5 (post : tq_St → Int32 → Prop) : Nat → tq_St → Int32 → Int32 → Int32 → Int32 → Prop
  | 0, _, _, _, _, _ => False
  | n + 1, M, x1, x2, x3, x4 =>
    ((M 64 0 9) ≤ x4 → (post M x3)) ∧ (¬ (M 64 0 9) ≤ x4 → (wpX12_known_ (fun M2 r3 => (r3 = 0 → (wbX12_nextOrder_61 post  (wbX12_nextOrder_5 post n) M2 x1 x2 x3 x4)) ∧ (¬ r3 = 0 → ((x1 < 0 → (wbX12_nextOrder_43 post  (wbX12_nextOrder_5 post n) M2 x1 x2 x3 x4)) ∧ (¬ x1 < 0 → (wpX12_ahead (fun M6 r7 => (r7 = 0 → (wbX12_nextOrder_61 post  (wbX12_nextOrder_5 post n) M6 x1 x2 x3 x4)) ∧ (¬ r7 = 0 → (wbX12_nextOrder_43 post  (wbX12_nextOrder_5 post n) M6 x1 x2 x3 x4))) M2 x1 x4 x2))))) M x4 x2 (M 64 0 0)))
def wpX12_nextOrder (post : tq_St → Int32 → Prop) (M : tq_St) (p0 : Int32) (p1 : Int32) : Prop :=
  ∃ nq, wbX12_nextOrder_5 post nq M p0 p1 ((-1)) 0
set_option maxHeartbeats 4000000 in
set_option maxRecDepth 100000 in
theorem bX12_nextOrder_61 {p : Program} {e : Env} {s : State} {m : MethodId} {args : Array Value} {below : List Frame} {meth : Method} {c : Code} {post : tq_St → Int32 → Prop} (C : tq_At p s m meth c args cX12_nextOrder 5 ((some .int)) ((tq_ws yX12_nextOrder cX12_nextOrder 5 (some .int))) RX12 D cy z ad) {L5 : tq_St → Int32 → Int32 → Int32 → Int32 → Prop} (hL5 : ∀ (M : tq_St) (x1 : Int32) (x2 : Int32) (x3 : Int32) (x4 : Int32) (H : Heap) (locs : List Loc) (ls : Array Slot), L5 M x1 x2 x3 x4 → tq_wd D cy z H0 ad N (tq_mix S M) H → va_S (fun q => z ≤ q) s.heap H locs → lv_has ls 5 [(0, .ref (ad 64 0)), (1, .int x1), (2, .int x2), (3, .int x3), (4, .int x4)] → W p l e (tq_rm 1 23) s m args below meth c H locs 0 0 (MQ below (va_Qi (fun r u => post u r) (tq_P D cy z H0 ad N S) (fun q => z ≤ q)) args s 0 0 (fun q => z ≤ q)) (F0 m 5 ls [])) : ∀ (M : tq_St) (x1 : Int32) (x2 : Int32) (x3 : Int32) (x4 : Int32) (H : Heap) (locs : List Loc) (ls : Array Slot), wbX12_nextOrder_61 post  L5 M x1 x2 x3 x4 → tq_wd D cy z H0 ad N (tq_mix S M) H → va_S (fun q => z ≤ q) s.heap H locs → lv_has ls 5 [(0, .ref (ad 64 0)), (1, .int x1), (2, .int x2), (3, .int x3), (4, .int x4)] → W p l e (tq_rm 1 23) s m args below meth c H locs 0 0 (MQ below (va_Qi (fun r u => post u r) (tq_P D cy z H0 ad N S) (fun q => z ≤ q)) args s 0 0 (fun q => z ≤ q)) (F0 m 61 ls []) := by
  obtain ⟨hx, hb, hr, hml, hown, hts, hlocks, hK, hG⟩ := id C
  have hw : ∀ w ∈ tq_W, w.before args s = true := fun w h => hts w (List.mem_cons_of_mem _ h)
  intro M x1 x2 x3 x4 H locs ls h hW hS hl
  unfold wbX12_nextOrder_61 at h
  refine lv_iinc (v := x4 + 1) (lv' := [(4, .int (x4 + 1)), (0, .ref (ad 64 0)), (1, .int x1), (2, .int x2), (3, .int x3)]) hx hb dX12_nextOrder_61 hl (k := 4) rfl rfl (by decide) rfl (fun ls hl => ?_)
  refine lv_goto (tgt := 5) hx hb dX12_nextOrder_64 (by decide) ?_
  exact hL5 _ _ _ _ _ _ _ _ h hW hS (lv_sub hl [1, 2, 3, 4, 0] rfl)
set_option maxHeartbeats 4000000 in
set_option maxRecDepth 100000 in
theorem bX12_nextOrder_58 {p : Program} {e : Env} {s : State} {m : MethodId} {args : Array Value} {below : List Frame} {meth : Method} {c : Code} {post : tq_St → Int32 → Prop} (C : tq_At p s m meth c args cX12_nextOrder 5 ((some .int)) ((tq_ws yX12_nextOrder cX12_nextOrder 5 (some .int))) RX12 D cy z ad) {L5 : tq_St → Int32 → Int32 → Int32 → Int32 → Prop} (hL5 : ∀ (M : tq_St) (x1 : Int32) (x2 : Int32) (x3 : Int32) (x4 : Int32) (H : Heap) (locs : List Loc) (ls : Array Slot), L5 M x1 x2 x3 x4 → tq_wd D cy z H0 ad N (tq_mix S M) H → va_S (fun q => z ≤ q) s.heap H locs → lv_has ls 5 [(0, .ref (ad 64 0)), (1, .int x1), (2, .int x2), (3, .int x3), (4, .int x4)] → W p l e (tq_rm 1 23) s m args below meth c H locs 0 0 (MQ below (va_Qi (fun r u => post u r) (tq_P D cy z H0 ad N S) (fun q => z ≤ q)) args s 0 0 (fun q => z ≤ q)) (F0 m 5 ls [])) : ∀ (M : tq_St) (x1 : Int32) (x2 : Int32) (x4 : Int32) (H : Heap) (locs : List Loc) (ls : Array Slot), wbX12_nextOrder_58 post  L5 M x1 x2 x4 → tq_wd D cy z H0 ad N (tq_mix S M) H → va_S (fun q => z ≤ q) s.heap H locs → lv_has ls 5 [(0, .ref (ad 64 0)), (1, .int x1), (2, .int x2), (4, .int x4)] → W p l e (tq_rm 1 23) s m args below meth c H locs 0 0 (MQ below (va_Qi (fun r u => post u r) (tq_P D cy z H0 ad N S) (fun q => z ≤ q)) args s 0 0 (fun q => z ≤ q)) (F0 m 58 ls []) := by
  obtain ⟨hx, hb, hr, hml, hown, hts, hlocks, hK, hG⟩ := id C
  have hw : ∀ w ∈ tq_W, w.before args s = true := fun w h => hts w (List.mem_cons_of_mem _ h)
  intro M x1 x2 x4 H locs ls h hW hS hl
  unfold wbX12_nextOrder_58 at h
  refine lv_iload hx hb dX12_nextOrder_58 (lv_at hl 3 rfl) ?_
  refine lv_istore_n (lv' := [(3, .int x4), (0, .ref (ad 64 0)), (1, .int x1), (2, .int x2), (4, .int x4)]) hx hb dX12_nextOrder_60 rfl hl (by decide) rfl (fun ls hl => ?_)
  exact bX12_nextOrder_61 C (fun M9 a09 a19 a29 a39 H9 q9 ls9 h9 hW9 hS9 hl9 => hL5 M9 a09 a19 a29 a39 H9 q9 ls9 h9 hW9 hS9 hl9) _ _ _ _ _ _ _ _ h hW hS (lv_sub hl [1, 2, 3, 0, 4] rfl)
set_option maxHeartbeats 4000000 in
set_option maxRecDepth 100000 in
theorem bX12_nextOrder_43 {p : Program} {e : Env} {s : State} {m : MethodId} {args : Array Value} {below : List Frame} {meth : Method} {c : Code} {post : tq_St → Int32 → Prop} (C : tq_At p s m meth c args cX12_nextOrder 5 ((some .int)) ((tq_ws yX12_nextOrder cX12_nextOrder 5 (some .int))) RX12 D cy z ad) {L5 : tq_St → Int32 → Int32 → Int32 → Int32 → Prop} (hL5 : ∀ (M : tq_St) (x1 : Int32) (x2 : Int32) (x3 : Int32) (x4 : Int32) (H : Heap) (locs : List Loc) (ls : Array Slot), L5 M x1 x2 x3 x4 → tq_wd D cy z H0 ad N (tq_mix S M) H → va_S (fun q => z ≤ q) s.heap H locs → lv_has ls 5 [(0, .ref (ad 64 0)), (1, .int x1), (2, .int x2), (3, .int x3), (4, .int x4)] → W p l e (tq_rm 1 23) s m args below meth c H locs 0 0 (MQ below (va_Qi (fun r u => post u r) (tq_P D cy z H0 ad N S) (fun q => z ≤ q)) args s 0 0 (fun q => z ≤ q)) (F0 m 5 ls [])) : ∀ (M : tq_St) (x1 : Int32) (x2 : Int32) (x3 : Int32) (x4 : Int32) (H : Heap) (locs : List Loc) (ls : Array Slot), wbX12_nextOrder_43 post  L5 M x1 x2 x3 x4 → tq_wd D cy z H0 ad N (tq_mix S M) H → va_S (fun q => z ≤ q) s.heap H locs → lv_has ls 5 [(0, .ref (ad 64 0)), (1, .int x1), (2, .int x2), (3, .int x3), (4, .int x4)] → W p l e (tq_rm 1 23) s m args below meth c H locs 0 0 (MQ below (va_Qi (fun r u => post u r) (tq_P D cy z H0 ad N S) (fun q => z ≤ q)) args s 0 0 (fun q => z ≤ q)) (F0 m 43 ls []) := by
  obtain ⟨hx, hb, hr, hml, hown, hts, hlocks, hK, hG⟩ := id C
  have hw : ∀ w ∈ tq_W, w.before args s = true := fun w h => hts w (List.mem_cons_of_mem _ h)
  intro M x1 x2 x3 x4 H locs ls h hW hS hl
  unfold wbX12_nextOrder_43 at h
  refine lv_iload_n hx hb dX12_nextOrder_43 rfl (lv_at hl 3 rfl) ?_
  refine lv_if_lt (tgt := 58) hx hb dX12_nextOrder_44 (by decide) (fun c9 => ?_) (fun c9 => ?_)
  · have h := h.1 c9
    exact bX12_nextOrder_58 C (fun M9 a09 a19 a29 a39 H9 q9 ls9 h9 hW9 hS9 hl9 => hL5 M9 a09 a19 a29 a39 H9 q9 ls9 h9 hW9 hS9 hl9) _ _ _ _ _ _ _ h hW hS (lv_sub hl [0, 1, 2, 4] rfl)
  · have h := h.2 c9
    refine lv_aload_n hx hb dX12_nextOrder_47 rfl (lv_at hl 0 rfl) ?_
    refine lv_iload hx hb dX12_nextOrder_48 (lv_at hl 4 rfl) ?_
    refine lv_iload_n hx hb dX12_nextOrder_50 rfl (lv_at hl 3 rfl) ?_
    refine lv_iload_n hx hb dX12_nextOrder_51 rfl (lv_at hl 2 rfl) ?_
    refine tq_callVi (As := [.int x4, .int x3, .int x2]) (rest := []) (kX12_ahead h) ⟨hx, hb, hml, hown, hts⟩ (cwV 3 hts (tq_goodV tw_1803 tw_1805 tw_73 tw_125 tw_1806) rfl rfl rfl (by decide +kernel) ⟨Nat.le_of_ble_eq_true rfl, Nat.le_of_ble_eq_true rfl⟩) hK hG hW hS rfl hl.1 rfl (Nat.le_of_ble_eq_true rfl) dX12_nextOrder_52 ⟨Nat.le_of_ble_eq_true rfl, Nat.le_of_ble_eq_true rfl⟩ (fun r11 M10 H locs h hW hS => ?_)
    refine lv_if_eq (tgt := 61) hx hb dX12_nextOrder_55 (by decide) (fun c12 => ?_) (fun c12 => ?_)
    · have h := h.1 c12
      exact bX12_nextOrder_61 C (fun M9 a09 a19 a29 a39 H9 q9 ls9 h9 hW9 hS9 hl9 => hL5 M9 a09 a19 a29 a39 H9 q9 ls9 h9 hW9 hS9 hl9) _ _ _ _ _ _ _ _ h hW hS (lv_sub hl [0, 1, 2, 3, 4] rfl)
    · have h := h.2 c12
      exact bX12_nextOrder_58 C (fun M9 a09 a19 a29 a39 H9 q9 ls9 h9 hW9 hS9 hl9 => hL5 M9 a09 a19 a29 a39 H9 q9 ls9 h9 hW9 hS9 hl9) _ _ _ _ _ _ _ h hW hS (lv_sub hl [0, 1, 2, 4] rfl)
set_option maxHeartbeats 4000000 in
set_option maxRecDepth 100000 in
theorem bX12_nextOrder_5 {p : Program} {e : Env} {s : State} {m : MethodId} {args : Array Value} {below : List Frame} {meth : Method} {c : Code} {post : tq_St → Int32 → Prop} (C : tq_At p s m meth c args cX12_nextOrder 5 ((some .int)) ((tq_ws yX12_nextOrder cX12_nextOrder 5 (some .int))) RX12 D cy z ad)  : ∀ n : Nat, ∀ (M : tq_St) (x1 : Int32) (x2 : Int32) (x3 : Int32) (x4 : Int32) (H : Heap) (locs : List Loc) (ls : Array Slot), wbX12_nextOrder_5 post   n M x1 x2 x3 x4 → tq_wd D cy z H0 ad N (tq_mix S M) H → va_S (fun q => z ≤ q) s.heap H locs → lv_has ls 5 [(0, .ref (ad 64 0)), (1, .int x1), (2, .int x2), (3, .int x3), (4, .int x4)] → W p l e (tq_rm 1 23) s m args below meth c H locs 0 0 (MQ below (va_Qi (fun r u => post u r) (tq_P D cy z H0 ad N S) (fun q => z ≤ q)) args s 0 0 (fun q => z ≤ q)) (F0 m 5 ls []) := by
  obtain ⟨hx, hb, hr, hml, hown, hts, hlocks, hK, hG⟩ := id C
  have hw : ∀ w ∈ tq_W, w.before args s = true := fun w h => hts w (List.mem_cons_of_mem _ h)
  intro n
  induction n with
  | zero =>
    intro M x1 x2 x3 x4 H locs ls h
    exact absurd h (by unfold wbX12_nextOrder_5; exact id)
  | succ n ih =>
    intro M x1 x2 x3 x4 H locs ls h hW hS hl
    unfold wbX12_nextOrder_5 at h
    refine lv_iload hx hb dX12_nextOrder_5 (lv_at hl 4 rfl) ?_
    refine lv_aload_n hx hb dX12_nextOrder_7 rfl (lv_at hl 0 rfl) ?_
    refine tqm_get (v := .int (M 64 0 9)) hx hb hw tq_inX12 hown hK hW (by decide) (tq_mk_64 (by decide)) rfl 9 (by decide) (hw _ tw_1417) (fun _ h9 => h9) rfl dX12_nextOrder_8 ?_
    refine lv_icmp_ge (tgt := 67) hx hb dX12_nextOrder_11 (by decide) (fun c1 => ?_) (fun c1 => ?_)
    · have h := h.1 c1
      refine lv_iload_n hx hb dX12_nextOrder_67 rfl (lv_at hl 3 rfl) ?_
      exact W.iret (v := x3) hx hb hr (fun t ht hWm => ⟨⟨_, M, rfl, h, tq_pe ht hW⟩, hS.F ht⟩) hS.2.2 dX12_nextOrder_68
    · have h := h.2 c1
      refine lv_aload_n hx hb dX12_nextOrder_14 rfl (lv_at hl 0 rfl) ?_
      refine lv_iload hx hb dX12_nextOrder_15 (lv_at hl 4 rfl) ?_
      refine lv_iload_n hx hb dX12_nextOrder_17 rfl (lv_at hl 2 rfl) ?_
      refine lv_aload_n hx hb dX12_nextOrder_18 rfl (lv_at hl 0 rfl) ?_
      refine tqm_get (v := .int (M 64 0 0)) hx hb hw tq_inX12 hown hK hW (by decide) (tq_mk_64 (by decide)) rfl 0 (by decide) (hw _ tw_1408) (fun _ h9 => h9) rfl dX12_nextOrder_19 ?_
      refine tq_callVi (As := [.int x4, .int x2, .int (M 64 0 0)]) (rest := []) (kX12_known_ h) ⟨hx, hb, hml, hown, hts⟩ (cwV 3 hts (tq_goodV tw_1799 tw_1801 tw_72 tw_125 tw_1802) rfl rfl rfl (by decide +kernel) ⟨Nat.le_of_ble_eq_true rfl, Nat.le_of_ble_eq_true rfl⟩) hK hG hW hS rfl hl.1 rfl (Nat.le_of_ble_eq_true rfl) dX12_nextOrder_22 ⟨Nat.le_of_ble_eq_true rfl, Nat.le_of_ble_eq_true rfl⟩ (fun r3 M2 H locs h hW hS => ?_)
      refine lv_if_eq (tgt := 61) hx hb dX12_nextOrder_25 (by decide) (fun c4 => ?_) (fun c4 => ?_)
      · have h := h.1 c4
        exact bX12_nextOrder_61 C (fun M9 a09 a19 a29 a39 H9 q9 ls9 h9 hW9 hS9 hl9 => ih M9 a09 a19 a29 a39 H9 q9 ls9 h9 hW9 hS9 hl9) _ _ _ _ _ _ _ _ h hW hS (lv_sub hl [0, 1, 2, 3, 4] rfl)
      · have h := h.2 c4
        refine lv_iload_n hx hb dX12_nextOrder_28 rfl (lv_at hl 1 rfl) ?_
        refine lv_if_lt (tgt := 43) hx hb dX12_nextOrder_29 (by decide) (fun c5 => ?_) (fun c5 => ?_)
        · have h := h.1 c5
          exact bX12_nextOrder_43 C (fun M9 a09 a19 a29 a39 H9 q9 ls9 h9 hW9 hS9 hl9 => ih M9 a09 a19 a29 a39 H9 q9 ls9 h9 hW9 hS9 hl9) _ _ _ _ _ _ _ _ h hW hS (lv_sub hl [0, 1, 2, 3, 4] rfl)
        · have h := h.2 c5
          refine lv_aload_n hx hb dX12_nextOrder_32 rfl (lv_at hl 0 rfl) ?_
          refine lv_iload_n hx hb dX12_nextOrder_33 rfl (lv_at hl 1 rfl) ?_
          refine lv_iload hx hb dX12_nextOrder_34 (lv_at hl 4 rfl) ?_
          refine lv_iload_n hx hb dX12_nextOrder_36 rfl (lv_at hl 2 rfl) ?_
          refine tq_callVi (As := [.int x1, .int x4, .int x2]) (rest := []) (kX12_ahead h) ⟨hx, hb, hml, hown, hts⟩ (cwV 3 hts (tq_goodV tw_1803 tw_1805 tw_73 tw_125 tw_1806) rfl rfl rfl (by decide +kernel) ⟨Nat.le_of_ble_eq_true rfl, Nat.le_of_ble_eq_true rfl⟩) hK hG hW hS rfl hl.1 rfl (Nat.le_of_ble_eq_true rfl) dX12_nextOrder_37 ⟨Nat.le_of_ble_eq_true rfl, Nat.le_of_ble_eq_true rfl⟩ (fun r7 M6 H locs h hW hS => ?_)
          refine lv_if_eq (tgt := 61) hx hb dX12_nextOrder_40 (by decide) (fun c8 => ?_) (fun c8 => ?_)
          · have h := h.1 c8
            exact bX12_nextOrder_61 C (fun M9 a09 a19 a29 a39 H9 q9 ls9 h9 hW9 hS9 hl9 => ih M9 a09 a19 a29 a39 H9 q9 ls9 h9 hW9 hS9 hl9) _ _ _ _ _ _ _ _ h hW hS (lv_sub hl [0, 1, 2, 3, 4] rfl)
          · have h := h.2 c8
            exact bX12_nextOrder_43 C (fun M9 a09 a19 a29 a39 H9 q9 ls9 h9 hW9 hS9 hl9 => ih M9 a09 a19 a29 a39 H9 q9 ls9 h9 hW9 hS9 hl9) _ _ _ _ _ _ _ _ h hW hS (lv_sub hl [0, 1, 2, 3, 4] rfl)
set_option maxHeartbeats 4000000 in
set_option maxRecDepth 100000 in
theorem kX12_nextOrder {post : tq_St → Int32 → Prop} {M : tq_St} {p0 : Int32} {p1 : Int32} (h : wpX12_nextOrder post M p0 p1) : tq_mI l yX12_nextOrder (tq_ws yX12_nextOrder cX12_nextOrder 5 (some .int)) 1 23 D cy z H0 ad N S M [.ref (ad 64 0), .int p0, .int p1] post := by
  unfold wpX12_nextOrder at h
  refine Met.ofW (cc := cX12_nextOrder) (maxL := 5) (ret := (some .int)) (by decide) rfl ?_
  intro p e s m args below meth c s₁ B hml hv
  obtain ⟨rfl, hW, hK, hG⟩ := hv
  have hx := B.exec
  have hb := B.bytes
  have hr := B.returns
  have hts := atoms_spec (ws := (tq_ws yX12_nextOrder cX12_nextOrder 5 (some .int))) B.pre
  have hw : ∀ w ∈ tq_W, w.before _ s = true := fun w h => hts w (List.mem_cons_of_mem _ h)
  have hown : s.vm.findClass RX12 = some m.cls := findClass_of_methodNamed B.named
  have hlocks := B.notSynchronized
  have C : tq_At p s m meth c [.ref (ad 64 0), .int p0, .int p1].toArray cX12_nextOrder 5 ((some .int)) ((tq_ws yX12_nextOrder cX12_nextOrder 5 (some .int))) RX12 D cy z ad := ⟨hx, hb, hr, hml, hown, hts, hlocks, hK, hG⟩
  have hS : va_S (fun q => z ≤ q) s.heap s.heap [] := va_S.rf
  have hl := lv_entry ([.ref (ad 64 0), .int p0, .int p1]) (n := 5) (Nat.le_of_ble_eq_true rfl)
  rw [lg_entry_eq]
  generalize (lg_sl ([.ref (ad 64 0), .int p0, .int p1]) ++ List.replicate (5 - (lg_sl ([.ref (ad 64 0), .int p0, .int p1])).length) Slot.unset).toArray = ls at hl ⊢
  have hl : lv_has ls 5 [(0, .ref (ad 64 0)), (1, .int p0), (2, .int p1)] := hl
  have hW : tq_wd D cy z H0 ad N (tq_mix S M) s.heap := hW
  refine lv_iconst (v := (-1)) hx hb dX12_nextOrder_0 (by decide) ?_
  refine lv_istore_n (lv' := [(3, .int ((-1))), (0, .ref (ad 64 0)), (1, .int p0), (2, .int p1)]) hx hb dX12_nextOrder_1 rfl hl (by decide) rfl (fun ls hl => ?_)
  refine lv_iconst (v := 0) hx hb dX12_nextOrder_2 (by decide) ?_
  refine lv_istore (lv' := [(4, .int 0), (3, .int ((-1))), (0, .ref (ad 64 0)), (1, .int p0), (2, .int p1)]) hx hb dX12_nextOrder_3 hl (by decide) rfl (fun ls hl => ?_)
  obtain ⟨nq, h⟩ := h
  exact bX12_nextOrder_5 C  nq _ _ _ _ _ _ _ _ h hW hS (lv_sub hl [2, 3, 4, 1, 0] rfl)
-- gather
def wbX12_gather_54 (post : tq_St → Int32 → Prop) (L9 : tq_St → Int32 → Int32 → Int32 → Prop) (L16 : tq_St → Int32 → Int32 → Int32 → Int32 → Prop) (M : tq_St) (x1 : Int32) (x2 : Int32) (x3 : Int32) (x4 : Int32) : Prop :=
  L16 M x1 x2 x3 (x4 + 1)
def wbX12_gather_16 (post : tq_St → Int32 → Prop) (L9 : tq_St → Int32 → Int32 → Int32 → Prop) : Nat → tq_St → Int32 → Int32 → Int32 → Int32 → Prop
  | 0, _, _, _, _, _ => False
  | n + 1, M, x1, x2, x3, x4 =>
    vp_in x3 150 ∧ (((M 117 0 x3.toNatClampNeg) ≤ x4 → (wpX12_nextOrder (fun M6 r7 => L9 M6 x1 x2 r7) M x3 x1)) ∧ (¬ (M 117 0 x3.toNatClampNeg) ≤ x4 → (wpX12_standing (fun M8 r9 => (r9 = 0 → (wbX12_gather_54 post  L9 (wbX12_gather_16 post L9 n) M8 x1 x2 x3 x4)) ∧ (¬ r9 = 0 → (vp_in x2 900 ∧ (∀ M12, M12 = tq_up M8 172 0 x2.toNatClampNeg ((10 * x3) + x4) → (wbX12_gather_54 post  L9 (wbX12_gather_16 post L9 n) M12 x1 (x2 + 1) x3 x4))))) M x3 x4 x1)))
def wbX12_gather_9 (post : tq_St → Int32 → Prop) : Nat → tq_St → Int32 → Int32 → Int32 → Prop
  | 0, _, _, _, _ => False
  | n + 1, M, x1, x2, x3 =>
    (x3 < 0 → (post M x2)) ∧ (¬ x3 < 0 → (∃ nq, wbX12_gather_16 post  (wbX12_gather_9 post n) nq M x1 x2 x3 0))
def wpX12_gather (post : tq_St → Int32 → Prop) (M : tq_St) (p0 : Int32) : Prop :=
  wpX12_nextOrder (fun M1 r2 => ∃ nq, wbX12_gather_9 post nq M1 p0 0 r2) M (-1) p0
set_option maxHeartbeats 4000000 in
set_option maxRecDepth 100000 in
theorem bX12_gather_54 {p : Program} {e : Env} {s : State} {m : MethodId} {args : Array Value} {below : List Frame} {meth : Method} {c : Code} {post : tq_St → Int32 → Prop} (C : tq_At p s m meth c args cX12_gather 5 ((some .int)) ((tq_ws yX12_gather cX12_gather 5 (some .int))) RX12 D cy z ad) {L9 : tq_St → Int32 → Int32 → Int32 → Prop} (hL9 : ∀ (M : tq_St) (x1 : Int32) (x2 : Int32) (x3 : Int32) (H : Heap) (locs : List Loc) (ls : Array Slot), L9 M x1 x2 x3 → tq_wd D cy z H0 ad N (tq_mix S M) H → va_S (fun q => z ≤ q) s.heap H locs → lv_has ls 5 [(0, .ref (ad 64 0)), (1, .int x1), (2, .int x2), (3, .int x3)] → W p l e (tq_rm 3 72) s m args below meth c H locs 0 0 (MQ below (va_Qi (fun r u => post u r) (tq_P D cy z H0 ad N S) (fun q => z ≤ q)) args s 0 0 (fun q => z ≤ q)) (F0 m 9 ls [])) {L16 : tq_St → Int32 → Int32 → Int32 → Int32 → Prop} (hL16 : ∀ (M : tq_St) (x1 : Int32) (x2 : Int32) (x3 : Int32) (x4 : Int32) (H : Heap) (locs : List Loc) (ls : Array Slot), L16 M x1 x2 x3 x4 → tq_wd D cy z H0 ad N (tq_mix S M) H → va_S (fun q => z ≤ q) s.heap H locs → lv_has ls 5 [(0, .ref (ad 64 0)), (1, .int x1), (2, .int x2), (3, .int x3), (4, .int x4)] → W p l e (tq_rm 3 72) s m args below meth c H locs 0 0 (MQ below (va_Qi (fun r u => post u r) (tq_P D cy z H0 ad N S) (fun q => z ≤ q)) args s 0 0 (fun q => z ≤ q)) (F0 m 16 ls [])) : ∀ (M : tq_St) (x1 : Int32) (x2 : Int32) (x3 : Int32) (x4 : Int32) (H : Heap) (locs : List Loc) (ls : Array Slot), wbX12_gather_54 post  L9 L16 M x1 x2 x3 x4 → tq_wd D cy z H0 ad N (tq_mix S M) H → va_S (fun q => z ≤ q) s.heap H locs → lv_has ls 5 [(0, .ref (ad 64 0)), (1, .int x1), (2, .int x2), (3, .int x3), (4, .int x4)] → W p l e (tq_rm 3 72) s m args below meth c H locs 0 0 (MQ below (va_Qi (fun r u => post u r) (tq_P D cy z H0 ad N S) (fun q => z ≤ q)) args s 0 0 (fun q => z ≤ q)) (F0 m 54 ls []) := by
  obtain ⟨hx, hb, hr, hml, hown, hts, hlocks, hK, hG⟩ := id C
  have hw : ∀ w ∈ tq_W, w.before args s = true := fun w h => hts w (List.mem_cons_of_mem _ h)
  intro M x1 x2 x3 x4 H locs ls h hW hS hl
  unfold wbX12_gather_54 at h
  refine lv_iinc (v := x4 + 1) (lv' := [(4, .int (x4 + 1)), (0, .ref (ad 64 0)), (1, .int x1), (2, .int x2), (3, .int x3)]) hx hb dX12_gather_54 hl (k := 4) rfl rfl (by decide) rfl (fun ls hl => ?_)
  refine lv_goto (tgt := 16) hx hb dX12_gather_57 (by decide) ?_
  exact hL16 _ _ _ _ _ _ _ _ h hW hS (lv_sub hl [1, 2, 3, 4, 0] rfl)
set_option maxHeartbeats 4000000 in
set_option maxRecDepth 100000 in
theorem bX12_gather_16 {p : Program} {e : Env} {s : State} {m : MethodId} {args : Array Value} {below : List Frame} {meth : Method} {c : Code} {post : tq_St → Int32 → Prop} (C : tq_At p s m meth c args cX12_gather 5 ((some .int)) ((tq_ws yX12_gather cX12_gather 5 (some .int))) RX12 D cy z ad) {L9 : tq_St → Int32 → Int32 → Int32 → Prop} (hL9 : ∀ (M : tq_St) (x1 : Int32) (x2 : Int32) (x3 : Int32) (H : Heap) (locs : List Loc) (ls : Array Slot), L9 M x1 x2 x3 → tq_wd D cy z H0 ad N (tq_mix S M) H → va_S (fun q => z ≤ q) s.heap H locs → lv_has ls 5 [(0, .ref (ad 64 0)), (1, .int x1), (2, .int x2), (3, .int x3)] → W p l e (tq_rm 3 72) s m args below meth c H locs 0 0 (MQ below (va_Qi (fun r u => post u r) (tq_P D cy z H0 ad N S) (fun q => z ≤ q)) args s 0 0 (fun q => z ≤ q)) (F0 m 9 ls [])) : ∀ n : Nat, ∀ (M : tq_St) (x1 : Int32) (x2 : Int32) (x3 : Int32) (x4 : Int32) (H : Heap) (locs : List Loc) (ls : Array Slot), wbX12_gather_16 post  L9 n M x1 x2 x3 x4 → tq_wd D cy z H0 ad N (tq_mix S M) H → va_S (fun q => z ≤ q) s.heap H locs → lv_has ls 5 [(0, .ref (ad 64 0)), (1, .int x1), (2, .int x2), (3, .int x3), (4, .int x4)] → W p l e (tq_rm 3 72) s m args below meth c H locs 0 0 (MQ below (va_Qi (fun r u => post u r) (tq_P D cy z H0 ad N S) (fun q => z ≤ q)) args s 0 0 (fun q => z ≤ q)) (F0 m 16 ls []) := by
  obtain ⟨hx, hb, hr, hml, hown, hts, hlocks, hK, hG⟩ := id C
  have hw : ∀ w ∈ tq_W, w.before args s = true := fun w h => hts w (List.mem_cons_of_mem _ h)
  intro n
  induction n with
  | zero =>
    intro M x1 x2 x3 x4 H locs ls h
    exact absurd h (by unfold wbX12_gather_16; exact id)
  | succ n ih =>
    intro M x1 x2 x3 x4 H locs ls h hW hS hl
    unfold wbX12_gather_16 at h
    refine lv_iload hx hb dX12_gather_16 (lv_at hl 4 rfl) ?_
    refine lv_aload_n hx hb dX12_gather_18 rfl (lv_at hl 0 rfl) ?_
    refine tqm_get (v := .ref (ad 117 0)) hx hb hw tq_inX12 hown hK hW (by decide) (tq_mk_64 (by decide)) rfl 17 (by decide) (hw _ tw_1425) (fun _ h9 => h9) rfl dX12_gather_19 ?_
    refine lv_iload_n hx hb dX12_gather_22 rfl (lv_at hl 3 rfl) ?_
    obtain ⟨b4, h⟩ := h
    refine tqm_iald (jn := x3.toNatClampNeg) hx hb hK hW (by decide) (tq_mk_117 (by decide)) b4 rfl dX12_gather_23 ?_
    refine lv_icmp_ge (tgt := 60) hx hb dX12_gather_24 (by decide) (fun c5 => ?_) (fun c5 => ?_)
    · have h := h.1 c5
      refine lv_aload_n hx hb dX12_gather_60 rfl (lv_at hl 0 rfl) ?_
      refine lv_iload_n hx hb dX12_gather_61 rfl (lv_at hl 3 rfl) ?_
      refine lv_iload_n hx hb dX12_gather_62 rfl (lv_at hl 1 rfl) ?_
      refine tq_callVi (As := [.int x3, .int x1]) (rest := []) (kX12_nextOrder h) ⟨hx, hb, hml, hown, hts⟩ (cwV 2 hts (tq_goodV tw_1795 tw_1797 tw_71 tw_125 tw_1798) rfl rfl rfl (by decide +kernel) ⟨Nat.le_of_ble_eq_true rfl, Nat.le_of_ble_eq_true rfl⟩) hK hG hW hS rfl hl.1 rfl (Nat.le_of_ble_eq_true rfl) dX12_gather_63 ⟨Nat.le_of_ble_eq_true rfl, Nat.le_of_ble_eq_true rfl⟩ (fun r7 M6 H locs h hW hS => ?_)
      refine lv_istore_n (lv' := [(3, .int r7), (0, .ref (ad 64 0)), (1, .int x1), (2, .int x2), (4, .int x4)]) hx hb dX12_gather_66 rfl hl (by decide) rfl (fun ls hl => ?_)
      refine lv_goto (tgt := 9) hx hb dX12_gather_67 (by decide) ?_
      exact hL9 _ _ _ _ _ _ _ h hW hS (lv_sub hl [1, 2, 3, 0] rfl)
    · have h := h.2 c5
      refine lv_aload_n hx hb dX12_gather_27 rfl (lv_at hl 0 rfl) ?_
      refine lv_iload_n hx hb dX12_gather_28 rfl (lv_at hl 3 rfl) ?_
      refine lv_iload hx hb dX12_gather_29 (lv_at hl 4 rfl) ?_
      refine lv_iload_n hx hb dX12_gather_31 rfl (lv_at hl 1 rfl) ?_
      refine tq_callVi (As := [.int x3, .int x4, .int x1]) (rest := []) (kX12_standing h) ⟨hx, hb, hml, hown, hts⟩ (cwV 3 hts (tq_goodV tw_1807 tw_1809 tw_74 tw_125 tw_1810) rfl rfl rfl (by decide +kernel) ⟨Nat.le_of_ble_eq_true rfl, Nat.le_of_ble_eq_true rfl⟩) hK hG hW hS rfl hl.1 rfl (Nat.le_of_ble_eq_true rfl) dX12_gather_32 ⟨Nat.le_of_ble_eq_true rfl, Nat.le_of_ble_eq_true rfl⟩ (fun r9 M8 H locs h hW hS => ?_)
      refine lv_if_eq (tgt := 54) hx hb dX12_gather_35 (by decide) (fun c10 => ?_) (fun c10 => ?_)
      · have h := h.1 c10
        exact bX12_gather_54 C (fun M9 a09 a19 a29 H9 q9 ls9 h9 hW9 hS9 hl9 => hL9 M9 a09 a19 a29 H9 q9 ls9 h9 hW9 hS9 hl9) (fun M9 a09 a19 a29 a39 H9 q9 ls9 h9 hW9 hS9 hl9 => ih M9 a09 a19 a29 a39 H9 q9 ls9 h9 hW9 hS9 hl9) _ _ _ _ _ _ _ _ h hW hS (lv_sub hl [0, 1, 2, 3, 4] rfl)
      · have h := h.2 c10
        refine lv_aload_n hx hb dX12_gather_38 rfl (lv_at hl 0 rfl) ?_
        refine tqm_get (v := .ref (ad 172 0)) hx hb hw tq_inX12 hown hK hW (by decide) (tq_mk_64 (by decide)) rfl 72 (by decide) (hw _ tw_1480) (fun _ h9 => h9) rfl dX12_gather_39 ?_
        refine lv_iload_n hx hb dX12_gather_42 rfl (lv_at hl 2 rfl) ?_
        refine lv_iinc (v := x2 + 1) (lv' := [(2, .int (x2 + 1)), (0, .ref (ad 64 0)), (1, .int x1), (3, .int x3), (4, .int x4)]) hx hb dX12_gather_43 hl (k := 2) rfl rfl (by decide) rfl (fun ls hl => ?_)
        refine lv_bipush (v := 10) hx hb dX12_gather_46 (by decide) ?_
        refine lv_iload_n hx hb dX12_gather_48 rfl (lv_at hl 3 rfl) ?_
        refine lv_imul hx hb dX12_gather_49 ?_
        refine lv_iload hx hb dX12_gather_50 (lv_at hl 4 rfl) ?_
        refine lv_iadd hx hb dX12_gather_52 ?_
        obtain ⟨b11, h⟩ := h
        refine tqm_iast (jn := x2.toNatClampNeg) hx hb hK hW hS (by decide) (tq_mk_172 (by decide)) b11 rfl (tq_mk_172 (by decide)) dX12_gather_53 (fun H locs hW hS => ?_)
        generalize eM12 : tq_up M8 172 0 x2.toNatClampNeg ((10 * x3) + x4) = M12 at hW
        have h := h M12 eM12.symm
        exact bX12_gather_54 C (fun M9 a09 a19 a29 H9 q9 ls9 h9 hW9 hS9 hl9 => hL9 M9 a09 a19 a29 H9 q9 ls9 h9 hW9 hS9 hl9) (fun M9 a09 a19 a29 a39 H9 q9 ls9 h9 hW9 hS9 hl9 => ih M9 a09 a19 a29 a39 H9 q9 ls9 h9 hW9 hS9 hl9) _ _ _ _ _ _ _ _ h hW hS (lv_sub hl [1, 2, 0, 3, 4] rfl)
set_option maxHeartbeats 4000000 in
set_option maxRecDepth 100000 in
theorem bX12_gather_9 {p : Program} {e : Env} {s : State} {m : MethodId} {args : Array Value} {below : List Frame} {meth : Method} {c : Code} {post : tq_St → Int32 → Prop} (C : tq_At p s m meth c args cX12_gather 5 ((some .int)) ((tq_ws yX12_gather cX12_gather 5 (some .int))) RX12 D cy z ad)  : ∀ n : Nat, ∀ (M : tq_St) (x1 : Int32) (x2 : Int32) (x3 : Int32) (H : Heap) (locs : List Loc) (ls : Array Slot), wbX12_gather_9 post   n M x1 x2 x3 → tq_wd D cy z H0 ad N (tq_mix S M) H → va_S (fun q => z ≤ q) s.heap H locs → lv_has ls 5 [(0, .ref (ad 64 0)), (1, .int x1), (2, .int x2), (3, .int x3)] → W p l e (tq_rm 3 72) s m args below meth c H locs 0 0 (MQ below (va_Qi (fun r u => post u r) (tq_P D cy z H0 ad N S) (fun q => z ≤ q)) args s 0 0 (fun q => z ≤ q)) (F0 m 9 ls []) := by
  obtain ⟨hx, hb, hr, hml, hown, hts, hlocks, hK, hG⟩ := id C
  have hw : ∀ w ∈ tq_W, w.before args s = true := fun w h => hts w (List.mem_cons_of_mem _ h)
  intro n
  induction n with
  | zero =>
    intro M x1 x2 x3 H locs ls h
    exact absurd h (by unfold wbX12_gather_9; exact id)
  | succ n ih =>
    intro M x1 x2 x3 H locs ls h hW hS hl
    unfold wbX12_gather_9 at h
    refine lv_iload_n hx hb dX12_gather_9 rfl (lv_at hl 3 rfl) ?_
    refine lv_if_lt (tgt := 70) hx hb dX12_gather_10 (by decide) (fun c3 => ?_) (fun c3 => ?_)
    · have h := h.1 c3
      refine lv_iload_n hx hb dX12_gather_70 rfl (lv_at hl 2 rfl) ?_
      exact W.iret (v := x2) hx hb hr (fun t ht hWm => ⟨⟨_, M, rfl, h, tq_pe ht hW⟩, hS.F ht⟩) hS.2.2 dX12_gather_71
    · have h := h.2 c3
      refine lv_iconst (v := 0) hx hb dX12_gather_13 (by decide) ?_
      refine lv_istore (lv' := [(4, .int 0), (0, .ref (ad 64 0)), (1, .int x1), (2, .int x2), (3, .int x3)]) hx hb dX12_gather_14 hl (by decide) rfl (fun ls hl => ?_)
      obtain ⟨nq, h⟩ := h
      exact bX12_gather_16 C (fun M9 a09 a19 a29 H9 q9 ls9 h9 hW9 hS9 hl9 => ih M9 a09 a19 a29 H9 q9 ls9 h9 hW9 hS9 hl9) nq _ _ _ _ _ _ _ _ h hW hS (lv_sub hl [1, 2, 3, 4, 0] rfl)
set_option maxHeartbeats 4000000 in
set_option maxRecDepth 100000 in
theorem kX12_gather {post : tq_St → Int32 → Prop} {M : tq_St} {p0 : Int32} (h : wpX12_gather post M p0) : tq_mI l yX12_gather (tq_ws yX12_gather cX12_gather 5 (some .int)) 3 72 D cy z H0 ad N S M [.ref (ad 64 0), .int p0] post := by
  unfold wpX12_gather at h
  refine Met.ofW (cc := cX12_gather) (maxL := 5) (ret := (some .int)) (by decide) rfl ?_
  intro p e s m args below meth c s₁ B hml hv
  obtain ⟨rfl, hW, hK, hG⟩ := hv
  have hx := B.exec
  have hb := B.bytes
  have hr := B.returns
  have hts := atoms_spec (ws := (tq_ws yX12_gather cX12_gather 5 (some .int))) B.pre
  have hw : ∀ w ∈ tq_W, w.before _ s = true := fun w h => hts w (List.mem_cons_of_mem _ h)
  have hown : s.vm.findClass RX12 = some m.cls := findClass_of_methodNamed B.named
  have hlocks := B.notSynchronized
  have C : tq_At p s m meth c [.ref (ad 64 0), .int p0].toArray cX12_gather 5 ((some .int)) ((tq_ws yX12_gather cX12_gather 5 (some .int))) RX12 D cy z ad := ⟨hx, hb, hr, hml, hown, hts, hlocks, hK, hG⟩
  have hS : va_S (fun q => z ≤ q) s.heap s.heap [] := va_S.rf
  have hl := lv_entry ([.ref (ad 64 0), .int p0]) (n := 5) (Nat.le_of_ble_eq_true rfl)
  rw [lg_entry_eq]
  generalize (lg_sl ([.ref (ad 64 0), .int p0]) ++ List.replicate (5 - (lg_sl ([.ref (ad 64 0), .int p0])).length) Slot.unset).toArray = ls at hl ⊢
  have hl : lv_has ls 5 [(0, .ref (ad 64 0)), (1, .int p0)] := hl
  have hW : tq_wd D cy z H0 ad N (tq_mix S M) s.heap := hW
  refine lv_iconst (v := 0) hx hb dX12_gather_0 (by decide) ?_
  refine lv_istore_n (lv' := [(2, .int 0), (0, .ref (ad 64 0)), (1, .int p0)]) hx hb dX12_gather_1 rfl hl (by decide) rfl (fun ls hl => ?_)
  refine lv_aload_n hx hb dX12_gather_2 rfl (lv_at hl 1 rfl) ?_
  refine lv_iconst (v := (-1)) hx hb dX12_gather_3 (by decide) ?_
  refine lv_iload_n hx hb dX12_gather_4 rfl (lv_at hl 2 rfl) ?_
  refine tq_callVi (As := [.int ((-1)), .int p0]) (rest := []) (kX12_nextOrder h) ⟨hx, hb, hml, hown, hts⟩ (cwV 2 hts (tq_goodV tw_1795 tw_1797 tw_71 tw_125 tw_1798) rfl rfl rfl (by decide +kernel) ⟨Nat.le_of_ble_eq_true rfl, Nat.le_of_ble_eq_true rfl⟩) hK hG hW hS rfl hl.1 rfl (Nat.le_of_ble_eq_true rfl) dX12_gather_5 ⟨Nat.le_of_ble_eq_true rfl, Nat.le_of_ble_eq_true rfl⟩ (fun r2 M1 H locs h hW hS => ?_)
  refine lv_istore_n (lv' := [(3, .int r2), (2, .int 0), (0, .ref (ad 64 0)), (1, .int p0)]) hx hb dX12_gather_8 rfl hl (by decide) rfl (fun ls hl => ?_)
  obtain ⟨nq, h⟩ := h
  exact bX12_gather_9 C  nq _ _ _ _ _ _ _ h hW hS (lv_sub hl [2, 3, 1, 0] rfl)
-- force
def wbX12_force_16 (post : tq_St → Int32 → Prop)  (M : tq_St) (y0 : Int32) : Prop :=
  post M y0
def wpX12_force (post : tq_St → Int32 → Prop) (M : tq_St) (p0 : Int32) : Prop :=
  wpX12_isFactory (fun M1 r2 => (r2 = 0 → (wbX12_force_16 post M1 ((-1)))) ∧ (¬ r2 = 0 → (wpX12_gather (fun M4 r5 => wbX12_force_16 post M4 r5) M1 p0))) M p0
set_option maxHeartbeats 4000000 in
set_option maxRecDepth 100000 in
theorem bX12_force_16 {p : Program} {e : Env} {s : State} {m : MethodId} {args : Array Value} {below : List Frame} {meth : Method} {c : Code} {post : tq_St → Int32 → Prop} (C : tq_At p s m meth c args cX12_force 2 ((some .int)) ((tq_ws yX12_force cX12_force 2 (some .int))) RX12 D cy z ad)  : ∀ (M : tq_St) (y0 : Int32) (H : Heap) (locs : List Loc) (ls : Array Slot), wbX12_force_16 post   M y0 → tq_wd D cy z H0 ad N (tq_mix S M) H → va_S (fun q => z ≤ q) s.heap H locs → lv_has ls 2 [] → W p l e (tq_rm 4 96) s m args below meth c H locs 0 0 (MQ below (va_Qi (fun r u => post u r) (tq_P D cy z H0 ad N S) (fun q => z ≤ q)) args s 0 0 (fun q => z ≤ q)) (F0 m 16 ls [.int y0]) := by
  obtain ⟨hx, hb, hr, hml, hown, hts, hlocks, hK, hG⟩ := id C
  have hw : ∀ w ∈ tq_W, w.before args s = true := fun w h => hts w (List.mem_cons_of_mem _ h)
  intro M y0 H locs ls h hW hS hl
  unfold wbX12_force_16 at h
  exact W.iret (v := y0) hx hb hr (fun t ht hWm => ⟨⟨_, M, rfl, h, tq_pe ht hW⟩, hS.F ht⟩) hS.2.2 dX12_force_16
set_option maxHeartbeats 4000000 in
set_option maxRecDepth 100000 in
theorem kX12_force {post : tq_St → Int32 → Prop} {M : tq_St} {p0 : Int32} (h : wpX12_force post M p0) : tq_mI l yX12_force (tq_ws yX12_force cX12_force 2 (some .int)) 4 96 D cy z H0 ad N S M [.ref (ad 64 0), .int p0] post := by
  unfold wpX12_force at h
  refine Met.ofW (cc := cX12_force) (maxL := 2) (ret := (some .int)) (by decide) rfl ?_
  intro p e s m args below meth c s₁ B hml hv
  obtain ⟨rfl, hW, hK, hG⟩ := hv
  have hx := B.exec
  have hb := B.bytes
  have hr := B.returns
  have hts := atoms_spec (ws := (tq_ws yX12_force cX12_force 2 (some .int))) B.pre
  have hw : ∀ w ∈ tq_W, w.before _ s = true := fun w h => hts w (List.mem_cons_of_mem _ h)
  have hown : s.vm.findClass RX12 = some m.cls := findClass_of_methodNamed B.named
  have hlocks := B.notSynchronized
  have C : tq_At p s m meth c [.ref (ad 64 0), .int p0].toArray cX12_force 2 ((some .int)) ((tq_ws yX12_force cX12_force 2 (some .int))) RX12 D cy z ad := ⟨hx, hb, hr, hml, hown, hts, hlocks, hK, hG⟩
  have hS : va_S (fun q => z ≤ q) s.heap s.heap [] := va_S.rf
  have hl := lv_entry ([.ref (ad 64 0), .int p0]) (n := 2) (Nat.le_of_ble_eq_true rfl)
  rw [lg_entry_eq]
  generalize (lg_sl ([.ref (ad 64 0), .int p0]) ++ List.replicate (2 - (lg_sl ([.ref (ad 64 0), .int p0])).length) Slot.unset).toArray = ls at hl ⊢
  have hl : lv_has ls 2 [(0, .ref (ad 64 0)), (1, .int p0)] := hl
  have hW : tq_wd D cy z H0 ad N (tq_mix S M) s.heap := hW
  refine lv_iload_n hx hb dX12_force_0 rfl (lv_at hl 1 rfl) ?_
  refine tq_callSi (As := [.int p0]) (rest := []) (kX12_isFactory h) ⟨hx, hb, hml, hown, hts⟩ (va_cwS 1 hts (tq_goodS tw_1645 tw_1646 tw_125 tw_1647) rfl rfl rfl (by decide +kernel) ⟨Nat.le_of_ble_eq_true rfl, Nat.le_of_ble_eq_true rfl⟩) hK hG hW hS rfl hl.1 rfl (Nat.le_of_ble_eq_true rfl) dX12_force_1 ⟨Nat.le_of_ble_eq_true rfl, Nat.le_of_ble_eq_true rfl⟩ (fun r2 M1 H locs h hW hS => ?_)
  refine lv_if_eq (tgt := 15) hx hb dX12_force_4 (by decide) (fun c3 => ?_) (fun c3 => ?_)
  · have h := h.1 c3
    refine lv_iconst (v := (-1)) hx hb dX12_force_15 (by decide) ?_
    exact bX12_force_16 C  _ _ _ _ _ h hW hS (lv_sub hl [] rfl)
  · have h := h.2 c3
    refine lv_aload_n hx hb dX12_force_7 rfl (lv_at hl 0 rfl) ?_
    refine lv_iload_n hx hb dX12_force_8 rfl (lv_at hl 1 rfl) ?_
    refine tq_callVi (As := [.int p0]) (rest := []) (kX12_gather h) ⟨hx, hb, hml, hown, hts⟩ (cwV 1 hts (tq_goodV tw_1791 tw_1793 tw_70 tw_125 tw_1794) rfl rfl rfl (by decide +kernel) ⟨Nat.le_of_ble_eq_true rfl, Nat.le_of_ble_eq_true rfl⟩) hK hG hW hS rfl hl.1 rfl (Nat.le_of_ble_eq_true rfl) dX12_force_9 ⟨Nat.le_of_ble_eq_true rfl, Nat.le_of_ble_eq_true rfl⟩ (fun r5 M4 H locs h hW hS => ?_)
    refine lv_goto (tgt := 16) hx hb dX12_force_12 (by decide) ?_
    exact bX12_force_16 C  _ _ _ _ _ h hW hS (lv_sub hl [] rfl)
-- forced
def wbX12_forced_36 (post : tq_St → Int32 → Prop)  (M : tq_St) (y0 : Int32) : Prop :=
  post M y0
def wpX12_forced (post : tq_St → Int32 → Prop) (M : tq_St) (p0 : Int32) (p1 : Int32) : Prop :=
  wpX12_isFactory (fun M1 r2 => (¬ r2 = 0 → (wpX12_gather (fun M4 r5 => wpX12_in (fun M6 r7 => (r7 = 0 → (wbX12_forced_36 post M6 ((-1)))) ∧ (¬ r7 = 0 → (vp_in p1 900 ∧ (wbX12_forced_36 post M6 (M6 172 0 p1.toNatClampNeg))))) M4 p1 0 (r5 - 1)) M1 p0)) ∧ (r2 = 0 → (post M1 ((-1))))) M p0
set_option maxHeartbeats 4000000 in
set_option maxRecDepth 100000 in
theorem bX12_forced_36 {p : Program} {e : Env} {s : State} {m : MethodId} {args : Array Value} {below : List Frame} {meth : Method} {c : Code} {post : tq_St → Int32 → Prop} (C : tq_At p s m meth c args cX12_forced 4 ((some .int)) ((tq_ws yX12_forced cX12_forced 4 (some .int))) RX12 D cy z ad)  : ∀ (M : tq_St) (y0 : Int32) (H : Heap) (locs : List Loc) (ls : Array Slot), wbX12_forced_36 post   M y0 → tq_wd D cy z H0 ad N (tq_mix S M) H → va_S (fun q => z ≤ q) s.heap H locs → lv_has ls 4 [] → W p l e (tq_rm 4 96) s m args below meth c H locs 0 0 (MQ below (va_Qi (fun r u => post u r) (tq_P D cy z H0 ad N S) (fun q => z ≤ q)) args s 0 0 (fun q => z ≤ q)) (F0 m 36 ls [.int y0]) := by
  obtain ⟨hx, hb, hr, hml, hown, hts, hlocks, hK, hG⟩ := id C
  have hw : ∀ w ∈ tq_W, w.before args s = true := fun w h => hts w (List.mem_cons_of_mem _ h)
  intro M y0 H locs ls h hW hS hl
  unfold wbX12_forced_36 at h
  exact W.iret (v := y0) hx hb hr (fun t ht hWm => ⟨⟨_, M, rfl, h, tq_pe ht hW⟩, hS.F ht⟩) hS.2.2 dX12_forced_36
set_option maxHeartbeats 4000000 in
set_option maxRecDepth 100000 in
theorem kX12_forced {post : tq_St → Int32 → Prop} {M : tq_St} {p0 : Int32} {p1 : Int32} (h : wpX12_forced post M p0 p1) : tq_mI l yX12_forced (tq_ws yX12_forced cX12_forced 4 (some .int)) 4 96 D cy z H0 ad N S M [.ref (ad 64 0), .int p0, .int p1] post := by
  unfold wpX12_forced at h
  refine Met.ofW (cc := cX12_forced) (maxL := 4) (ret := (some .int)) (by decide) rfl ?_
  intro p e s m args below meth c s₁ B hml hv
  obtain ⟨rfl, hW, hK, hG⟩ := hv
  have hx := B.exec
  have hb := B.bytes
  have hr := B.returns
  have hts := atoms_spec (ws := (tq_ws yX12_forced cX12_forced 4 (some .int))) B.pre
  have hw : ∀ w ∈ tq_W, w.before _ s = true := fun w h => hts w (List.mem_cons_of_mem _ h)
  have hown : s.vm.findClass RX12 = some m.cls := findClass_of_methodNamed B.named
  have hlocks := B.notSynchronized
  have C : tq_At p s m meth c [.ref (ad 64 0), .int p0, .int p1].toArray cX12_forced 4 ((some .int)) ((tq_ws yX12_forced cX12_forced 4 (some .int))) RX12 D cy z ad := ⟨hx, hb, hr, hml, hown, hts, hlocks, hK, hG⟩
  have hS : va_S (fun q => z ≤ q) s.heap s.heap [] := va_S.rf
  have hl := lv_entry ([.ref (ad 64 0), .int p0, .int p1]) (n := 4) (Nat.le_of_ble_eq_true rfl)
  rw [lg_entry_eq]
  generalize (lg_sl ([.ref (ad 64 0), .int p0, .int p1]) ++ List.replicate (4 - (lg_sl ([.ref (ad 64 0), .int p0, .int p1])).length) Slot.unset).toArray = ls at hl ⊢
  have hl : lv_has ls 4 [(0, .ref (ad 64 0)), (1, .int p0), (2, .int p1)] := hl
  have hW : tq_wd D cy z H0 ad N (tq_mix S M) s.heap := hW
  refine lv_iload_n hx hb dX12_forced_0 rfl (lv_at hl 1 rfl) ?_
  refine tq_callSi (As := [.int p0]) (rest := []) (kX12_isFactory h) ⟨hx, hb, hml, hown, hts⟩ (va_cwS 1 hts (tq_goodS tw_1645 tw_1646 tw_125 tw_1647) rfl rfl rfl (by decide +kernel) ⟨Nat.le_of_ble_eq_true rfl, Nat.le_of_ble_eq_true rfl⟩) hK hG hW hS rfl hl.1 rfl (Nat.le_of_ble_eq_true rfl) dX12_forced_1 ⟨Nat.le_of_ble_eq_true rfl, Nat.le_of_ble_eq_true rfl⟩ (fun r2 M1 H locs h hW hS => ?_)
  refine lv_if_ne (tgt := 9) hx hb dX12_forced_4 (by decide) (fun c3 => ?_) (fun c3 => ?_)
  · have h := h.1 c3
    refine lv_aload_n hx hb dX12_forced_9 rfl (lv_at hl 0 rfl) ?_
    refine lv_iload_n hx hb dX12_forced_10 rfl (lv_at hl 1 rfl) ?_
    refine tq_callVi (As := [.int p0]) (rest := []) (kX12_gather h) ⟨hx, hb, hml, hown, hts⟩ (cwV 1 hts (tq_goodV tw_1791 tw_1793 tw_70 tw_125 tw_1794) rfl rfl rfl (by decide +kernel) ⟨Nat.le_of_ble_eq_true rfl, Nat.le_of_ble_eq_true rfl⟩) hK hG hW hS rfl hl.1 rfl (Nat.le_of_ble_eq_true rfl) dX12_forced_11 ⟨Nat.le_of_ble_eq_true rfl, Nat.le_of_ble_eq_true rfl⟩ (fun r5 M4 H locs h hW hS => ?_)
    refine lv_istore_n (lv' := [(3, .int r5), (0, .ref (ad 64 0)), (1, .int p0), (2, .int p1)]) hx hb dX12_forced_14 rfl hl (by decide) rfl (fun ls hl => ?_)
    refine lv_iload_n hx hb dX12_forced_15 rfl (lv_at hl 3 rfl) ?_
    refine lv_iconst (v := 0) hx hb dX12_forced_16 (by decide) ?_
    refine lv_iload_n hx hb dX12_forced_17 rfl (lv_at hl 0 rfl) ?_
    refine lv_iconst (v := 1) hx hb dX12_forced_18 (by decide) ?_
    refine lv_isub hx hb dX12_forced_19 ?_
    refine tq_callSi (As := [.int p1, .int 0, .int (r5 - 1)]) (rest := []) (kX12_in h) ⟨hx, hb, hml, hown, hts⟩ (va_cwS 3 hts (tq_goodS tw_1648 tw_1649 tw_125 tw_1650) rfl rfl rfl (by decide +kernel) ⟨Nat.le_of_ble_eq_true rfl, Nat.le_of_ble_eq_true rfl⟩) hK hG hW hS rfl hl.1 rfl (Nat.le_of_ble_eq_true rfl) dX12_forced_20 ⟨Nat.le_of_ble_eq_true rfl, Nat.le_of_ble_eq_true rfl⟩ (fun r7 M6 H locs h hW hS => ?_)
    refine lv_if_eq (tgt := 35) hx hb dX12_forced_23 (by decide) (fun c8 => ?_) (fun c8 => ?_)
    · have h := h.1 c8
      refine lv_iconst (v := (-1)) hx hb dX12_forced_35 (by decide) ?_
      exact bX12_forced_36 C  _ _ _ _ _ h hW hS (lv_sub hl [] rfl)
    · have h := h.2 c8
      refine lv_aload_n hx hb dX12_forced_26 rfl (lv_at hl 1 rfl) ?_
      refine tqm_get (v := .ref (ad 172 0)) hx hb hw tq_inX12 hown hK hW (by decide) (tq_mk_64 (by decide)) rfl 72 (by decide) (hw _ tw_1480) (fun _ h9 => h9) rfl dX12_forced_27 ?_
      refine lv_iload_n hx hb dX12_forced_30 rfl (lv_at hl 3 rfl) ?_
      obtain ⟨b9, h⟩ := h
      refine tqm_iald (jn := p1.toNatClampNeg) hx hb hK hW (by decide) (tq_mk_172 (by decide)) b9 rfl dX12_forced_31 ?_
      refine lv_goto (tgt := 36) hx hb dX12_forced_32 (by decide) ?_
      exact bX12_forced_36 C  _ _ _ _ _ h hW hS (lv_sub hl [] rfl)
  · have h := h.2 c3
    refine lv_iconst (v := (-1)) hx hb dX12_forced_7 (by decide) ?_
    exact W.iret (v := (-1)) hx hb hr (fun t ht hWm => ⟨⟨_, M1, rfl, h, tq_pe ht hW⟩, hS.F ht⟩) hS.2.2 dX12_forced_8
-- fieldOf
def wbX12_fieldOf_88 (post : tq_St → Int32 → Prop) (L61 : tq_St → Int32 → Int32 → Int32 → Prop) (M : tq_St) (x1 : Int32) (x5 : Int32) (y0 : Int32) (y1 : Int32) : Prop :=
  L61 M x1 (y1 + y0) (x5 + 1)
def wbX12_fieldOf_61 (post : tq_St → Int32 → Prop) : Nat → tq_St → Int32 → Int32 → Int32 → Prop
  | 0, _, _, _, _ => False
  | n + 1, M, x1, x4, x5 =>
    ((M 64 0 21) ≤ x5 → (post M x4)) ∧ (¬ (M 64 0 21) ≤ x5 → (vp_in x5 8 ∧ ((¬ (M 124 0 x5.toNatClampNeg) = x1 → (wbX12_fieldOf_88 post  (wbX12_fieldOf_61 post n) M x1 x5 0 x4)) ∧ ((M 124 0 x5.toNatClampNeg) = x1 → (wbX12_fieldOf_88 post  (wbX12_fieldOf_61 post n) M x1 x5 1 x4)))))
def wpX12_fieldOf (post : tq_St → Int32 → Prop) (M : tq_St) (p0 : Int32) (p1 : Int32) (p2 : Int32) : Prop :=
  (p1 = 0 → (wpX12_priceOf (fun M2 r3 => post M2 r3) M p0 p2)) ∧ (¬ p1 = 0 → ((p1 = 1 → (vp_in p0 5 ∧ (vp_in p2 4 ∧ (post M (M 102 p0.toNatClampNeg p2.toNatClampNeg))))) ∧ (¬ p1 = 1 → ((p1 = 2 → (vp_in p0 5 ∧ (post M (M 101 0 p0.toNatClampNeg)))) ∧ (¬ p1 = 2 → ((p1 = 3 → (∃ nq, wbX12_fieldOf_61 post nq M p0 0 0)) ∧ (¬ p1 = 3 → (post M ((M 64 0 0) - (M 64 0 0) / 360 * 360)))))))))
set_option maxHeartbeats 4000000 in
set_option maxRecDepth 100000 in
theorem bX12_fieldOf_88 {p : Program} {e : Env} {s : State} {m : MethodId} {args : Array Value} {below : List Frame} {meth : Method} {c : Code} {post : tq_St → Int32 → Prop} (C : tq_At p s m meth c args cX12_fieldOf 6 ((some .int)) ((tq_ws yX12_fieldOf cX12_fieldOf 6 (some .int))) RX12 D cy z ad) {L61 : tq_St → Int32 → Int32 → Int32 → Prop} (hL61 : ∀ (M : tq_St) (x1 : Int32) (x4 : Int32) (x5 : Int32) (H : Heap) (locs : List Loc) (ls : Array Slot), L61 M x1 x4 x5 → tq_wd D cy z H0 ad N (tq_mix S M) H → va_S (fun q => z ≤ q) s.heap H locs → lv_has ls 6 [(0, .ref (ad 64 0)), (1, .int x1), (4, .int x4), (5, .int x5)] → W p l e (tq_rm 1 22) s m args below meth c H locs 0 0 (MQ below (va_Qi (fun r u => post u r) (tq_P D cy z H0 ad N S) (fun q => z ≤ q)) args s 0 0 (fun q => z ≤ q)) (F0 m 61 ls [])) : ∀ (M : tq_St) (x1 : Int32) (x5 : Int32) (y0 : Int32) (y1 : Int32) (H : Heap) (locs : List Loc) (ls : Array Slot), wbX12_fieldOf_88 post  L61 M x1 x5 y0 y1 → tq_wd D cy z H0 ad N (tq_mix S M) H → va_S (fun q => z ≤ q) s.heap H locs → lv_has ls 6 [(0, .ref (ad 64 0)), (1, .int x1), (5, .int x5)] → W p l e (tq_rm 1 22) s m args below meth c H locs 0 0 (MQ below (va_Qi (fun r u => post u r) (tq_P D cy z H0 ad N S) (fun q => z ≤ q)) args s 0 0 (fun q => z ≤ q)) (F0 m 88 ls [.int y0, .int y1]) := by
  obtain ⟨hx, hb, hr, hml, hown, hts, hlocks, hK, hG⟩ := id C
  have hw : ∀ w ∈ tq_W, w.before args s = true := fun w h => hts w (List.mem_cons_of_mem _ h)
  intro M x1 x5 y0 y1 H locs ls h hW hS hl
  unfold wbX12_fieldOf_88 at h
  refine lv_iadd hx hb dX12_fieldOf_88 ?_
  refine lv_istore (lv' := [(4, .int (y1 + y0)), (0, .ref (ad 64 0)), (1, .int x1), (5, .int x5)]) hx hb dX12_fieldOf_89 hl (by decide) rfl (fun ls hl => ?_)
  refine lv_iinc (v := x5 + 1) (lv' := [(5, .int (x5 + 1)), (4, .int (y1 + y0)), (0, .ref (ad 64 0)), (1, .int x1)]) hx hb dX12_fieldOf_91 hl (k := 3) rfl rfl (by decide) rfl (fun ls hl => ?_)
  refine lv_goto (tgt := 61) hx hb dX12_fieldOf_94 (by decide) ?_
  exact hL61 _ _ _ _ _ _ _ h hW hS (lv_sub hl [2, 3, 1, 0] rfl)
set_option maxHeartbeats 4000000 in
set_option maxRecDepth 100000 in
theorem bX12_fieldOf_61 {p : Program} {e : Env} {s : State} {m : MethodId} {args : Array Value} {below : List Frame} {meth : Method} {c : Code} {post : tq_St → Int32 → Prop} (C : tq_At p s m meth c args cX12_fieldOf 6 ((some .int)) ((tq_ws yX12_fieldOf cX12_fieldOf 6 (some .int))) RX12 D cy z ad)  : ∀ n : Nat, ∀ (M : tq_St) (x1 : Int32) (x4 : Int32) (x5 : Int32) (H : Heap) (locs : List Loc) (ls : Array Slot), wbX12_fieldOf_61 post   n M x1 x4 x5 → tq_wd D cy z H0 ad N (tq_mix S M) H → va_S (fun q => z ≤ q) s.heap H locs → lv_has ls 6 [(0, .ref (ad 64 0)), (1, .int x1), (4, .int x4), (5, .int x5)] → W p l e (tq_rm 1 22) s m args below meth c H locs 0 0 (MQ below (va_Qi (fun r u => post u r) (tq_P D cy z H0 ad N S) (fun q => z ≤ q)) args s 0 0 (fun q => z ≤ q)) (F0 m 61 ls []) := by
  obtain ⟨hx, hb, hr, hml, hown, hts, hlocks, hK, hG⟩ := id C
  have hw : ∀ w ∈ tq_W, w.before args s = true := fun w h => hts w (List.mem_cons_of_mem _ h)
  intro n
  induction n with
  | zero =>
    intro M x1 x4 x5 H locs ls h
    exact absurd h (by unfold wbX12_fieldOf_61; exact id)
  | succ n ih =>
    intro M x1 x4 x5 H locs ls h hW hS hl
    unfold wbX12_fieldOf_61 at h
    refine lv_iload hx hb dX12_fieldOf_61 (lv_at hl 3 rfl) ?_
    refine lv_aload_n hx hb dX12_fieldOf_63 rfl (lv_at hl 0 rfl) ?_
    refine tqm_get (v := .int (M 64 0 21)) hx hb hw tq_inX12 hown hK hW (by decide) (tq_mk_64 (by decide)) rfl 21 (by decide) (hw _ tw_1429) (fun _ h9 => h9) rfl dX12_fieldOf_64 ?_
    refine lv_icmp_ge (tgt := 97) hx hb dX12_fieldOf_67 (by decide) (fun c10 => ?_) (fun c10 => ?_)
    · have h := h.1 c10
      refine lv_iload hx hb dX12_fieldOf_97 (lv_at hl 2 rfl) ?_
      exact W.iret (v := x4) hx hb hr (fun t ht hWm => ⟨⟨_, M, rfl, h, tq_pe ht hW⟩, hS.F ht⟩) hS.2.2 dX12_fieldOf_99
    · have h := h.2 c10
      refine lv_iload hx hb dX12_fieldOf_70 (lv_at hl 2 rfl) ?_
      refine lv_aload_n hx hb dX12_fieldOf_72 rfl (lv_at hl 0 rfl) ?_
      refine tqm_get (v := .ref (ad 124 0)) hx hb hw tq_inX12 hown hK hW (by decide) (tq_mk_64 (by decide)) rfl 24 (by decide) (hw _ tw_1432) (fun _ h9 => h9) rfl dX12_fieldOf_73 ?_
      refine lv_iload hx hb dX12_fieldOf_76 (lv_at hl 3 rfl) ?_
      obtain ⟨b11, h⟩ := h
      refine tqm_iald (jn := x5.toNatClampNeg) hx hb hK hW (by decide) (tq_mk_124 (by decide)) b11 rfl dX12_fieldOf_78 ?_
      refine lv_iload_n hx hb dX12_fieldOf_79 rfl (lv_at hl 1 rfl) ?_
      refine lv_icmp_ne (tgt := 87) hx hb dX12_fieldOf_80 (by decide) (fun c12 => ?_) (fun c12 => ?_)
      · have h := h.1 c12
        refine lv_iconst (v := 0) hx hb dX12_fieldOf_87 (by decide) ?_
        exact bX12_fieldOf_88 C (fun M9 a09 a19 a29 H9 q9 ls9 h9 hW9 hS9 hl9 => ih M9 a09 a19 a29 H9 q9 ls9 h9 hW9 hS9 hl9) _ _ _ _ _ _ _ _ h hW hS (lv_sub hl [0, 1, 3] rfl)
      · have h := h.2 c12
        refine lv_iconst (v := 1) hx hb dX12_fieldOf_83 (by decide) ?_
        refine lv_goto (tgt := 88) hx hb dX12_fieldOf_84 (by decide) ?_
        exact bX12_fieldOf_88 C (fun M9 a09 a19 a29 H9 q9 ls9 h9 hW9 hS9 hl9 => ih M9 a09 a19 a29 H9 q9 ls9 h9 hW9 hS9 hl9) _ _ _ _ _ _ _ _ h hW hS (lv_sub hl [0, 1, 3] rfl)
set_option maxHeartbeats 4000000 in
set_option maxRecDepth 100000 in
theorem kX12_fieldOf {post : tq_St → Int32 → Prop} {M : tq_St} {p0 : Int32} {p1 : Int32} {p2 : Int32} (h : wpX12_fieldOf post M p0 p1 p2) : tq_mI l yX12_fieldOf (tq_ws yX12_fieldOf cX12_fieldOf 6 (some .int)) 1 22 D cy z H0 ad N S M [.ref (ad 64 0), .int p0, .int p1, .int p2] post := by
  unfold wpX12_fieldOf at h
  refine Met.ofW (cc := cX12_fieldOf) (maxL := 6) (ret := (some .int)) (by decide) rfl ?_
  intro p e s m args below meth c s₁ B hml hv
  obtain ⟨rfl, hW, hK, hG⟩ := hv
  have hx := B.exec
  have hb := B.bytes
  have hr := B.returns
  have hts := atoms_spec (ws := (tq_ws yX12_fieldOf cX12_fieldOf 6 (some .int))) B.pre
  have hw : ∀ w ∈ tq_W, w.before _ s = true := fun w h => hts w (List.mem_cons_of_mem _ h)
  have hown : s.vm.findClass RX12 = some m.cls := findClass_of_methodNamed B.named
  have hlocks := B.notSynchronized
  have C : tq_At p s m meth c [.ref (ad 64 0), .int p0, .int p1, .int p2].toArray cX12_fieldOf 6 ((some .int)) ((tq_ws yX12_fieldOf cX12_fieldOf 6 (some .int))) RX12 D cy z ad := ⟨hx, hb, hr, hml, hown, hts, hlocks, hK, hG⟩
  have hS : va_S (fun q => z ≤ q) s.heap s.heap [] := va_S.rf
  have hl := lv_entry ([.ref (ad 64 0), .int p0, .int p1, .int p2]) (n := 6) (Nat.le_of_ble_eq_true rfl)
  rw [lg_entry_eq]
  generalize (lg_sl ([.ref (ad 64 0), .int p0, .int p1, .int p2]) ++ List.replicate (6 - (lg_sl ([.ref (ad 64 0), .int p0, .int p1, .int p2])).length) Slot.unset).toArray = ls at hl ⊢
  have hl : lv_has ls 6 [(0, .ref (ad 64 0)), (1, .int p0), (2, .int p1), (3, .int p2)] := hl
  have hW : tq_wd D cy z H0 ad N (tq_mix S M) s.heap := hW
  refine lv_iload_n hx hb dX12_fieldOf_0 rfl (lv_at hl 2 rfl) ?_
  by_cases c1 : p1 = 0
  · have h := h.1 c1
    refine W.eq (g2 := F0 m 1 ls (.int 0 :: [])) (by rw [c1]) ?_
    refine lv_tableIn (tgt := 32) hx hb dX12_fieldOf_1 (by decide) (by decide) rfl (by decide) ?_
    refine lv_aload_n hx hb dX12_fieldOf_32 rfl (lv_at hl 0 rfl) ?_
    refine lv_iload_n hx hb dX12_fieldOf_33 rfl (lv_at hl 1 rfl) ?_
    refine lv_iload_n hx hb dX12_fieldOf_34 rfl (lv_at hl 3 rfl) ?_
    refine tq_callVi (As := [.int p0, .int p2]) (rest := []) (kX12_priceOf h) ⟨hx, hb, hml, hown, hts⟩ (cwV 2 hts (tq_goodV tw_1662 tw_1664 tw_56 tw_125 tw_1665) rfl rfl rfl (by decide +kernel) ⟨Nat.le_of_ble_eq_true rfl, Nat.le_of_ble_eq_true rfl⟩) hK hG hW hS rfl hl.1 rfl (Nat.le_of_ble_eq_true rfl) dX12_fieldOf_35 ⟨Nat.le_of_ble_eq_true rfl, Nat.le_of_ble_eq_true rfl⟩ (fun r3 M2 H locs h hW hS => ?_)
    exact W.iret (v := r3) hx hb hr (fun t ht hWm => ⟨⟨_, M2, rfl, h, tq_pe ht hW⟩, hS.F ht⟩) hS.2.2 dX12_fieldOf_38
  · have h := h.2 c1
    by_cases c4 : p1 = 1
    · have h := h.1 c4
      refine W.eq (g2 := F0 m 1 ls (.int 1 :: [])) (by rw [c4]) ?_
      refine lv_tableIn (tgt := 39) hx hb dX12_fieldOf_1 (by decide) (by decide) rfl (by decide) ?_
      refine lv_aload_n hx hb dX12_fieldOf_39 rfl (lv_at hl 0 rfl) ?_
      refine tqm_get (v := .ref (ad 202 0)) hx hb hw tq_inX12 hown hK hW (by decide) (tq_mk_64 (by decide)) rfl 2 (by decide) (hw _ tw_1410) (fun _ h9 => h9) rfl dX12_fieldOf_40 ?_
      refine lv_iload_n hx hb dX12_fieldOf_43 rfl (lv_at hl 1 rfl) ?_
      obtain ⟨b5, h⟩ := h
      refine tqm_aald (jn := p0.toNatClampNeg) (v := .ref (ad 102 p0.toNatClampNeg)) hx hb hK hW (by decide) (tq_mk_202 (by decide)) 2 rfl rfl b5 rfl rfl dX12_fieldOf_44 ?_
      refine lv_iload_n hx hb dX12_fieldOf_45 rfl (lv_at hl 3 rfl) ?_
      obtain ⟨b6, h⟩ := h
      refine tqm_iald (jn := p2.toNatClampNeg) hx hb hK hW (by decide) (tq_mk_102 (tq_lt b5)) b6 rfl dX12_fieldOf_46 ?_
      exact W.iret (v := M 102 p0.toNatClampNeg p2.toNatClampNeg) hx hb hr (fun t ht hWm => ⟨⟨_, M, rfl, h, tq_pe ht hW⟩, hS.F ht⟩) hS.2.2 dX12_fieldOf_47
    · have h := h.2 c4
      by_cases c7 : p1 = 2
      · have h := h.1 c7
        refine W.eq (g2 := F0 m 1 ls (.int 2 :: [])) (by rw [c7]) ?_
        refine lv_tableIn (tgt := 48) hx hb dX12_fieldOf_1 (by decide) (by decide) rfl (by decide) ?_
        refine lv_aload_n hx hb dX12_fieldOf_48 rfl (lv_at hl 0 rfl) ?_
        refine tqm_get (v := .ref (ad 101 0)) hx hb hw tq_inX12 hown hK hW (by decide) (tq_mk_64 (by decide)) rfl 1 (by decide) (hw _ tw_1409) (fun _ h9 => h9) rfl dX12_fieldOf_49 ?_
        refine lv_iload_n hx hb dX12_fieldOf_52 rfl (lv_at hl 1 rfl) ?_
        obtain ⟨b8, h⟩ := h
        refine tqm_iald (jn := p0.toNatClampNeg) hx hb hK hW (by decide) (tq_mk_101 (by decide)) b8 rfl dX12_fieldOf_53 ?_
        exact W.iret (v := M 101 0 p0.toNatClampNeg) hx hb hr (fun t ht hWm => ⟨⟨_, M, rfl, h, tq_pe ht hW⟩, hS.F ht⟩) hS.2.2 dX12_fieldOf_54
      · have h := h.2 c7
        by_cases c9 : p1 = 3
        · have h := h.1 c9
          refine W.eq (g2 := F0 m 1 ls (.int 3 :: [])) (by rw [c9]) ?_
          refine lv_tableIn (tgt := 55) hx hb dX12_fieldOf_1 (by decide) (by decide) rfl (by decide) ?_
          refine lv_iconst (v := 0) hx hb dX12_fieldOf_55 (by decide) ?_
          refine lv_istore (lv' := [(4, .int 0), (0, .ref (ad 64 0)), (1, .int p0), (2, .int p1), (3, .int p2)]) hx hb dX12_fieldOf_56 hl (by decide) rfl (fun ls hl => ?_)
          refine lv_iconst (v := 0) hx hb dX12_fieldOf_58 (by decide) ?_
          refine lv_istore (lv' := [(5, .int 0), (4, .int 0), (0, .ref (ad 64 0)), (1, .int p0), (2, .int p1), (3, .int p2)]) hx hb dX12_fieldOf_59 hl (by decide) rfl (fun ls hl => ?_)
          obtain ⟨nq, h⟩ := h
          exact bX12_fieldOf_61 C  nq _ _ _ _ _ _ _ h hW hS (lv_sub hl [2, 3, 1, 0] rfl)
        · have h := h.2 c9
          refine lv_tableOut (tgt := 100) hx hb dX12_fieldOf_1 (tq_out4 c1 c4 c7 c9) (by decide) ?_
          refine lv_aload_n hx hb dX12_fieldOf_100 rfl (lv_at hl 0 rfl) ?_
          refine tqm_get (v := .int (M 64 0 0)) hx hb hw tq_inX12 hown hK hW (by decide) (tq_mk_64 (by decide)) rfl 0 (by decide) (hw _ tw_1408) (fun _ h9 => h9) rfl dX12_fieldOf_101 ?_
          refine lv_sipush (v := 360) hx hb dX12_fieldOf_104 (by decide) ?_
          refine lv_irem hx hb dX12_fieldOf_107 (by decide) ?_
          exact W.iret (v := (M 64 0 0) - (M 64 0 0) / 360 * 360) hx hb hr (fun t ht hWm => ⟨⟨_, M, rfl, h, tq_pe ht hW⟩, hS.F ht⟩) hS.2.2 dX12_fieldOf_108
