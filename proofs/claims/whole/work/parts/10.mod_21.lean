variable {l : Launch} {D : va_G} {cy : Nat → ClassId} {z : Nat} {H0 : Heap} {ad : Nat → Nat → Nat} {N : tq_Nn} {S : tq_St}
-- gain
def wbX12_gain_86 (post : tq_St → Int32 → Prop) (L12 : tq_St → Int32 → Int32 → Prop) (M : tq_St) (x2 : Int32) (y0 : Int32) (y1 : Int32) : Prop :=
  L12 M (y1 - y0) (x2 + 1)
def wbX12_gain_85 (post : tq_St → Int32 → Prop) (L12 : tq_St → Int32 → Int32 → Prop) (M : tq_St) (x2 : Int32) (y0 : Int32) : Prop :=
  wbX12_gain_86 post  L12 M x2 0 y0
def wbX12_gain_58 (post : tq_St → Int32 → Prop) (L12 : tq_St → Int32 → Int32 → Prop) (M : tq_St) (x1 : Int32) (x2 : Int32) (x3 : Nat) (y0 : Int32) : Prop :=
  (y0 = 0 → (wbX12_gain_85 post  L12 M x2 x1)) ∧ (¬ y0 = 0 → (x3 < 500 ∧ (wpX12_invoiced (fun M8 r9 => (r9 = 0 → (wbX12_gain_85 post  L12 M8 x2 x1)) ∧ (¬ r9 = 0 → (wbX12_gain_86 post  L12 M8 x2 (M8 144 x3 5) x1))) M (M 144 x3 1) (M 144 x3 0))))
def wbX12_gain_53 (post : tq_St → Int32 → Prop) (L12 : tq_St → Int32 → Int32 → Prop) (M : tq_St) (x1 : Int32) (x2 : Int32) (x3 : Nat) : Prop :=
  wbX12_gain_58 post  L12 M x1 x2 x3 1
def wbX12_gain_12 (post : tq_St → Int32 → Prop) : Nat → tq_St → Int32 → Int32 → Prop
  | 0, _, _, _ => False
  | n + 1, M, x1, x2 =>
    ((if 500 < (M 64 0 43) then 500 else (M 64 0 43)) ≤ x2 → (post M x1)) ∧ (¬ (if 500 < (M 64 0 43) then 500 else (M 64 0 43)) ≤ x2 → (vp_in x2 500 ∧ (((M 144 x2.toNatClampNeg 2) = 0 → (wbX12_gain_53 post  (wbX12_gain_12 post n) M x1 x2 x2.toNatClampNeg)) ∧ (¬ (M 144 x2.toNatClampNeg 2) = 0 → (((M 144 x2.toNatClampNeg 2) = 1 → (wbX12_gain_53 post  (wbX12_gain_12 post n) M x1 x2 x2.toNatClampNeg)) ∧ (¬ (M 144 x2.toNatClampNeg 2) = 1 → ((¬ (M 144 x2.toNatClampNeg 2) = 5 → (wbX12_gain_58 post  (wbX12_gain_12 post n) M x1 x2 x2.toNatClampNeg 0)) ∧ ((M 144 x2.toNatClampNeg 2) = 5 → (wbX12_gain_53 post  (wbX12_gain_12 post n) M x1 x2 x2.toNatClampNeg)))))))))
def wpX12_gain (post : tq_St → Int32 → Prop) (M : tq_St)  : Prop :=
  ∃ nq, wbX12_gain_12 post nq M ((M 64 0 55) - (M 64 0 58)) 0
set_option maxHeartbeats 4000000 in
set_option maxRecDepth 100000 in
theorem bX12_gain_86 {p : Program} {e : Env} {s : State} {m : MethodId} {args : Array Value} {below : List Frame} {meth : Method} {c : Code} {post : tq_St → Int32 → Prop} (C : tq_At p s m meth c args cX12_gain 5 ((some .int)) ((tq_ws yX12_gain cX12_gain 5 (some .int))) RX12 D cy z ad) {L12 : tq_St → Int32 → Int32 → Prop} (hL12 : ∀ (M : tq_St) (x1 : Int32) (x2 : Int32) (H : Heap) (locs : List Loc) (ls : Array Slot), L12 M x1 x2 → tq_wd D cy z H0 ad N (tq_mix S M) H → va_S (fun q => z ≤ q) s.heap H locs → lv_has ls 5 [(0, .ref (ad 64 0)), (1, .int x1), (2, .int x2)] → W p l e (tq_rm 1 23) s m args below meth c H locs 0 0 (MQ below (va_Qi (fun r u => post u r) (tq_P D cy z H0 ad N S) (fun q => z ≤ q)) args s 0 0 (fun q => z ≤ q)) (F0 m 12 ls [])) : ∀ (M : tq_St) (x2 : Int32) (y0 : Int32) (y1 : Int32) (H : Heap) (locs : List Loc) (ls : Array Slot), wbX12_gain_86 post  L12 M x2 y0 y1 → tq_wd D cy z H0 ad N (tq_mix S M) H → va_S (fun q => z ≤ q) s.heap H locs → lv_has ls 5 [(0, .ref (ad 64 0)), (2, .int x2)] → W p l e (tq_rm 1 23) s m args below meth c H locs 0 0 (MQ below (va_Qi (fun r u => post u r) (tq_P D cy z H0 ad N S) (fun q => z ≤ q)) args s 0 0 (fun q => z ≤ q)) (F0 m 86 ls [.int y0, .int y1]) := by
  obtain ⟨hx, hb, hr, hml, hown, hts, hlocks, hK, hG⟩ := id C
  have hw : ∀ w ∈ tq_W, w.before args s = true := fun w h => hts w (List.mem_cons_of_mem _ h)
  intro M x2 y0 y1 H locs ls h hW hS hl
  unfold wbX12_gain_86 at h
  refine lv_isub hx hb dX12_gain_86 ?_
  refine lv_istore_n (lv' := [(1, .int (y1 - y0)), (0, .ref (ad 64 0)), (2, .int x2)]) hx hb dX12_gain_87 rfl hl (by decide) rfl (fun ls hl => ?_)
  refine lv_iinc (v := x2 + 1) (lv' := [(2, .int (x2 + 1)), (1, .int (y1 - y0)), (0, .ref (ad 64 0))]) hx hb dX12_gain_88 hl (k := 2) rfl rfl (by decide) rfl (fun ls hl => ?_)
  refine lv_goto (tgt := 12) hx hb dX12_gain_91 (by decide) ?_
  exact hL12 _ _ _ _ _ _ h hW hS (lv_sub hl [2, 1, 0] rfl)
set_option maxHeartbeats 4000000 in
set_option maxRecDepth 100000 in
theorem bX12_gain_85 {p : Program} {e : Env} {s : State} {m : MethodId} {args : Array Value} {below : List Frame} {meth : Method} {c : Code} {post : tq_St → Int32 → Prop} (C : tq_At p s m meth c args cX12_gain 5 ((some .int)) ((tq_ws yX12_gain cX12_gain 5 (some .int))) RX12 D cy z ad) {L12 : tq_St → Int32 → Int32 → Prop} (hL12 : ∀ (M : tq_St) (x1 : Int32) (x2 : Int32) (H : Heap) (locs : List Loc) (ls : Array Slot), L12 M x1 x2 → tq_wd D cy z H0 ad N (tq_mix S M) H → va_S (fun q => z ≤ q) s.heap H locs → lv_has ls 5 [(0, .ref (ad 64 0)), (1, .int x1), (2, .int x2)] → W p l e (tq_rm 1 23) s m args below meth c H locs 0 0 (MQ below (va_Qi (fun r u => post u r) (tq_P D cy z H0 ad N S) (fun q => z ≤ q)) args s 0 0 (fun q => z ≤ q)) (F0 m 12 ls [])) : ∀ (M : tq_St) (x2 : Int32) (y0 : Int32) (H : Heap) (locs : List Loc) (ls : Array Slot), wbX12_gain_85 post  L12 M x2 y0 → tq_wd D cy z H0 ad N (tq_mix S M) H → va_S (fun q => z ≤ q) s.heap H locs → lv_has ls 5 [(0, .ref (ad 64 0)), (2, .int x2)] → W p l e (tq_rm 1 23) s m args below meth c H locs 0 0 (MQ below (va_Qi (fun r u => post u r) (tq_P D cy z H0 ad N S) (fun q => z ≤ q)) args s 0 0 (fun q => z ≤ q)) (F0 m 85 ls [.int y0]) := by
  obtain ⟨hx, hb, hr, hml, hown, hts, hlocks, hK, hG⟩ := id C
  have hw : ∀ w ∈ tq_W, w.before args s = true := fun w h => hts w (List.mem_cons_of_mem _ h)
  intro M x2 y0 H locs ls h hW hS hl
  unfold wbX12_gain_85 at h
  refine lv_iconst (v := 0) hx hb dX12_gain_85 (by decide) ?_
  exact bX12_gain_86 C (fun M9 a09 a19 H9 q9 ls9 h9 hW9 hS9 hl9 => hL12 M9 a09 a19 H9 q9 ls9 h9 hW9 hS9 hl9) _ _ _ _ _ _ _ h hW hS (lv_sub hl [0, 1] rfl)
set_option maxHeartbeats 4000000 in
set_option maxRecDepth 100000 in
theorem bX12_gain_58 {p : Program} {e : Env} {s : State} {m : MethodId} {args : Array Value} {below : List Frame} {meth : Method} {c : Code} {post : tq_St → Int32 → Prop} (C : tq_At p s m meth c args cX12_gain 5 ((some .int)) ((tq_ws yX12_gain cX12_gain 5 (some .int))) RX12 D cy z ad) {L12 : tq_St → Int32 → Int32 → Prop} (hL12 : ∀ (M : tq_St) (x1 : Int32) (x2 : Int32) (H : Heap) (locs : List Loc) (ls : Array Slot), L12 M x1 x2 → tq_wd D cy z H0 ad N (tq_mix S M) H → va_S (fun q => z ≤ q) s.heap H locs → lv_has ls 5 [(0, .ref (ad 64 0)), (1, .int x1), (2, .int x2)] → W p l e (tq_rm 1 23) s m args below meth c H locs 0 0 (MQ below (va_Qi (fun r u => post u r) (tq_P D cy z H0 ad N S) (fun q => z ≤ q)) args s 0 0 (fun q => z ≤ q)) (F0 m 12 ls [])) : ∀ (M : tq_St) (x1 : Int32) (x2 : Int32) (x3 : Nat) (y0 : Int32) (H : Heap) (locs : List Loc) (ls : Array Slot), wbX12_gain_58 post  L12 M x1 x2 x3 y0 → tq_wd D cy z H0 ad N (tq_mix S M) H → va_S (fun q => z ≤ q) s.heap H locs → lv_has ls 5 [(0, .ref (ad 64 0)), (1, .int x1), (2, .int x2), (3, .ref (ad 144 x3))] → W p l e (tq_rm 1 23) s m args below meth c H locs 0 0 (MQ below (va_Qi (fun r u => post u r) (tq_P D cy z H0 ad N S) (fun q => z ≤ q)) args s 0 0 (fun q => z ≤ q)) (F0 m 58 ls [.int y0]) := by
  obtain ⟨hx, hb, hr, hml, hown, hts, hlocks, hK, hG⟩ := id C
  have hw : ∀ w ∈ tq_W, w.before args s = true := fun w h => hts w (List.mem_cons_of_mem _ h)
  intro M x1 x2 x3 y0 H locs ls h hW hS hl
  unfold wbX12_gain_58 at h
  refine lv_istore (lv' := [(4, .int y0), (0, .ref (ad 64 0)), (1, .int x1), (2, .int x2), (3, .ref (ad 144 x3))]) hx hb dX12_gain_58 hl (by decide) rfl (fun ls hl => ?_)
  refine lv_iload_n hx hb dX12_gain_60 rfl (lv_at hl 2 rfl) ?_
  refine lv_iload hx hb dX12_gain_61 (lv_at hl 0 rfl) ?_
  refine lv_if_eq (tgt := 85) hx hb dX12_gain_63 (by decide) (fun c6 => ?_) (fun c6 => ?_)
  · have h := h.1 c6
    exact bX12_gain_85 C (fun M9 a09 a19 H9 q9 ls9 h9 hW9 hS9 hl9 => hL12 M9 a09 a19 H9 q9 ls9 h9 hW9 hS9 hl9) _ _ _ _ _ _ h hW hS (lv_sub hl [1, 3] rfl)
  · have h := h.2 c6
    refine lv_aload_n hx hb dX12_gain_66 rfl (lv_at hl 1 rfl) ?_
    refine lv_aload_n hx hb dX12_gain_67 rfl (lv_at hl 4 rfl) ?_
    refine lv_iconst (v := 1) hx hb dX12_gain_68 (by decide) ?_
    obtain ⟨b7, h⟩ := h
    refine tqm_iald (jn := 1) hx hb hK hW (by decide) (tq_mk_144 b7) (by unfold vp_in; decide) (by decide) dX12_gain_69 ?_
    refine lv_aload_n hx hb dX12_gain_70 rfl (lv_at hl 4 rfl) ?_
    refine lv_iconst (v := 0) hx hb dX12_gain_71 (by decide) ?_
    refine tqm_iald (jn := 0) hx hb hK hW (by decide) (tq_mk_144 b7) (by unfold vp_in; decide) (by decide) dX12_gain_72 ?_
    refine tq_callVi (As := [.int (M 144 x3 1), .int (M 144 x3 0)]) (rest := [.int x1]) (kX12_invoiced h) ⟨hx, hb, hml, hown, hts⟩ (cwV 2 hts (tq_goodV tw_2058 tw_2060 tw_111 tw_125 tw_2061) rfl rfl rfl (by decide +kernel) ⟨Nat.le_of_ble_eq_true rfl, Nat.le_of_ble_eq_true rfl⟩) hK hG hW hS rfl hl.1 rfl (Nat.le_of_ble_eq_true rfl) dX12_gain_73 ⟨Nat.le_of_ble_eq_true rfl, Nat.le_of_ble_eq_true rfl⟩ (fun r9 M8 H locs h hW hS => ?_)
    refine lv_if_eq (tgt := 85) hx hb dX12_gain_76 (by decide) (fun c10 => ?_) (fun c10 => ?_)
    · have h := h.1 c10
      exact bX12_gain_85 C (fun M9 a09 a19 H9 q9 ls9 h9 hW9 hS9 hl9 => hL12 M9 a09 a19 H9 q9 ls9 h9 hW9 hS9 hl9) _ _ _ _ _ _ h hW hS (lv_sub hl [1, 3] rfl)
    · have h := h.2 c10
      refine lv_aload_n hx hb dX12_gain_79 rfl (lv_at hl 4 rfl) ?_
      refine lv_iconst (v := 5) hx hb dX12_gain_80 (by decide) ?_
      refine tqm_iald (jn := 5) hx hb hK hW (by decide) (tq_mk_144 b7) (by unfold vp_in; decide) (by decide) dX12_gain_81 ?_
      refine lv_goto (tgt := 86) hx hb dX12_gain_82 (by decide) ?_
      exact bX12_gain_86 C (fun M9 a09 a19 H9 q9 ls9 h9 hW9 hS9 hl9 => hL12 M9 a09 a19 H9 q9 ls9 h9 hW9 hS9 hl9) _ _ _ _ _ _ _ h hW hS (lv_sub hl [1, 3] rfl)
set_option maxHeartbeats 4000000 in
set_option maxRecDepth 100000 in
theorem bX12_gain_53 {p : Program} {e : Env} {s : State} {m : MethodId} {args : Array Value} {below : List Frame} {meth : Method} {c : Code} {post : tq_St → Int32 → Prop} (C : tq_At p s m meth c args cX12_gain 5 ((some .int)) ((tq_ws yX12_gain cX12_gain 5 (some .int))) RX12 D cy z ad) {L12 : tq_St → Int32 → Int32 → Prop} (hL12 : ∀ (M : tq_St) (x1 : Int32) (x2 : Int32) (H : Heap) (locs : List Loc) (ls : Array Slot), L12 M x1 x2 → tq_wd D cy z H0 ad N (tq_mix S M) H → va_S (fun q => z ≤ q) s.heap H locs → lv_has ls 5 [(0, .ref (ad 64 0)), (1, .int x1), (2, .int x2)] → W p l e (tq_rm 1 23) s m args below meth c H locs 0 0 (MQ below (va_Qi (fun r u => post u r) (tq_P D cy z H0 ad N S) (fun q => z ≤ q)) args s 0 0 (fun q => z ≤ q)) (F0 m 12 ls [])) : ∀ (M : tq_St) (x1 : Int32) (x2 : Int32) (x3 : Nat) (H : Heap) (locs : List Loc) (ls : Array Slot), wbX12_gain_53 post  L12 M x1 x2 x3 → tq_wd D cy z H0 ad N (tq_mix S M) H → va_S (fun q => z ≤ q) s.heap H locs → lv_has ls 5 [(0, .ref (ad 64 0)), (1, .int x1), (2, .int x2), (3, .ref (ad 144 x3))] → W p l e (tq_rm 1 23) s m args below meth c H locs 0 0 (MQ below (va_Qi (fun r u => post u r) (tq_P D cy z H0 ad N S) (fun q => z ≤ q)) args s 0 0 (fun q => z ≤ q)) (F0 m 53 ls []) := by
  obtain ⟨hx, hb, hr, hml, hown, hts, hlocks, hK, hG⟩ := id C
  have hw : ∀ w ∈ tq_W, w.before args s = true := fun w h => hts w (List.mem_cons_of_mem _ h)
  intro M x1 x2 x3 H locs ls h hW hS hl
  unfold wbX12_gain_53 at h
  refine lv_iconst (v := 1) hx hb dX12_gain_53 (by decide) ?_
  refine lv_goto (tgt := 58) hx hb dX12_gain_54 (by decide) ?_
  exact bX12_gain_58 C (fun M9 a09 a19 H9 q9 ls9 h9 hW9 hS9 hl9 => hL12 M9 a09 a19 H9 q9 ls9 h9 hW9 hS9 hl9) _ _ _ _ _ _ _ _ h hW hS (lv_sub hl [0, 1, 2, 3] rfl)
set_option maxHeartbeats 4000000 in
set_option maxRecDepth 100000 in
theorem bX12_gain_12 {p : Program} {e : Env} {s : State} {m : MethodId} {args : Array Value} {below : List Frame} {meth : Method} {c : Code} {post : tq_St → Int32 → Prop} (C : tq_At p s m meth c args cX12_gain 5 ((some .int)) ((tq_ws yX12_gain cX12_gain 5 (some .int))) RX12 D cy z ad)  : ∀ n : Nat, ∀ (M : tq_St) (x1 : Int32) (x2 : Int32) (H : Heap) (locs : List Loc) (ls : Array Slot), wbX12_gain_12 post   n M x1 x2 → tq_wd D cy z H0 ad N (tq_mix S M) H → va_S (fun q => z ≤ q) s.heap H locs → lv_has ls 5 [(0, .ref (ad 64 0)), (1, .int x1), (2, .int x2)] → W p l e (tq_rm 1 23) s m args below meth c H locs 0 0 (MQ below (va_Qi (fun r u => post u r) (tq_P D cy z H0 ad N S) (fun q => z ≤ q)) args s 0 0 (fun q => z ≤ q)) (F0 m 12 ls []) := by
  obtain ⟨hx, hb, hr, hml, hown, hts, hlocks, hK, hG⟩ := id C
  have hw : ∀ w ∈ tq_W, w.before args s = true := fun w h => hts w (List.mem_cons_of_mem _ h)
  intro n
  induction n with
  | zero =>
    intro M x1 x2 H locs ls h
    exact absurd h (by unfold wbX12_gain_12; exact id)
  | succ n ih =>
    intro M x1 x2 H locs ls h hW hS hl
    unfold wbX12_gain_12 at h
    refine lv_iload_n hx hb dX12_gain_12 rfl (lv_at hl 2 rfl) ?_
    refine lv_aload_n hx hb dX12_gain_13 rfl (lv_at hl 0 rfl) ?_
    refine tqm_get (v := .int (M 64 0 43)) hx hb hw tq_inX12 hown hK hW (by decide) (tq_mk_64 (by decide)) rfl 43 (by decide) (hw _ tw_1451) (fun _ h9 => h9) rfl dX12_gain_14 ?_
    refine lv_sipush (v := 500) hx hb dX12_gain_17 (by decide) ?_
    refine va_mmin hx hb (hml.trans hl.1.symm) hown (hw _ tw_1981) (hw _ tw_797) (hw _ tw_132) (hw _ tw_798) (Nat.le_of_ble_eq_true rfl) (Nat.le_of_ble_eq_true rfl) (Nat.zero_le _) (Nat.zero_le _) dX12_gain_20 ?_
    refine lv_icmp_ge (tgt := 94) hx hb dX12_gain_23 (by decide) (fun c1 => ?_) (fun c1 => ?_)
    · have h := h.1 c1
      refine lv_iload_n hx hb dX12_gain_94 rfl (lv_at hl 1 rfl) ?_
      exact W.iret (v := x1) hx hb hr (fun t ht hWm => ⟨⟨_, M, rfl, h, tq_pe ht hW⟩, hS.F ht⟩) hS.2.2 dX12_gain_95
    · have h := h.2 c1
      refine lv_aload_n hx hb dX12_gain_26 rfl (lv_at hl 0 rfl) ?_
      refine tqm_get (v := .ref (ad 244 0)) hx hb hw tq_inX12 hown hK hW (by decide) (tq_mk_64 (by decide)) rfl 44 (by decide) (hw _ tw_1452) (fun _ h9 => h9) rfl dX12_gain_27 ?_
      refine lv_iload_n hx hb dX12_gain_30 rfl (lv_at hl 2 rfl) ?_
      obtain ⟨b2, h⟩ := h
      refine tqm_aald (jn := x2.toNatClampNeg) (v := .ref (ad 144 x2.toNatClampNeg)) hx hb hK hW (by decide) (tq_mk_244 (by decide)) 2 rfl rfl b2 rfl rfl dX12_gain_31 ?_
      refine lv_astore_n (lv' := [(3, .ref (ad 144 x2.toNatClampNeg)), (0, .ref (ad 64 0)), (1, .int x1), (2, .int x2)]) hx hb dX12_gain_32 rfl hl (by decide) rfl (fun ls hl => ?_)
      refine lv_aload_n hx hb dX12_gain_33 rfl (lv_at hl 0 rfl) ?_
      refine lv_iconst (v := 2) hx hb dX12_gain_34 (by decide) ?_
      refine tqm_iald (jn := 2) hx hb hK hW (by decide) (tq_mk_144 (tq_lt b2)) (by unfold vp_in; decide) (by decide) dX12_gain_35 ?_
      refine lv_if_eq (tgt := 53) hx hb dX12_gain_36 (by decide) (fun c3 => ?_) (fun c3 => ?_)
      · have h := h.1 c3
        exact bX12_gain_53 C (fun M9 a09 a19 H9 q9 ls9 h9 hW9 hS9 hl9 => ih M9 a09 a19 H9 q9 ls9 h9 hW9 hS9 hl9) _ _ _ _ _ _ _ h hW hS (lv_sub hl [1, 2, 3, 0] rfl)
      · have h := h.2 c3
        refine lv_aload_n hx hb dX12_gain_39 rfl (lv_at hl 0 rfl) ?_
        refine lv_iconst (v := 2) hx hb dX12_gain_40 (by decide) ?_
        refine tqm_iald (jn := 2) hx hb hK hW (by decide) (tq_mk_144 (tq_lt b2)) (by unfold vp_in; decide) (by decide) dX12_gain_41 ?_
        refine lv_iconst (v := 1) hx hb dX12_gain_42 (by decide) ?_
        refine lv_icmp_eq (tgt := 53) hx hb dX12_gain_43 (by decide) (fun c4 => ?_) (fun c4 => ?_)
        · have h := h.1 c4
          exact bX12_gain_53 C (fun M9 a09 a19 H9 q9 ls9 h9 hW9 hS9 hl9 => ih M9 a09 a19 H9 q9 ls9 h9 hW9 hS9 hl9) _ _ _ _ _ _ _ h hW hS (lv_sub hl [1, 2, 3, 0] rfl)
        · have h := h.2 c4
          refine lv_aload_n hx hb dX12_gain_46 rfl (lv_at hl 0 rfl) ?_
          refine lv_iconst (v := 2) hx hb dX12_gain_47 (by decide) ?_
          refine tqm_iald (jn := 2) hx hb hK hW (by decide) (tq_mk_144 (tq_lt b2)) (by unfold vp_in; decide) (by decide) dX12_gain_48 ?_
          refine lv_iconst (v := 5) hx hb dX12_gain_49 (by decide) ?_
          refine lv_icmp_ne (tgt := 57) hx hb dX12_gain_50 (by decide) (fun c5 => ?_) (fun c5 => ?_)
          · have h := h.1 c5
            refine lv_iconst (v := 0) hx hb dX12_gain_57 (by decide) ?_
            exact bX12_gain_58 C (fun M9 a09 a19 H9 q9 ls9 h9 hW9 hS9 hl9 => ih M9 a09 a19 H9 q9 ls9 h9 hW9 hS9 hl9) _ _ _ _ _ _ _ _ h hW hS (lv_sub hl [1, 2, 3, 0] rfl)
          · have h := h.2 c5
            exact bX12_gain_53 C (fun M9 a09 a19 H9 q9 ls9 h9 hW9 hS9 hl9 => ih M9 a09 a19 H9 q9 ls9 h9 hW9 hS9 hl9) _ _ _ _ _ _ _ h hW hS (lv_sub hl [1, 2, 3, 0] rfl)
set_option maxHeartbeats 4000000 in
set_option maxRecDepth 100000 in
theorem kX12_gain {post : tq_St → Int32 → Prop} {M : tq_St}  (h : wpX12_gain post M ) : tq_mI l yX12_gain (tq_ws yX12_gain cX12_gain 5 (some .int)) 1 23 D cy z H0 ad N S M [.ref (ad 64 0)] post := by
  unfold wpX12_gain at h
  refine Met.ofW (cc := cX12_gain) (maxL := 5) (ret := (some .int)) (by decide) rfl ?_
  intro p e s m args below meth c s₁ B hml hv
  obtain ⟨rfl, hW, hK, hG⟩ := hv
  have hx := B.exec
  have hb := B.bytes
  have hr := B.returns
  have hts := atoms_spec (ws := (tq_ws yX12_gain cX12_gain 5 (some .int))) B.pre
  have hw : ∀ w ∈ tq_W, w.before _ s = true := fun w h => hts w (List.mem_cons_of_mem _ h)
  have hown : s.vm.findClass RX12 = some m.cls := findClass_of_methodNamed B.named
  have hlocks := B.notSynchronized
  have C : tq_At p s m meth c [.ref (ad 64 0)].toArray cX12_gain 5 ((some .int)) ((tq_ws yX12_gain cX12_gain 5 (some .int))) RX12 D cy z ad := ⟨hx, hb, hr, hml, hown, hts, hlocks, hK, hG⟩
  have hS : va_S (fun q => z ≤ q) s.heap s.heap [] := va_S.rf
  have hl := lv_entry ([.ref (ad 64 0)]) (n := 5) (Nat.le_of_ble_eq_true rfl)
  rw [lg_entry_eq]
  generalize (lg_sl ([.ref (ad 64 0)]) ++ List.replicate (5 - (lg_sl ([.ref (ad 64 0)])).length) Slot.unset).toArray = ls at hl ⊢
  have hl : lv_has ls 5 [(0, .ref (ad 64 0))] := hl
  have hW : tq_wd D cy z H0 ad N (tq_mix S M) s.heap := hW
  refine lv_aload_n hx hb dX12_gain_0 rfl (lv_at hl 0 rfl) ?_
  refine tqm_get (v := .int (M 64 0 55)) hx hb hw tq_inX12 hown hK hW (by decide) (tq_mk_64 (by decide)) rfl 55 (by decide) (hw _ tw_1463) (fun _ h9 => h9) rfl dX12_gain_1 ?_
  refine lv_aload_n hx hb dX12_gain_4 rfl (lv_at hl 0 rfl) ?_
  refine tqm_get (v := .int (M 64 0 58)) hx hb hw tq_inX12 hown hK hW (by decide) (tq_mk_64 (by decide)) rfl 58 (by decide) (hw _ tw_1466) (fun _ h9 => h9) rfl dX12_gain_5 ?_
  refine lv_isub hx hb dX12_gain_8 ?_
  refine lv_istore_n (lv' := [(1, .int ((M 64 0 55) - (M 64 0 58))), (0, .ref (ad 64 0))]) hx hb dX12_gain_9 rfl hl (by decide) rfl (fun ls hl => ?_)
  refine lv_iconst (v := 0) hx hb dX12_gain_10 (by decide) ?_
  refine lv_istore_n (lv' := [(2, .int 0), (1, .int ((M 64 0 55) - (M 64 0 58))), (0, .ref (ad 64 0))]) hx hb dX12_gain_11 rfl hl (by decide) rfl (fun ls hl => ?_)
  obtain ⟨nq, h⟩ := h
  exact bX12_gain_12 C  nq _ _ _ _ _ _ h hW hS (lv_sub hl [2, 1, 0] rfl)
-- divide
def wbX12_divide_22 (post : tq_St → Int32 → Prop)  (M : tq_St) : Prop :=
  post M ((-2))
def wbX12_divide_29 (post : tq_St → Int32 → Prop) : Nat → tq_St → Int32 → Int32 → Int32 → Prop
  | 0, _, _, _, _ => False
  | n + 1, M, x1, x2, x3 =>
    (8 ≤ x3 → (∀ M7, M7 = tq_up M 101 0 0 ((M 101 0 0) - x2) → (∀ M8, M8 = tq_up M7 64 0 58 ((M7 64 0 58) + x2) → (post M8 x2)))) ∧ (¬ 8 ≤ x3 → (vp_in x3 8 ∧ (∀ M10, M10 = tq_up M 157 0 x3.toNatClampNeg ((M 157 0 x3.toNatClampNeg) + (((x1.toInt64 * ((M 156 0 x3.toNatClampNeg).toInt64)) / ((800))).toInt32)) → ((wbX12_divide_29 post n) M10 x1 (x2 + (((x1.toInt64 * ((M 156 0 x3.toNatClampNeg).toInt64)) / ((800))).toInt32)) (x3 + 1)))))
def wpX12_divide (post : tq_St → Int32 → Prop) (M : tq_St) (p0 : Int32) : Prop :=
  (p0 < 0 → (wbX12_divide_22 post M )) ∧ (¬ p0 < 0 → (wpX12_gain (fun M2 r3 => (r3 < p0 → (wbX12_divide_22 post M2 )) ∧ (¬ r3 < p0 → ((p0 ≤ (M2 101 0 0) → (∃ nq, wbX12_divide_29 post nq M2 p0 0 0)) ∧ (¬ p0 ≤ (M2 101 0 0) → (wbX12_divide_22 post M2 ))))) M ))
set_option maxHeartbeats 4000000 in
set_option maxRecDepth 100000 in
theorem bX12_divide_22 {p : Program} {e : Env} {s : State} {m : MethodId} {args : Array Value} {below : List Frame} {meth : Method} {c : Code} {post : tq_St → Int32 → Prop} (C : tq_At p s m meth c args cX12_divide 5 ((some .int)) ((tq_ws yX12_divide cX12_divide 5 (some .int))) RX12 D cy z ad)  : ∀ (M : tq_St)  (H : Heap) (locs : List Loc) (ls : Array Slot), wbX12_divide_22 post   M  → tq_wd D cy z H0 ad N (tq_mix S M) H → va_S (fun q => z ≤ q) s.heap H locs → lv_has ls 5 [] → W p l e (tq_rm 2 47) s m args below meth c H locs 0 0 (MQ below (va_Qi (fun r u => post u r) (tq_P D cy z H0 ad N S) (fun q => z ≤ q)) args s 0 0 (fun q => z ≤ q)) (F0 m 22 ls []) := by
  obtain ⟨hx, hb, hr, hml, hown, hts, hlocks, hK, hG⟩ := id C
  have hw : ∀ w ∈ tq_W, w.before args s = true := fun w h => hts w (List.mem_cons_of_mem _ h)
  intro M  H locs ls h hW hS hl
  unfold wbX12_divide_22 at h
  refine lv_bipush (v := (-2)) hx hb dX12_divide_22 (by decide) ?_
  exact W.iret (v := (-2)) hx hb hr (fun t ht hWm => ⟨⟨_, M, rfl, h, tq_pe ht hW⟩, hS.F ht⟩) hS.2.2 dX12_divide_24
set_option maxHeartbeats 4000000 in
set_option maxRecDepth 100000 in
theorem bX12_divide_29 {p : Program} {e : Env} {s : State} {m : MethodId} {args : Array Value} {below : List Frame} {meth : Method} {c : Code} {post : tq_St → Int32 → Prop} (C : tq_At p s m meth c args cX12_divide 5 ((some .int)) ((tq_ws yX12_divide cX12_divide 5 (some .int))) RX12 D cy z ad)  : ∀ n : Nat, ∀ (M : tq_St) (x1 : Int32) (x2 : Int32) (x3 : Int32) (H : Heap) (locs : List Loc) (ls : Array Slot), wbX12_divide_29 post   n M x1 x2 x3 → tq_wd D cy z H0 ad N (tq_mix S M) H → va_S (fun q => z ≤ q) s.heap H locs → lv_has ls 5 [(0, .ref (ad 64 0)), (1, .int x1), (2, .int x2), (3, .int x3)] → W p l e (tq_rm 2 47) s m args below meth c H locs 0 0 (MQ below (va_Qi (fun r u => post u r) (tq_P D cy z H0 ad N S) (fun q => z ≤ q)) args s 0 0 (fun q => z ≤ q)) (F0 m 29 ls []) := by
  obtain ⟨hx, hb, hr, hml, hown, hts, hlocks, hK, hG⟩ := id C
  have hw : ∀ w ∈ tq_W, w.before args s = true := fun w h => hts w (List.mem_cons_of_mem _ h)
  intro n
  induction n with
  | zero =>
    intro M x1 x2 x3 H locs ls h
    exact absurd h (by unfold wbX12_divide_29; exact id)
  | succ n ih =>
    intro M x1 x2 x3 H locs ls h hW hS hl
    unfold wbX12_divide_29 at h
    refine lv_iload_n hx hb dX12_divide_29 rfl (lv_at hl 3 rfl) ?_
    refine lv_bipush (v := 8) hx hb dX12_divide_30 (by decide) ?_
    refine lv_icmp_ge (tgt := 74) hx hb dX12_divide_32 (by decide) (fun c6 => ?_) (fun c6 => ?_)
    · have h := h.1 c6
      refine lv_aload_n hx hb dX12_divide_74 rfl (lv_at hl 0 rfl) ?_
      refine tqm_get (v := .ref (ad 101 0)) hx hb hw tq_inX12 hown hK hW (by decide) (tq_mk_64 (by decide)) rfl 1 (by decide) (hw _ tw_1409) (fun _ h9 => h9) rfl dX12_divide_75 ?_
      refine lv_iconst (v := 0) hx hb dX12_divide_78 (by decide) ?_
      refine lv_dup2_11 hx hb dX12_divide_79 rfl rfl ?_
      refine tqm_iald (jn := 0) hx hb hK hW (by decide) (tq_mk_101 (by decide)) (by unfold vp_in; decide) (by decide) dX12_divide_80 ?_
      refine lv_iload_n hx hb dX12_divide_81 rfl (lv_at hl 2 rfl) ?_
      refine lv_isub hx hb dX12_divide_82 ?_
      refine tqm_iast (jn := 0) hx hb hK hW hS (by decide) (tq_mk_101 (by decide)) (by unfold vp_in; decide) (by decide) (tq_mk_101 (by decide)) dX12_divide_83 (fun H locs hW hS => ?_)
      generalize eM7 : tq_up M 101 0 0 ((M 101 0 0) - x2) = M7 at hW
      have h := h M7 eM7.symm
      refine lv_aload_n hx hb dX12_divide_84 rfl (lv_at hl 0 rfl) ?_
      refine lv_dup hx hb dX12_divide_85 rfl ?_
      refine tqm_get (v := .int (M7 64 0 58)) hx hb hw tq_inX12 hown hK hW (by decide) (tq_mk_64 (by decide)) rfl 58 (by decide) (hw _ tw_1466) (fun _ h9 => h9) rfl dX12_divide_86 ?_
      refine lv_iload_n hx hb dX12_divide_89 rfl (lv_at hl 2 rfl) ?_
      refine lv_iadd hx hb dX12_divide_90 ?_
      refine tqm_put hx hb hw tq_inX12 tyX12 tyX12_ok nmX12 hown hK hW hS (by decide) (tq_mk_64 (by decide)) rfl 58 (by decide) (hw _ tw_1466) (fun _ h9 => h9) rfl rfl rfl rfl (tq_mk_64 (by decide)) dX12_divide_91 (fun H locs hW hS => ?_)
      generalize eM8 : tq_up M7 64 0 58 ((M7 64 0 58) + x2) = M8 at hW
      have h := h M8 eM8.symm
      refine lv_iload_n hx hb dX12_divide_94 rfl (lv_at hl 2 rfl) ?_
      exact W.iret (v := x2) hx hb hr (fun t ht hWm => ⟨⟨_, M8, rfl, h, tq_pe ht hW⟩, hS.F ht⟩) hS.2.2 dX12_divide_95
    · have h := h.2 c6
      refine lv_iload_n hx hb dX12_divide_35 rfl (lv_at hl 1 rfl) ?_
      refine lv_i2l (v := x1.toInt64) hx hb dX12_divide_36 rfl ?_
      refine lv_aload_n hx hb dX12_divide_37 rfl (lv_at hl 0 rfl) ?_
      refine tqm_get (v := .ref (ad 156 0)) hx hb hw tq_inX12 hown hK hW (by decide) (tq_mk_64 (by decide)) rfl 56 (by decide) (hw _ tw_1464) (fun _ h9 => h9) rfl dX12_divide_38 ?_
      refine lv_iload_n hx hb dX12_divide_41 rfl (lv_at hl 3 rfl) ?_
      obtain ⟨b9, h⟩ := h
      refine tqm_iald (jn := x3.toNatClampNeg) hx hb hK hW (by decide) (tq_mk_156 (by decide)) b9 rfl dX12_divide_42 ?_
      refine lv_i2l (v := (M 156 0 x3.toNatClampNeg).toInt64) hx hb dX12_divide_43 rfl ?_
      refine lv_lmul hx hb dX12_divide_44 ?_
      refine lv_ldc2 hx hb hown (hw _ tw_2067) dX12_divide_45 ?_
      refine lv_ldiv hx hb dX12_divide_48 (by decide) ?_
      refine lv_l2i (v := ((x1.toInt64 * ((M 156 0 x3.toNatClampNeg).toInt64)) / ((800))).toInt32) hx hb dX12_divide_49 rfl ?_
      refine lv_istore (lv' := [(4, .int (((x1.toInt64 * ((M 156 0 x3.toNatClampNeg).toInt64)) / ((800))).toInt32)), (0, .ref (ad 64 0)), (1, .int x1), (2, .int x2), (3, .int x3)]) hx hb dX12_divide_50 hl (by decide) rfl (fun ls hl => ?_)
      refine lv_aload_n hx hb dX12_divide_52 rfl (lv_at hl 1 rfl) ?_
      refine tqm_get (v := .ref (ad 157 0)) hx hb hw tq_inX12 hown hK hW (by decide) (tq_mk_64 (by decide)) rfl 57 (by decide) (hw _ tw_1465) (fun _ h9 => h9) rfl dX12_divide_53 ?_
      refine lv_iload_n hx hb dX12_divide_56 rfl (lv_at hl 4 rfl) ?_
      refine lv_dup2_11 hx hb dX12_divide_57 rfl rfl ?_
      refine tqm_iald (jn := x3.toNatClampNeg) hx hb hK hW (by decide) (tq_mk_157 (by decide)) b9 rfl dX12_divide_58 ?_
      refine lv_iload hx hb dX12_divide_59 (lv_at hl 0 rfl) ?_
      refine lv_iadd hx hb dX12_divide_61 ?_
      refine tqm_iast (jn := x3.toNatClampNeg) hx hb hK hW hS (by decide) (tq_mk_157 (by decide)) b9 rfl (tq_mk_157 (by decide)) dX12_divide_62 (fun H locs hW hS => ?_)
      generalize eM10 : tq_up M 157 0 x3.toNatClampNeg ((M 157 0 x3.toNatClampNeg) + (((x1.toInt64 * ((M 156 0 x3.toNatClampNeg).toInt64)) / ((800))).toInt32)) = M10 at hW
      have h := h M10 eM10.symm
      refine lv_iload_n hx hb dX12_divide_63 rfl (lv_at hl 3 rfl) ?_
      refine lv_iload hx hb dX12_divide_64 (lv_at hl 0 rfl) ?_
      refine lv_iadd hx hb dX12_divide_66 ?_
      refine lv_istore_n (lv' := [(2, .int (x2 + (((x1.toInt64 * ((M 156 0 x3.toNatClampNeg).toInt64)) / ((800))).toInt32))), (4, .int (((x1.toInt64 * ((M 156 0 x3.toNatClampNeg).toInt64)) / ((800))).toInt32)), (0, .ref (ad 64 0)), (1, .int x1), (3, .int x3)]) hx hb dX12_divide_67 rfl hl (by decide) rfl (fun ls hl => ?_)
      refine lv_iinc (v := x3 + 1) (lv' := [(3, .int (x3 + 1)), (2, .int (x2 + (((x1.toInt64 * ((M 156 0 x3.toNatClampNeg).toInt64)) / ((800))).toInt32))), (4, .int (((x1.toInt64 * ((M 156 0 x3.toNatClampNeg).toInt64)) / ((800))).toInt32)), (0, .ref (ad 64 0)), (1, .int x1)]) hx hb dX12_divide_68 hl (k := 4) rfl rfl (by decide) rfl (fun ls hl => ?_)
      refine lv_goto (tgt := 29) hx hb dX12_divide_71 (by decide) ?_
      exact ih _ _ _ _ _ _ _ h hW hS (lv_sub hl [3, 4, 1, 0] rfl)
set_option maxHeartbeats 4000000 in
set_option maxRecDepth 100000 in
theorem kX12_divide {post : tq_St → Int32 → Prop} {M : tq_St} {p0 : Int32} (h : wpX12_divide post M p0) : tq_mI l yX12_divide (tq_ws yX12_divide cX12_divide 5 (some .int)) 2 47 D cy z H0 ad N S M [.ref (ad 64 0), .int p0] post := by
  unfold wpX12_divide at h
  refine Met.ofW (cc := cX12_divide) (maxL := 5) (ret := (some .int)) (by decide) rfl ?_
  intro p e s m args below meth c s₁ B hml hv
  obtain ⟨rfl, hW, hK, hG⟩ := hv
  have hx := B.exec
  have hb := B.bytes
  have hr := B.returns
  have hts := atoms_spec (ws := (tq_ws yX12_divide cX12_divide 5 (some .int))) B.pre
  have hw : ∀ w ∈ tq_W, w.before _ s = true := fun w h => hts w (List.mem_cons_of_mem _ h)
  have hown : s.vm.findClass RX12 = some m.cls := findClass_of_methodNamed B.named
  have hlocks := B.notSynchronized
  have C : tq_At p s m meth c [.ref (ad 64 0), .int p0].toArray cX12_divide 5 ((some .int)) ((tq_ws yX12_divide cX12_divide 5 (some .int))) RX12 D cy z ad := ⟨hx, hb, hr, hml, hown, hts, hlocks, hK, hG⟩
  have hS : va_S (fun q => z ≤ q) s.heap s.heap [] := va_S.rf
  have hl := lv_entry ([.ref (ad 64 0), .int p0]) (n := 5) (Nat.le_of_ble_eq_true rfl)
  rw [lg_entry_eq]
  generalize (lg_sl ([.ref (ad 64 0), .int p0]) ++ List.replicate (5 - (lg_sl ([.ref (ad 64 0), .int p0])).length) Slot.unset).toArray = ls at hl ⊢
  have hl : lv_has ls 5 [(0, .ref (ad 64 0)), (1, .int p0)] := hl
  have hW : tq_wd D cy z H0 ad N (tq_mix S M) s.heap := hW
  refine lv_iload_n hx hb dX12_divide_0 rfl (lv_at hl 1 rfl) ?_
  refine lv_if_lt (tgt := 22) hx hb dX12_divide_1 (by decide) (fun c1 => ?_) (fun c1 => ?_)
  · have h := h.1 c1
    exact bX12_divide_22 C  _  _ _ _ h hW hS (lv_sub hl [] rfl)
  · have h := h.2 c1
    refine lv_iload_n hx hb dX12_divide_4 rfl (lv_at hl 1 rfl) ?_
    refine lv_aload_n hx hb dX12_divide_5 rfl (lv_at hl 0 rfl) ?_
    refine tq_callVi (As := []) (rest := [.int p0]) (kX12_gain h) ⟨hx, hb, hml, hown, hts⟩ (cwV 0 hts (tq_goodV tw_2066 tw_2055 tw_2056 tw_125 tw_2057) rfl rfl rfl (by decide +kernel) ⟨Nat.le_of_ble_eq_true rfl, Nat.le_of_ble_eq_true rfl⟩) hK hG hW hS rfl hl.1 rfl (Nat.le_of_ble_eq_true rfl) dX12_divide_6 ⟨Nat.le_of_ble_eq_true rfl, Nat.le_of_ble_eq_true rfl⟩ (fun r3 M2 H locs h hW hS => ?_)
    refine lv_icmp_gt (tgt := 22) hx hb dX12_divide_9 (by decide) (fun c4 => ?_) (fun c4 => ?_)
    · have h := h.1 c4
      exact bX12_divide_22 C  _  _ _ _ h hW hS (lv_sub hl [] rfl)
    · have h := h.2 c4
      refine lv_iload_n hx hb dX12_divide_12 rfl (lv_at hl 1 rfl) ?_
      refine lv_aload_n hx hb dX12_divide_13 rfl (lv_at hl 0 rfl) ?_
      refine tqm_get (v := .ref (ad 101 0)) hx hb hw tq_inX12 hown hK hW (by decide) (tq_mk_64 (by decide)) rfl 1 (by decide) (hw _ tw_1409) (fun _ h9 => h9) rfl dX12_divide_14 ?_
      refine lv_iconst (v := 0) hx hb dX12_divide_17 (by decide) ?_
      refine tqm_iald (jn := 0) hx hb hK hW (by decide) (tq_mk_101 (by decide)) (by unfold vp_in; decide) (by decide) dX12_divide_18 ?_
      refine lv_icmp_le (tgt := 25) hx hb dX12_divide_19 (by decide) (fun c5 => ?_) (fun c5 => ?_)
      · have h := h.1 c5
        refine lv_iconst (v := 0) hx hb dX12_divide_25 (by decide) ?_
        refine lv_istore_n (lv' := [(2, .int 0), (0, .ref (ad 64 0)), (1, .int p0)]) hx hb dX12_divide_26 rfl hl (by decide) rfl (fun ls hl => ?_)
        refine lv_iconst (v := 0) hx hb dX12_divide_27 (by decide) ?_
        refine lv_istore_n (lv' := [(3, .int 0), (2, .int 0), (0, .ref (ad 64 0)), (1, .int p0)]) hx hb dX12_divide_28 rfl hl (by decide) rfl (fun ls hl => ?_)
        obtain ⟨nq, h⟩ := h
        exact bX12_divide_29 C  nq _ _ _ _ _ _ _ h hW hS (lv_sub hl [2, 3, 1, 0] rfl)
      · have h := h.2 c5
        exact bX12_divide_22 C  _  _ _ _ h hW hS (lv_sub hl [] rfl)
-- holder
def wbX12_holder_42 (post : tq_St → Int32 → Prop)  (M : tq_St) (y0 : Int32) : Prop :=
  post M y0
def wbX12_holder_41 (post : tq_St → Int32 → Prop)  (M : tq_St) : Prop :=
  wbX12_holder_42 post M ((-1))
def wpX12_holder (post : tq_St → Int32 → Prop) (M : tq_St) (p0 : Int32) (p1 : Int32) : Prop :=
  wpX12_in (fun M1 r2 => (r2 = 0 → (wbX12_holder_41 post M1 )) ∧ (¬ r2 = 0 → (wpX12_in (fun M4 r5 => (r5 = 0 → (wbX12_holder_41 post M4 )) ∧ (¬ r5 = 0 → ((¬ p1 = 0 → (vp_in p0 8 ∧ (wbX12_holder_42 post M4 (M4 157 0 p0.toNatClampNeg)))) ∧ (p1 = 0 → (vp_in p0 8 ∧ (wbX12_holder_42 post M4 (M4 156 0 p0.toNatClampNeg))))))) M1 p1 0 1))) M p0 0 7
set_option maxHeartbeats 4000000 in
set_option maxRecDepth 100000 in
theorem bX12_holder_42 {p : Program} {e : Env} {s : State} {m : MethodId} {args : Array Value} {below : List Frame} {meth : Method} {c : Code} {post : tq_St → Int32 → Prop} (C : tq_At p s m meth c args cX12_holder 3 ((some .int)) ((tq_ws yX12_holder cX12_holder 3 (some .int))) RX12 D cy z ad)  : ∀ (M : tq_St) (y0 : Int32) (H : Heap) (locs : List Loc) (ls : Array Slot), wbX12_holder_42 post   M y0 → tq_wd D cy z H0 ad N (tq_mix S M) H → va_S (fun q => z ≤ q) s.heap H locs → lv_has ls 3 [] → W p l e (tq_rm 1 22) s m args below meth c H locs 0 0 (MQ below (va_Qi (fun r u => post u r) (tq_P D cy z H0 ad N S) (fun q => z ≤ q)) args s 0 0 (fun q => z ≤ q)) (F0 m 42 ls [.int y0]) := by
  obtain ⟨hx, hb, hr, hml, hown, hts, hlocks, hK, hG⟩ := id C
  have hw : ∀ w ∈ tq_W, w.before args s = true := fun w h => hts w (List.mem_cons_of_mem _ h)
  intro M y0 H locs ls h hW hS hl
  unfold wbX12_holder_42 at h
  exact W.iret (v := y0) hx hb hr (fun t ht hWm => ⟨⟨_, M, rfl, h, tq_pe ht hW⟩, hS.F ht⟩) hS.2.2 dX12_holder_42
set_option maxHeartbeats 4000000 in
set_option maxRecDepth 100000 in
theorem bX12_holder_41 {p : Program} {e : Env} {s : State} {m : MethodId} {args : Array Value} {below : List Frame} {meth : Method} {c : Code} {post : tq_St → Int32 → Prop} (C : tq_At p s m meth c args cX12_holder 3 ((some .int)) ((tq_ws yX12_holder cX12_holder 3 (some .int))) RX12 D cy z ad)  : ∀ (M : tq_St)  (H : Heap) (locs : List Loc) (ls : Array Slot), wbX12_holder_41 post   M  → tq_wd D cy z H0 ad N (tq_mix S M) H → va_S (fun q => z ≤ q) s.heap H locs → lv_has ls 3 [] → W p l e (tq_rm 1 22) s m args below meth c H locs 0 0 (MQ below (va_Qi (fun r u => post u r) (tq_P D cy z H0 ad N S) (fun q => z ≤ q)) args s 0 0 (fun q => z ≤ q)) (F0 m 41 ls []) := by
  obtain ⟨hx, hb, hr, hml, hown, hts, hlocks, hK, hG⟩ := id C
  have hw : ∀ w ∈ tq_W, w.before args s = true := fun w h => hts w (List.mem_cons_of_mem _ h)
  intro M  H locs ls h hW hS hl
  unfold wbX12_holder_41 at h
  refine lv_iconst (v := (-1)) hx hb dX12_holder_41 (by decide) ?_
  exact bX12_holder_42 C  _ _ _ _ _ h hW hS (lv_sub hl [] rfl)
set_option maxHeartbeats 4000000 in
set_option maxRecDepth 100000 in
theorem kX12_holder {post : tq_St → Int32 → Prop} {M : tq_St} {p0 : Int32} {p1 : Int32} (h : wpX12_holder post M p0 p1) : tq_mI l yX12_holder (tq_ws yX12_holder cX12_holder 3 (some .int)) 1 22 D cy z H0 ad N S M [.ref (ad 64 0), .int p0, .int p1] post := by
  unfold wpX12_holder at h
  refine Met.ofW (cc := cX12_holder) (maxL := 3) (ret := (some .int)) (by decide) rfl ?_
  intro p e s m args below meth c s₁ B hml hv
  obtain ⟨rfl, hW, hK, hG⟩ := hv
  have hx := B.exec
  have hb := B.bytes
  have hr := B.returns
  have hts := atoms_spec (ws := (tq_ws yX12_holder cX12_holder 3 (some .int))) B.pre
  have hw : ∀ w ∈ tq_W, w.before _ s = true := fun w h => hts w (List.mem_cons_of_mem _ h)
  have hown : s.vm.findClass RX12 = some m.cls := findClass_of_methodNamed B.named
  have hlocks := B.notSynchronized
  have C : tq_At p s m meth c [.ref (ad 64 0), .int p0, .int p1].toArray cX12_holder 3 ((some .int)) ((tq_ws yX12_holder cX12_holder 3 (some .int))) RX12 D cy z ad := ⟨hx, hb, hr, hml, hown, hts, hlocks, hK, hG⟩
  have hS : va_S (fun q => z ≤ q) s.heap s.heap [] := va_S.rf
  have hl := lv_entry ([.ref (ad 64 0), .int p0, .int p1]) (n := 3) (Nat.le_of_ble_eq_true rfl)
  rw [lg_entry_eq]
  generalize (lg_sl ([.ref (ad 64 0), .int p0, .int p1]) ++ List.replicate (3 - (lg_sl ([.ref (ad 64 0), .int p0, .int p1])).length) Slot.unset).toArray = ls at hl ⊢
  have hl : lv_has ls 3 [(0, .ref (ad 64 0)), (1, .int p0), (2, .int p1)] := hl
  have hW : tq_wd D cy z H0 ad N (tq_mix S M) s.heap := hW
  refine lv_iload_n hx hb dX12_holder_0 rfl (lv_at hl 1 rfl) ?_
  refine lv_iconst (v := 0) hx hb dX12_holder_1 (by decide) ?_
  refine lv_bipush (v := 7) hx hb dX12_holder_2 (by decide) ?_
  refine tq_callSi (As := [.int p0, .int 0, .int 7]) (rest := []) (kX12_in h) ⟨hx, hb, hml, hown, hts⟩ (va_cwS 3 hts (tq_goodS tw_1648 tw_1649 tw_125 tw_1650) rfl rfl rfl (by decide +kernel) ⟨Nat.le_of_ble_eq_true rfl, Nat.le_of_ble_eq_true rfl⟩) hK hG hW hS rfl hl.1 rfl (Nat.le_of_ble_eq_true rfl) dX12_holder_4 ⟨Nat.le_of_ble_eq_true rfl, Nat.le_of_ble_eq_true rfl⟩ (fun r2 M1 H locs h hW hS => ?_)
  refine lv_if_eq (tgt := 41) hx hb dX12_holder_7 (by decide) (fun c3 => ?_) (fun c3 => ?_)
  · have h := h.1 c3
    exact bX12_holder_41 C  _  _ _ _ h hW hS (lv_sub hl [] rfl)
  · have h := h.2 c3
    refine lv_iload_n hx hb dX12_holder_10 rfl (lv_at hl 2 rfl) ?_
    refine lv_iconst (v := 0) hx hb dX12_holder_11 (by decide) ?_
    refine lv_iconst (v := 1) hx hb dX12_holder_12 (by decide) ?_
    refine tq_callSi (As := [.int p1, .int 0, .int 1]) (rest := []) (kX12_in h) ⟨hx, hb, hml, hown, hts⟩ (va_cwS 3 hts (tq_goodS tw_1648 tw_1649 tw_125 tw_1650) rfl rfl rfl (by decide +kernel) ⟨Nat.le_of_ble_eq_true rfl, Nat.le_of_ble_eq_true rfl⟩) hK hG hW hS rfl hl.1 rfl (Nat.le_of_ble_eq_true rfl) dX12_holder_13 ⟨Nat.le_of_ble_eq_true rfl, Nat.le_of_ble_eq_true rfl⟩ (fun r5 M4 H locs h hW hS => ?_)
    refine lv_if_eq (tgt := 41) hx hb dX12_holder_16 (by decide) (fun c6 => ?_) (fun c6 => ?_)
    · have h := h.1 c6
      exact bX12_holder_41 C  _  _ _ _ h hW hS (lv_sub hl [] rfl)
    · have h := h.2 c6
      refine lv_iload_n hx hb dX12_holder_19 rfl (lv_at hl 2 rfl) ?_
      refine lv_if_ne (tgt := 32) hx hb dX12_holder_20 (by decide) (fun c7 => ?_) (fun c7 => ?_)
      · have h := h.1 c7
        refine lv_aload_n hx hb dX12_holder_32 rfl (lv_at hl 0 rfl) ?_
        refine tqm_get (v := .ref (ad 157 0)) hx hb hw tq_inX12 hown hK hW (by decide) (tq_mk_64 (by decide)) rfl 57 (by decide) (hw _ tw_1465) (fun _ h9 => h9) rfl dX12_holder_33 ?_
        refine lv_iload_n hx hb dX12_holder_36 rfl (lv_at hl 1 rfl) ?_
        obtain ⟨b8, h⟩ := h
        refine tqm_iald (jn := p0.toNatClampNeg) hx hb hK hW (by decide) (tq_mk_157 (by decide)) b8 rfl dX12_holder_37 ?_
        refine lv_goto (tgt := 42) hx hb dX12_holder_38 (by decide) ?_
        exact bX12_holder_42 C  _ _ _ _ _ h hW hS (lv_sub hl [] rfl)
      · have h := h.2 c7
        refine lv_aload_n hx hb dX12_holder_23 rfl (lv_at hl 0 rfl) ?_
        refine tqm_get (v := .ref (ad 156 0)) hx hb hw tq_inX12 hown hK hW (by decide) (tq_mk_64 (by decide)) rfl 56 (by decide) (hw _ tw_1464) (fun _ h9 => h9) rfl dX12_holder_24 ?_
        refine lv_iload_n hx hb dX12_holder_27 rfl (lv_at hl 1 rfl) ?_
        obtain ⟨b9, h⟩ := h
        refine tqm_iald (jn := p0.toNatClampNeg) hx hb hK hW (by decide) (tq_mk_156 (by decide)) b9 rfl dX12_holder_28 ?_
        refine lv_goto (tgt := 42) hx hb dX12_holder_29 (by decide) ?_
        exact bX12_holder_42 C  _ _ _ _ _ h hW hS (lv_sub hl [] rfl)
