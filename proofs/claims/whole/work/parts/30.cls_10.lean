variable {l : Launch} {D : va_G} {cy : Nat → ClassId} {z : Nat} {H0 : Heap} {ad : Nat → Nat → Nat} {N : tq_Nn} {M : tq_St}
-- X11 take
def wbX11_take_85 (N : tq_Nn) (post : tq_St → Int32 → Prop) (L4 : tq_St → Int32 → Int32 → Prop) (S : tq_St) (x1 : Int32) (x2 : Int32) : Prop :=
  L4 S x1 (x2 + 1)
def wbX11_take_83 (N : tq_Nn) (post : tq_St → Int32 → Prop) (L4 : tq_St → Int32 → Int32 → Prop) (S : tq_St) (x2 : Int32) : Prop :=
  wbX11_take_85 N post  L4 S x2 x2
def wbX11_take_46 (N : tq_Nn) (post : tq_St → Int32 → Prop) (L4 : tq_St → Int32 → Int32 → Prop) (S : tq_St) (x1 : Int32) (x2 : Int32) (x3 : Nat) (y0 : Int32) : Prop :=
  (y0 = 0 → (wbX11_take_85 N post  L4 S x1 x2)) ∧ (¬ y0 = 0 → ((x1 = ((-1)) → (wbX11_take_83 N post  L4 S x2)) ∧ (¬ x1 = ((-1)) → (N 8 x3 = 1 ∧ (tq_gok N S 19 20 0 x1 ∧ (N 8 (tq_el S 19 20 0 x1) = 1 ∧ (wpX11_isTurnBefore N (fun S29 r30 => (r30 = 0 → (wbX11_take_85 N post  L4 S29 x1 x2)) ∧ (¬ r30 = 0 → (wbX11_take_83 N post  L4 S29 x2))) S (S 8 x3 1) (S 8 (tq_el S 19 20 0 x1) 1))))))))
def wbX11_take_45 (N : tq_Nn) (post : tq_St → Int32 → Prop) (L4 : tq_St → Int32 → Int32 → Prop) (S : tq_St) (x1 : Int32) (x2 : Int32) (x3 : Nat) : Prop :=
  wbX11_take_46 N post  L4 S x1 x2 x3 0
def wbX11_take_134 (N : tq_Nn) (post : tq_St → Int32 → Prop)  (S : tq_St) (x1 : Int32) : Prop :=
  post S x1
def wbX11_take_4 (N : tq_Nn) (post : tq_St → Int32 → Prop) : Nat → tq_St → Int32 → Int32 → Prop
  | 0, _, _, _ => False
  | n + 1, S, x1, x2 =>
    ((S 19 0 2) ≤ x2 → ((x1 = ((-1)) → (wbX11_take_134 N post S x1)) ∧ (¬ x1 = ((-1)) → (tq_gok N S 19 20 0 x1 ∧ (N 8 (tq_el S 19 20 0 x1) = 1 ∧ ((∀ S9, S9 = tq_up S 8 (tq_el S 19 20 0 x1) 5 1 → (tq_gok N S9 19 20 0 x1 ∧ (N 8 (tq_el S9 19 20 0 x1) = 1 ∧ (vp_in (S9 8 (tq_el S9 19 20 0 x1) 1) 4 ∧ (∀ S15, S15 = tq_up S9 21 0 ((S9 8 (tq_el S9 19 20 0 x1) 1).toNatClampNeg) ((S9 21 0 ((S9 8 (tq_el S9 19 20 0 x1) 1).toNatClampNeg)) + 1) → (wbX11_take_134 N post S15 x1)))))))))))) ∧ (¬ (S 19 0 2) ≤ x2 → (tq_gok N S 19 20 0 x2 ∧ (N 8 (tq_el S 19 20 0 x2) = 1 ∧ ((¬ (S 8 (tq_el S 19 20 0 x2) 3) = 0 → (wbX11_take_45 N post  (wbX11_take_4 N post n) S x1 x2 (tq_el S 19 20 0 x2))) ∧ ((S 8 (tq_el S 19 20 0 x2) 3) = 0 → ((¬ (S 8 (tq_el S 19 20 0 x2) 5) = 0 → (wbX11_take_45 N post  (wbX11_take_4 N post n) S x1 x2 (tq_el S 19 20 0 x2))) ∧ ((S 8 (tq_el S 19 20 0 x2) 5) = 0 → (wbX11_take_46 N post  (wbX11_take_4 N post n) S x1 x2 (tq_el S 19 20 0 x2) 1))))))))
def wpX11_take (N : tq_Nn) (post : tq_St → Int32 → Prop) (S : tq_St)  : Prop :=
  ∃ nq, wbX11_take_4 N post nq S ((-1)) 0
set_option maxHeartbeats 4000000 in
set_option maxRecDepth 100000 in
theorem bX11_take_85 {p : Program} {e : Env} {s : State} {m : MethodId} {args : Array Value} {below : List Frame} {meth : Method} {c : Code} {post : tq_St → Int32 → Prop} (C : tq_At p s m meth c args cX11_take 5 ((some .int)) ((tq_ws yX11_take cX11_take 5 (some .int))) RX11 D cy z ad) {L4 : tq_St → Int32 → Int32 → Prop} (hL4 : ∀ (S : tq_St) (x1 : Int32) (x2 : Int32) (H : Heap) (locs : List Loc) (ls : Array Slot), L4 S x1 x2 → tq_wd D cy z H0 ad N (tq_mix S M) H → va_S (fun q => z ≤ q) s.heap H locs → lv_has ls 5 [(0, .ref (ad 1 0)), (1, .int x1), (2, .int x2)] → W p l e (tq_rm 3 64) s m args below meth c H locs 0 0 (MQ below (va_Qi (fun r u => post u r) (fun u => tq_P D cy z H0 ad N u M) (fun q => z ≤ q)) args s 0 0 (fun q => z ≤ q)) (F0 m 4 ls [])) : ∀ (S : tq_St) (x1 : Int32) (x2 : Int32) (H : Heap) (locs : List Loc) (ls : Array Slot), wbX11_take_85 N post  L4 S x1 x2 → tq_wd D cy z H0 ad N (tq_mix S M) H → va_S (fun q => z ≤ q) s.heap H locs → lv_has ls 5 [(0, .ref (ad 1 0)), (1, .int x1), (2, .int x2)] → W p l e (tq_rm 3 64) s m args below meth c H locs 0 0 (MQ below (va_Qi (fun r u => post u r) (fun u => tq_P D cy z H0 ad N u M) (fun q => z ≤ q)) args s 0 0 (fun q => z ≤ q)) (F0 m 85 ls []) := by
  obtain ⟨hx, hb, hr, hml, hown, hts, hlocks, hK, hG⟩ := id C
  have hw : ∀ w ∈ tq_W, w.before args s = true := fun w h => hts w (List.mem_cons_of_mem _ h)
  intro S x1 x2 H locs ls h hW hS hl
  unfold wbX11_take_85 at h
  refine lv_iinc (v := x2 + 1) (lv' := [(2, .int (x2 + 1)), (0, .ref (ad 1 0)), (1, .int x1)]) hx hb dX11_take_85 hl (k := 2) rfl rfl (by decide) rfl (fun ls hl => ?_)
  refine lv_goto (tgt := 4) hx hb dX11_take_88 (by decide) ?_
  exact hL4 _ _ _ _ _ _ h hW hS (lv_sub hl [1, 2, 0] rfl)
set_option maxHeartbeats 4000000 in
set_option maxRecDepth 100000 in
theorem bX11_take_83 {p : Program} {e : Env} {s : State} {m : MethodId} {args : Array Value} {below : List Frame} {meth : Method} {c : Code} {post : tq_St → Int32 → Prop} (C : tq_At p s m meth c args cX11_take 5 ((some .int)) ((tq_ws yX11_take cX11_take 5 (some .int))) RX11 D cy z ad) {L4 : tq_St → Int32 → Int32 → Prop} (hL4 : ∀ (S : tq_St) (x1 : Int32) (x2 : Int32) (H : Heap) (locs : List Loc) (ls : Array Slot), L4 S x1 x2 → tq_wd D cy z H0 ad N (tq_mix S M) H → va_S (fun q => z ≤ q) s.heap H locs → lv_has ls 5 [(0, .ref (ad 1 0)), (1, .int x1), (2, .int x2)] → W p l e (tq_rm 3 64) s m args below meth c H locs 0 0 (MQ below (va_Qi (fun r u => post u r) (fun u => tq_P D cy z H0 ad N u M) (fun q => z ≤ q)) args s 0 0 (fun q => z ≤ q)) (F0 m 4 ls [])) : ∀ (S : tq_St) (x2 : Int32) (H : Heap) (locs : List Loc) (ls : Array Slot), wbX11_take_83 N post  L4 S x2 → tq_wd D cy z H0 ad N (tq_mix S M) H → va_S (fun q => z ≤ q) s.heap H locs → lv_has ls 5 [(0, .ref (ad 1 0)), (2, .int x2)] → W p l e (tq_rm 3 64) s m args below meth c H locs 0 0 (MQ below (va_Qi (fun r u => post u r) (fun u => tq_P D cy z H0 ad N u M) (fun q => z ≤ q)) args s 0 0 (fun q => z ≤ q)) (F0 m 83 ls []) := by
  obtain ⟨hx, hb, hr, hml, hown, hts, hlocks, hK, hG⟩ := id C
  have hw : ∀ w ∈ tq_W, w.before args s = true := fun w h => hts w (List.mem_cons_of_mem _ h)
  intro S x2 H locs ls h hW hS hl
  unfold wbX11_take_83 at h
  refine lv_iload_n hx hb dX11_take_83 rfl (lv_at hl 1 rfl) ?_
  refine lv_istore_n (lv' := [(1, .int x2), (0, .ref (ad 1 0)), (2, .int x2)]) hx hb dX11_take_84 rfl hl (by decide) rfl (fun ls hl => ?_)
  exact bX11_take_85 C (fun M9 a09 a19 H9 q9 ls9 h9 hW9 hS9 hl9 => hL4 M9 a09 a19 H9 q9 ls9 h9 hW9 hS9 hl9) _ _ _ _ _ _ h hW hS (lv_sub hl [1, 0, 2] rfl)
set_option maxHeartbeats 4000000 in
set_option maxRecDepth 100000 in
theorem bX11_take_46 {p : Program} {e : Env} {s : State} {m : MethodId} {args : Array Value} {below : List Frame} {meth : Method} {c : Code} {post : tq_St → Int32 → Prop} (C : tq_At p s m meth c args cX11_take 5 ((some .int)) ((tq_ws yX11_take cX11_take 5 (some .int))) RX11 D cy z ad) {L4 : tq_St → Int32 → Int32 → Prop} (hL4 : ∀ (S : tq_St) (x1 : Int32) (x2 : Int32) (H : Heap) (locs : List Loc) (ls : Array Slot), L4 S x1 x2 → tq_wd D cy z H0 ad N (tq_mix S M) H → va_S (fun q => z ≤ q) s.heap H locs → lv_has ls 5 [(0, .ref (ad 1 0)), (1, .int x1), (2, .int x2)] → W p l e (tq_rm 3 64) s m args below meth c H locs 0 0 (MQ below (va_Qi (fun r u => post u r) (fun u => tq_P D cy z H0 ad N u M) (fun q => z ≤ q)) args s 0 0 (fun q => z ≤ q)) (F0 m 4 ls [])) : ∀ (S : tq_St) (x1 : Int32) (x2 : Int32) (x3 : Nat) (y0 : Int32) (H : Heap) (locs : List Loc) (ls : Array Slot), wbX11_take_46 N post  L4 S x1 x2 x3 y0 → tq_wd D cy z H0 ad N (tq_mix S M) H → va_S (fun q => z ≤ q) s.heap H locs → lv_has ls 5 [(0, .ref (ad 1 0)), (1, .int x1), (2, .int x2), (3, .ref (ad 8 x3))] → W p l e (tq_rm 3 64) s m args below meth c H locs 0 0 (MQ below (va_Qi (fun r u => post u r) (fun u => tq_P D cy z H0 ad N u M) (fun q => z ≤ q)) args s 0 0 (fun q => z ≤ q)) (F0 m 46 ls [.int y0]) := by
  obtain ⟨hx, hb, hr, hml, hown, hts, hlocks, hK, hG⟩ := id C
  have hw : ∀ w ∈ tq_W, w.before args s = true := fun w h => hts w (List.mem_cons_of_mem _ h)
  intro S x1 x2 x3 y0 H locs ls h hW hS hl
  unfold wbX11_take_46 at h
  refine lv_istore (lv' := [(4, .int y0), (0, .ref (ad 1 0)), (1, .int x1), (2, .int x2), (3, .ref (ad 8 x3))]) hx hb dX11_take_46 hl (by decide) rfl (fun ls hl => ?_)
  refine lv_iload hx hb dX11_take_48 (lv_at hl 0 rfl) ?_
  refine lv_if_eq (tgt := 85) hx hb dX11_take_50 (by decide) (fun c22 => ?_) (fun c22 => ?_)
  · have h := h.1 c22
    exact bX11_take_85 C (fun M9 a09 a19 H9 q9 ls9 h9 hW9 hS9 hl9 => hL4 M9 a09 a19 H9 q9 ls9 h9 hW9 hS9 hl9) _ _ _ _ _ _ h hW hS (lv_sub hl [1, 2, 3] rfl)
  · have h := h.2 c22
    refine lv_iload_n hx hb dX11_take_53 rfl (lv_at hl 2 rfl) ?_
    refine lv_iconst (v := (-1)) hx hb dX11_take_54 (by decide) ?_
    refine lv_icmp_eq (tgt := 83) hx hb dX11_take_55 (by decide) (fun c23 => ?_) (fun c23 => ?_)
    · have h := h.1 c23
      exact bX11_take_83 C (fun M9 a09 a19 H9 q9 ls9 h9 hW9 hS9 hl9 => hL4 M9 a09 a19 H9 q9 ls9 h9 hW9 hS9 hl9) _ _ _ _ _ h hW hS (lv_sub hl [1, 3] rfl)
    · have h := h.2 c23
      refine lv_aload_n hx hb dX11_take_58 rfl (lv_at hl 1 rfl) ?_
      refine lv_aload_n hx hb dX11_take_59 rfl (lv_at hl 4 rfl) ?_
      obtain ⟨b24, h⟩ := h
      refine tqc_get (v := .int (S 8 x3 1)) hx hb hw tq_inX8 hown hK hW (by decide) (tq_mk_8 b24) rfl 1 (by decide) (hw _ tw_900) (fun _ h9 => h9) rfl dX11_take_60 ?_
      refine lv_aload_n hx hb dX11_take_63 rfl (lv_at hl 1 rfl) ?_
      refine tqc_get (v := .ref (ad 19 0)) hx hb hw tq_inX11 hown hK hW (by decide) (tq_mk_1 (by decide)) rfl 7 (by decide) (hw _ tw_344) (fun _ h9 => h9) rfl dX11_take_64 ?_
      refine lv_iload_n hx hb dX11_take_67 rfl (lv_at hl 2 rfl) ?_
      obtain ⟨b27, h⟩ := h
      refine tqc_callVr (kr := 8) (As := [.int x1]) (rest := [.int (S 8 x3 1), .ref (ad 1 0)]) (kJl_get (kd := 20) (post := fun u i => u = S ∧ i = tq_el S 19 20 0 x1) (by decide) (by decide) (tq_mk_19 (by decide)) (fun q9 => tq_mk_20 q9) b27 ⟨rfl, rfl⟩) ⟨hx, hb, hml, hown, hts⟩ (cwV 1 hts (tq_goodV tw_827 tw_828 tw_829 tw_118 tw_830) rfl rfl rfl (by decide +kernel) ⟨(Nat.le_of_ble_eq_true rfl), (Nat.le_of_ble_eq_true rfl)⟩) (tq_recvL hK hW (by decide) (tq_mk_19 (by decide))) hK hG hW hS rfl hl.1 rfl (Nat.le_of_ble_eq_true rfl) dX11_take_68 ⟨(Nat.le_of_ble_eq_true rfl), (Nat.le_of_ble_eq_true rfl)⟩ (fun i26 S25 H locs q9 hW hS => ?_)
      rw [q9.1] at hW
      rw [q9.2]
      obtain ⟨b28, h⟩ := h
      refine va_castS hx hb hown (hw _ tw_839) (hK.1 9 _ rfl).2 (tq_recvC hK hW (by decide) (tq_mk_8 b28) rfl) dX11_take_71 ?_
      refine tqc_get (v := .int (S 8 (tq_el S 19 20 0 x1) 1)) hx hb hw tq_inX8 hown hK hW (by decide) (tq_mk_8 b28) rfl 1 (by decide) (hw _ tw_900) (fun _ h9 => h9) rfl dX11_take_74 ?_
      refine tqc_callVi (As := [.int (S 8 x3 1), .int (S 8 (tq_el S 19 20 0 x1) 1)]) (rest := []) (kX11_isTurnBefore h) ⟨hx, hb, hml, hown, hts⟩ (cwV 2 hts (tq_goodV tw_947 tw_949 tw_24 tw_115 tw_950) rfl rfl rfl (by decide +kernel) ⟨(Nat.le_of_ble_eq_true rfl), (Nat.le_of_ble_eq_true rfl)⟩) (tq_recvC hK hW (by decide) (tq_mk_1 (by decide)) rfl) hK hG hW hS rfl hl.1 rfl (Nat.le_of_ble_eq_true rfl) dX11_take_77 ⟨(Nat.le_of_ble_eq_true rfl), (Nat.le_of_ble_eq_true rfl)⟩ (fun r30 S29 H locs h hW hS => ?_)
      refine lv_if_eq (tgt := 85) hx hb dX11_take_80 (by decide) (fun c31 => ?_) (fun c31 => ?_)
      · have h := h.1 c31
        exact bX11_take_85 C (fun M9 a09 a19 H9 q9 ls9 h9 hW9 hS9 hl9 => hL4 M9 a09 a19 H9 q9 ls9 h9 hW9 hS9 hl9) _ _ _ _ _ _ h hW hS (lv_sub hl [1, 2, 3] rfl)
      · have h := h.2 c31
        exact bX11_take_83 C (fun M9 a09 a19 H9 q9 ls9 h9 hW9 hS9 hl9 => hL4 M9 a09 a19 H9 q9 ls9 h9 hW9 hS9 hl9) _ _ _ _ _ h hW hS (lv_sub hl [1, 3] rfl)
set_option maxHeartbeats 4000000 in
set_option maxRecDepth 100000 in
theorem bX11_take_45 {p : Program} {e : Env} {s : State} {m : MethodId} {args : Array Value} {below : List Frame} {meth : Method} {c : Code} {post : tq_St → Int32 → Prop} (C : tq_At p s m meth c args cX11_take 5 ((some .int)) ((tq_ws yX11_take cX11_take 5 (some .int))) RX11 D cy z ad) {L4 : tq_St → Int32 → Int32 → Prop} (hL4 : ∀ (S : tq_St) (x1 : Int32) (x2 : Int32) (H : Heap) (locs : List Loc) (ls : Array Slot), L4 S x1 x2 → tq_wd D cy z H0 ad N (tq_mix S M) H → va_S (fun q => z ≤ q) s.heap H locs → lv_has ls 5 [(0, .ref (ad 1 0)), (1, .int x1), (2, .int x2)] → W p l e (tq_rm 3 64) s m args below meth c H locs 0 0 (MQ below (va_Qi (fun r u => post u r) (fun u => tq_P D cy z H0 ad N u M) (fun q => z ≤ q)) args s 0 0 (fun q => z ≤ q)) (F0 m 4 ls [])) : ∀ (S : tq_St) (x1 : Int32) (x2 : Int32) (x3 : Nat) (H : Heap) (locs : List Loc) (ls : Array Slot), wbX11_take_45 N post  L4 S x1 x2 x3 → tq_wd D cy z H0 ad N (tq_mix S M) H → va_S (fun q => z ≤ q) s.heap H locs → lv_has ls 5 [(0, .ref (ad 1 0)), (1, .int x1), (2, .int x2), (3, .ref (ad 8 x3))] → W p l e (tq_rm 3 64) s m args below meth c H locs 0 0 (MQ below (va_Qi (fun r u => post u r) (fun u => tq_P D cy z H0 ad N u M) (fun q => z ≤ q)) args s 0 0 (fun q => z ≤ q)) (F0 m 45 ls []) := by
  obtain ⟨hx, hb, hr, hml, hown, hts, hlocks, hK, hG⟩ := id C
  have hw : ∀ w ∈ tq_W, w.before args s = true := fun w h => hts w (List.mem_cons_of_mem _ h)
  intro S x1 x2 x3 H locs ls h hW hS hl
  unfold wbX11_take_45 at h
  refine lv_iconst (v := 0) hx hb dX11_take_45 (by decide) ?_
  exact bX11_take_46 C (fun M9 a09 a19 H9 q9 ls9 h9 hW9 hS9 hl9 => hL4 M9 a09 a19 H9 q9 ls9 h9 hW9 hS9 hl9) _ _ _ _ _ _ _ _ h hW hS (lv_sub hl [0, 1, 2, 3] rfl)
set_option maxHeartbeats 4000000 in
set_option maxRecDepth 100000 in
theorem bX11_take_134 {p : Program} {e : Env} {s : State} {m : MethodId} {args : Array Value} {below : List Frame} {meth : Method} {c : Code} {post : tq_St → Int32 → Prop} (C : tq_At p s m meth c args cX11_take 5 ((some .int)) ((tq_ws yX11_take cX11_take 5 (some .int))) RX11 D cy z ad)  : ∀ (S : tq_St) (x1 : Int32) (H : Heap) (locs : List Loc) (ls : Array Slot), wbX11_take_134 N post   S x1 → tq_wd D cy z H0 ad N (tq_mix S M) H → va_S (fun q => z ≤ q) s.heap H locs → lv_has ls 5 [(1, .int x1)] → W p l e (tq_rm 3 64) s m args below meth c H locs 0 0 (MQ below (va_Qi (fun r u => post u r) (fun u => tq_P D cy z H0 ad N u M) (fun q => z ≤ q)) args s 0 0 (fun q => z ≤ q)) (F0 m 134 ls []) := by
  obtain ⟨hx, hb, hr, hml, hown, hts, hlocks, hK, hG⟩ := id C
  have hw : ∀ w ∈ tq_W, w.before args s = true := fun w h => hts w (List.mem_cons_of_mem _ h)
  intro S x1 H locs ls h hW hS hl
  unfold wbX11_take_134 at h
  refine lv_iload_n hx hb dX11_take_134 rfl (lv_at hl 0 rfl) ?_
  exact W.iret (v := x1) hx hb hr (fun t ht hWm => ⟨⟨_, S, rfl, h, tq_pe ht hW⟩, hS.F ht⟩) hS.2.2 dX11_take_135
set_option maxHeartbeats 4000000 in
set_option maxRecDepth 100000 in
theorem bX11_take_4 {p : Program} {e : Env} {s : State} {m : MethodId} {args : Array Value} {below : List Frame} {meth : Method} {c : Code} {post : tq_St → Int32 → Prop} (C : tq_At p s m meth c args cX11_take 5 ((some .int)) ((tq_ws yX11_take cX11_take 5 (some .int))) RX11 D cy z ad)  : ∀ n : Nat, ∀ (S : tq_St) (x1 : Int32) (x2 : Int32) (H : Heap) (locs : List Loc) (ls : Array Slot), wbX11_take_4 N post   n S x1 x2 → tq_wd D cy z H0 ad N (tq_mix S M) H → va_S (fun q => z ≤ q) s.heap H locs → lv_has ls 5 [(0, .ref (ad 1 0)), (1, .int x1), (2, .int x2)] → W p l e (tq_rm 3 64) s m args below meth c H locs 0 0 (MQ below (va_Qi (fun r u => post u r) (fun u => tq_P D cy z H0 ad N u M) (fun q => z ≤ q)) args s 0 0 (fun q => z ≤ q)) (F0 m 4 ls []) := by
  obtain ⟨hx, hb, hr, hml, hown, hts, hlocks, hK, hG⟩ := id C
  have hw : ∀ w ∈ tq_W, w.before args s = true := fun w h => hts w (List.mem_cons_of_mem _ h)
  intro n
  induction n with
  | zero =>
    intro S x1 x2 H locs ls h
    exact absurd h (by unfold wbX11_take_4; exact id)
  | succ n ih =>
    intro S x1 x2 H locs ls h hW hS hl
    unfold wbX11_take_4 at h
    refine lv_iload_n hx hb dX11_take_4 rfl (lv_at hl 2 rfl) ?_
    refine lv_aload_n hx hb dX11_take_5 rfl (lv_at hl 0 rfl) ?_
    refine tqc_get (v := .ref (ad 19 0)) hx hb hw tq_inX11 hown hK hW (by decide) (tq_mk_1 (by decide)) rfl 7 (by decide) (hw _ tw_344) (fun _ h9 => h9) rfl dX11_take_6 ?_
    refine tqc_callVi (As := []) (rest := [.int x2]) (kJl_size (post := fun u r => u = S ∧ r = S 19 0 2) (by decide) (tq_mk_19 (by decide)) ⟨rfl, rfl⟩) ⟨hx, hb, hml, hown, hts⟩ (cwV 0 hts (tq_goodV tw_484 tw_485 tw_486 tw_118 tw_487) rfl rfl rfl (by decide +kernel) ⟨(Nat.le_of_ble_eq_true rfl), (Nat.le_of_ble_eq_true rfl)⟩) (tq_recvL hK hW (by decide) (tq_mk_19 (by decide))) hK hG hW hS rfl hl.1 rfl (Nat.le_of_ble_eq_true rfl) dX11_take_9 ⟨(Nat.le_of_ble_eq_true rfl), (Nat.le_of_ble_eq_true rfl)⟩ (fun r2 S1 H locs q9 hW hS => ?_)
    rw [q9.1] at hW
    rw [q9.2]
    refine lv_icmp_ge (tgt := 91) hx hb dX11_take_12 (by decide) (fun c3 => ?_) (fun c3 => ?_)
    · have h := h.1 c3
      refine lv_iload_n hx hb dX11_take_91 rfl (lv_at hl 1 rfl) ?_
      refine lv_iconst (v := (-1)) hx hb dX11_take_92 (by decide) ?_
      refine lv_icmp_eq (tgt := 134) hx hb dX11_take_93 (by decide) (fun c4 => ?_) (fun c4 => ?_)
      · have h := h.1 c4
        exact bX11_take_134 C  _ _ _ _ _ h hW hS (lv_sub hl [1] rfl)
      · have h := h.2 c4
        refine lv_aload_n hx hb dX11_take_96 rfl (lv_at hl 0 rfl) ?_
        refine tqc_get (v := .ref (ad 19 0)) hx hb hw tq_inX11 hown hK hW (by decide) (tq_mk_1 (by decide)) rfl 7 (by decide) (hw _ tw_344) (fun _ h9 => h9) rfl dX11_take_97 ?_
        refine lv_iload_n hx hb dX11_take_100 rfl (lv_at hl 1 rfl) ?_
        obtain ⟨b7, h⟩ := h
        refine tqc_callVr (kr := 8) (As := [.int x1]) (rest := []) (kJl_get (kd := 20) (post := fun u i => u = S ∧ i = tq_el S 19 20 0 x1) (by decide) (by decide) (tq_mk_19 (by decide)) (fun q9 => tq_mk_20 q9) b7 ⟨rfl, rfl⟩) ⟨hx, hb, hml, hown, hts⟩ (cwV 1 hts (tq_goodV tw_827 tw_828 tw_829 tw_118 tw_830) rfl rfl rfl (by decide +kernel) ⟨(Nat.le_of_ble_eq_true rfl), (Nat.le_of_ble_eq_true rfl)⟩) (tq_recvL hK hW (by decide) (tq_mk_19 (by decide))) hK hG hW hS rfl hl.1 rfl (Nat.le_of_ble_eq_true rfl) dX11_take_101 ⟨(Nat.le_of_ble_eq_true rfl), (Nat.le_of_ble_eq_true rfl)⟩ (fun i6 S5 H locs q9 hW hS => ?_)
        rw [q9.1] at hW
        rw [q9.2]
        obtain ⟨b8, h⟩ := h
        refine va_castS hx hb hown (hw _ tw_839) (hK.1 9 _ rfl).2 (tq_recvC hK hW (by decide) (tq_mk_8 b8) rfl) dX11_take_104 ?_
        refine lv_iconst (v := 1) hx hb dX11_take_107 (by decide) ?_
        refine tqc_put hx hb hw tq_inX8 tyX8 tyX8_ok nmX8 hown hK hW hS (by decide) (tq_mk_8 b8) rfl 5 (by decide) (hw _ tw_907) (fun _ h9 => h9) rfl rfl rfl rfl (tq_mk_8 b8) dX11_take_108 (fun H locs hW hS => ?_)
        generalize eS9 : tq_up S 8 (tq_el S 19 20 0 x1) 5 1 = S9 at hW
        have h := h S9 eS9.symm
        refine lv_aload_n hx hb dX11_take_111 rfl (lv_at hl 0 rfl) ?_
        refine tqc_get (v := .ref (ad 21 0)) hx hb hw tq_inX11 hown hK hW (by decide) (tq_mk_1 (by decide)) rfl 8 (by decide) (hw _ tw_345) (fun _ h9 => h9) rfl dX11_take_112 ?_
        refine lv_aload_n hx hb dX11_take_115 rfl (lv_at hl 0 rfl) ?_
        refine tqc_get (v := .ref (ad 19 0)) hx hb hw tq_inX11 hown hK hW (by decide) (tq_mk_1 (by decide)) rfl 7 (by decide) (hw _ tw_344) (fun _ h9 => h9) rfl dX11_take_116 ?_
        refine lv_iload_n hx hb dX11_take_119 rfl (lv_at hl 1 rfl) ?_
        obtain ⟨b12, h⟩ := h
        refine tqc_callVr (kr := 8) (As := [.int x1]) (rest := [.ref (ad 21 0)]) (kJl_get (kd := 20) (post := fun u i => u = S9 ∧ i = tq_el S9 19 20 0 x1) (by decide) (by decide) (tq_mk_19 (by decide)) (fun q9 => tq_mk_20 q9) b12 ⟨rfl, rfl⟩) ⟨hx, hb, hml, hown, hts⟩ (cwV 1 hts (tq_goodV tw_827 tw_828 tw_829 tw_118 tw_830) rfl rfl rfl (by decide +kernel) ⟨(Nat.le_of_ble_eq_true rfl), (Nat.le_of_ble_eq_true rfl)⟩) (tq_recvL hK hW (by decide) (tq_mk_19 (by decide))) hK hG hW hS rfl hl.1 rfl (Nat.le_of_ble_eq_true rfl) dX11_take_120 ⟨(Nat.le_of_ble_eq_true rfl), (Nat.le_of_ble_eq_true rfl)⟩ (fun i11 S10 H locs q9 hW hS => ?_)
        rw [q9.1] at hW
        rw [q9.2]
        obtain ⟨b13, h⟩ := h
        refine va_castS hx hb hown (hw _ tw_839) (hK.1 9 _ rfl).2 (tq_recvC hK hW (by decide) (tq_mk_8 b13) rfl) dX11_take_123 ?_
        refine tqc_get (v := .int (S9 8 (tq_el S9 19 20 0 x1) 1)) hx hb hw tq_inX8 hown hK hW (by decide) (tq_mk_8 b13) rfl 1 (by decide) (hw _ tw_900) (fun _ h9 => h9) rfl dX11_take_126 ?_
        refine lv_dup2_11 hx hb dX11_take_129 rfl rfl ?_
        obtain ⟨b14, h⟩ := h
        refine tqc_iald (jn := (S9 8 (tq_el S9 19 20 0 x1) 1).toNatClampNeg) hx hb hK hW (by decide) (tq_mk_21 (by decide)) b14 rfl dX11_take_130 ?_
        refine lv_iconst (v := 1) hx hb dX11_take_131 (by decide) ?_
        refine lv_iadd hx hb dX11_take_132 ?_
        refine tqc_iast (jn := (S9 8 (tq_el S9 19 20 0 x1) 1).toNatClampNeg) hx hb hK hW hS (by decide) (tq_mk_21 (by decide)) b14 rfl (tq_mk_21 (by decide)) dX11_take_133 (fun H locs hW hS => ?_)
        generalize eS15 : tq_up S9 21 0 ((S9 8 (tq_el S9 19 20 0 x1) 1).toNatClampNeg) ((S9 21 0 ((S9 8 (tq_el S9 19 20 0 x1) 1).toNatClampNeg)) + 1) = S15 at hW
        have h := h S15 eS15.symm
        exact bX11_take_134 C  _ _ _ _ _ h hW hS (lv_sub hl [1] rfl)
    · have h := h.2 c3
      refine lv_aload_n hx hb dX11_take_15 rfl (lv_at hl 0 rfl) ?_
      refine tqc_get (v := .ref (ad 19 0)) hx hb hw tq_inX11 hown hK hW (by decide) (tq_mk_1 (by decide)) rfl 7 (by decide) (hw _ tw_344) (fun _ h9 => h9) rfl dX11_take_16 ?_
      refine lv_iload_n hx hb dX11_take_19 rfl (lv_at hl 2 rfl) ?_
      obtain ⟨b18, h⟩ := h
      refine tqc_callVr (kr := 8) (As := [.int x2]) (rest := []) (kJl_get (kd := 20) (post := fun u i => u = S ∧ i = tq_el S 19 20 0 x2) (by decide) (by decide) (tq_mk_19 (by decide)) (fun q9 => tq_mk_20 q9) b18 ⟨rfl, rfl⟩) ⟨hx, hb, hml, hown, hts⟩ (cwV 1 hts (tq_goodV tw_827 tw_828 tw_829 tw_118 tw_830) rfl rfl rfl (by decide +kernel) ⟨(Nat.le_of_ble_eq_true rfl), (Nat.le_of_ble_eq_true rfl)⟩) (tq_recvL hK hW (by decide) (tq_mk_19 (by decide))) hK hG hW hS rfl hl.1 rfl (Nat.le_of_ble_eq_true rfl) dX11_take_20 ⟨(Nat.le_of_ble_eq_true rfl), (Nat.le_of_ble_eq_true rfl)⟩ (fun i17 S16 H locs q9 hW hS => ?_)
      rw [q9.1] at hW
      rw [q9.2]
      obtain ⟨b19, h⟩ := h
      refine va_castS hx hb hown (hw _ tw_839) (hK.1 9 _ rfl).2 (tq_recvC hK hW (by decide) (tq_mk_8 b19) rfl) dX11_take_23 ?_
      refine lv_astore_n (lv' := [(3, .ref (ad 8 (tq_el S 19 20 0 x2))), (0, .ref (ad 1 0)), (1, .int x1), (2, .int x2)]) hx hb dX11_take_26 rfl hl (by decide) rfl (fun ls hl => ?_)
      refine lv_aload_n hx hb dX11_take_27 rfl (lv_at hl 0 rfl) ?_
      refine tqc_get (v := .int (S 8 (tq_el S 19 20 0 x2) 3)) hx hb hw tq_inX8 hown hK hW (by decide) (tq_mk_8 b19) rfl 3 (by decide) (hw _ tw_904) (fun _ h9 => h9) rfl dX11_take_28 ?_
      refine lv_if_ne (tgt := 45) hx hb dX11_take_31 (by decide) (fun c20 => ?_) (fun c20 => ?_)
      · have h := h.1 c20
        exact bX11_take_45 C (fun M9 a09 a19 H9 q9 ls9 h9 hW9 hS9 hl9 => ih M9 a09 a19 H9 q9 ls9 h9 hW9 hS9 hl9) _ _ _ _ _ _ _ h hW hS (lv_sub hl [1, 2, 3, 0] rfl)
      · have h := h.2 c20
        refine lv_aload_n hx hb dX11_take_34 rfl (lv_at hl 0 rfl) ?_
        refine tqc_get (v := .int (S 8 (tq_el S 19 20 0 x2) 5)) hx hb hw tq_inX8 hown hK hW (by decide) (tq_mk_8 b19) rfl 5 (by decide) (hw _ tw_907) (fun _ h9 => h9) rfl dX11_take_35 ?_
        refine lv_if_ne (tgt := 45) hx hb dX11_take_38 (by decide) (fun c21 => ?_) (fun c21 => ?_)
        · have h := h.1 c21
          exact bX11_take_45 C (fun M9 a09 a19 H9 q9 ls9 h9 hW9 hS9 hl9 => ih M9 a09 a19 H9 q9 ls9 h9 hW9 hS9 hl9) _ _ _ _ _ _ _ h hW hS (lv_sub hl [1, 2, 3, 0] rfl)
        · have h := h.2 c21
          refine lv_iconst (v := 1) hx hb dX11_take_41 (by decide) ?_
          refine lv_goto (tgt := 46) hx hb dX11_take_42 (by decide) ?_
          exact bX11_take_46 C (fun M9 a09 a19 H9 q9 ls9 h9 hW9 hS9 hl9 => ih M9 a09 a19 H9 q9 ls9 h9 hW9 hS9 hl9) _ _ _ _ _ _ _ _ h hW hS (lv_sub hl [1, 2, 3, 0] rfl)
set_option maxHeartbeats 4000000 in
set_option maxRecDepth 100000 in
theorem kX11_take {post : tq_St → Int32 → Prop} {S : tq_St}  (h : wpX11_take N post S ) : tq_sI l yX11_take (tq_ws yX11_take cX11_take 5 (some .int)) 3 64 D cy z H0 ad N M S [.ref (ad 1 0)] post := by
  unfold wpX11_take at h
  refine Met.ofW (cc := cX11_take) (maxL := 5) (ret := (some .int)) (by decide) rfl ?_
  intro p e s m args below meth c s₁ B hml hv
  obtain ⟨rfl, hW, hK, hG⟩ := hv
  have hx := B.exec
  have hb := B.bytes
  have hr := B.returns
  have hts := atoms_spec (ws := (tq_ws yX11_take cX11_take 5 (some .int))) B.pre
  have hw : ∀ w ∈ tq_W, w.before _ s = true := fun w h => hts w (List.mem_cons_of_mem _ h)
  have hown : s.vm.findClass RX11 = some m.cls := findClass_of_methodNamed B.named
  have hlocks := B.notSynchronized
  have C : tq_At p s m meth c [.ref (ad 1 0)].toArray cX11_take 5 ((some .int)) ((tq_ws yX11_take cX11_take 5 (some .int))) RX11 D cy z ad := ⟨hx, hb, hr, hml, hown, hts, hlocks, hK, hG⟩
  have hS : va_S (fun q => z ≤ q) s.heap s.heap [] := va_S.rf
  have hl := lv_entry ([.ref (ad 1 0)]) (n := 5) (Nat.le_of_ble_eq_true rfl)
  rw [lg_entry_eq]
  generalize (lg_sl ([.ref (ad 1 0)]) ++ List.replicate (5 - (lg_sl ([.ref (ad 1 0)])).length) Slot.unset).toArray = ls at hl ⊢
  have hl : lv_has ls 5 [(0, .ref (ad 1 0))] := hl
  have hW : tq_wd D cy z H0 ad N (tq_mix S M) s.heap := hW
  refine lv_iconst (v := (-1)) hx hb dX11_take_0 (by decide) ?_
  refine lv_istore_n (lv' := [(1, .int ((-1))), (0, .ref (ad 1 0))]) hx hb dX11_take_1 rfl hl (by decide) rfl (fun ls hl => ?_)
  refine lv_iconst (v := 0) hx hb dX11_take_2 (by decide) ?_
  refine lv_istore_n (lv' := [(2, .int 0), (1, .int ((-1))), (0, .ref (ad 1 0))]) hx hb dX11_take_3 rfl hl (by decide) rfl (fun ls hl => ?_)
  obtain ⟨nq, h⟩ := h
  exact bX11_take_4 C  nq _ _ _ _ _ _ h hW hS (lv_sub hl [2, 1, 0] rfl)
-- X11 load
def wpX11_load (N : tq_Nn) (post : tq_St → Int32 → Prop) (S : tq_St) (p0 : Int32) (p1 : Int32) : Prop :=
  wpX11_isShip N (fun S1 r2 => (¬ r2 = 0 → (tq_gok N S1 19 20 0 p0 ∧ (N 8 (tq_el S1 19 20 0 p0) = 1 ∧ (wpX11_isPlace N (fun S8 r9 => (¬ r9 = 0 → (vp_in (S8 8 (tq_el S1 19 20 0 p0) 3) 5 ∧ (wpX11_canMove N (fun S12 r13 => (¬ r13 = 0 → ((∀ S15, S15 = tq_up S12 8 (tq_el S1 19 20 0 p0) 7 ((S12 8 (tq_el S1 19 20 0 p0) 7) + p1) → ((∀ S16, S16 = tq_up S15 2 ((S8 8 (tq_el S1 19 20 0 p0) 3).toNatClampNeg) 1 ((S15 2 ((S8 8 (tq_el S1 19 20 0 p0) 3).toNatClampNeg) 1) - p1) → (post S16 (S16 8 (tq_el S1 19 20 0 p0) 7))))))) ∧ (r13 = 0 → (post S12 ((-2))))) S8 (tq_el S1 19 20 0 p0) ((S8 8 (tq_el S1 19 20 0 p0) 3).toNatClampNeg) p1))) ∧ (r9 = 0 → (post S8 ((-3))))) S1 (S1 8 (tq_el S1 19 20 0 p0) 3))))) ∧ (r2 = 0 → (post S1 ((-1))))) S p0
set_option maxHeartbeats 4000000 in
set_option maxRecDepth 100000 in
theorem kX11_load {post : tq_St → Int32 → Prop} {S : tq_St} {p0 : Int32} {p1 : Int32} (h : wpX11_load N post S p0 p1) : tq_sI l yX11_load (tq_ws yX11_load cX11_load 5 (some .int)) 3 64 D cy z H0 ad N M S [.ref (ad 1 0), .int p0, .int p1] post := by
  unfold wpX11_load at h
  refine Met.ofW (cc := cX11_load) (maxL := 5) (ret := (some .int)) (by decide) rfl ?_
  intro p e s m args below meth c s₁ B hml hv
  obtain ⟨rfl, hW, hK, hG⟩ := hv
  have hx := B.exec
  have hb := B.bytes
  have hr := B.returns
  have hts := atoms_spec (ws := (tq_ws yX11_load cX11_load 5 (some .int))) B.pre
  have hw : ∀ w ∈ tq_W, w.before _ s = true := fun w h => hts w (List.mem_cons_of_mem _ h)
  have hown : s.vm.findClass RX11 = some m.cls := findClass_of_methodNamed B.named
  have hlocks := B.notSynchronized
  have C : tq_At p s m meth c [.ref (ad 1 0), .int p0, .int p1].toArray cX11_load 5 ((some .int)) ((tq_ws yX11_load cX11_load 5 (some .int))) RX11 D cy z ad := ⟨hx, hb, hr, hml, hown, hts, hlocks, hK, hG⟩
  have hS : va_S (fun q => z ≤ q) s.heap s.heap [] := va_S.rf
  have hl := lv_entry ([.ref (ad 1 0), .int p0, .int p1]) (n := 5) (Nat.le_of_ble_eq_true rfl)
  rw [lg_entry_eq]
  generalize (lg_sl ([.ref (ad 1 0), .int p0, .int p1]) ++ List.replicate (5 - (lg_sl ([.ref (ad 1 0), .int p0, .int p1])).length) Slot.unset).toArray = ls at hl ⊢
  have hl : lv_has ls 5 [(0, .ref (ad 1 0)), (1, .int p0), (2, .int p1)] := hl
  have hW : tq_wd D cy z H0 ad N (tq_mix S M) s.heap := hW
  refine lv_aload_n hx hb dX11_load_0 rfl (lv_at hl 0 rfl) ?_
  refine lv_iload_n hx hb dX11_load_1 rfl (lv_at hl 1 rfl) ?_
  refine tqc_callVi (As := [.int p0]) (rest := []) (kX11_isShip h) ⟨hx, hb, hml, hown, hts⟩ (cwV 1 hts (tq_goodV tw_823 tw_825 tw_19 tw_115 tw_826) rfl rfl rfl (by decide +kernel) ⟨(Nat.le_of_ble_eq_true rfl), (Nat.le_of_ble_eq_true rfl)⟩) (tq_recvC hK hW (by decide) (tq_mk_1 (by decide)) rfl) hK hG hW hS rfl hl.1 rfl (Nat.le_of_ble_eq_true rfl) dX11_load_2 ⟨(Nat.le_of_ble_eq_true rfl), (Nat.le_of_ble_eq_true rfl)⟩ (fun r2 S1 H locs h hW hS => ?_)
  refine lv_if_ne (tgt := 10) hx hb dX11_load_5 (by decide) (fun c3 => ?_) (fun c3 => ?_)
  · have h := h.1 c3
    refine lv_aload_n hx hb dX11_load_10 rfl (lv_at hl 0 rfl) ?_
    refine tqc_get (v := .ref (ad 19 0)) hx hb hw tq_inX11 hown hK hW (by decide) (tq_mk_1 (by decide)) rfl 7 (by decide) (hw _ tw_344) (fun _ h9 => h9) rfl dX11_load_11 ?_
    refine lv_iload_n hx hb dX11_load_14 rfl (lv_at hl 1 rfl) ?_
    obtain ⟨b6, h⟩ := h
    refine tqc_callVr (kr := 8) (As := [.int p0]) (rest := []) (kJl_get (kd := 20) (post := fun u i => u = S1 ∧ i = tq_el S1 19 20 0 p0) (by decide) (by decide) (tq_mk_19 (by decide)) (fun q9 => tq_mk_20 q9) b6 ⟨rfl, rfl⟩) ⟨hx, hb, hml, hown, hts⟩ (cwV 1 hts (tq_goodV tw_827 tw_828 tw_829 tw_118 tw_830) rfl rfl rfl (by decide +kernel) ⟨(Nat.le_of_ble_eq_true rfl), (Nat.le_of_ble_eq_true rfl)⟩) (tq_recvL hK hW (by decide) (tq_mk_19 (by decide))) hK hG hW hS rfl hl.1 rfl (Nat.le_of_ble_eq_true rfl) dX11_load_15 ⟨(Nat.le_of_ble_eq_true rfl), (Nat.le_of_ble_eq_true rfl)⟩ (fun i5 S4 H locs q9 hW hS => ?_)
    rw [q9.1] at hW
    rw [q9.2]
    obtain ⟨b7, h⟩ := h
    refine va_castS hx hb hown (hw _ tw_839) (hK.1 9 _ rfl).2 (tq_recvC hK hW (by decide) (tq_mk_8 b7) rfl) dX11_load_18 ?_
    refine lv_astore_n (lv' := [(3, .ref (ad 8 (tq_el S1 19 20 0 p0))), (0, .ref (ad 1 0)), (1, .int p0), (2, .int p1)]) hx hb dX11_load_21 rfl hl (by decide) rfl (fun ls hl => ?_)
    refine lv_aload_n hx hb dX11_load_22 rfl (lv_at hl 0 rfl) ?_
    refine tqc_get (v := .int (S1 8 (tq_el S1 19 20 0 p0) 3)) hx hb hw tq_inX8 hown hK hW (by decide) (tq_mk_8 b7) rfl 3 (by decide) (hw _ tw_904) (fun _ h9 => h9) rfl dX11_load_23 ?_
    refine tqc_callSi (As := [.int (S1 8 (tq_el S1 19 20 0 p0) 3)]) (rest := []) (kX11_isPlace h) ⟨hx, hb, hml, hown, hts⟩ (va_cwS 1 hts (tq_goodS tw_427 tw_428 tw_115 tw_429) rfl rfl rfl (by decide +kernel) ⟨(Nat.le_of_ble_eq_true rfl), (Nat.le_of_ble_eq_true rfl)⟩) hK hG hW hS rfl hl.1 rfl (Nat.le_of_ble_eq_true rfl) dX11_load_26 ⟨(Nat.le_of_ble_eq_true rfl), (Nat.le_of_ble_eq_true rfl)⟩ (fun r9 S8 H locs h hW hS => ?_)
    refine lv_if_ne (tgt := 35) hx hb dX11_load_29 (by decide) (fun c10 => ?_) (fun c10 => ?_)
    · have h := h.1 c10
      refine lv_aload_n hx hb dX11_load_35 rfl (lv_at hl 1 rfl) ?_
      refine tqc_get (v := .ref (ad 12 0)) hx hb hw tq_inX11 hown hK hW (by decide) (tq_mk_1 (by decide)) rfl 1 (by decide) (hw _ tw_338) (fun _ h9 => h9) rfl dX11_load_36 ?_
      refine lv_aload_n hx hb dX11_load_39 rfl (lv_at hl 0 rfl) ?_
      refine tqc_get (v := .int (S8 8 (tq_el S1 19 20 0 p0) 3)) hx hb hw tq_inX8 hown hK hW (by decide) (tq_mk_8 b7) rfl 3 (by decide) (hw _ tw_904) (fun _ h9 => h9) rfl dX11_load_40 ?_
      obtain ⟨b11, h⟩ := h
      refine tqc_aald (jn := (S8 8 (tq_el S1 19 20 0 p0) 3).toNatClampNeg) (v := .ref (ad 2 ((S8 8 (tq_el S1 19 20 0 p0) 3).toNatClampNeg))) hx hb hK hW (by decide) (tq_mk_12 (by decide)) 3 rfl rfl b11 rfl rfl dX11_load_43 ?_
      refine lv_astore (lv' := [(4, .ref (ad 2 ((S8 8 (tq_el S1 19 20 0 p0) 3).toNatClampNeg))), (3, .ref (ad 8 (tq_el S1 19 20 0 p0))), (0, .ref (ad 1 0)), (1, .int p0), (2, .int p1)]) hx hb dX11_load_44 hl (by decide) rfl (fun ls hl => ?_)
      refine lv_aload_n hx hb dX11_load_46 rfl (lv_at hl 1 rfl) ?_
      refine lv_aload hx hb dX11_load_47 (lv_at hl 0 rfl) ?_
      refine lv_iload_n hx hb dX11_load_49 rfl (lv_at hl 4 rfl) ?_
      refine tqc_callSi (As := [.ref (ad 8 (tq_el S1 19 20 0 p0)), .ref (ad 2 ((S8 8 (tq_el S1 19 20 0 p0) 3).toNatClampNeg)), .int p1]) (rest := []) (kX11_canMove h) ⟨hx, hb, hml, hown, hts⟩ (va_cwS 3 hts (tq_goodS tw_955 tw_956 tw_115 tw_957) rfl rfl rfl (by decide +kernel) ⟨(Nat.le_of_ble_eq_true rfl), (Nat.le_of_ble_eq_true rfl)⟩) hK hG hW hS rfl hl.1 rfl (Nat.le_of_ble_eq_true rfl) dX11_load_50 ⟨(Nat.le_of_ble_eq_true rfl), (Nat.le_of_ble_eq_true rfl)⟩ (fun r13 S12 H locs h hW hS => ?_)
      refine lv_if_ne (tgt := 59) hx hb dX11_load_53 (by decide) (fun c14 => ?_) (fun c14 => ?_)
      · have h := h.1 c14
        refine lv_aload_n hx hb dX11_load_59 rfl (lv_at hl 1 rfl) ?_
        refine lv_dup hx hb dX11_load_60 rfl ?_
        refine tqc_get (v := .int (S12 8 (tq_el S1 19 20 0 p0) 7)) hx hb hw tq_inX8 hown hK hW (by decide) (tq_mk_8 b7) rfl 7 (by decide) (hw _ tw_911) (fun _ h9 => h9) rfl dX11_load_61 ?_
        refine lv_iload_n hx hb dX11_load_64 rfl (lv_at hl 4 rfl) ?_
        refine lv_iadd hx hb dX11_load_65 ?_
        refine tqc_put hx hb hw tq_inX8 tyX8 tyX8_ok nmX8 hown hK hW hS (by decide) (tq_mk_8 b7) rfl 7 (by decide) (hw _ tw_911) (fun _ h9 => h9) rfl rfl rfl rfl (tq_mk_8 b7) dX11_load_66 (fun H locs hW hS => ?_)
        generalize eS15 : tq_up S12 8 (tq_el S1 19 20 0 p0) 7 ((S12 8 (tq_el S1 19 20 0 p0) 7) + p1) = S15 at hW
        have h := h S15 eS15.symm
        refine lv_aload hx hb dX11_load_69 (lv_at hl 0 rfl) ?_
        refine lv_dup hx hb dX11_load_71 rfl ?_
        refine tqc_get (v := .int (S15 2 ((S8 8 (tq_el S1 19 20 0 p0) 3).toNatClampNeg) 1)) hx hb hw tq_inX5 hown hK hW (by decide) (tq_mk_2 (tq_lt b11)) rfl 1 (by decide) (hw _ tw_255) (fun _ h9 => h9) rfl dX11_load_72 ?_
        refine lv_iload_n hx hb dX11_load_75 rfl (lv_at hl 4 rfl) ?_
        refine lv_isub hx hb dX11_load_76 ?_
        refine tqc_put hx hb hw tq_inX5 tyX5 tyX5_ok nmX5 hown hK hW hS (by decide) (tq_mk_2 (tq_lt b11)) rfl 1 (by decide) (hw _ tw_255) (fun _ h9 => h9) rfl rfl rfl rfl (tq_mk_2 (tq_lt b11)) dX11_load_77 (fun H locs hW hS => ?_)
        generalize eS16 : tq_up S15 2 ((S8 8 (tq_el S1 19 20 0 p0) 3).toNatClampNeg) 1 ((S15 2 ((S8 8 (tq_el S1 19 20 0 p0) 3).toNatClampNeg) 1) - p1) = S16 at hW
        have h := h S16 eS16.symm
        refine lv_aload_n hx hb dX11_load_80 rfl (lv_at hl 1 rfl) ?_
        refine tqc_get (v := .int (S16 8 (tq_el S1 19 20 0 p0) 7)) hx hb hw tq_inX8 hown hK hW (by decide) (tq_mk_8 b7) rfl 7 (by decide) (hw _ tw_911) (fun _ h9 => h9) rfl dX11_load_81 ?_
        exact W.iret (v := S16 8 (tq_el S1 19 20 0 p0) 7) hx hb hr (fun t ht hWm => ⟨⟨_, S16, rfl, h, tq_pe ht hW⟩, hS.F ht⟩) hS.2.2 dX11_load_84
      · have h := h.2 c14
        refine lv_bipush (v := (-2)) hx hb dX11_load_56 (by decide) ?_
        exact W.iret (v := (-2)) hx hb hr (fun t ht hWm => ⟨⟨_, S12, rfl, h, tq_pe ht hW⟩, hS.F ht⟩) hS.2.2 dX11_load_58
    · have h := h.2 c10
      refine lv_bipush (v := (-3)) hx hb dX11_load_32 (by decide) ?_
      exact W.iret (v := (-3)) hx hb hr (fun t ht hWm => ⟨⟨_, S8, rfl, h, tq_pe ht hW⟩, hS.F ht⟩) hS.2.2 dX11_load_34
  · have h := h.2 c3
    refine lv_iconst (v := (-1)) hx hb dX11_load_8 (by decide) ?_
    exact W.iret (v := (-1)) hx hb hr (fun t ht hWm => ⟨⟨_, S1, rfl, h, tq_pe ht hW⟩, hS.F ht⟩) hS.2.2 dX11_load_9
-- X11 stow
def wbX11_stow_16 (N : tq_Nn) (post : tq_St → Int32 → Prop)  (S : tq_St) : Prop :=
  post S ((-1))
def wpX11_stow (N : tq_Nn) (post : tq_St → Int32 → Prop) (S : tq_St) (p0 : Int32) (p1 : Int32) (p2 : Int32) : Prop :=
  wpX11_isPerson N (fun S1 r2 => (r2 = 0 → (wbX11_stow_16 N post S1 )) ∧ (¬ r2 = 0 → (wpX11_isShip N (fun S4 r5 => (¬ r5 = 0 → (wpX11_within N (fun S7 r8 => (¬ r8 = 0 → (tq_gok N S7 19 20 0 p1 ∧ (N 8 (tq_el S7 19 20 0 p1) = 1 ∧ (vp_in p0 20 ∧ (((S7 8 (tq_el S7 19 20 0 p1) 3) = (S7 13 0 p0.toNatClampNeg) → (wpX8_freeTons N (fun S16 r17 => (p2 ≤ r17 → (N 55 (tq_el S7 19 20 0 p1) = 1 ∧ (∀ S20, S20 = tq_up S16 55 (tq_el S7 19 20 0 p1) p0.toNatClampNeg ((S16 55 (tq_el S7 19 20 0 p1) p0.toNatClampNeg) + p2) → (post S20 (S20 55 (tq_el S7 19 20 0 p1) p0.toNatClampNeg))))) ∧ (¬ p2 ≤ r17 → (post S16 ((-4))))) S7 (tq_el S7 19 20 0 p1))) ∧ (¬ (S7 8 (tq_el S7 19 20 0 p1) 3) = (S7 13 0 p0.toNatClampNeg) → (post S7 ((-3))))))))) ∧ (r8 = 0 → (post S7 ((-2))))) S4 p2 0 20)) ∧ (r5 = 0 → (wbX11_stow_16 N post S4 ))) S1 p1))) S p0
set_option maxHeartbeats 4000000 in
set_option maxRecDepth 100000 in
theorem bX11_stow_16 {p : Program} {e : Env} {s : State} {m : MethodId} {args : Array Value} {below : List Frame} {meth : Method} {c : Code} {post : tq_St → Int32 → Prop} (C : tq_At p s m meth c args cX11_stow 5 ((some .int)) ((tq_ws yX11_stow cX11_stow 5 (some .int))) RX11 D cy z ad)  : ∀ (S : tq_St)  (H : Heap) (locs : List Loc) (ls : Array Slot), wbX11_stow_16 N post   S  → tq_wd D cy z H0 ad N (tq_mix S M) H → va_S (fun q => z ≤ q) s.heap H locs → lv_has ls 5 [] → W p l e (tq_rm 3 64) s m args below meth c H locs 0 0 (MQ below (va_Qi (fun r u => post u r) (fun u => tq_P D cy z H0 ad N u M) (fun q => z ≤ q)) args s 0 0 (fun q => z ≤ q)) (F0 m 16 ls []) := by
  obtain ⟨hx, hb, hr, hml, hown, hts, hlocks, hK, hG⟩ := id C
  have hw : ∀ w ∈ tq_W, w.before args s = true := fun w h => hts w (List.mem_cons_of_mem _ h)
  intro S  H locs ls h hW hS hl
  unfold wbX11_stow_16 at h
  refine lv_iconst (v := (-1)) hx hb dX11_stow_16 (by decide) ?_
  exact W.iret (v := (-1)) hx hb hr (fun t ht hWm => ⟨⟨_, S, rfl, h, tq_pe ht hW⟩, hS.F ht⟩) hS.2.2 dX11_stow_17
set_option maxHeartbeats 4000000 in
set_option maxRecDepth 100000 in
theorem kX11_stow {post : tq_St → Int32 → Prop} {S : tq_St} {p0 : Int32} {p1 : Int32} {p2 : Int32} (h : wpX11_stow N post S p0 p1 p2) : tq_sI l yX11_stow (tq_ws yX11_stow cX11_stow 5 (some .int)) 3 64 D cy z H0 ad N M S [.ref (ad 1 0), .int p0, .int p1, .int p2] post := by
  unfold wpX11_stow at h
  refine Met.ofW (cc := cX11_stow) (maxL := 5) (ret := (some .int)) (by decide) rfl ?_
  intro p e s m args below meth c s₁ B hml hv
  obtain ⟨rfl, hW, hK, hG⟩ := hv
  have hx := B.exec
  have hb := B.bytes
  have hr := B.returns
  have hts := atoms_spec (ws := (tq_ws yX11_stow cX11_stow 5 (some .int))) B.pre
  have hw : ∀ w ∈ tq_W, w.before _ s = true := fun w h => hts w (List.mem_cons_of_mem _ h)
  have hown : s.vm.findClass RX11 = some m.cls := findClass_of_methodNamed B.named
  have hlocks := B.notSynchronized
  have C : tq_At p s m meth c [.ref (ad 1 0), .int p0, .int p1, .int p2].toArray cX11_stow 5 ((some .int)) ((tq_ws yX11_stow cX11_stow 5 (some .int))) RX11 D cy z ad := ⟨hx, hb, hr, hml, hown, hts, hlocks, hK, hG⟩
  have hS : va_S (fun q => z ≤ q) s.heap s.heap [] := va_S.rf
  have hl := lv_entry ([.ref (ad 1 0), .int p0, .int p1, .int p2]) (n := 5) (Nat.le_of_ble_eq_true rfl)
  rw [lg_entry_eq]
  generalize (lg_sl ([.ref (ad 1 0), .int p0, .int p1, .int p2]) ++ List.replicate (5 - (lg_sl ([.ref (ad 1 0), .int p0, .int p1, .int p2])).length) Slot.unset).toArray = ls at hl ⊢
  have hl : lv_has ls 5 [(0, .ref (ad 1 0)), (1, .int p0), (2, .int p1), (3, .int p2)] := hl
  have hW : tq_wd D cy z H0 ad N (tq_mix S M) s.heap := hW
  refine lv_aload_n hx hb dX11_stow_0 rfl (lv_at hl 0 rfl) ?_
  refine lv_iload_n hx hb dX11_stow_1 rfl (lv_at hl 1 rfl) ?_
  refine tqc_callVi (As := [.int p0]) (rest := []) (kX11_isPerson h) ⟨hx, hb, hml, hown, hts⟩ (cwV 1 hts (tq_goodV tw_445 tw_447 tw_0 tw_115 tw_448) rfl rfl rfl (by decide +kernel) ⟨(Nat.le_of_ble_eq_true rfl), (Nat.le_of_ble_eq_true rfl)⟩) (tq_recvC hK hW (by decide) (tq_mk_1 (by decide)) rfl) hK hG hW hS rfl hl.1 rfl (Nat.le_of_ble_eq_true rfl) dX11_stow_2 ⟨(Nat.le_of_ble_eq_true rfl), (Nat.le_of_ble_eq_true rfl)⟩ (fun r2 S1 H locs h hW hS => ?_)
  refine lv_if_eq (tgt := 16) hx hb dX11_stow_5 (by decide) (fun c3 => ?_) (fun c3 => ?_)
  · have h := h.1 c3
    exact bX11_stow_16 C  _  _ _ _ h hW hS (lv_sub hl [] rfl)
  · have h := h.2 c3
    refine lv_aload_n hx hb dX11_stow_8 rfl (lv_at hl 0 rfl) ?_
    refine lv_iload_n hx hb dX11_stow_9 rfl (lv_at hl 2 rfl) ?_
    refine tqc_callVi (As := [.int p1]) (rest := []) (kX11_isShip h) ⟨hx, hb, hml, hown, hts⟩ (cwV 1 hts (tq_goodV tw_823 tw_825 tw_19 tw_115 tw_826) rfl rfl rfl (by decide +kernel) ⟨(Nat.le_of_ble_eq_true rfl), (Nat.le_of_ble_eq_true rfl)⟩) (tq_recvC hK hW (by decide) (tq_mk_1 (by decide)) rfl) hK hG hW hS rfl hl.1 rfl (Nat.le_of_ble_eq_true rfl) dX11_stow_10 ⟨(Nat.le_of_ble_eq_true rfl), (Nat.le_of_ble_eq_true rfl)⟩ (fun r5 S4 H locs h hW hS => ?_)
    refine lv_if_ne (tgt := 18) hx hb dX11_stow_13 (by decide) (fun c6 => ?_) (fun c6 => ?_)
    · have h := h.1 c6
      refine lv_iload_n hx hb dX11_stow_18 rfl (lv_at hl 3 rfl) ?_
      refine lv_iconst (v := 0) hx hb dX11_stow_19 (by decide) ?_
      refine lv_bipush (v := 20) hx hb dX11_stow_20 (by decide) ?_
      refine tqc_callSi (As := [.int p2, .int 0, .int 20]) (rest := []) (kX11_within h) ⟨hx, hb, hml, hown, hts⟩ (va_cwS 3 hts (tq_goodS tw_405 tw_406 tw_115 tw_407) rfl rfl rfl (by decide +kernel) ⟨(Nat.le_of_ble_eq_true rfl), (Nat.le_of_ble_eq_true rfl)⟩) hK hG hW hS rfl hl.1 rfl (Nat.le_of_ble_eq_true rfl) dX11_stow_22 ⟨(Nat.le_of_ble_eq_true rfl), (Nat.le_of_ble_eq_true rfl)⟩ (fun r8 S7 H locs h hW hS => ?_)
      refine lv_if_ne (tgt := 31) hx hb dX11_stow_25 (by decide) (fun c9 => ?_) (fun c9 => ?_)
      · have h := h.1 c9
        refine lv_aload_n hx hb dX11_stow_31 rfl (lv_at hl 0 rfl) ?_
        refine tqc_get (v := .ref (ad 19 0)) hx hb hw tq_inX11 hown hK hW (by decide) (tq_mk_1 (by decide)) rfl 7 (by decide) (hw _ tw_344) (fun _ h9 => h9) rfl dX11_stow_32 ?_
        refine lv_iload_n hx hb dX11_stow_35 rfl (lv_at hl 2 rfl) ?_
        obtain ⟨b12, h⟩ := h
        refine tqc_callVr (kr := 8) (As := [.int p1]) (rest := []) (kJl_get (kd := 20) (post := fun u i => u = S7 ∧ i = tq_el S7 19 20 0 p1) (by decide) (by decide) (tq_mk_19 (by decide)) (fun q9 => tq_mk_20 q9) b12 ⟨rfl, rfl⟩) ⟨hx, hb, hml, hown, hts⟩ (cwV 1 hts (tq_goodV tw_827 tw_828 tw_829 tw_118 tw_830) rfl rfl rfl (by decide +kernel) ⟨(Nat.le_of_ble_eq_true rfl), (Nat.le_of_ble_eq_true rfl)⟩) (tq_recvL hK hW (by decide) (tq_mk_19 (by decide))) hK hG hW hS rfl hl.1 rfl (Nat.le_of_ble_eq_true rfl) dX11_stow_36 ⟨(Nat.le_of_ble_eq_true rfl), (Nat.le_of_ble_eq_true rfl)⟩ (fun i11 S10 H locs q9 hW hS => ?_)
        rw [q9.1] at hW
        rw [q9.2]
        obtain ⟨b13, h⟩ := h
        refine va_castS hx hb hown (hw _ tw_839) (hK.1 9 _ rfl).2 (tq_recvC hK hW (by decide) (tq_mk_8 b13) rfl) dX11_stow_39 ?_
        refine lv_astore (lv' := [(4, .ref (ad 8 (tq_el S7 19 20 0 p1))), (0, .ref (ad 1 0)), (1, .int p0), (2, .int p1), (3, .int p2)]) hx hb dX11_stow_42 hl (by decide) rfl (fun ls hl => ?_)
        refine lv_aload hx hb dX11_stow_44 (lv_at hl 0 rfl) ?_
        refine tqc_get (v := .int (S7 8 (tq_el S7 19 20 0 p1) 3)) hx hb hw tq_inX8 hown hK hW (by decide) (tq_mk_8 b13) rfl 3 (by decide) (hw _ tw_904) (fun _ h9 => h9) rfl dX11_stow_46 ?_
        refine lv_aload_n hx hb dX11_stow_49 rfl (lv_at hl 1 rfl) ?_
        refine tqc_get (v := .ref (ad 13 0)) hx hb hw tq_inX11 hown hK hW (by decide) (tq_mk_1 (by decide)) rfl 3 (by decide) (hw _ tw_340) (fun _ h9 => h9) rfl dX11_stow_50 ?_
        refine lv_iload_n hx hb dX11_stow_53 rfl (lv_at hl 2 rfl) ?_
        obtain ⟨b14, h⟩ := h
        refine tqc_iald (jn := p0.toNatClampNeg) hx hb hK hW (by decide) (tq_mk_13 (by decide)) b14 rfl dX11_stow_54 ?_
        refine lv_icmp_eq (tgt := 61) hx hb dX11_stow_55 (by decide) (fun c15 => ?_) (fun c15 => ?_)
        · have h := h.1 c15
          refine lv_iload_n hx hb dX11_stow_61 rfl (lv_at hl 4 rfl) ?_
          refine lv_aload hx hb dX11_stow_62 (lv_at hl 0 rfl) ?_
          refine tqc_callVi (As := []) (rest := [.int p2]) (kX8_freeTons h) ⟨hx, hb, hml, hown, hts⟩ (cwV 0 hts (tq_goodV tw_963 tw_964 tw_965 tw_137 tw_966) rfl rfl rfl (by decide +kernel) ⟨(Nat.le_of_ble_eq_true rfl), (Nat.le_of_ble_eq_true rfl)⟩) (tq_recvC hK hW (by decide) (tq_mk_8 b13) rfl) hK hG hW hS rfl hl.1 rfl (Nat.le_of_ble_eq_true rfl) dX11_stow_64 ⟨(Nat.le_of_ble_eq_true rfl), (Nat.le_of_ble_eq_true rfl)⟩ (fun r17 S16 H locs h hW hS => ?_)
          refine lv_icmp_le (tgt := 73) hx hb dX11_stow_67 (by decide) (fun c18 => ?_) (fun c18 => ?_)
          · have h := h.1 c18
            refine lv_aload hx hb dX11_stow_73 (lv_at hl 0 rfl) ?_
            refine tqc_get (v := .ref (ad 55 (tq_el S7 19 20 0 p1))) hx hb hw tq_inX8 hown hK hW (by decide) (tq_mk_8 b13) rfl 9 (by decide) (hw _ tw_916) (fun _ h9 => h9) rfl dX11_stow_75 ?_
            refine lv_iload_n hx hb dX11_stow_78 rfl (lv_at hl 2 rfl) ?_
            refine lv_dup2_11 hx hb dX11_stow_79 rfl rfl ?_
            obtain ⟨b19, h⟩ := h
            refine tqc_iald (jn := p0.toNatClampNeg) hx hb hK hW (by decide) (tq_mk_55 b19) b14 rfl dX11_stow_80 ?_
            refine lv_iload_n hx hb dX11_stow_81 rfl (lv_at hl 4 rfl) ?_
            refine lv_iadd hx hb dX11_stow_82 ?_
            refine tqc_iast (jn := p0.toNatClampNeg) hx hb hK hW hS (by decide) (tq_mk_55 b19) b14 rfl (tq_mk_55 b19) dX11_stow_83 (fun H locs hW hS => ?_)
            generalize eS20 : tq_up S16 55 (tq_el S7 19 20 0 p1) p0.toNatClampNeg ((S16 55 (tq_el S7 19 20 0 p1) p0.toNatClampNeg) + p2) = S20 at hW
            have h := h S20 eS20.symm
            refine lv_aload hx hb dX11_stow_84 (lv_at hl 0 rfl) ?_
            refine tqc_get (v := .ref (ad 55 (tq_el S7 19 20 0 p1))) hx hb hw tq_inX8 hown hK hW (by decide) (tq_mk_8 b13) rfl 9 (by decide) (hw _ tw_916) (fun _ h9 => h9) rfl dX11_stow_86 ?_
            refine lv_iload_n hx hb dX11_stow_89 rfl (lv_at hl 2 rfl) ?_
            refine tqc_iald (jn := p0.toNatClampNeg) hx hb hK hW (by decide) (tq_mk_55 b19) b14 rfl dX11_stow_90 ?_
            exact W.iret (v := S20 55 (tq_el S7 19 20 0 p1) p0.toNatClampNeg) hx hb hr (fun t ht hWm => ⟨⟨_, S20, rfl, h, tq_pe ht hW⟩, hS.F ht⟩) hS.2.2 dX11_stow_91
          · have h := h.2 c18
            refine lv_bipush (v := (-4)) hx hb dX11_stow_70 (by decide) ?_
            exact W.iret (v := (-4)) hx hb hr (fun t ht hWm => ⟨⟨_, S16, rfl, h, tq_pe ht hW⟩, hS.F ht⟩) hS.2.2 dX11_stow_72
        · have h := h.2 c15
          refine lv_bipush (v := (-3)) hx hb dX11_stow_58 (by decide) ?_
          exact W.iret (v := (-3)) hx hb hr (fun t ht hWm => ⟨⟨_, S7, rfl, h, tq_pe ht hW⟩, hS.F ht⟩) hS.2.2 dX11_stow_60
      · have h := h.2 c9
        refine lv_bipush (v := (-2)) hx hb dX11_stow_28 (by decide) ?_
        exact W.iret (v := (-2)) hx hb hr (fun t ht hWm => ⟨⟨_, S7, rfl, h, tq_pe ht hW⟩, hS.F ht⟩) hS.2.2 dX11_stow_30
    · have h := h.2 c6
      exact bX11_stow_16 C  _  _ _ _ h hW hS (lv_sub hl [] rfl)
-- X11 lose
def wbX11_lose_36 (N : tq_Nn) (post : tq_St → Int32 → Prop)  (S : tq_St) : Prop :=
  post S ((-3))
def wpX11_lose (N : tq_Nn) (post : tq_St → Int32 → Prop) (S : tq_St) (p0 : Int32) : Prop :=
  wpX11_isVoyage N (fun S1 r2 => (¬ r2 = 0 → (tq_gok N S1 22 23 0 p0 ∧ (N 9 (tq_el S1 22 23 0 p0) = 1 ∧ ((¬ (S1 9 (tq_el S1 22 23 0 p0) 9) = 0 → (wbX11_lose_36 N post S1 )) ∧ ((S1 9 (tq_el S1 22 23 0 p0) 9) = 0 → (((S1 9 (tq_el S1 22 23 0 p0) 8) = 0 → ((∀ S10, S10 = tq_up S1 9 (tq_el S1 22 23 0 p0) 8 1 → (post S10 1)))) ∧ (¬ (S1 9 (tq_el S1 22 23 0 p0) 8) = 0 → (wbX11_lose_36 N post S1 )))))))) ∧ (r2 = 0 → (post S1 ((-1))))) S p0
set_option maxHeartbeats 4000000 in
set_option maxRecDepth 100000 in
theorem bX11_lose_36 {p : Program} {e : Env} {s : State} {m : MethodId} {args : Array Value} {below : List Frame} {meth : Method} {c : Code} {post : tq_St → Int32 → Prop} (C : tq_At p s m meth c args cX11_lose 3 ((some .int)) ((tq_ws yX11_lose cX11_lose 3 (some .int))) RX11 D cy z ad)  : ∀ (S : tq_St)  (H : Heap) (locs : List Loc) (ls : Array Slot), wbX11_lose_36 N post   S  → tq_wd D cy z H0 ad N (tq_mix S M) H → va_S (fun q => z ≤ q) s.heap H locs → lv_has ls 3 [] → W p l e (tq_rm 3 64) s m args below meth c H locs 0 0 (MQ below (va_Qi (fun r u => post u r) (fun u => tq_P D cy z H0 ad N u M) (fun q => z ≤ q)) args s 0 0 (fun q => z ≤ q)) (F0 m 36 ls []) := by
  obtain ⟨hx, hb, hr, hml, hown, hts, hlocks, hK, hG⟩ := id C
  have hw : ∀ w ∈ tq_W, w.before args s = true := fun w h => hts w (List.mem_cons_of_mem _ h)
  intro S  H locs ls h hW hS hl
  unfold wbX11_lose_36 at h
  refine lv_bipush (v := (-3)) hx hb dX11_lose_36 (by decide) ?_
  exact W.iret (v := (-3)) hx hb hr (fun t ht hWm => ⟨⟨_, S, rfl, h, tq_pe ht hW⟩, hS.F ht⟩) hS.2.2 dX11_lose_38
set_option maxHeartbeats 4000000 in
set_option maxRecDepth 100000 in
theorem kX11_lose {post : tq_St → Int32 → Prop} {S : tq_St} {p0 : Int32} (h : wpX11_lose N post S p0) : tq_sI l yX11_lose (tq_ws yX11_lose cX11_lose 3 (some .int)) 3 64 D cy z H0 ad N M S [.ref (ad 1 0), .int p0] post := by
  unfold wpX11_lose at h
  refine Met.ofW (cc := cX11_lose) (maxL := 3) (ret := (some .int)) (by decide) rfl ?_
  intro p e s m args below meth c s₁ B hml hv
  obtain ⟨rfl, hW, hK, hG⟩ := hv
  have hx := B.exec
  have hb := B.bytes
  have hr := B.returns
  have hts := atoms_spec (ws := (tq_ws yX11_lose cX11_lose 3 (some .int))) B.pre
  have hw : ∀ w ∈ tq_W, w.before _ s = true := fun w h => hts w (List.mem_cons_of_mem _ h)
  have hown : s.vm.findClass RX11 = some m.cls := findClass_of_methodNamed B.named
  have hlocks := B.notSynchronized
  have C : tq_At p s m meth c [.ref (ad 1 0), .int p0].toArray cX11_lose 3 ((some .int)) ((tq_ws yX11_lose cX11_lose 3 (some .int))) RX11 D cy z ad := ⟨hx, hb, hr, hml, hown, hts, hlocks, hK, hG⟩
  have hS : va_S (fun q => z ≤ q) s.heap s.heap [] := va_S.rf
  have hl := lv_entry ([.ref (ad 1 0), .int p0]) (n := 3) (Nat.le_of_ble_eq_true rfl)
  rw [lg_entry_eq]
  generalize (lg_sl ([.ref (ad 1 0), .int p0]) ++ List.replicate (3 - (lg_sl ([.ref (ad 1 0), .int p0])).length) Slot.unset).toArray = ls at hl ⊢
  have hl : lv_has ls 3 [(0, .ref (ad 1 0)), (1, .int p0)] := hl
  have hW : tq_wd D cy z H0 ad N (tq_mix S M) s.heap := hW
  refine lv_aload_n hx hb dX11_lose_0 rfl (lv_at hl 0 rfl) ?_
  refine lv_iload_n hx hb dX11_lose_1 rfl (lv_at hl 1 rfl) ?_
  refine tqc_callVi (As := [.int p0]) (rest := []) (kX11_isVoyage h) ⟨hx, hb, hml, hown, hts⟩ (cwV 1 hts (tq_goodV tw_1037 tw_1039 tw_26 tw_115 tw_1040) rfl rfl rfl (by decide +kernel) ⟨(Nat.le_of_ble_eq_true rfl), (Nat.le_of_ble_eq_true rfl)⟩) (tq_recvC hK hW (by decide) (tq_mk_1 (by decide)) rfl) hK hG hW hS rfl hl.1 rfl (Nat.le_of_ble_eq_true rfl) dX11_lose_2 ⟨(Nat.le_of_ble_eq_true rfl), (Nat.le_of_ble_eq_true rfl)⟩ (fun r2 S1 H locs h hW hS => ?_)
  refine lv_if_ne (tgt := 10) hx hb dX11_lose_5 (by decide) (fun c3 => ?_) (fun c3 => ?_)
  · have h := h.1 c3
    refine lv_aload_n hx hb dX11_lose_10 rfl (lv_at hl 0 rfl) ?_
    refine tqc_get (v := .ref (ad 22 0)) hx hb hw tq_inX11 hown hK hW (by decide) (tq_mk_1 (by decide)) rfl 9 (by decide) (hw _ tw_346) (fun _ h9 => h9) rfl dX11_lose_11 ?_
    refine lv_iload_n hx hb dX11_lose_14 rfl (lv_at hl 1 rfl) ?_
    obtain ⟨b6, h⟩ := h
    refine tqc_callVr (kr := 9) (As := [.int p0]) (rest := []) (kJl_get (kd := 23) (post := fun u i => u = S1 ∧ i = tq_el S1 22 23 0 p0) (by decide) (by decide) (tq_mk_22 (by decide)) (fun q9 => tq_mk_23 q9) b6 ⟨rfl, rfl⟩) ⟨hx, hb, hml, hown, hts⟩ (cwV 1 hts (tq_goodV tw_827 tw_828 tw_829 tw_118 tw_830) rfl rfl rfl (by decide +kernel) ⟨(Nat.le_of_ble_eq_true rfl), (Nat.le_of_ble_eq_true rfl)⟩) (tq_recvL hK hW (by decide) (tq_mk_22 (by decide))) hK hG hW hS rfl hl.1 rfl (Nat.le_of_ble_eq_true rfl) dX11_lose_15 ⟨(Nat.le_of_ble_eq_true rfl), (Nat.le_of_ble_eq_true rfl)⟩ (fun i5 S4 H locs q9 hW hS => ?_)
    rw [q9.1] at hW
    rw [q9.2]
    obtain ⟨b7, h⟩ := h
    refine va_castS hx hb hown (hw _ tw_978) (hK.1 11 _ rfl).2 (tq_recvC hK hW (by decide) (tq_mk_9 b7) rfl) dX11_lose_18 ?_
    refine lv_astore_n (lv' := [(2, .ref (ad 9 (tq_el S1 22 23 0 p0))), (0, .ref (ad 1 0)), (1, .int p0)]) hx hb dX11_lose_21 rfl hl (by decide) rfl (fun ls hl => ?_)
    refine lv_aload_n hx hb dX11_lose_22 rfl (lv_at hl 0 rfl) ?_
    refine tqc_get (v := .int (S1 9 (tq_el S1 22 23 0 p0) 9)) hx hb hw tq_inX10 hown hK hW (by decide) (tq_mk_9 b7) rfl 9 (by decide) (hw _ tw_1004) (fun _ h9 => h9) rfl dX11_lose_23 ?_
    refine lv_if_ne (tgt := 36) hx hb dX11_lose_26 (by decide) (fun c8 => ?_) (fun c8 => ?_)
    · have h := h.1 c8
      exact bX11_lose_36 C  _  _ _ _ h hW hS (lv_sub hl [] rfl)
    · have h := h.2 c8
      refine lv_aload_n hx hb dX11_lose_29 rfl (lv_at hl 0 rfl) ?_
      refine tqc_get (v := .int (S1 9 (tq_el S1 22 23 0 p0) 8)) hx hb hw tq_inX10 hown hK hW (by decide) (tq_mk_9 b7) rfl 8 (by decide) (hw _ tw_1002) (fun _ h9 => h9) rfl dX11_lose_30 ?_
      refine lv_if_eq (tgt := 39) hx hb dX11_lose_33 (by decide) (fun c9 => ?_) (fun c9 => ?_)
      · have h := h.1 c9
        refine lv_aload_n hx hb dX11_lose_39 rfl (lv_at hl 0 rfl) ?_
        refine lv_iconst (v := 1) hx hb dX11_lose_40 (by decide) ?_
        refine tqc_put hx hb hw tq_inX10 tyX10 tyX10_ok nmX10 hown hK hW hS (by decide) (tq_mk_9 b7) rfl 8 (by decide) (hw _ tw_1002) (fun _ h9 => h9) rfl rfl rfl rfl (tq_mk_9 b7) dX11_lose_41 (fun H locs hW hS => ?_)
        generalize eS10 : tq_up S1 9 (tq_el S1 22 23 0 p0) 8 1 = S10 at hW
        have h := h S10 eS10.symm
        refine lv_iconst (v := 1) hx hb dX11_lose_44 (by decide) ?_
        exact W.iret (v := 1) hx hb hr (fun t ht hWm => ⟨⟨_, S10, rfl, h, tq_pe ht hW⟩, hS.F ht⟩) hS.2.2 dX11_lose_45
      · have h := h.2 c9
        exact bX11_lose_36 C  _  _ _ _ h hW hS (lv_sub hl [] rfl)
  · have h := h.2 c3
    refine lv_iconst (v := (-1)) hx hb dX11_lose_8 (by decide) ?_
    exact W.iret (v := (-1)) hx hb hr (fun t ht hWm => ⟨⟨_, S1, rfl, h, tq_pe ht hW⟩, hS.F ht⟩) hS.2.2 dX11_lose_9
