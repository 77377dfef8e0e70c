variable {l : Launch} {D : va_G} {cy : Nat → ClassId} {z : Nat} {H0 : Heap} {ad : Nat → Nat → Nat} {N : tq_Nn} {M : tq_St}
-- X11 testsHold
def wbX11_testsHold_71 (N : tq_Nn) (post : tq_St → Int32 → Prop) (L5 : tq_St → Nat → Nat → Int32 → Int32 → Prop) (S : tq_St) (x1 : Nat) (x2 : Nat) (x4 : Int32) (y0 : Int32) : Prop :=
  L5 S x1 x2 y0 (x4 + 1)
def wbX11_testsHold_70 (N : tq_Nn) (post : tq_St → Int32 → Prop) (L5 : tq_St → Nat → Nat → Int32 → Int32 → Prop) (S : tq_St) (x1 : Nat) (x2 : Nat) (x4 : Int32) : Prop :=
  wbX11_testsHold_71 N post  L5 S x1 x2 x4 0
def wbX11_testsHold_47 (N : tq_Nn) (post : tq_St → Int32 → Prop) (L5 : tq_St → Nat → Nat → Int32 → Int32 → Prop) (S : tq_St) (x1 : Nat) (x2 : Nat) (x3 : Int32) (x4 : Int32) (x5 : Nat) : Prop :=
  (x3 = 0 → (wbX11_testsHold_70 N post  L5 S x1 x2 x4)) ∧ (¬ x3 = 0 → (wpX11_fieldValue N (fun S14 r15 => N 11 x5 = 1 ∧ wpX9_isMetBy N (fun S17 r18 => (r18 = 0 → (wbX11_testsHold_70 N post  L5 S17 x1 x2 x4)) ∧ (¬ r18 = 0 → (wbX11_testsHold_71 N post  L5 S17 x1 x2 x4 1))) S14 x5 r15) S x5 x2))
def wbX11_testsHold_5 (N : tq_Nn) (post : tq_St → Int32 → Prop) : Nat → tq_St → Nat → Nat → Int32 → Int32 → Prop
  | 0, _, _, _, _, _ => False
  | n + 1, S, x1, x2, x3, x4 =>
    N 10 x1 = 1 ∧ (N 59 x1 = 1 ∧ (((S 59 x1 2) ≤ x4 → (narrow .boolean (.int x3) = .int x3 ∧ post S x3)) ∧ (¬ (S 59 x1 2) ≤ x4 → (tq_gok N S 59 60 x1 x4 ∧ (N 11 (tq_el S 59 60 x1 x4) = 1 ∧ (((S 11 (tq_el S 59 60 x1 x4) 0) = 0 → (wbX11_testsHold_47 N post  (wbX11_testsHold_5 N post n) S x1 x2 x3 x4 (tq_el S 59 60 x1 x4))) ∧ (¬ (S 11 (tq_el S 59 60 x1 x4) 0) = 0 → ((x3 = 0 → (wbX11_testsHold_47 N post  (wbX11_testsHold_5 N post n) S x1 x2 1 x4 (tq_el S 59 60 x1 x4))) ∧ (¬ x3 = 0 → (post S 1))))))))))
def wpX11_testsHold (N : tq_Nn) (post : tq_St → Int32 → Prop) (S : tq_St) (p0 : Nat) (p1 : Nat) : Prop :=
  ∃ nq, wbX11_testsHold_5 N post nq S p0 p1 1 0
set_option maxHeartbeats 4000000 in
set_option maxRecDepth 100000 in
theorem bX11_testsHold_71 {p : Program} {e : Env} {s : State} {m : MethodId} {args : Array Value} {below : List Frame} {meth : Method} {c : Code} {post : tq_St → Int32 → Prop} (C : tq_At p s m meth c args cX11_testsHold 6 ((some .boolean)) ((tq_ws yX11_testsHold cX11_testsHold 6 (some .boolean))) RX11 D cy z ad) {L5 : tq_St → Nat → Nat → Int32 → Int32 → Prop} (hL5 : ∀ (S : tq_St) (x1 : Nat) (x2 : Nat) (x3 : Int32) (x4 : Int32) (H : Heap) (locs : List Loc) (ls : Array Slot), L5 S x1 x2 x3 x4 → tq_wd D cy z H0 ad N (tq_mix S M) H → va_S (fun q => z ≤ q) s.heap H locs → lv_has ls 6 [(0, .ref (ad 1 0)), (1, .ref (ad 10 x1)), (2, .ref (ad 2 x2)), (3, .int x3), (4, .int x4)] → W p l e (tq_rm 5 109) s m args below meth c H locs 0 0 (MQ below (va_Qi (fun r u => post u r) (fun u => tq_P D cy z H0 ad N u M) (fun q => z ≤ q)) args s 0 0 (fun q => z ≤ q)) (F0 m 5 ls [])) : ∀ (S : tq_St) (x1 : Nat) (x2 : Nat) (x4 : Int32) (y0 : Int32) (H : Heap) (locs : List Loc) (ls : Array Slot), wbX11_testsHold_71 N post  L5 S x1 x2 x4 y0 → tq_wd D cy z H0 ad N (tq_mix S M) H → va_S (fun q => z ≤ q) s.heap H locs → lv_has ls 6 [(0, .ref (ad 1 0)), (1, .ref (ad 10 x1)), (2, .ref (ad 2 x2)), (4, .int x4)] → W p l e (tq_rm 5 109) s m args below meth c H locs 0 0 (MQ below (va_Qi (fun r u => post u r) (fun u => tq_P D cy z H0 ad N u M) (fun q => z ≤ q)) args s 0 0 (fun q => z ≤ q)) (F0 m 71 ls [.int y0]) := by
  obtain ⟨hx, hb, hr, hml, hown, hts, hlocks, hK, hG⟩ := id C
  have hw : ∀ w ∈ tq_W, w.before args s = true := fun w h => hts w (List.mem_cons_of_mem _ h)
  intro S x1 x2 x4 y0 H locs ls h hW hS hl
  unfold wbX11_testsHold_71 at h
  refine lv_istore_n (lv' := [(3, .int y0), (0, .ref (ad 1 0)), (1, .ref (ad 10 x1)), (2, .ref (ad 2 x2)), (4, .int x4)]) hx hb dX11_testsHold_71 rfl hl (by decide) rfl (fun ls hl => ?_)
  refine lv_iinc (v := x4 + 1) (lv' := [(4, .int (x4 + 1)), (3, .int y0), (0, .ref (ad 1 0)), (1, .ref (ad 10 x1)), (2, .ref (ad 2 x2))]) hx hb dX11_testsHold_72 hl (k := 4) rfl rfl (by decide) rfl (fun ls hl => ?_)
  refine lv_goto (tgt := 5) hx hb dX11_testsHold_75 (by decide) ?_
  exact hL5 _ _ _ _ _ _ _ _ h hW hS (lv_sub hl [2, 3, 4, 1, 0] rfl)
set_option maxHeartbeats 4000000 in
set_option maxRecDepth 100000 in
theorem bX11_testsHold_70 {p : Program} {e : Env} {s : State} {m : MethodId} {args : Array Value} {below : List Frame} {meth : Method} {c : Code} {post : tq_St → Int32 → Prop} (C : tq_At p s m meth c args cX11_testsHold 6 ((some .boolean)) ((tq_ws yX11_testsHold cX11_testsHold 6 (some .boolean))) RX11 D cy z ad) {L5 : tq_St → Nat → Nat → Int32 → Int32 → Prop} (hL5 : ∀ (S : tq_St) (x1 : Nat) (x2 : Nat) (x3 : Int32) (x4 : Int32) (H : Heap) (locs : List Loc) (ls : Array Slot), L5 S x1 x2 x3 x4 → tq_wd D cy z H0 ad N (tq_mix S M) H → va_S (fun q => z ≤ q) s.heap H locs → lv_has ls 6 [(0, .ref (ad 1 0)), (1, .ref (ad 10 x1)), (2, .ref (ad 2 x2)), (3, .int x3), (4, .int x4)] → W p l e (tq_rm 5 109) s m args below meth c H locs 0 0 (MQ below (va_Qi (fun r u => post u r) (fun u => tq_P D cy z H0 ad N u M) (fun q => z ≤ q)) args s 0 0 (fun q => z ≤ q)) (F0 m 5 ls [])) : ∀ (S : tq_St) (x1 : Nat) (x2 : Nat) (x4 : Int32) (H : Heap) (locs : List Loc) (ls : Array Slot), wbX11_testsHold_70 N post  L5 S x1 x2 x4 → tq_wd D cy z H0 ad N (tq_mix S M) H → va_S (fun q => z ≤ q) s.heap H locs → lv_has ls 6 [(0, .ref (ad 1 0)), (1, .ref (ad 10 x1)), (2, .ref (ad 2 x2)), (4, .int x4)] → W p l e (tq_rm 5 109) s m args below meth c H locs 0 0 (MQ below (va_Qi (fun r u => post u r) (fun u => tq_P D cy z H0 ad N u M) (fun q => z ≤ q)) args s 0 0 (fun q => z ≤ q)) (F0 m 70 ls []) := by
  obtain ⟨hx, hb, hr, hml, hown, hts, hlocks, hK, hG⟩ := id C
  have hw : ∀ w ∈ tq_W, w.before args s = true := fun w h => hts w (List.mem_cons_of_mem _ h)
  intro S x1 x2 x4 H locs ls h hW hS hl
  unfold wbX11_testsHold_70 at h
  refine lv_iconst (v := 0) hx hb dX11_testsHold_70 (by decide) ?_
  exact bX11_testsHold_71 C (fun M9 a09 a19 a29 a39 H9 q9 ls9 h9 hW9 hS9 hl9 => hL5 M9 a09 a19 a29 a39 H9 q9 ls9 h9 hW9 hS9 hl9) _ _ _ _ _ _ _ _ h hW hS (lv_sub hl [0, 1, 2, 3] rfl)
set_option maxHeartbeats 4000000 in
set_option maxRecDepth 100000 in
theorem bX11_testsHold_47 {p : Program} {e : Env} {s : State} {m : MethodId} {args : Array Value} {below : List Frame} {meth : Method} {c : Code} {post : tq_St → Int32 → Prop} (C : tq_At p s m meth c args cX11_testsHold 6 ((some .boolean)) ((tq_ws yX11_testsHold cX11_testsHold 6 (some .boolean))) RX11 D cy z ad) {L5 : tq_St → Nat → Nat → Int32 → Int32 → Prop} (hL5 : ∀ (S : tq_St) (x1 : Nat) (x2 : Nat) (x3 : Int32) (x4 : Int32) (H : Heap) (locs : List Loc) (ls : Array Slot), L5 S x1 x2 x3 x4 → tq_wd D cy z H0 ad N (tq_mix S M) H → va_S (fun q => z ≤ q) s.heap H locs → lv_has ls 6 [(0, .ref (ad 1 0)), (1, .ref (ad 10 x1)), (2, .ref (ad 2 x2)), (3, .int x3), (4, .int x4)] → W p l e (tq_rm 5 109) s m args below meth c H locs 0 0 (MQ below (va_Qi (fun r u => post u r) (fun u => tq_P D cy z H0 ad N u M) (fun q => z ≤ q)) args s 0 0 (fun q => z ≤ q)) (F0 m 5 ls [])) : ∀ (S : tq_St) (x1 : Nat) (x2 : Nat) (x3 : Int32) (x4 : Int32) (x5 : Nat) (H : Heap) (locs : List Loc) (ls : Array Slot), wbX11_testsHold_47 N post  L5 S x1 x2 x3 x4 x5 → tq_wd D cy z H0 ad N (tq_mix S M) H → va_S (fun q => z ≤ q) s.heap H locs → lv_has ls 6 [(0, .ref (ad 1 0)), (1, .ref (ad 10 x1)), (2, .ref (ad 2 x2)), (3, .int x3), (4, .int x4), (5, .ref (ad 11 x5))] → W p l e (tq_rm 5 109) s m args below meth c H locs 0 0 (MQ below (va_Qi (fun r u => post u r) (fun u => tq_P D cy z H0 ad N u M) (fun q => z ≤ q)) args s 0 0 (fun q => z ≤ q)) (F0 m 47 ls []) := by
  obtain ⟨hx, hb, hr, hml, hown, hts, hlocks, hK, hG⟩ := id C
  have hw : ∀ w ∈ tq_W, w.before args s = true := fun w h => hts w (List.mem_cons_of_mem _ h)
  intro S x1 x2 x3 x4 x5 H locs ls h hW hS hl
  unfold wbX11_testsHold_47 at h
  refine lv_iload_n hx hb dX11_testsHold_47 rfl (lv_at hl 3 rfl) ?_
  refine lv_if_eq (tgt := 70) hx hb dX11_testsHold_48 (by decide) (fun c13 => ?_) (fun c13 => ?_)
  · have h := h.1 c13
    exact bX11_testsHold_70 C (fun M9 a09 a19 a29 a39 H9 q9 ls9 h9 hW9 hS9 hl9 => hL5 M9 a09 a19 a29 a39 H9 q9 ls9 h9 hW9 hS9 hl9) _ _ _ _ _ _ _ h hW hS (lv_sub hl [0, 1, 2, 4] rfl)
  · have h := h.2 c13
    refine lv_aload hx hb dX11_testsHold_51 (lv_at hl 5 rfl) ?_
    refine lv_aload_n hx hb dX11_testsHold_53 rfl (lv_at hl 0 rfl) ?_
    refine lv_aload hx hb dX11_testsHold_54 (lv_at hl 5 rfl) ?_
    refine lv_aload_n hx hb dX11_testsHold_56 rfl (lv_at hl 2 rfl) ?_
    refine tqc_callVi (As := [.ref (ad 11 x5), .ref (ad 2 x2)]) (rest := [.ref (ad 11 x5)]) (kX11_fieldValue h) ⟨hx, hb, hml, hown, hts⟩ (cwV 2 hts (tq_goodV tw_876 tw_878 tw_22 tw_115 tw_879) rfl rfl rfl (by decide +kernel) ⟨(Nat.le_of_ble_eq_true rfl), (Nat.le_of_ble_eq_true rfl)⟩) (tq_recvC hK hW (by decide) (tq_mk_1 (by decide)) rfl) hK hG hW hS rfl hl.1 rfl (Nat.le_of_ble_eq_true rfl) dX11_testsHold_57 ⟨(Nat.le_of_ble_eq_true rfl), (Nat.le_of_ble_eq_true rfl)⟩ (fun r15 S14 H locs h hW hS => ?_)
    obtain ⟨b16, h⟩ := h
    refine tqc_callVi (As := [.int r15]) (rest := []) (kX9_isMetBy h) ⟨hx, hb, hml, hown, hts⟩ (cwV 1 hts (tq_goodV tw_884 tw_885 tw_886 tw_133 tw_887) rfl rfl rfl (by decide +kernel) ⟨(Nat.le_of_ble_eq_true rfl), (Nat.le_of_ble_eq_true rfl)⟩) (tq_recvC hK hW (by decide) (tq_mk_11 b16) rfl) hK hG hW hS rfl hl.1 rfl (Nat.le_of_ble_eq_true rfl) dX11_testsHold_60 ⟨(Nat.le_of_ble_eq_true rfl), (Nat.le_of_ble_eq_true rfl)⟩ (fun r18 S17 H locs h hW hS => ?_)
    refine lv_if_eq (tgt := 70) hx hb dX11_testsHold_63 (by decide) (fun c19 => ?_) (fun c19 => ?_)
    · have h := h.1 c19
      exact bX11_testsHold_70 C (fun M9 a09 a19 a29 a39 H9 q9 ls9 h9 hW9 hS9 hl9 => hL5 M9 a09 a19 a29 a39 H9 q9 ls9 h9 hW9 hS9 hl9) _ _ _ _ _ _ _ h hW hS (lv_sub hl [0, 1, 2, 4] rfl)
    · have h := h.2 c19
      refine lv_iconst (v := 1) hx hb dX11_testsHold_66 (by decide) ?_
      refine lv_goto (tgt := 71) hx hb dX11_testsHold_67 (by decide) ?_
      exact bX11_testsHold_71 C (fun M9 a09 a19 a29 a39 H9 q9 ls9 h9 hW9 hS9 hl9 => hL5 M9 a09 a19 a29 a39 H9 q9 ls9 h9 hW9 hS9 hl9) _ _ _ _ _ _ _ _ h hW hS (lv_sub hl [0, 1, 2, 4] rfl)
set_option maxHeartbeats 4000000 in
set_option maxRecDepth 100000 in
theorem bX11_testsHold_5 {p : Program} {e : Env} {s : State} {m : MethodId} {args : Array Value} {below : List Frame} {meth : Method} {c : Code} {post : tq_St → Int32 → Prop} (C : tq_At p s m meth c args cX11_testsHold 6 ((some .boolean)) ((tq_ws yX11_testsHold cX11_testsHold 6 (some .boolean))) RX11 D cy z ad)  : ∀ n : Nat, ∀ (S : tq_St) (x1 : Nat) (x2 : Nat) (x3 : Int32) (x4 : Int32) (H : Heap) (locs : List Loc) (ls : Array Slot), wbX11_testsHold_5 N post   n S x1 x2 x3 x4 → tq_wd D cy z H0 ad N (tq_mix S M) H → va_S (fun q => z ≤ q) s.heap H locs → lv_has ls 6 [(0, .ref (ad 1 0)), (1, .ref (ad 10 x1)), (2, .ref (ad 2 x2)), (3, .int x3), (4, .int x4)] → W p l e (tq_rm 5 109) s m args below meth c H locs 0 0 (MQ below (va_Qi (fun r u => post u r) (fun u => tq_P D cy z H0 ad N u M) (fun q => z ≤ q)) args s 0 0 (fun q => z ≤ q)) (F0 m 5 ls []) := by
  obtain ⟨hx, hb, hr, hml, hown, hts, hlocks, hK, hG⟩ := id C
  have hw : ∀ w ∈ tq_W, w.before args s = true := fun w h => hts w (List.mem_cons_of_mem _ h)
  intro n
  induction n with
  | zero =>
    intro S x1 x2 x3 x4 H locs ls h
    exact absurd h (by unfold wbX11_testsHold_5; exact id)
  | succ n ih =>
    intro S x1 x2 x3 x4 H locs ls h hW hS hl
    unfold wbX11_testsHold_5 at h
    refine lv_iload hx hb dX11_testsHold_5 (lv_at hl 4 rfl) ?_
    refine lv_aload_n hx hb dX11_testsHold_7 rfl (lv_at hl 1 rfl) ?_
    obtain ⟨b1, h⟩ := h
    refine tqc_get (v := .ref (ad 59 x1)) hx hb hw tq_inX4 hown hK hW (by decide) (tq_mk_10 b1) rfl 6 (by decide) (hw _ tw_676) (fun _ h9 => h9) rfl dX11_testsHold_8 ?_
    obtain ⟨b2, h⟩ := h
    refine tqc_callVi (As := []) (rest := [.int x4]) (kJl_size (post := fun u r => u = S ∧ r = S 59 x1 2) (by decide) (tq_mk_59 b2) ⟨rfl, rfl⟩) ⟨hx, hb, hml, hown, hts⟩ (cwV 0 hts (tq_goodV tw_484 tw_485 tw_486 tw_118 tw_487) rfl rfl rfl (by decide +kernel) ⟨(Nat.le_of_ble_eq_true rfl), (Nat.le_of_ble_eq_true rfl)⟩) (tq_recvL hK hW (by decide) (tq_mk_59 b2)) hK hG hW hS rfl hl.1 rfl (Nat.le_of_ble_eq_true rfl) dX11_testsHold_11 ⟨(Nat.le_of_ble_eq_true rfl), (Nat.le_of_ble_eq_true rfl)⟩ (fun r4 S3 H locs q9 hW hS => ?_)
    rw [q9.1] at hW
    rw [q9.2]
    refine lv_icmp_ge (tgt := 78) hx hb dX11_testsHold_14 (by decide) (fun c5 => ?_) (fun c5 => ?_)
    · have h := h.1 c5
      refine lv_iload_n hx hb dX11_testsHold_78 rfl (lv_at hl 3 rfl) ?_
      obtain ⟨b6, h⟩ := h
      exact W.zret (v := x3) hx hb hr b6 (fun t ht hWm => ⟨⟨_, S, rfl, h, tq_pe ht hW⟩, hS.F ht⟩) hS.2.2 dX11_testsHold_79
    · have h := h.2 c5
      refine lv_aload_n hx hb dX11_testsHold_17 rfl (lv_at hl 1 rfl) ?_
      refine tqc_get (v := .ref (ad 59 x1)) hx hb hw tq_inX4 hown hK hW (by decide) (tq_mk_10 b1) rfl 6 (by decide) (hw _ tw_676) (fun _ h9 => h9) rfl dX11_testsHold_18 ?_
      refine lv_iload hx hb dX11_testsHold_21 (lv_at hl 4 rfl) ?_
      obtain ⟨b9, h⟩ := h
      refine tqc_callVr (kr := 11) (As := [.int x4]) (rest := []) (kJl_get (kd := 60) (post := fun u i => u = S ∧ i = tq_el S 59 60 x1 x4) (by decide) (by decide) (tq_mk_59 b2) (fun q9 => tq_mk_60 q9) b9 ⟨rfl, rfl⟩) ⟨hx, hb, hml, hown, hts⟩ (cwV 1 hts (tq_goodV tw_827 tw_828 tw_829 tw_118 tw_830) rfl rfl rfl (by decide +kernel) ⟨(Nat.le_of_ble_eq_true rfl), (Nat.le_of_ble_eq_true rfl)⟩) (tq_recvL hK hW (by decide) (tq_mk_59 b2)) hK hG hW hS rfl hl.1 rfl (Nat.le_of_ble_eq_true rfl) dX11_testsHold_23 ⟨(Nat.le_of_ble_eq_true rfl), (Nat.le_of_ble_eq_true rfl)⟩ (fun i8 S7 H locs q9 hW hS => ?_)
      rw [q9.1] at hW
      rw [q9.2]
      obtain ⟨b10, h⟩ := h
      refine va_castS hx hb hown (hw _ tw_875) (hK.1 10 _ rfl).2 (tq_recvC hK hW (by decide) (tq_mk_11 b10) rfl) dX11_testsHold_26 ?_
      refine lv_astore (lv' := [(5, .ref (ad 11 (tq_el S 59 60 x1 x4))), (0, .ref (ad 1 0)), (1, .ref (ad 10 x1)), (2, .ref (ad 2 x2)), (3, .int x3), (4, .int x4)]) hx hb dX11_testsHold_29 hl (by decide) rfl (fun ls hl => ?_)
      refine lv_aload hx hb dX11_testsHold_31 (lv_at hl 0 rfl) ?_
      refine tqc_get (v := .int (S 11 (tq_el S 59 60 x1 x4) 0)) hx hb hw tq_inX9 hown hK hW (by decide) (tq_mk_11 b10) rfl 0 (by decide) (hw _ tw_724) (fun _ h9 => h9) rfl dX11_testsHold_33 ?_
      refine lv_if_eq (tgt := 47) hx hb dX11_testsHold_36 (by decide) (fun c11 => ?_) (fun c11 => ?_)
      · have h := h.1 c11
        exact bX11_testsHold_47 C (fun M9 a09 a19 a29 a39 H9 q9 ls9 h9 hW9 hS9 hl9 => ih M9 a09 a19 a29 a39 H9 q9 ls9 h9 hW9 hS9 hl9) _ _ _ _ _ _ _ _ _ h hW hS (lv_sub hl [1, 2, 3, 4, 5, 0] rfl)
      · have h := h.2 c11
        refine lv_iload_n hx hb dX11_testsHold_39 rfl (lv_at hl 4 rfl) ?_
        refine lv_if_eq (tgt := 45) hx hb dX11_testsHold_40 (by decide) (fun c12 => ?_) (fun c12 => ?_)
        · have h := h.1 c12
          refine lv_iconst (v := 1) hx hb dX11_testsHold_45 (by decide) ?_
          refine lv_istore_n (lv' := [(3, .int 1), (5, .ref (ad 11 (tq_el S 59 60 x1 x4))), (0, .ref (ad 1 0)), (1, .ref (ad 10 x1)), (2, .ref (ad 2 x2)), (4, .int x4)]) hx hb dX11_testsHold_46 rfl hl (by decide) rfl (fun ls hl => ?_)
          exact bX11_testsHold_47 C (fun M9 a09 a19 a29 a39 H9 q9 ls9 h9 hW9 hS9 hl9 => ih M9 a09 a19 a29 a39 H9 q9 ls9 h9 hW9 hS9 hl9) _ _ _ _ _ _ _ _ _ h hW hS (lv_sub hl [2, 3, 4, 0, 5, 1] rfl)
        · have h := h.2 c12
          refine lv_iconst (v := 1) hx hb dX11_testsHold_43 (by decide) ?_
          exact W.zret (v := 1) hx hb hr rfl (fun t ht hWm => ⟨⟨_, S, rfl, h, tq_pe ht hW⟩, hS.F ht⟩) hS.2.2 dX11_testsHold_44
set_option maxHeartbeats 4000000 in
set_option maxRecDepth 100000 in
theorem kX11_testsHold {post : tq_St → Int32 → Prop} {S : tq_St} {p0 : Nat} {p1 : Nat} (h : wpX11_testsHold N post S p0 p1) : tq_sI l yX11_testsHold (tq_ws yX11_testsHold cX11_testsHold 6 (some .boolean)) 5 109 D cy z H0 ad N M S [.ref (ad 1 0), .ref (ad 10 p0), .ref (ad 2 p1)] post := by
  unfold wpX11_testsHold at h
  refine Met.ofW (cc := cX11_testsHold) (maxL := 6) (ret := (some .boolean)) (by decide) rfl ?_
  intro p e s m args below meth c s₁ B hml hv
  obtain ⟨rfl, hW, hK, hG⟩ := hv
  have hx := B.exec
  have hb := B.bytes
  have hr := B.returns
  have hts := atoms_spec (ws := (tq_ws yX11_testsHold cX11_testsHold 6 (some .boolean))) B.pre
  have hw : ∀ w ∈ tq_W, w.before _ s = true := fun w h => hts w (List.mem_cons_of_mem _ h)
  have hown : s.vm.findClass RX11 = some m.cls := findClass_of_methodNamed B.named
  have hlocks := B.notSynchronized
  have C : tq_At p s m meth c [.ref (ad 1 0), .ref (ad 10 p0), .ref (ad 2 p1)].toArray cX11_testsHold 6 ((some .boolean)) ((tq_ws yX11_testsHold cX11_testsHold 6 (some .boolean))) RX11 D cy z ad := ⟨hx, hb, hr, hml, hown, hts, hlocks, hK, hG⟩
  have hS : va_S (fun q => z ≤ q) s.heap s.heap [] := va_S.rf
  have hl := lv_entry ([.ref (ad 1 0), .ref (ad 10 p0), .ref (ad 2 p1)]) (n := 6) (Nat.le_of_ble_eq_true rfl)
  rw [lg_entry_eq]
  generalize (lg_sl ([.ref (ad 1 0), .ref (ad 10 p0), .ref (ad 2 p1)]) ++ List.replicate (6 - (lg_sl ([.ref (ad 1 0), .ref (ad 10 p0), .ref (ad 2 p1)])).length) Slot.unset).toArray = ls at hl ⊢
  have hl : lv_has ls 6 [(0, .ref (ad 1 0)), (1, .ref (ad 10 p0)), (2, .ref (ad 2 p1))] := hl
  have hW : tq_wd D cy z H0 ad N (tq_mix S M) s.heap := hW
  refine lv_iconst (v := 1) hx hb dX11_testsHold_0 (by decide) ?_
  refine lv_istore_n (lv' := [(3, .int 1), (0, .ref (ad 1 0)), (1, .ref (ad 10 p0)), (2, .ref (ad 2 p1))]) hx hb dX11_testsHold_1 rfl hl (by decide) rfl (fun ls hl => ?_)
  refine lv_iconst (v := 0) hx hb dX11_testsHold_2 (by decide) ?_
  refine lv_istore (lv' := [(4, .int 0), (3, .int 1), (0, .ref (ad 1 0)), (1, .ref (ad 10 p0)), (2, .ref (ad 2 p1))]) hx hb dX11_testsHold_3 hl (by decide) rfl (fun ls hl => ?_)
  obtain ⟨nq, h⟩ := h
  exact bX11_testsHold_5 C  nq _ _ _ _ _ _ _ _ h hW hS (lv_sub hl [2, 3, 4, 1, 0] rfl)
-- X11 enterFor
def wpX11_enterFor (N : tq_Nn) (post : tq_St → Prop) (S : tq_St) (p0 : Nat) (p1 : Nat) (p2 : Int32) (p3 : Int32) : Prop :=
  p1 < 5 ∧ (N 10 p0 = 1 ∧ (wpX11_enter N (fun S3 => post S3) S (S 2 p1 0) (S 10 p0 2) (S 10 p0 3) p2 p3 (S 10 p0 0) (S 10 p0 1)))
set_option maxHeartbeats 4000000 in
set_option maxRecDepth 100000 in
theorem kX11_enterFor {post : tq_St → Prop} {S : tq_St} {p0 : Nat} {p1 : Nat} {p2 : Int32} {p3 : Int32} (h : wpX11_enterFor N post S p0 p1 p2 p3) : tq_sV l yX11_enterFor (tq_ws yX11_enterFor cX11_enterFor 5 none) 1 28 D cy z H0 ad N M S [.ref (ad 1 0), .ref (ad 10 p0), .ref (ad 2 p1), .int p2, .int p3] post := by
  unfold wpX11_enterFor at h
  refine Met.ofW (cc := cX11_enterFor) (maxL := 5) (ret := none) (by decide) rfl ?_
  intro p e s m args below meth c s₁ B hml hv
  obtain ⟨rfl, hW, hK, hG⟩ := hv
  have hx := B.exec
  have hb := B.bytes
  have hr := B.returns
  have hts := atoms_spec (ws := (tq_ws yX11_enterFor cX11_enterFor 5 none)) B.pre
  have hw : ∀ w ∈ tq_W, w.before _ s = true := fun w h => hts w (List.mem_cons_of_mem _ h)
  have hown : s.vm.findClass RX11 = some m.cls := findClass_of_methodNamed B.named
  have hlocks := B.notSynchronized
  have C : tq_At p s m meth c [.ref (ad 1 0), .ref (ad 10 p0), .ref (ad 2 p1), .int p2, .int p3].toArray cX11_enterFor 5 (none) ((tq_ws yX11_enterFor cX11_enterFor 5 none)) RX11 D cy z ad := ⟨hx, hb, hr, hml, hown, hts, hlocks, hK, hG⟩
  have hS : va_S (fun q => z ≤ q) s.heap s.heap [] := va_S.rf
  have hl := lv_entry ([.ref (ad 1 0), .ref (ad 10 p0), .ref (ad 2 p1), .int p2, .int p3]) (n := 5) (Nat.le_of_ble_eq_true rfl)
  rw [lg_entry_eq]
  generalize (lg_sl ([.ref (ad 1 0), .ref (ad 10 p0), .ref (ad 2 p1), .int p2, .int p3]) ++ List.replicate (5 - (lg_sl ([.ref (ad 1 0), .ref (ad 10 p0), .ref (ad 2 p1), .int p2, .int p3])).length) Slot.unset).toArray = ls at hl ⊢
  have hl : lv_has ls 5 [(0, .ref (ad 1 0)), (1, .ref (ad 10 p0)), (2, .ref (ad 2 p1)), (3, .int p2), (4, .int p3)] := hl
  have hW : tq_wd D cy z H0 ad N (tq_mix S M) s.heap := hW
  refine lv_aload_n hx hb dX11_enterFor_0 rfl (lv_at hl 0 rfl) ?_
  refine lv_aload_n hx hb dX11_enterFor_1 rfl (lv_at hl 2 rfl) ?_
  obtain ⟨b1, h⟩ := h
  refine tqc_get (v := .int (S 2 p1 0)) hx hb hw tq_inX5 hown hK hW (by decide) (tq_mk_2 b1) rfl 0 (by decide) (hw _ tw_253) (fun _ h9 => h9) rfl dX11_enterFor_2 ?_
  refine lv_aload_n hx hb dX11_enterFor_5 rfl (lv_at hl 1 rfl) ?_
  obtain ⟨b2, h⟩ := h
  refine tqc_get (v := .int (S 10 p0 2)) hx hb hw tq_inX4 hown hK hW (by decide) (tq_mk_10 b2) rfl 2 (by decide) (hw _ tw_667) (fun _ h9 => h9) rfl dX11_enterFor_6 ?_
  refine lv_aload_n hx hb dX11_enterFor_9 rfl (lv_at hl 1 rfl) ?_
  refine tqc_get (v := .int (S 10 p0 3)) hx hb hw tq_inX4 hown hK hW (by decide) (tq_mk_10 b2) rfl 3 (by decide) (hw _ tw_669) (fun _ h9 => h9) rfl dX11_enterFor_10 ?_
  refine lv_iload_n hx hb dX11_enterFor_13 rfl (lv_at hl 3 rfl) ?_
  refine lv_iload hx hb dX11_enterFor_14 (lv_at hl 4 rfl) ?_
  refine lv_aload_n hx hb dX11_enterFor_16 rfl (lv_at hl 1 rfl) ?_
  refine tqc_get (v := .int (S 10 p0 0)) hx hb hw tq_inX4 hown hK hW (by decide) (tq_mk_10 b2) rfl 0 (by decide) (hw _ tw_663) (fun _ h9 => h9) rfl dX11_enterFor_17 ?_
  refine lv_aload_n hx hb dX11_enterFor_20 rfl (lv_at hl 1 rfl) ?_
  refine tqc_get (v := .int (S 10 p0 1)) hx hb hw tq_inX4 hown hK hW (by decide) (tq_mk_10 b2) rfl 1 (by decide) (hw _ tw_665) (fun _ h9 => h9) rfl dX11_enterFor_21 ?_
  refine tqc_callVv (As := [.int (S 2 p1 0), .int (S 10 p0 2), .int (S 10 p0 3), .int p2, .int p3, .int (S 10 p0 0), .int (S 10 p0 1)]) (rest := []) (kX11_enter h) ⟨hx, hb, hml, hown, hts⟩ (cwV 7 hts (tq_goodV tw_1153 tw_1155 tw_39 tw_115 tw_1156) rfl rfl rfl (by decide +kernel) ⟨(Nat.le_of_ble_eq_true rfl), (Nat.le_of_ble_eq_true rfl)⟩) (tq_recvC hK hW (by decide) (tq_mk_1 (by decide)) rfl) hK hG hW hS rfl hl.1 rfl (Nat.le_of_ble_eq_true rfl) dX11_enterFor_24 ⟨(Nat.le_of_ble_eq_true rfl), (Nat.le_of_ble_eq_true rfl)⟩ (fun S3 H locs h hW hS => ?_)
  exact W.vret hx hb hr (fun t ht hWm => ⟨⟨S3, rfl, h, tq_pe ht hW⟩, hS.F ht⟩) hS.2.2 dX11_enterFor_27
-- X11 carries
def wbX11_carries_25 (N : tq_Nn) (post : tq_St → Int32 → Prop)  (S : tq_St) : Prop :=
  post S 0
def wbX11_carries_74 (N : tq_Nn) (post : tq_St → Int32 → Prop)  (S : tq_St) (y0 : Int32) : Prop :=
  narrow .boolean (.int y0) = .int y0 ∧ post S y0
def wbX11_carries_69 (N : tq_Nn) (post : tq_St → Int32 → Prop)  (S : tq_St) : Prop :=
  wbX11_carries_74 N post S 1
def wbX11_carries_73 (N : tq_Nn) (post : tq_St → Int32 → Prop)  (S : tq_St) : Prop :=
  wbX11_carries_74 N post S 0
def wpX11_carries (N : tq_Nn) (post : tq_St → Int32 → Prop) (S : tq_St) (p0 : Int32) (p1 : Int32) (p2 : Int32) : Prop :=
  (¬ (p1 &&& p2) = 0 → (wbX11_carries_25 N post S )) ∧ ((p1 &&& p2) = 0 → (((tq_bc p0) ≤ (2 * (tq_bc (p1 ||| p2))) → (wpX11_weightOf N (fun S7 r8 => wpX11_weightOf N (fun S9 r10 => (0 < (r8 - r10) → (wbX11_carries_69 N post S9 )) ∧ (¬ 0 < (r8 - r10) → ((¬ (r8 - r10) = 0 → (wbX11_carries_73 N post S9 )) ∧ ((r8 - r10) = 0 → (((p1 ||| p2) = 0 → (wbX11_carries_73 N post S9 )) ∧ (¬ (p1 ||| p2) = 0 → (wpX11_greatestRank N (fun S14 r15 => wpX11_greatestRank N (fun S16 r17 => (¬ r15 = r17 → (wbX11_carries_73 N post S16 )) ∧ (r15 = r17 → (wbX11_carries_69 N post S16 ))) S14 (p1 ||| p2)) S9 p1))))))) S7 p2) S p1)) ∧ (¬ (tq_bc p0) ≤ (2 * (tq_bc (p1 ||| p2))) → (wbX11_carries_25 N post S ))))
set_option maxHeartbeats 4000000 in
set_option maxRecDepth 100000 in
theorem bX11_carries_25 {p : Program} {e : Env} {s : State} {m : MethodId} {args : Array Value} {below : List Frame} {meth : Method} {c : Code} {post : tq_St → Int32 → Prop} (C : tq_At p s m meth c args cX11_carries 6 ((some .boolean)) ((tq_ws yX11_carries cX11_carries 6 (some .boolean))) RX11 D cy z ad)  : ∀ (S : tq_St)  (H : Heap) (locs : List Loc) (ls : Array Slot), wbX11_carries_25 N post   S  → tq_wd D cy z H0 ad N (tq_mix S M) H → va_S (fun q => z ≤ q) s.heap H locs → lv_has ls 6 [] → W p l e (tq_rm 2 44) s m args below meth c H locs 0 0 (MQ below (va_Qi (fun r u => post u r) (fun u => tq_P D cy z H0 ad N u M) (fun q => z ≤ q)) args s 0 0 (fun q => z ≤ q)) (F0 m 25 ls []) := by
  obtain ⟨hx, hb, hr, hml, hown, hts, hlocks, hK, hG⟩ := id C
  have hw : ∀ w ∈ tq_W, w.before args s = true := fun w h => hts w (List.mem_cons_of_mem _ h)
  intro S  H locs ls h hW hS hl
  unfold wbX11_carries_25 at h
  refine lv_iconst (v := 0) hx hb dX11_carries_25 (by decide) ?_
  exact W.zret (v := 0) hx hb hr rfl (fun t ht hWm => ⟨⟨_, S, rfl, h, tq_pe ht hW⟩, hS.F ht⟩) hS.2.2 dX11_carries_26
set_option maxHeartbeats 4000000 in
set_option maxRecDepth 100000 in
theorem bX11_carries_74 {p : Program} {e : Env} {s : State} {m : MethodId} {args : Array Value} {below : List Frame} {meth : Method} {c : Code} {post : tq_St → Int32 → Prop} (C : tq_At p s m meth c args cX11_carries 6 ((some .boolean)) ((tq_ws yX11_carries cX11_carries 6 (some .boolean))) RX11 D cy z ad)  : ∀ (S : tq_St) (y0 : Int32) (H : Heap) (locs : List Loc) (ls : Array Slot), wbX11_carries_74 N post   S y0 → tq_wd D cy z H0 ad N (tq_mix S M) H → va_S (fun q => z ≤ q) s.heap H locs → lv_has ls 6 [] → W p l e (tq_rm 2 44) s m args below meth c H locs 0 0 (MQ below (va_Qi (fun r u => post u r) (fun u => tq_P D cy z H0 ad N u M) (fun q => z ≤ q)) args s 0 0 (fun q => z ≤ q)) (F0 m 74 ls [.int y0]) := by
  obtain ⟨hx, hb, hr, hml, hown, hts, hlocks, hK, hG⟩ := id C
  have hw : ∀ w ∈ tq_W, w.before args s = true := fun w h => hts w (List.mem_cons_of_mem _ h)
  intro S y0 H locs ls h hW hS hl
  unfold wbX11_carries_74 at h
  obtain ⟨b19, h⟩ := h
  exact W.zret (v := y0) hx hb hr b19 (fun t ht hWm => ⟨⟨_, S, rfl, h, tq_pe ht hW⟩, hS.F ht⟩) hS.2.2 dX11_carries_74
set_option maxHeartbeats 4000000 in
set_option maxRecDepth 100000 in
theorem bX11_carries_69 {p : Program} {e : Env} {s : State} {m : MethodId} {args : Array Value} {below : List Frame} {meth : Method} {c : Code} {post : tq_St → Int32 → Prop} (C : tq_At p s m meth c args cX11_carries 6 ((some .boolean)) ((tq_ws yX11_carries cX11_carries 6 (some .boolean))) RX11 D cy z ad)  : ∀ (S : tq_St)  (H : Heap) (locs : List Loc) (ls : Array Slot), wbX11_carries_69 N post   S  → tq_wd D cy z H0 ad N (tq_mix S M) H → va_S (fun q => z ≤ q) s.heap H locs → lv_has ls 6 [] → W p l e (tq_rm 2 44) s m args below meth c H locs 0 0 (MQ below (va_Qi (fun r u => post u r) (fun u => tq_P D cy z H0 ad N u M) (fun q => z ≤ q)) args s 0 0 (fun q => z ≤ q)) (F0 m 69 ls []) := by
  obtain ⟨hx, hb, hr, hml, hown, hts, hlocks, hK, hG⟩ := id C
  have hw : ∀ w ∈ tq_W, w.before args s = true := fun w h => hts w (List.mem_cons_of_mem _ h)
  intro S  H locs ls h hW hS hl
  unfold wbX11_carries_69 at h
  refine lv_iconst (v := 1) hx hb dX11_carries_69 (by decide) ?_
  refine lv_goto (tgt := 74) hx hb dX11_carries_70 (by decide) ?_
  exact bX11_carries_74 C  _ _ _ _ _ h hW hS (lv_sub hl [] rfl)
set_option maxHeartbeats 4000000 in
set_option maxRecDepth 100000 in
theorem bX11_carries_73 {p : Program} {e : Env} {s : State} {m : MethodId} {args : Array Value} {below : List Frame} {meth : Method} {c : Code} {post : tq_St → Int32 → Prop} (C : tq_At p s m meth c args cX11_carries 6 ((some .boolean)) ((tq_ws yX11_carries cX11_carries 6 (some .boolean))) RX11 D cy z ad)  : ∀ (S : tq_St)  (H : Heap) (locs : List Loc) (ls : Array Slot), wbX11_carries_73 N post   S  → tq_wd D cy z H0 ad N (tq_mix S M) H → va_S (fun q => z ≤ q) s.heap H locs → lv_has ls 6 [] → W p l e (tq_rm 2 44) s m args below meth c H locs 0 0 (MQ below (va_Qi (fun r u => post u r) (fun u => tq_P D cy z H0 ad N u M) (fun q => z ≤ q)) args s 0 0 (fun q => z ≤ q)) (F0 m 73 ls []) := by
  obtain ⟨hx, hb, hr, hml, hown, hts, hlocks, hK, hG⟩ := id C
  have hw : ∀ w ∈ tq_W, w.before args s = true := fun w h => hts w (List.mem_cons_of_mem _ h)
  intro S  H locs ls h hW hS hl
  unfold wbX11_carries_73 at h
  refine lv_iconst (v := 0) hx hb dX11_carries_73 (by decide) ?_
  exact bX11_carries_74 C  _ _ _ _ _ h hW hS (lv_sub hl [] rfl)
set_option maxHeartbeats 4000000 in
set_option maxRecDepth 100000 in
theorem kX11_carries {post : tq_St → Int32 → Prop} {S : tq_St} {p0 : Int32} {p1 : Int32} {p2 : Int32} (h : wpX11_carries N post S p0 p1 p2) : tq_sI l yX11_carries (tq_ws yX11_carries cX11_carries 6 (some .boolean)) 2 44 D cy z H0 ad N M S [.ref (ad 1 0), .int p0, .int p1, .int p2] post := by
  unfold wpX11_carries at h
  refine Met.ofW (cc := cX11_carries) (maxL := 6) (ret := (some .boolean)) (by decide) rfl ?_
  intro p e s m args below meth c s₁ B hml hv
  obtain ⟨rfl, hW, hK, hG⟩ := hv
  have hx := B.exec
  have hb := B.bytes
  have hr := B.returns
  have hts := atoms_spec (ws := (tq_ws yX11_carries cX11_carries 6 (some .boolean))) B.pre
  have hw : ∀ w ∈ tq_W, w.before _ s = true := fun w h => hts w (List.mem_cons_of_mem _ h)
  have hown : s.vm.findClass RX11 = some m.cls := findClass_of_methodNamed B.named
  have hlocks := B.notSynchronized
  have C : tq_At p s m meth c [.ref (ad 1 0), .int p0, .int p1, .int p2].toArray cX11_carries 6 ((some .boolean)) ((tq_ws yX11_carries cX11_carries 6 (some .boolean))) RX11 D cy z ad := ⟨hx, hb, hr, hml, hown, hts, hlocks, hK, hG⟩
  have hS : va_S (fun q => z ≤ q) s.heap s.heap [] := va_S.rf
  have hl := lv_entry ([.ref (ad 1 0), .int p0, .int p1, .int p2]) (n := 6) (Nat.le_of_ble_eq_true rfl)
  rw [lg_entry_eq]
  generalize (lg_sl ([.ref (ad 1 0), .int p0, .int p1, .int p2]) ++ List.replicate (6 - (lg_sl ([.ref (ad 1 0), .int p0, .int p1, .int p2])).length) Slot.unset).toArray = ls at hl ⊢
  have hl : lv_has ls 6 [(0, .ref (ad 1 0)), (1, .int p0), (2, .int p1), (3, .int p2)] := hl
  have hW : tq_wd D cy z H0 ad N (tq_mix S M) s.heap := hW
  refine lv_iload_n hx hb dX11_carries_0 rfl (lv_at hl 2 rfl) ?_
  refine lv_iload_n hx hb dX11_carries_1 rfl (lv_at hl 3 rfl) ?_
  refine lv_ior hx hb dX11_carries_2 ?_
  refine lv_istore (lv' := [(4, .int (p1 ||| p2)), (0, .ref (ad 1 0)), (1, .int p0), (2, .int p1), (3, .int p2)]) hx hb dX11_carries_3 hl (by decide) rfl (fun ls hl => ?_)
  refine lv_iload_n hx hb dX11_carries_5 rfl (lv_at hl 3 rfl) ?_
  refine lv_iload_n hx hb dX11_carries_6 rfl (lv_at hl 4 rfl) ?_
  refine lv_iand hx hb dX11_carries_7 ?_
  refine lv_if_ne (tgt := 25) hx hb dX11_carries_8 (by decide) (fun c1 => ?_) (fun c1 => ?_)
  · have h := h.1 c1
    exact bX11_carries_25 C  _  _ _ _ h hW hS (lv_sub hl [] rfl)
  · have h := h.2 c1
    refine lv_iconst (v := 2) hx hb dX11_carries_11 (by decide) ?_
    refine lv_iload hx hb dX11_carries_12 (lv_at hl 0 rfl) ?_
    refine tqc_callSi (As := [.int (p1 ||| p2)]) (rest := [.int 2]) (tq_mI.toS (kJ6_bitCount_0f7a4 (post := fun u r => u = M ∧ r = tq_bc (p1 ||| p2)) ⟨rfl, rfl⟩) (post := fun u r => u = S ∧ r = tq_bc (p1 ||| p2)) ⟨rfl, rfl⟩) ⟨hx, hb, hml, hown, hts⟩ (va_cwS 1 hts (tq_goodS tw_1256 tw_1257 tw_140 tw_1258) rfl rfl rfl (by decide +kernel) ⟨(Nat.le_of_ble_eq_true rfl), (Nat.le_of_ble_eq_true rfl)⟩) hK hG hW hS rfl hl.1 rfl (Nat.le_of_ble_eq_true rfl) dX11_carries_14 ⟨(Nat.le_of_ble_eq_true rfl), (Nat.le_of_ble_eq_true rfl)⟩ (fun r3 S2 H locs q9 hW hS => ?_)
    rw [q9.1] at hW
    rw [q9.2]
    refine lv_imul hx hb dX11_carries_17 ?_
    refine lv_iload_n hx hb dX11_carries_18 rfl (lv_at hl 2 rfl) ?_
    refine tqc_callSi (As := [.int p0]) (rest := [.int (2 * (tq_bc (p1 ||| p2)))]) (tq_mI.toS (kJ6_bitCount_0f7a4 (post := fun u r => u = M ∧ r = tq_bc p0) ⟨rfl, rfl⟩) (post := fun u r => u = S ∧ r = tq_bc p0) ⟨rfl, rfl⟩) ⟨hx, hb, hml, hown, hts⟩ (va_cwS 1 hts (tq_goodS tw_1256 tw_1257 tw_140 tw_1258) rfl rfl rfl (by decide +kernel) ⟨(Nat.le_of_ble_eq_true rfl), (Nat.le_of_ble_eq_true rfl)⟩) hK hG hW hS rfl hl.1 rfl (Nat.le_of_ble_eq_true rfl) dX11_carries_19 ⟨(Nat.le_of_ble_eq_true rfl), (Nat.le_of_ble_eq_true rfl)⟩ (fun r5 S4 H locs q9 hW hS => ?_)
    rw [q9.1] at hW
    rw [q9.2]
    refine lv_icmp_ge (tgt := 27) hx hb dX11_carries_22 (by decide) (fun c6 => ?_) (fun c6 => ?_)
    · have h := h.1 c6
      refine lv_aload_n hx hb dX11_carries_27 rfl (lv_at hl 1 rfl) ?_
      refine lv_iload_n hx hb dX11_carries_28 rfl (lv_at hl 3 rfl) ?_
      refine tqc_callVi (As := [.int p1]) (rest := []) (kX11_weightOf h) ⟨hx, hb, hml, hown, hts⟩ (cwV 1 hts (tq_goodV tw_1262 tw_1264 tw_50 tw_115 tw_1265) rfl rfl rfl (by decide +kernel) ⟨(Nat.le_of_ble_eq_true rfl), (Nat.le_of_ble_eq_true rfl)⟩) (tq_recvC hK hW (by decide) (tq_mk_1 (by decide)) rfl) hK hG hW hS rfl hl.1 rfl (Nat.le_of_ble_eq_true rfl) dX11_carries_29 ⟨(Nat.le_of_ble_eq_true rfl), (Nat.le_of_ble_eq_true rfl)⟩ (fun r8 S7 H locs h hW hS => ?_)
      refine lv_aload_n hx hb dX11_carries_32 rfl (lv_at hl 1 rfl) ?_
      refine lv_iload_n hx hb dX11_carries_33 rfl (lv_at hl 4 rfl) ?_
      refine tqc_callVi (As := [.int p2]) (rest := [.int r8]) (kX11_weightOf h) ⟨hx, hb, hml, hown, hts⟩ (cwV 1 hts (tq_goodV tw_1262 tw_1264 tw_50 tw_115 tw_1265) rfl rfl rfl (by decide +kernel) ⟨(Nat.le_of_ble_eq_true rfl), (Nat.le_of_ble_eq_true rfl)⟩) (tq_recvC hK hW (by decide) (tq_mk_1 (by decide)) rfl) hK hG hW hS rfl hl.1 rfl (Nat.le_of_ble_eq_true rfl) dX11_carries_34 ⟨(Nat.le_of_ble_eq_true rfl), (Nat.le_of_ble_eq_true rfl)⟩ (fun r10 S9 H locs h hW hS => ?_)
      refine lv_isub hx hb dX11_carries_37 ?_
      refine lv_istore (lv' := [(5, .int (r8 - r10)), (4, .int (p1 ||| p2)), (0, .ref (ad 1 0)), (1, .int p0), (2, .int p1), (3, .int p2)]) hx hb dX11_carries_38 hl (by decide) rfl (fun ls hl => ?_)
      refine lv_iload hx hb dX11_carries_40 (lv_at hl 0 rfl) ?_
      refine lv_if_gt (tgt := 69) hx hb dX11_carries_42 (by decide) (fun c11 => ?_) (fun c11 => ?_)
      · have h := h.1 c11
        exact bX11_carries_69 C  _  _ _ _ h hW hS (lv_sub hl [] rfl)
      · have h := h.2 c11
        refine lv_iload hx hb dX11_carries_45 (lv_at hl 0 rfl) ?_
        refine lv_if_ne (tgt := 73) hx hb dX11_carries_47 (by decide) (fun c12 => ?_) (fun c12 => ?_)
        · have h := h.1 c12
          exact bX11_carries_73 C  _  _ _ _ h hW hS (lv_sub hl [] rfl)
        · have h := h.2 c12
          refine lv_iload hx hb dX11_carries_50 (lv_at hl 1 rfl) ?_
          refine lv_if_eq (tgt := 73) hx hb dX11_carries_52 (by decide) (fun c13 => ?_) (fun c13 => ?_)
          · have h := h.1 c13
            exact bX11_carries_73 C  _  _ _ _ h hW hS (lv_sub hl [] rfl)
          · have h := h.2 c13
            refine lv_aload_n hx hb dX11_carries_55 rfl (lv_at hl 2 rfl) ?_
            refine lv_iload_n hx hb dX11_carries_56 rfl (lv_at hl 4 rfl) ?_
            refine tqc_callVi (As := [.int p1]) (rest := []) (kX11_greatestRank h) ⟨hx, hb, hml, hown, hts⟩ (cwV 1 hts (tq_goodV tw_1266 tw_1268 tw_51 tw_115 tw_1269) rfl rfl rfl (by decide +kernel) ⟨(Nat.le_of_ble_eq_true rfl), (Nat.le_of_ble_eq_true rfl)⟩) (tq_recvC hK hW (by decide) (tq_mk_1 (by decide)) rfl) hK hG hW hS rfl hl.1 rfl (Nat.le_of_ble_eq_true rfl) dX11_carries_57 ⟨(Nat.le_of_ble_eq_true rfl), (Nat.le_of_ble_eq_true rfl)⟩ (fun r15 S14 H locs h hW hS => ?_)
            refine lv_aload_n hx hb dX11_carries_60 rfl (lv_at hl 2 rfl) ?_
            refine lv_iload hx hb dX11_carries_61 (lv_at hl 1 rfl) ?_
            refine tqc_callVi (As := [.int (p1 ||| p2)]) (rest := [.int r15]) (kX11_greatestRank h) ⟨hx, hb, hml, hown, hts⟩ (cwV 1 hts (tq_goodV tw_1266 tw_1268 tw_51 tw_115 tw_1269) rfl rfl rfl (by decide +kernel) ⟨(Nat.le_of_ble_eq_true rfl), (Nat.le_of_ble_eq_true rfl)⟩) (tq_recvC hK hW (by decide) (tq_mk_1 (by decide)) rfl) hK hG hW hS rfl hl.1 rfl (Nat.le_of_ble_eq_true rfl) dX11_carries_63 ⟨(Nat.le_of_ble_eq_true rfl), (Nat.le_of_ble_eq_true rfl)⟩ (fun r17 S16 H locs h hW hS => ?_)
            refine lv_icmp_ne (tgt := 73) hx hb dX11_carries_66 (by decide) (fun c18 => ?_) (fun c18 => ?_)
            · have h := h.1 c18
              exact bX11_carries_73 C  _  _ _ _ h hW hS (lv_sub hl [] rfl)
            · have h := h.2 c18
              exact bX11_carries_69 C  _  _ _ _ h hW hS (lv_sub hl [] rfl)
    · have h := h.2 c6
      exact bX11_carries_25 C  _  _ _ _ h hW hS (lv_sub hl [] rfl)
-- X11 worstYear
def wbX11_worstYear_19 (N : tq_Nn) (post : tq_St → Int32 → Prop) : Nat → tq_St → Int32 → Int32 → Int32 → Int32 → Int32 → Int32 → Prop
  | 0, _, _, _, _, _, _, _ => False
  | n + 1, S, x1, x2, x3, x4, x5, x6 =>
    (4 ≤ x6 → (post S x5)) ∧ (¬ 4 ≤ x6 → (vp_in x6 4 ∧ (wpX11_lotsBring N (fun S5 r6 => (wbX11_worstYear_19 N post n) S5 x1 x2 x3 x4 (if r6 < x5 then r6 else x5) (x6 + 1)) S x6.toNatClampNeg x1 x2 x3 x4)))
def wpX11_worstYear (N : tq_Nn) (post : tq_St → Int32 → Prop) (S : tq_St) (p0 : Int32) (p1 : Int32) (p2 : Int32) (p3 : Int32) : Prop :=
  wpX11_lotsBring N (fun S1 r2 => ∃ nq, wbX11_worstYear_19 N post nq S1 p0 p1 p2 p3 r2 1) S 0 p0 p1 p2 p3
set_option maxHeartbeats 4000000 in
set_option maxRecDepth 100000 in
theorem bX11_worstYear_19 {p : Program} {e : Env} {s : State} {m : MethodId} {args : Array Value} {below : List Frame} {meth : Method} {c : Code} {post : tq_St → Int32 → Prop} (C : tq_At p s m meth c args cX11_worstYear 7 ((some .int)) ((tq_ws yX11_worstYear cX11_worstYear 7 (some .int))) RX11 D cy z ad)  : ∀ n : Nat, ∀ (S : tq_St) (x1 : Int32) (x2 : Int32) (x3 : Int32) (x4 : Int32) (x5 : Int32) (x6 : Int32) (H : Heap) (locs : List Loc) (ls : Array Slot), wbX11_worstYear_19 N post   n S x1 x2 x3 x4 x5 x6 → tq_wd D cy z H0 ad N (tq_mix S M) H → va_S (fun q => z ≤ q) s.heap H locs → lv_has ls 7 [(0, .ref (ad 1 0)), (1, .int x1), (2, .int x2), (3, .int x3), (4, .int x4), (5, .int x5), (6, .int x6)] → W p l e (tq_rm 1 24) s m args below meth c H locs 0 0 (MQ below (va_Qi (fun r u => post u r) (fun u => tq_P D cy z H0 ad N u M) (fun q => z ≤ q)) args s 0 0 (fun q => z ≤ q)) (F0 m 19 ls []) := by
  obtain ⟨hx, hb, hr, hml, hown, hts, hlocks, hK, hG⟩ := id C
  have hw : ∀ w ∈ tq_W, w.before args s = true := fun w h => hts w (List.mem_cons_of_mem _ h)
  intro n
  induction n with
  | zero =>
    intro S x1 x2 x3 x4 x5 x6 H locs ls h
    exact absurd h (by unfold wbX11_worstYear_19; exact id)
  | succ n ih =>
    intro S x1 x2 x3 x4 x5 x6 H locs ls h hW hS hl
    unfold wbX11_worstYear_19 at h
    refine lv_iload hx hb dX11_worstYear_19 (lv_at hl 6 rfl) ?_
    refine lv_iconst (v := 4) hx hb dX11_worstYear_21 (by decide) ?_
    refine lv_icmp_ge (tgt := 53) hx hb dX11_worstYear_22 (by decide) (fun c3 => ?_) (fun c3 => ?_)
    · have h := h.1 c3
      refine lv_iload hx hb dX11_worstYear_53 (lv_at hl 5 rfl) ?_
      exact W.iret (v := x5) hx hb hr (fun t ht hWm => ⟨⟨_, S, rfl, h, tq_pe ht hW⟩, hS.F ht⟩) hS.2.2 dX11_worstYear_55
    · have h := h.2 c3
      refine lv_iload hx hb dX11_worstYear_25 (lv_at hl 5 rfl) ?_
      refine lv_aload_n hx hb dX11_worstYear_27 rfl (lv_at hl 0 rfl) ?_
      refine tqc_get (v := .ref (ad 27 0)) hx hb hw tq_inX11 hown hK hW (by decide) (tq_mk_1 (by decide)) rfl 17 (by decide) (hw _ tw_354) (fun _ h9 => h9) rfl dX11_worstYear_28 ?_
      refine lv_iload hx hb dX11_worstYear_31 (lv_at hl 6 rfl) ?_
      obtain ⟨b4, h⟩ := h
      refine tqc_aald (jn := x6.toNatClampNeg) (v := .ref (ad 28 x6.toNatClampNeg)) hx hb hK hW (by decide) (tq_mk_27 (by decide)) 2 rfl rfl b4 rfl rfl dX11_worstYear_33 ?_
      refine lv_iload_n hx hb dX11_worstYear_34 rfl (lv_at hl 1 rfl) ?_
      refine lv_iload_n hx hb dX11_worstYear_35 rfl (lv_at hl 2 rfl) ?_
      refine lv_iload_n hx hb dX11_worstYear_36 rfl (lv_at hl 3 rfl) ?_
      refine lv_iload hx hb dX11_worstYear_37 (lv_at hl 4 rfl) ?_
      refine tqc_callSi (As := [.ref (ad 28 x6.toNatClampNeg), .int x1, .int x2, .int x3, .int x4]) (rest := [.int x5]) (kX11_lotsBring h) ⟨hx, hb, hml, hown, hts⟩ (va_cwS 5 hts (tq_goodS tw_1333 tw_1334 tw_115 tw_1335) rfl rfl rfl (by decide +kernel) ⟨(Nat.le_of_ble_eq_true rfl), (Nat.le_of_ble_eq_true rfl)⟩) hK hG hW hS rfl hl.1 rfl (Nat.le_of_ble_eq_true rfl) dX11_worstYear_39 ⟨(Nat.le_of_ble_eq_true rfl), (Nat.le_of_ble_eq_true rfl)⟩ (fun r6 S5 H locs h hW hS => ?_)
      refine va_mmin hx hb (hml.trans hl.1.symm) hown (hw _ tw_1167) (hw _ tw_797) (hw _ tw_132) (hw _ tw_798) (Nat.le_of_ble_eq_true rfl) (Nat.le_of_ble_eq_true rfl) (Nat.zero_le _) (Nat.zero_le _) dX11_worstYear_42 ?_
      refine lv_istore (lv' := [(5, .int (if r6 < x5 then r6 else x5)), (0, .ref (ad 1 0)), (1, .int x1), (2, .int x2), (3, .int x3), (4, .int x4), (6, .int x6)]) hx hb dX11_worstYear_45 hl (by decide) rfl (fun ls hl => ?_)
      refine lv_iinc (v := x6 + 1) (lv' := [(6, .int (x6 + 1)), (5, .int (if r6 < x5 then r6 else x5)), (0, .ref (ad 1 0)), (1, .int x1), (2, .int x2), (3, .int x3), (4, .int x4)]) hx hb dX11_worstYear_47 hl (k := 6) rfl rfl (by decide) rfl (fun ls hl => ?_)
      refine lv_goto (tgt := 19) hx hb dX11_worstYear_50 (by decide) ?_
      exact ih _ _ _ _ _ _ _ _ _ _ h hW hS (lv_sub hl [2, 3, 4, 5, 6, 1, 0] rfl)
set_option maxHeartbeats 4000000 in
set_option maxRecDepth 100000 in
theorem kX11_worstYear {post : tq_St → Int32 → Prop} {S : tq_St} {p0 : Int32} {p1 : Int32} {p2 : Int32} {p3 : Int32} (h : wpX11_worstYear N post S p0 p1 p2 p3) : tq_sI l yX11_worstYear (tq_ws yX11_worstYear cX11_worstYear 7 (some .int)) 1 24 D cy z H0 ad N M S [.ref (ad 1 0), .int p0, .int p1, .int p2, .int p3] post := by
  unfold wpX11_worstYear at h
  refine Met.ofW (cc := cX11_worstYear) (maxL := 7) (ret := (some .int)) (by decide) rfl ?_
  intro p e s m args below meth c s₁ B hml hv
  obtain ⟨rfl, hW, hK, hG⟩ := hv
  have hx := B.exec
  have hb := B.bytes
  have hr := B.returns
  have hts := atoms_spec (ws := (tq_ws yX11_worstYear cX11_worstYear 7 (some .int))) B.pre
  have hw : ∀ w ∈ tq_W, w.before _ s = true := fun w h => hts w (List.mem_cons_of_mem _ h)
  have hown : s.vm.findClass RX11 = some m.cls := findClass_of_methodNamed B.named
  have hlocks := B.notSynchronized
  have C : tq_At p s m meth c [.ref (ad 1 0), .int p0, .int p1, .int p2, .int p3].toArray cX11_worstYear 7 ((some .int)) ((tq_ws yX11_worstYear cX11_worstYear 7 (some .int))) RX11 D cy z ad := ⟨hx, hb, hr, hml, hown, hts, hlocks, hK, hG⟩
  have hS : va_S (fun q => z ≤ q) s.heap s.heap [] := va_S.rf
  have hl := lv_entry ([.ref (ad 1 0), .int p0, .int p1, .int p2, .int p3]) (n := 7) (Nat.le_of_ble_eq_true rfl)
  rw [lg_entry_eq]
  generalize (lg_sl ([.ref (ad 1 0), .int p0, .int p1, .int p2, .int p3]) ++ List.replicate (7 - (lg_sl ([.ref (ad 1 0), .int p0, .int p1, .int p2, .int p3])).length) Slot.unset).toArray = ls at hl ⊢
  have hl : lv_has ls 7 [(0, .ref (ad 1 0)), (1, .int p0), (2, .int p1), (3, .int p2), (4, .int p3)] := hl
  have hW : tq_wd D cy z H0 ad N (tq_mix S M) s.heap := hW
  refine lv_aload_n hx hb dX11_worstYear_0 rfl (lv_at hl 0 rfl) ?_
  refine tqc_get (v := .ref (ad 27 0)) hx hb hw tq_inX11 hown hK hW (by decide) (tq_mk_1 (by decide)) rfl 17 (by decide) (hw _ tw_354) (fun _ h9 => h9) rfl dX11_worstYear_1 ?_
  refine lv_iconst (v := 0) hx hb dX11_worstYear_4 (by decide) ?_
  refine tqc_aald (jn := 0) (v := .ref (ad 28 0)) hx hb hK hW (by decide) (tq_mk_27 (by decide)) 2 rfl rfl (by unfold vp_in; decide) (by decide) rfl dX11_worstYear_5 ?_
  refine lv_iload_n hx hb dX11_worstYear_6 rfl (lv_at hl 1 rfl) ?_
  refine lv_iload_n hx hb dX11_worstYear_7 rfl (lv_at hl 2 rfl) ?_
  refine lv_iload_n hx hb dX11_worstYear_8 rfl (lv_at hl 3 rfl) ?_
  refine lv_iload hx hb dX11_worstYear_9 (lv_at hl 4 rfl) ?_
  refine tqc_callSi (As := [.ref (ad 28 0), .int p0, .int p1, .int p2, .int p3]) (rest := []) (kX11_lotsBring h) ⟨hx, hb, hml, hown, hts⟩ (va_cwS 5 hts (tq_goodS tw_1333 tw_1334 tw_115 tw_1335) rfl rfl rfl (by decide +kernel) ⟨(Nat.le_of_ble_eq_true rfl), (Nat.le_of_ble_eq_true rfl)⟩) hK hG hW hS rfl hl.1 rfl (Nat.le_of_ble_eq_true rfl) dX11_worstYear_11 ⟨(Nat.le_of_ble_eq_true rfl), (Nat.le_of_ble_eq_true rfl)⟩ (fun r2 S1 H locs h hW hS => ?_)
  refine lv_istore (lv' := [(5, .int r2), (0, .ref (ad 1 0)), (1, .int p0), (2, .int p1), (3, .int p2), (4, .int p3)]) hx hb dX11_worstYear_14 hl (by decide) rfl (fun ls hl => ?_)
  refine lv_iconst (v := 1) hx hb dX11_worstYear_16 (by decide) ?_
  refine lv_istore (lv' := [(6, .int 1), (5, .int r2), (0, .ref (ad 1 0)), (1, .int p0), (2, .int p1), (3, .int p2), (4, .int p3)]) hx hb dX11_worstYear_17 hl (by decide) rfl (fun ls hl => ?_)
  obtain ⟨nq, h⟩ := h
  exact bX11_worstYear_19 C  nq _ _ _ _ _ _ _ _ _ _ h hW hS (lv_sub hl [2, 3, 4, 5, 6, 1, 0] rfl)
-- X6 readAct
def wpX6_readAct (N : tq_Nn) (post : tq_St → Int32 → Prop) (S : tq_St)  : Prop :=
  wpX6_takes N (fun S1 r2 => (r2 = 0 → (wpX6_takes N (fun S4 r5 => (r5 = 0 → (wpX6_takes N (fun S7 r8 => (r8 = 0 → (wpX6_takes N (fun S10 r11 => (r11 = 0 → (wpX6_takes N (fun S13 r14 => (r14 = 0 → (wpX6_expect N (fun S16 => post S16 6) S13 7)) ∧ (¬ r14 = 0 → (wpX6_expect N (fun S17 => post S17 4) S13 6))) S10 100)) ∧ (¬ r11 = 0 → (wpX6_expect N (fun S18 => post S18 3) S10 5))) S7 115)) ∧ (¬ r8 = 0 → (wpX6_expect N (fun S19 => post S19 2) S7 4))) S4 108)) ∧ (¬ r5 = 0 → (wpX6_expect N (fun S20 => post S20 1) S4 3))) S1 97)) ∧ (¬ r2 = 0 → (wpX6_expect N (fun S21 => post S21 0) S1 2))) S 98
set_option maxHeartbeats 4000000 in
set_option maxRecDepth 100000 in
theorem kX6_readAct {post : tq_St → Int32 → Prop} {S : tq_St}  (h : wpX6_readAct N post S ) : tq_sI l yX6_readAct (tq_ws yX6_readAct cX6_readAct 1 (some .int)) 5 107 D cy z H0 ad N M S [.ref (ad 3 0)] post := by
  unfold wpX6_readAct at h
  refine Met.ofW (cc := cX6_readAct) (maxL := 1) (ret := (some .int)) (by decide) rfl ?_
  intro p e s m args below meth c s₁ B hml hv
  obtain ⟨rfl, hW, hK, hG⟩ := hv
  have hx := B.exec
  have hb := B.bytes
  have hr := B.returns
  have hts := atoms_spec (ws := (tq_ws yX6_readAct cX6_readAct 1 (some .int))) B.pre
  have hw : ∀ w ∈ tq_W, w.before _ s = true := fun w h => hts w (List.mem_cons_of_mem _ h)
  have hown : s.vm.findClass RX6 = some m.cls := findClass_of_methodNamed B.named
  have hlocks := B.notSynchronized
  have C : tq_At p s m meth c [.ref (ad 3 0)].toArray cX6_readAct 1 ((some .int)) ((tq_ws yX6_readAct cX6_readAct 1 (some .int))) RX6 D cy z ad := ⟨hx, hb, hr, hml, hown, hts, hlocks, hK, hG⟩
  have hS : va_S (fun q => z ≤ q) s.heap s.heap [] := va_S.rf
  have hl := lv_entry ([.ref (ad 3 0)]) (n := 1) (Nat.le_of_ble_eq_true rfl)
  rw [lg_entry_eq]
  generalize (lg_sl ([.ref (ad 3 0)]) ++ List.replicate (1 - (lg_sl ([.ref (ad 3 0)])).length) Slot.unset).toArray = ls at hl ⊢
  have hl : lv_has ls 1 [(0, .ref (ad 3 0))] := hl
  have hW : tq_wd D cy z H0 ad N (tq_mix S M) s.heap := hW
  refine lv_aload_n hx hb dX6_readAct_0 rfl (lv_at hl 0 rfl) ?_
  refine lv_bipush (v := 98) hx hb dX6_readAct_1 (by decide) ?_
  refine tqc_callVi (As := [.int 98]) (rest := []) (kX6_takes h) ⟨hx, hb, hml, hown, hts⟩ (cwV 1 hts (tq_goodV tw_572 tw_574 tw_4 tw_119 tw_575) rfl rfl rfl (by decide +kernel) ⟨(Nat.le_of_ble_eq_true rfl), (Nat.le_of_ble_eq_true rfl)⟩) (tq_recvC hK hW (by decide) (tq_mk_3 (by decide)) rfl) hK hG hW hS rfl hl.1 rfl (Nat.le_of_ble_eq_true rfl) dX6_readAct_3 ⟨(Nat.le_of_ble_eq_true rfl), (Nat.le_of_ble_eq_true rfl)⟩ (fun r2 S1 H locs h hW hS => ?_)
  refine lv_if_eq (tgt := 17) hx hb dX6_readAct_6 (by decide) (fun c3 => ?_) (fun c3 => ?_)
  · have h := h.1 c3
    refine lv_aload_n hx hb dX6_readAct_17 rfl (lv_at hl 0 rfl) ?_
    refine lv_bipush (v := 97) hx hb dX6_readAct_18 (by decide) ?_
    refine tqc_callVi (As := [.int 97]) (rest := []) (kX6_takes h) ⟨hx, hb, hml, hown, hts⟩ (cwV 1 hts (tq_goodV tw_572 tw_574 tw_4 tw_119 tw_575) rfl rfl rfl (by decide +kernel) ⟨(Nat.le_of_ble_eq_true rfl), (Nat.le_of_ble_eq_true rfl)⟩) (tq_recvC hK hW (by decide) (tq_mk_3 (by decide)) rfl) hK hG hW hS rfl hl.1 rfl (Nat.le_of_ble_eq_true rfl) dX6_readAct_20 ⟨(Nat.le_of_ble_eq_true rfl), (Nat.le_of_ble_eq_true rfl)⟩ (fun r5 S4 H locs h hW hS => ?_)
    refine lv_if_eq (tgt := 34) hx hb dX6_readAct_23 (by decide) (fun c6 => ?_) (fun c6 => ?_)
    · have h := h.1 c6
      refine lv_aload_n hx hb dX6_readAct_34 rfl (lv_at hl 0 rfl) ?_
      refine lv_bipush (v := 108) hx hb dX6_readAct_35 (by decide) ?_
      refine tqc_callVi (As := [.int 108]) (rest := []) (kX6_takes h) ⟨hx, hb, hml, hown, hts⟩ (cwV 1 hts (tq_goodV tw_572 tw_574 tw_4 tw_119 tw_575) rfl rfl rfl (by decide +kernel) ⟨(Nat.le_of_ble_eq_true rfl), (Nat.le_of_ble_eq_true rfl)⟩) (tq_recvC hK hW (by decide) (tq_mk_3 (by decide)) rfl) hK hG hW hS rfl hl.1 rfl (Nat.le_of_ble_eq_true rfl) dX6_readAct_37 ⟨(Nat.le_of_ble_eq_true rfl), (Nat.le_of_ble_eq_true rfl)⟩ (fun r8 S7 H locs h hW hS => ?_)
      refine lv_if_eq (tgt := 51) hx hb dX6_readAct_40 (by decide) (fun c9 => ?_) (fun c9 => ?_)
      · have h := h.1 c9
        refine lv_aload_n hx hb dX6_readAct_51 rfl (lv_at hl 0 rfl) ?_
        refine lv_bipush (v := 115) hx hb dX6_readAct_52 (by decide) ?_
        refine tqc_callVi (As := [.int 115]) (rest := []) (kX6_takes h) ⟨hx, hb, hml, hown, hts⟩ (cwV 1 hts (tq_goodV tw_572 tw_574 tw_4 tw_119 tw_575) rfl rfl rfl (by decide +kernel) ⟨(Nat.le_of_ble_eq_true rfl), (Nat.le_of_ble_eq_true rfl)⟩) (tq_recvC hK hW (by decide) (tq_mk_3 (by decide)) rfl) hK hG hW hS rfl hl.1 rfl (Nat.le_of_ble_eq_true rfl) dX6_readAct_54 ⟨(Nat.le_of_ble_eq_true rfl), (Nat.le_of_ble_eq_true rfl)⟩ (fun r11 S10 H locs h hW hS => ?_)
        refine lv_if_eq (tgt := 68) hx hb dX6_readAct_57 (by decide) (fun c12 => ?_) (fun c12 => ?_)
        · have h := h.1 c12
          refine lv_aload_n hx hb dX6_readAct_68 rfl (lv_at hl 0 rfl) ?_
          refine lv_bipush (v := 100) hx hb dX6_readAct_69 (by decide) ?_
          refine tqc_callVi (As := [.int 100]) (rest := []) (kX6_takes h) ⟨hx, hb, hml, hown, hts⟩ (cwV 1 hts (tq_goodV tw_572 tw_574 tw_4 tw_119 tw_575) rfl rfl rfl (by decide +kernel) ⟨(Nat.le_of_ble_eq_true rfl), (Nat.le_of_ble_eq_true rfl)⟩) (tq_recvC hK hW (by decide) (tq_mk_3 (by decide)) rfl) hK hG hW hS rfl hl.1 rfl (Nat.le_of_ble_eq_true rfl) dX6_readAct_71 ⟨(Nat.le_of_ble_eq_true rfl), (Nat.le_of_ble_eq_true rfl)⟩ (fun r14 S13 H locs h hW hS => ?_)
          refine lv_if_eq (tgt := 85) hx hb dX6_readAct_74 (by decide) (fun c15 => ?_) (fun c15 => ?_)
          · have h := h.1 c15
            refine lv_aload_n hx hb dX6_readAct_85 rfl (lv_at hl 0 rfl) ?_
            refine va_ldcS hx hb hown (hG.2.1 ("TwoSeas$Reader", 88, "keep ", 7) (by decide)) dX6_readAct_86 ?_
            refine tqc_callVv (As := [.ref (ad 61 7)]) (rest := []) (kX6_expect h) ⟨hx, hb, hml, hown, hts⟩ (cwV 1 hts (tq_goodV tw_577 tw_579 tw_5 tw_119 tw_580) rfl rfl rfl (by decide +kernel) ⟨(Nat.le_of_ble_eq_true rfl), (Nat.le_of_ble_eq_true rfl)⟩) (tq_recvC hK hW (by decide) (tq_mk_3 (by decide)) rfl) hK hG hW hS rfl hl.1 rfl (Nat.le_of_ble_eq_true rfl) dX6_readAct_88 ⟨(Nat.le_of_ble_eq_true rfl), (Nat.le_of_ble_eq_true rfl)⟩ (fun S16 H locs h hW hS => ?_)
            refine lv_bipush (v := 6) hx hb dX6_readAct_91 (by decide) ?_
            exact W.iret (v := 6) hx hb hr (fun t ht hWm => ⟨⟨_, S16, rfl, h, tq_pe ht hW⟩, hS.F ht⟩) hS.2.2 dX6_readAct_93
          · have h := h.2 c15
            refine lv_aload_n hx hb dX6_readAct_77 rfl (lv_at hl 0 rfl) ?_
            refine va_ldcS hx hb hown (hG.2.1 ("TwoSeas$Reader", 86, "raw ", 6) (by decide)) dX6_readAct_78 ?_
            refine tqc_callVv (As := [.ref (ad 61 6)]) (rest := []) (kX6_expect h) ⟨hx, hb, hml, hown, hts⟩ (cwV 1 hts (tq_goodV tw_577 tw_579 tw_5 tw_119 tw_580) rfl rfl rfl (by decide +kernel) ⟨(Nat.le_of_ble_eq_true rfl), (Nat.le_of_ble_eq_true rfl)⟩) (tq_recvC hK hW (by decide) (tq_mk_3 (by decide)) rfl) hK hG hW hS rfl hl.1 rfl (Nat.le_of_ble_eq_true rfl) dX6_readAct_80 ⟨(Nat.le_of_ble_eq_true rfl), (Nat.le_of_ble_eq_true rfl)⟩ (fun S17 H locs h hW hS => ?_)
            refine lv_iconst (v := 4) hx hb dX6_readAct_83 (by decide) ?_
            exact W.iret (v := 4) hx hb hr (fun t ht hWm => ⟨⟨_, S17, rfl, h, tq_pe ht hW⟩, hS.F ht⟩) hS.2.2 dX6_readAct_84
        · have h := h.2 c12
          refine lv_aload_n hx hb dX6_readAct_60 rfl (lv_at hl 0 rfl) ?_
          refine va_ldcS hx hb hown (hG.2.1 ("TwoSeas$Reader", 84, "ail ", 5) (by decide)) dX6_readAct_61 ?_
          refine tqc_callVv (As := [.ref (ad 61 5)]) (rest := []) (kX6_expect h) ⟨hx, hb, hml, hown, hts⟩ (cwV 1 hts (tq_goodV tw_577 tw_579 tw_5 tw_119 tw_580) rfl rfl rfl (by decide +kernel) ⟨(Nat.le_of_ble_eq_true rfl), (Nat.le_of_ble_eq_true rfl)⟩) (tq_recvC hK hW (by decide) (tq_mk_3 (by decide)) rfl) hK hG hW hS rfl hl.1 rfl (Nat.le_of_ble_eq_true rfl) dX6_readAct_63 ⟨(Nat.le_of_ble_eq_true rfl), (Nat.le_of_ble_eq_true rfl)⟩ (fun S18 H locs h hW hS => ?_)
          refine lv_iconst (v := 3) hx hb dX6_readAct_66 (by decide) ?_
          exact W.iret (v := 3) hx hb hr (fun t ht hWm => ⟨⟨_, S18, rfl, h, tq_pe ht hW⟩, hS.F ht⟩) hS.2.2 dX6_readAct_67
      · have h := h.2 c9
        refine lv_aload_n hx hb dX6_readAct_43 rfl (lv_at hl 0 rfl) ?_
        refine va_ldcS hx hb hown (hG.2.1 ("TwoSeas$Reader", 82, "ade ", 4) (by decide)) dX6_readAct_44 ?_
        refine tqc_callVv (As := [.ref (ad 61 4)]) (rest := []) (kX6_expect h) ⟨hx, hb, hml, hown, hts⟩ (cwV 1 hts (tq_goodV tw_577 tw_579 tw_5 tw_119 tw_580) rfl rfl rfl (by decide +kernel) ⟨(Nat.le_of_ble_eq_true rfl), (Nat.le_of_ble_eq_true rfl)⟩) (tq_recvC hK hW (by decide) (tq_mk_3 (by decide)) rfl) hK hG hW hS rfl hl.1 rfl (Nat.le_of_ble_eq_true rfl) dX6_readAct_46 ⟨(Nat.le_of_ble_eq_true rfl), (Nat.le_of_ble_eq_true rfl)⟩ (fun S19 H locs h hW hS => ?_)
        refine lv_iconst (v := 2) hx hb dX6_readAct_49 (by decide) ?_
        exact W.iret (v := 2) hx hb hr (fun t ht hWm => ⟨⟨_, S19, rfl, h, tq_pe ht hW⟩, hS.F ht⟩) hS.2.2 dX6_readAct_50
    · have h := h.2 c6
      refine lv_aload_n hx hb dX6_readAct_26 rfl (lv_at hl 0 rfl) ?_
      refine va_ldcS hx hb hown (hG.2.1 ("TwoSeas$Reader", 80, "dvance ", 3) (by decide)) dX6_readAct_27 ?_
      refine tqc_callVv (As := [.ref (ad 61 3)]) (rest := []) (kX6_expect h) ⟨hx, hb, hml, hown, hts⟩ (cwV 1 hts (tq_goodV tw_577 tw_579 tw_5 tw_119 tw_580) rfl rfl rfl (by decide +kernel) ⟨(Nat.le_of_ble_eq_true rfl), (Nat.le_of_ble_eq_true rfl)⟩) (tq_recvC hK hW (by decide) (tq_mk_3 (by decide)) rfl) hK hG hW hS rfl hl.1 rfl (Nat.le_of_ble_eq_true rfl) dX6_readAct_29 ⟨(Nat.le_of_ble_eq_true rfl), (Nat.le_of_ble_eq_true rfl)⟩ (fun S20 H locs h hW hS => ?_)
      refine lv_iconst (v := 1) hx hb dX6_readAct_32 (by decide) ?_
      exact W.iret (v := 1) hx hb hr (fun t ht hWm => ⟨⟨_, S20, rfl, h, tq_pe ht hW⟩, hS.F ht⟩) hS.2.2 dX6_readAct_33
  · have h := h.2 c3
    refine lv_aload_n hx hb dX6_readAct_9 rfl (lv_at hl 0 rfl) ?_
    refine va_ldcS hx hb hown (hG.2.1 ("TwoSeas$Reader", 78, "uy ", 2) (by decide)) dX6_readAct_10 ?_
    refine tqc_callVv (As := [.ref (ad 61 2)]) (rest := []) (kX6_expect h) ⟨hx, hb, hml, hown, hts⟩ (cwV 1 hts (tq_goodV tw_577 tw_579 tw_5 tw_119 tw_580) rfl rfl rfl (by decide +kernel) ⟨(Nat.le_of_ble_eq_true rfl), (Nat.le_of_ble_eq_true rfl)⟩) (tq_recvC hK hW (by decide) (tq_mk_3 (by decide)) rfl) hK hG hW hS rfl hl.1 rfl (Nat.le_of_ble_eq_true rfl) dX6_readAct_12 ⟨(Nat.le_of_ble_eq_true rfl), (Nat.le_of_ble_eq_true rfl)⟩ (fun S21 H locs h hW hS => ?_)
    refine lv_iconst (v := 0) hx hb dX6_readAct_15 (by decide) ?_
    exact W.iret (v := 0) hx hb hr (fun t ht hWm => ⟨⟨_, S21, rfl, h, tq_pe ht hW⟩, hS.F ht⟩) hS.2.2 dX6_readAct_16
