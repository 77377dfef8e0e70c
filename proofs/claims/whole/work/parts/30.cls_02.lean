variable {l : Launch} {D : va_G} {cy : Nat → ClassId} {z : Nat} {H0 : Heap} {ad : Nat → Nat → Nat} {N : tq_Nn} {M : tq_St}
-- X2 greatest
def wbX2_greatest_69 (N : tq_Nn) (post : tq_St → Int32 → Prop) (L5 : tq_St → Int32 → Int32 → Int32 → Int32 → Prop) (S : tq_St) (x1 : Int32) (x2 : Int32) (x3 : Int32) (x4 : Int32) : Prop :=
  L5 S x1 x2 x3 (x4 + 1)
def wbX2_greatest_66 (N : tq_Nn) (post : tq_St → Int32 → Prop) (L5 : tq_St → Int32 → Int32 → Int32 → Int32 → Prop) (S : tq_St) (x1 : Int32) (x2 : Int32) (x4 : Int32) : Prop :=
  wbX2_greatest_69 N post  L5 S x1 x2 x4 x4
def wbX2_greatest_35 (N : tq_Nn) (post : tq_St → Int32 → Prop) (L5 : tq_St → Int32 → Int32 → Int32 → Int32 → Prop) (S : tq_St) (x1 : Int32) (x2 : Int32) (x3 : Int32) (x4 : Int32) (y0 : Int32) : Prop :=
  (y0 = 0 → (wbX2_greatest_69 N post  L5 S x1 x2 x3 x4)) ∧ (¬ y0 = 0 → ((x3 < 0 → (wbX2_greatest_66 N post  L5 S x1 x2 x4)) ∧ (¬ x3 < 0 → (vp_in x4 6 ∧ (vp_in x1 4 ∧ (vp_in x3 6 ∧ (((S 45 x4.toNatClampNeg x1.toNatClampNeg) ≤ (S 45 x3.toNatClampNeg x1.toNatClampNeg) → (wbX2_greatest_69 N post  L5 S x1 x2 x3 x4)) ∧ (¬ (S 45 x4.toNatClampNeg x1.toNatClampNeg) ≤ (S 45 x3.toNatClampNeg x1.toNatClampNeg) → (wbX2_greatest_66 N post  L5 S x1 x2 x4)))))))))
def wbX2_greatest_34 (N : tq_Nn) (post : tq_St → Int32 → Prop) (L5 : tq_St → Int32 → Int32 → Int32 → Int32 → Prop) (S : tq_St) (x1 : Int32) (x2 : Int32) (x3 : Int32) (x4 : Int32) : Prop :=
  wbX2_greatest_35 N post  L5 S x1 x2 x3 x4 0
def wbX2_greatest_5 (N : tq_Nn) (post : tq_St → Int32 → Prop) : Nat → tq_St → Int32 → Int32 → Int32 → Int32 → Prop
  | 0, _, _, _, _, _ => False
  | n + 1, S, x1, x2, x3, x4 =>
    (6 ≤ x4 → (post S x3)) ∧ (¬ 6 ≤ x4 → ((x4 = x2 → (wbX2_greatest_34 N post  (wbX2_greatest_5 N post n) S x1 x2 x3 x4)) ∧ (¬ x4 = x2 → (vp_in x4 6 ∧ (vp_in x1 4 ∧ (((S 43 x4.toNatClampNeg x1.toNatClampNeg) ≤ 0 → (wbX2_greatest_34 N post  (wbX2_greatest_5 N post n) S x1 x2 x3 x4)) ∧ (¬ (S 43 x4.toNatClampNeg x1.toNatClampNeg) ≤ 0 → (wbX2_greatest_35 N post  (wbX2_greatest_5 N post n) S x1 x2 x3 x4 1))))))))
def wpX2_greatest (N : tq_Nn) (post : tq_St → Int32 → Prop) (S : tq_St) (p0 : Int32) (p1 : Int32) : Prop :=
  ∃ nq, wbX2_greatest_5 N post nq S p0 p1 ((-1)) 0
set_option maxHeartbeats 4000000 in
set_option maxRecDepth 100000 in
theorem bX2_greatest_69 {p : Program} {e : Env} {s : State} {m : MethodId} {args : Array Value} {below : List Frame} {meth : Method} {c : Code} {post : tq_St → Int32 → Prop} (C : tq_At p s m meth c args cX2_greatest 6 ((some .int)) ((tq_ws yX2_greatest cX2_greatest 6 (some .int))) RX2 D cy z ad) {L5 : tq_St → Int32 → Int32 → Int32 → Int32 → Prop} (hL5 : ∀ (S : tq_St) (x1 : Int32) (x2 : Int32) (x3 : Int32) (x4 : Int32) (H : Heap) (locs : List Loc) (ls : Array Slot), L5 S x1 x2 x3 x4 → tq_wd D cy z H0 ad N (tq_mix S M) H → va_S (fun q => z ≤ q) s.heap H locs → lv_has ls 6 [(0, .ref (ad 4 0)), (1, .int x1), (2, .int x2), (3, .int x3), (4, .int x4)] → W p l e (tq_rm 0 0) s m args below meth c H locs 0 0 (MQ below (va_Qi (fun r u => post u r) (fun u => tq_P D cy z H0 ad N u M) (fun q => z ≤ q)) args s 0 0 (fun q => z ≤ q)) (F0 m 5 ls [])) : ∀ (S : tq_St) (x1 : Int32) (x2 : Int32) (x3 : Int32) (x4 : Int32) (H : Heap) (locs : List Loc) (ls : Array Slot), wbX2_greatest_69 N post  L5 S x1 x2 x3 x4 → tq_wd D cy z H0 ad N (tq_mix S M) H → va_S (fun q => z ≤ q) s.heap H locs → lv_has ls 6 [(0, .ref (ad 4 0)), (1, .int x1), (2, .int x2), (3, .int x3), (4, .int x4)] → W p l e (tq_rm 0 0) s m args below meth c H locs 0 0 (MQ below (va_Qi (fun r u => post u r) (fun u => tq_P D cy z H0 ad N u M) (fun q => z ≤ q)) args s 0 0 (fun q => z ≤ q)) (F0 m 69 ls []) := by
  obtain ⟨hx, hb, hr, hml, hown, hts, hlocks, hK, hG⟩ := id C
  have hw : ∀ w ∈ tq_W, w.before args s = true := fun w h => hts w (List.mem_cons_of_mem _ h)
  intro S x1 x2 x3 x4 H locs ls h hW hS hl
  unfold wbX2_greatest_69 at h
  refine lv_iinc (v := x4 + 1) (lv' := [(4, .int (x4 + 1)), (0, .ref (ad 4 0)), (1, .int x1), (2, .int x2), (3, .int x3)]) hx hb dX2_greatest_69 hl (k := 4) rfl rfl (by decide) rfl (fun ls hl => ?_)
  refine lv_goto (tgt := 5) hx hb dX2_greatest_72 (by decide) ?_
  exact hL5 _ _ _ _ _ _ _ _ h hW hS (lv_sub hl [1, 2, 3, 4, 0] rfl)
set_option maxHeartbeats 4000000 in
set_option maxRecDepth 100000 in
theorem bX2_greatest_66 {p : Program} {e : Env} {s : State} {m : MethodId} {args : Array Value} {below : List Frame} {meth : Method} {c : Code} {post : tq_St → Int32 → Prop} (C : tq_At p s m meth c args cX2_greatest 6 ((some .int)) ((tq_ws yX2_greatest cX2_greatest 6 (some .int))) RX2 D cy z ad) {L5 : tq_St → Int32 → Int32 → Int32 → Int32 → Prop} (hL5 : ∀ (S : tq_St) (x1 : Int32) (x2 : Int32) (x3 : Int32) (x4 : Int32) (H : Heap) (locs : List Loc) (ls : Array Slot), L5 S x1 x2 x3 x4 → tq_wd D cy z H0 ad N (tq_mix S M) H → va_S (fun q => z ≤ q) s.heap H locs → lv_has ls 6 [(0, .ref (ad 4 0)), (1, .int x1), (2, .int x2), (3, .int x3), (4, .int x4)] → W p l e (tq_rm 0 0) s m args below meth c H locs 0 0 (MQ below (va_Qi (fun r u => post u r) (fun u => tq_P D cy z H0 ad N u M) (fun q => z ≤ q)) args s 0 0 (fun q => z ≤ q)) (F0 m 5 ls [])) : ∀ (S : tq_St) (x1 : Int32) (x2 : Int32) (x4 : Int32) (H : Heap) (locs : List Loc) (ls : Array Slot), wbX2_greatest_66 N post  L5 S x1 x2 x4 → tq_wd D cy z H0 ad N (tq_mix S M) H → va_S (fun q => z ≤ q) s.heap H locs → lv_has ls 6 [(0, .ref (ad 4 0)), (1, .int x1), (2, .int x2), (4, .int x4)] → W p l e (tq_rm 0 0) s m args below meth c H locs 0 0 (MQ below (va_Qi (fun r u => post u r) (fun u => tq_P D cy z H0 ad N u M) (fun q => z ≤ q)) args s 0 0 (fun q => z ≤ q)) (F0 m 66 ls []) := by
  obtain ⟨hx, hb, hr, hml, hown, hts, hlocks, hK, hG⟩ := id C
  have hw : ∀ w ∈ tq_W, w.before args s = true := fun w h => hts w (List.mem_cons_of_mem _ h)
  intro S x1 x2 x4 H locs ls h hW hS hl
  unfold wbX2_greatest_66 at h
  refine lv_iload hx hb dX2_greatest_66 (lv_at hl 3 rfl) ?_
  refine lv_istore_n (lv' := [(3, .int x4), (0, .ref (ad 4 0)), (1, .int x1), (2, .int x2), (4, .int x4)]) hx hb dX2_greatest_68 rfl hl (by decide) rfl (fun ls hl => ?_)
  exact bX2_greatest_69 C (fun M9 a09 a19 a29 a39 H9 q9 ls9 h9 hW9 hS9 hl9 => hL5 M9 a09 a19 a29 a39 H9 q9 ls9 h9 hW9 hS9 hl9) _ _ _ _ _ _ _ _ h hW hS (lv_sub hl [1, 2, 3, 0, 4] rfl)
set_option maxHeartbeats 4000000 in
set_option maxRecDepth 100000 in
theorem bX2_greatest_35 {p : Program} {e : Env} {s : State} {m : MethodId} {args : Array Value} {below : List Frame} {meth : Method} {c : Code} {post : tq_St → Int32 → Prop} (C : tq_At p s m meth c args cX2_greatest 6 ((some .int)) ((tq_ws yX2_greatest cX2_greatest 6 (some .int))) RX2 D cy z ad) {L5 : tq_St → Int32 → Int32 → Int32 → Int32 → Prop} (hL5 : ∀ (S : tq_St) (x1 : Int32) (x2 : Int32) (x3 : Int32) (x4 : Int32) (H : Heap) (locs : List Loc) (ls : Array Slot), L5 S x1 x2 x3 x4 → tq_wd D cy z H0 ad N (tq_mix S M) H → va_S (fun q => z ≤ q) s.heap H locs → lv_has ls 6 [(0, .ref (ad 4 0)), (1, .int x1), (2, .int x2), (3, .int x3), (4, .int x4)] → W p l e (tq_rm 0 0) s m args below meth c H locs 0 0 (MQ below (va_Qi (fun r u => post u r) (fun u => tq_P D cy z H0 ad N u M) (fun q => z ≤ q)) args s 0 0 (fun q => z ≤ q)) (F0 m 5 ls [])) : ∀ (S : tq_St) (x1 : Int32) (x2 : Int32) (x3 : Int32) (x4 : Int32) (y0 : Int32) (H : Heap) (locs : List Loc) (ls : Array Slot), wbX2_greatest_35 N post  L5 S x1 x2 x3 x4 y0 → tq_wd D cy z H0 ad N (tq_mix S M) H → va_S (fun q => z ≤ q) s.heap H locs → lv_has ls 6 [(0, .ref (ad 4 0)), (1, .int x1), (2, .int x2), (3, .int x3), (4, .int x4)] → W p l e (tq_rm 0 0) s m args below meth c H locs 0 0 (MQ below (va_Qi (fun r u => post u r) (fun u => tq_P D cy z H0 ad N u M) (fun q => z ≤ q)) args s 0 0 (fun q => z ≤ q)) (F0 m 35 ls [.int y0]) := by
  obtain ⟨hx, hb, hr, hml, hown, hts, hlocks, hK, hG⟩ := id C
  have hw : ∀ w ∈ tq_W, w.before args s = true := fun w h => hts w (List.mem_cons_of_mem _ h)
  intro S x1 x2 x3 x4 y0 H locs ls h hW hS hl
  unfold wbX2_greatest_35 at h
  refine lv_istore (lv' := [(5, .int y0), (0, .ref (ad 4 0)), (1, .int x1), (2, .int x2), (3, .int x3), (4, .int x4)]) hx hb dX2_greatest_35 hl (by decide) rfl (fun ls hl => ?_)
  refine lv_iload hx hb dX2_greatest_37 (lv_at hl 0 rfl) ?_
  refine lv_if_eq (tgt := 69) hx hb dX2_greatest_39 (by decide) (fun c6 => ?_) (fun c6 => ?_)
  · have h := h.1 c6
    exact bX2_greatest_69 C (fun M9 a09 a19 a29 a39 H9 q9 ls9 h9 hW9 hS9 hl9 => hL5 M9 a09 a19 a29 a39 H9 q9 ls9 h9 hW9 hS9 hl9) _ _ _ _ _ _ _ _ h hW hS (lv_sub hl [1, 2, 3, 4, 5] rfl)
  · have h := h.2 c6
    refine lv_iload_n hx hb dX2_greatest_42 rfl (lv_at hl 4 rfl) ?_
    refine lv_if_lt (tgt := 66) hx hb dX2_greatest_43 (by decide) (fun c7 => ?_) (fun c7 => ?_)
    · have h := h.1 c7
      exact bX2_greatest_66 C (fun M9 a09 a19 a29 a39 H9 q9 ls9 h9 hW9 hS9 hl9 => hL5 M9 a09 a19 a29 a39 H9 q9 ls9 h9 hW9 hS9 hl9) _ _ _ _ _ _ _ h hW hS (lv_sub hl [1, 2, 3, 5] rfl)
    · have h := h.2 c7
      refine lv_aload_n hx hb dX2_greatest_46 rfl (lv_at hl 1 rfl) ?_
      refine tqc_get (v := .ref (ad 44 0)) hx hb hw tq_inX2 hown hK hW (by decide) (tq_mk_4 (by decide)) rfl 1 (by decide) (hw _ tw_208) (fun _ h9 => h9) rfl dX2_greatest_47 ?_
      refine lv_iload hx hb dX2_greatest_50 (lv_at hl 5 rfl) ?_
      obtain ⟨b8, h⟩ := h
      refine tqc_aald (jn := x4.toNatClampNeg) (v := .ref (ad 45 x4.toNatClampNeg)) hx hb hK hW (by decide) (tq_mk_44 (by decide)) 2 rfl rfl b8 rfl rfl dX2_greatest_52 ?_
      refine lv_iload_n hx hb dX2_greatest_53 rfl (lv_at hl 2 rfl) ?_
      obtain ⟨b9, h⟩ := h
      refine tqc_iald (jn := x1.toNatClampNeg) hx hb hK hW (by decide) (tq_mk_45 (tq_lt b8)) b9 rfl dX2_greatest_54 ?_
      refine lv_aload_n hx hb dX2_greatest_55 rfl (lv_at hl 1 rfl) ?_
      refine tqc_get (v := .ref (ad 44 0)) hx hb hw tq_inX2 hown hK hW (by decide) (tq_mk_4 (by decide)) rfl 1 (by decide) (hw _ tw_208) (fun _ h9 => h9) rfl dX2_greatest_56 ?_
      refine lv_iload_n hx hb dX2_greatest_59 rfl (lv_at hl 4 rfl) ?_
      obtain ⟨b10, h⟩ := h
      refine tqc_aald (jn := x3.toNatClampNeg) (v := .ref (ad 45 x3.toNatClampNeg)) hx hb hK hW (by decide) (tq_mk_44 (by decide)) 2 rfl rfl b10 rfl rfl dX2_greatest_60 ?_
      refine lv_iload_n hx hb dX2_greatest_61 rfl (lv_at hl 2 rfl) ?_
      refine tqc_iald (jn := x1.toNatClampNeg) hx hb hK hW (by decide) (tq_mk_45 (tq_lt b10)) b9 rfl dX2_greatest_62 ?_
      refine lv_icmp_le (tgt := 69) hx hb dX2_greatest_63 (by decide) (fun c11 => ?_) (fun c11 => ?_)
      · have h := h.1 c11
        exact bX2_greatest_69 C (fun M9 a09 a19 a29 a39 H9 q9 ls9 h9 hW9 hS9 hl9 => hL5 M9 a09 a19 a29 a39 H9 q9 ls9 h9 hW9 hS9 hl9) _ _ _ _ _ _ _ _ h hW hS (lv_sub hl [1, 2, 3, 4, 5] rfl)
      · have h := h.2 c11
        exact bX2_greatest_66 C (fun M9 a09 a19 a29 a39 H9 q9 ls9 h9 hW9 hS9 hl9 => hL5 M9 a09 a19 a29 a39 H9 q9 ls9 h9 hW9 hS9 hl9) _ _ _ _ _ _ _ h hW hS (lv_sub hl [1, 2, 3, 5] rfl)
set_option maxHeartbeats 4000000 in
set_option maxRecDepth 100000 in
theorem bX2_greatest_34 {p : Program} {e : Env} {s : State} {m : MethodId} {args : Array Value} {below : List Frame} {meth : Method} {c : Code} {post : tq_St → Int32 → Prop} (C : tq_At p s m meth c args cX2_greatest 6 ((some .int)) ((tq_ws yX2_greatest cX2_greatest 6 (some .int))) RX2 D cy z ad) {L5 : tq_St → Int32 → Int32 → Int32 → Int32 → Prop} (hL5 : ∀ (S : tq_St) (x1 : Int32) (x2 : Int32) (x3 : Int32) (x4 : Int32) (H : Heap) (locs : List Loc) (ls : Array Slot), L5 S x1 x2 x3 x4 → tq_wd D cy z H0 ad N (tq_mix S M) H → va_S (fun q => z ≤ q) s.heap H locs → lv_has ls 6 [(0, .ref (ad 4 0)), (1, .int x1), (2, .int x2), (3, .int x3), (4, .int x4)] → W p l e (tq_rm 0 0) s m args below meth c H locs 0 0 (MQ below (va_Qi (fun r u => post u r) (fun u => tq_P D cy z H0 ad N u M) (fun q => z ≤ q)) args s 0 0 (fun q => z ≤ q)) (F0 m 5 ls [])) : ∀ (S : tq_St) (x1 : Int32) (x2 : Int32) (x3 : Int32) (x4 : Int32) (H : Heap) (locs : List Loc) (ls : Array Slot), wbX2_greatest_34 N post  L5 S x1 x2 x3 x4 → tq_wd D cy z H0 ad N (tq_mix S M) H → va_S (fun q => z ≤ q) s.heap H locs → lv_has ls 6 [(0, .ref (ad 4 0)), (1, .int x1), (2, .int x2), (3, .int x3), (4, .int x4)] → W p l e (tq_rm 0 0) s m args below meth c H locs 0 0 (MQ below (va_Qi (fun r u => post u r) (fun u => tq_P D cy z H0 ad N u M) (fun q => z ≤ q)) args s 0 0 (fun q => z ≤ q)) (F0 m 34 ls []) := by
  obtain ⟨hx, hb, hr, hml, hown, hts, hlocks, hK, hG⟩ := id C
  have hw : ∀ w ∈ tq_W, w.before args s = true := fun w h => hts w (List.mem_cons_of_mem _ h)
  intro S x1 x2 x3 x4 H locs ls h hW hS hl
  unfold wbX2_greatest_34 at h
  refine lv_iconst (v := 0) hx hb dX2_greatest_34 (by decide) ?_
  exact bX2_greatest_35 C (fun M9 a09 a19 a29 a39 H9 q9 ls9 h9 hW9 hS9 hl9 => hL5 M9 a09 a19 a29 a39 H9 q9 ls9 h9 hW9 hS9 hl9) _ _ _ _ _ _ _ _ _ h hW hS (lv_sub hl [0, 1, 2, 3, 4] rfl)
set_option maxHeartbeats 4000000 in
set_option maxRecDepth 100000 in
theorem bX2_greatest_5 {p : Program} {e : Env} {s : State} {m : MethodId} {args : Array Value} {below : List Frame} {meth : Method} {c : Code} {post : tq_St → Int32 → Prop} (C : tq_At p s m meth c args cX2_greatest 6 ((some .int)) ((tq_ws yX2_greatest cX2_greatest 6 (some .int))) RX2 D cy z ad)  : ∀ n : Nat, ∀ (S : tq_St) (x1 : Int32) (x2 : Int32) (x3 : Int32) (x4 : Int32) (H : Heap) (locs : List Loc) (ls : Array Slot), wbX2_greatest_5 N post   n S x1 x2 x3 x4 → tq_wd D cy z H0 ad N (tq_mix S M) H → va_S (fun q => z ≤ q) s.heap H locs → lv_has ls 6 [(0, .ref (ad 4 0)), (1, .int x1), (2, .int x2), (3, .int x3), (4, .int x4)] → W p l e (tq_rm 0 0) s m args below meth c H locs 0 0 (MQ below (va_Qi (fun r u => post u r) (fun u => tq_P D cy z H0 ad N u M) (fun q => z ≤ q)) args s 0 0 (fun q => z ≤ q)) (F0 m 5 ls []) := by
  obtain ⟨hx, hb, hr, hml, hown, hts, hlocks, hK, hG⟩ := id C
  have hw : ∀ w ∈ tq_W, w.before args s = true := fun w h => hts w (List.mem_cons_of_mem _ h)
  intro n
  induction n with
  | zero =>
    intro S x1 x2 x3 x4 H locs ls h
    exact absurd h (by unfold wbX2_greatest_5; exact id)
  | succ n ih =>
    intro S x1 x2 x3 x4 H locs ls h hW hS hl
    unfold wbX2_greatest_5 at h
    refine lv_iload hx hb dX2_greatest_5 (lv_at hl 4 rfl) ?_
    refine lv_bipush (v := 6) hx hb dX2_greatest_7 (by decide) ?_
    refine lv_icmp_ge (tgt := 75) hx hb dX2_greatest_9 (by decide) (fun c1 => ?_) (fun c1 => ?_)
    · have h := h.1 c1
      refine lv_iload_n hx hb dX2_greatest_75 rfl (lv_at hl 3 rfl) ?_
      exact W.iret (v := x3) hx hb hr (fun t ht hWm => ⟨⟨_, S, rfl, h, tq_pe ht hW⟩, hS.F ht⟩) hS.2.2 dX2_greatest_76
    · have h := h.2 c1
      refine lv_iload hx hb dX2_greatest_12 (lv_at hl 4 rfl) ?_
      refine lv_iload_n hx hb dX2_greatest_14 rfl (lv_at hl 2 rfl) ?_
      refine lv_icmp_eq (tgt := 34) hx hb dX2_greatest_15 (by decide) (fun c2 => ?_) (fun c2 => ?_)
      · have h := h.1 c2
        exact bX2_greatest_34 C (fun M9 a09 a19 a29 a39 H9 q9 ls9 h9 hW9 hS9 hl9 => ih M9 a09 a19 a29 a39 H9 q9 ls9 h9 hW9 hS9 hl9) _ _ _ _ _ _ _ _ h hW hS (lv_sub hl [0, 1, 2, 3, 4] rfl)
      · have h := h.2 c2
        refine lv_aload_n hx hb dX2_greatest_18 rfl (lv_at hl 0 rfl) ?_
        refine tqc_get (v := .ref (ad 42 0)) hx hb hw tq_inX2 hown hK hW (by decide) (tq_mk_4 (by decide)) rfl 0 (by decide) (hw _ tw_206) (fun _ h9 => h9) rfl dX2_greatest_19 ?_
        refine lv_iload hx hb dX2_greatest_22 (lv_at hl 4 rfl) ?_
        obtain ⟨b3, h⟩ := h
        refine tqc_aald (jn := x4.toNatClampNeg) (v := .ref (ad 43 x4.toNatClampNeg)) hx hb hK hW (by decide) (tq_mk_42 (by decide)) 2 rfl rfl b3 rfl rfl dX2_greatest_24 ?_
        refine lv_iload_n hx hb dX2_greatest_25 rfl (lv_at hl 1 rfl) ?_
        obtain ⟨b4, h⟩ := h
        refine tqc_iald (jn := x1.toNatClampNeg) hx hb hK hW (by decide) (tq_mk_43 (tq_lt b3)) b4 rfl dX2_greatest_26 ?_
        refine lv_if_le (tgt := 34) hx hb dX2_greatest_27 (by decide) (fun c5 => ?_) (fun c5 => ?_)
        · have h := h.1 c5
          exact bX2_greatest_34 C (fun M9 a09 a19 a29 a39 H9 q9 ls9 h9 hW9 hS9 hl9 => ih M9 a09 a19 a29 a39 H9 q9 ls9 h9 hW9 hS9 hl9) _ _ _ _ _ _ _ _ h hW hS (lv_sub hl [0, 1, 2, 3, 4] rfl)
        · have h := h.2 c5
          refine lv_iconst (v := 1) hx hb dX2_greatest_30 (by decide) ?_
          refine lv_goto (tgt := 35) hx hb dX2_greatest_31 (by decide) ?_
          exact bX2_greatest_35 C (fun M9 a09 a19 a29 a39 H9 q9 ls9 h9 hW9 hS9 hl9 => ih M9 a09 a19 a29 a39 H9 q9 ls9 h9 hW9 hS9 hl9) _ _ _ _ _ _ _ _ _ h hW hS (lv_sub hl [0, 1, 2, 3, 4] rfl)
set_option maxHeartbeats 4000000 in
set_option maxRecDepth 100000 in
theorem kX2_greatest {post : tq_St → Int32 → Prop} {S : tq_St} {p0 : Int32} {p1 : Int32} (h : wpX2_greatest N post S p0 p1) : tq_sI l yX2_greatest (tq_ws yX2_greatest cX2_greatest 6 (some .int)) 0 0 D cy z H0 ad N M S [.ref (ad 4 0), .int p0, .int p1] post := by
  unfold wpX2_greatest at h
  refine Met.ofW (cc := cX2_greatest) (maxL := 6) (ret := (some .int)) (by decide) rfl ?_
  intro p e s m args below meth c s₁ B hml hv
  obtain ⟨rfl, hW, hK, hG⟩ := hv
  have hx := B.exec
  have hb := B.bytes
  have hr := B.returns
  have hts := atoms_spec (ws := (tq_ws yX2_greatest cX2_greatest 6 (some .int))) B.pre
  have hw : ∀ w ∈ tq_W, w.before _ s = true := fun w h => hts w (List.mem_cons_of_mem _ h)
  have hown : s.vm.findClass RX2 = some m.cls := findClass_of_methodNamed B.named
  have hlocks := B.notSynchronized
  have C : tq_At p s m meth c [.ref (ad 4 0), .int p0, .int p1].toArray cX2_greatest 6 ((some .int)) ((tq_ws yX2_greatest cX2_greatest 6 (some .int))) RX2 D cy z ad := ⟨hx, hb, hr, hml, hown, hts, hlocks, hK, hG⟩
  have hS : va_S (fun q => z ≤ q) s.heap s.heap [] := va_S.rf
  have hl := lv_entry ([.ref (ad 4 0), .int p0, .int p1]) (n := 6) (Nat.le_of_ble_eq_true rfl)
  rw [lg_entry_eq]
  generalize (lg_sl ([.ref (ad 4 0), .int p0, .int p1]) ++ List.replicate (6 - (lg_sl ([.ref (ad 4 0), .int p0, .int p1])).length) Slot.unset).toArray = ls at hl ⊢
  have hl : lv_has ls 6 [(0, .ref (ad 4 0)), (1, .int p0), (2, .int p1)] := hl
  have hW : tq_wd D cy z H0 ad N (tq_mix S M) s.heap := hW
  refine lv_iconst (v := (-1)) hx hb dX2_greatest_0 (by decide) ?_
  refine lv_istore_n (lv' := [(3, .int ((-1))), (0, .ref (ad 4 0)), (1, .int p0), (2, .int p1)]) hx hb dX2_greatest_1 rfl hl (by decide) rfl (fun ls hl => ?_)
  refine lv_iconst (v := 0) hx hb dX2_greatest_2 (by decide) ?_
  refine lv_istore (lv' := [(4, .int 0), (3, .int ((-1))), (0, .ref (ad 4 0)), (1, .int p0), (2, .int p1)]) hx hb dX2_greatest_3 hl (by decide) rfl (fun ls hl => ?_)
  obtain ⟨nq, h⟩ := h
  exact bX2_greatest_5 C  nq _ _ _ _ _ _ _ _ h hW hS (lv_sub hl [2, 3, 4, 1, 0] rfl)
-- X2 sellOne
def wbX2_sellOne_23 (N : tq_Nn) (post : tq_St → Int32 → Prop)  (S : tq_St) (x1 : Int32) (x2 : Int32) (y0 : Int32) : Prop :=
  vp_in x2 6 ∧ (vp_in x1 4 ∧ (∀ S8, S8 = tq_up S 43 x2.toNatClampNeg x1.toNatClampNeg ((S 43 x2.toNatClampNeg x1.toNatClampNeg) - 1) → (∀ S9, S9 = tq_up S8 46 0 x2.toNatClampNeg ((S8 46 0 x2.toNatClampNeg) + 1) → (∀ S10, S10 = tq_up S9 47 0 x2.toNatClampNeg ((S9 47 0 x2.toNatClampNeg) + y0) → (post S10 y0)))))
def wpX2_sellOne (N : tq_Nn) (post : tq_St → Int32 → Prop) (S : tq_St) (p0 : Int32) (p1 : Int32) : Prop :=
  wpX2_greatest N (fun S1 r2 => (0 ≤ r2 → (vp_in r2 6 ∧ (vp_in p0 4 ∧ (wbX2_sellOne_23 N post S1 p0 p1 (S1 45 r2.toNatClampNeg p0.toNatClampNeg))))) ∧ (¬ 0 ≤ r2 → (wbX2_sellOne_23 N post S1 p0 p1 0))) S p0 p1
set_option maxHeartbeats 4000000 in
set_option maxRecDepth 100000 in
theorem bX2_sellOne_23 {p : Program} {e : Env} {s : State} {m : MethodId} {args : Array Value} {below : List Frame} {meth : Method} {c : Code} {post : tq_St → Int32 → Prop} (C : tq_At p s m meth c args cX2_sellOne 5 ((some .int)) ((tq_ws yX2_sellOne cX2_sellOne 5 (some .int))) RX2 D cy z ad)  : ∀ (S : tq_St) (x1 : Int32) (x2 : Int32) (y0 : Int32) (H : Heap) (locs : List Loc) (ls : Array Slot), wbX2_sellOne_23 N post   S x1 x2 y0 → tq_wd D cy z H0 ad N (tq_mix S M) H → va_S (fun q => z ≤ q) s.heap H locs → lv_has ls 5 [(0, .ref (ad 4 0)), (1, .int x1), (2, .int x2)] → W p l e (tq_rm 1 25) s m args below meth c H locs 0 0 (MQ below (va_Qi (fun r u => post u r) (fun u => tq_P D cy z H0 ad N u M) (fun q => z ≤ q)) args s 0 0 (fun q => z ≤ q)) (F0 m 23 ls [.int y0]) := by
  obtain ⟨hx, hb, hr, hml, hown, hts, hlocks, hK, hG⟩ := id C
  have hw : ∀ w ∈ tq_W, w.before args s = true := fun w h => hts w (List.mem_cons_of_mem _ h)
  intro S x1 x2 y0 H locs ls h hW hS hl
  unfold wbX2_sellOne_23 at h
  refine lv_istore (lv' := [(4, .int y0), (0, .ref (ad 4 0)), (1, .int x1), (2, .int x2)]) hx hb dX2_sellOne_23 hl (by decide) rfl (fun ls hl => ?_)
  refine lv_aload_n hx hb dX2_sellOne_25 rfl (lv_at hl 1 rfl) ?_
  refine tqc_get (v := .ref (ad 42 0)) hx hb hw tq_inX2 hown hK hW (by decide) (tq_mk_4 (by decide)) rfl 0 (by decide) (hw _ tw_206) (fun _ h9 => h9) rfl dX2_sellOne_26 ?_
  refine lv_iload_n hx hb dX2_sellOne_29 rfl (lv_at hl 3 rfl) ?_
  obtain ⟨b6, h⟩ := h
  refine tqc_aald (jn := x2.toNatClampNeg) (v := .ref (ad 43 x2.toNatClampNeg)) hx hb hK hW (by decide) (tq_mk_42 (by decide)) 2 rfl rfl b6 rfl rfl dX2_sellOne_30 ?_
  refine lv_iload_n hx hb dX2_sellOne_31 rfl (lv_at hl 2 rfl) ?_
  refine lv_dup2_11 hx hb dX2_sellOne_32 rfl rfl ?_
  obtain ⟨b7, h⟩ := h
  refine tqc_iald (jn := x1.toNatClampNeg) hx hb hK hW (by decide) (tq_mk_43 (tq_lt b6)) b7 rfl dX2_sellOne_33 ?_
  refine lv_iconst (v := 1) hx hb dX2_sellOne_34 (by decide) ?_
  refine lv_isub hx hb dX2_sellOne_35 ?_
  refine tqc_iast (jn := x1.toNatClampNeg) hx hb hK hW hS (by decide) (tq_mk_43 (tq_lt b6)) b7 rfl (tq_mk_43 (tq_lt b6)) dX2_sellOne_36 (fun H locs hW hS => ?_)
  generalize eS8 : tq_up S 43 x2.toNatClampNeg x1.toNatClampNeg ((S 43 x2.toNatClampNeg x1.toNatClampNeg) - 1) = S8 at hW
  have h := h S8 eS8.symm
  refine lv_aload_n hx hb dX2_sellOne_37 rfl (lv_at hl 1 rfl) ?_
  refine tqc_get (v := .ref (ad 46 0)) hx hb hw tq_inX2 hown hK hW (by decide) (tq_mk_4 (by decide)) rfl 2 (by decide) (hw _ tw_210) (fun _ h9 => h9) rfl dX2_sellOne_38 ?_
  refine lv_iload_n hx hb dX2_sellOne_41 rfl (lv_at hl 3 rfl) ?_
  refine lv_dup2_11 hx hb dX2_sellOne_42 rfl rfl ?_
  refine tqc_iald (jn := x2.toNatClampNeg) hx hb hK hW (by decide) (tq_mk_46 (by decide)) b6 rfl dX2_sellOne_43 ?_
  refine lv_iconst (v := 1) hx hb dX2_sellOne_44 (by decide) ?_
  refine lv_iadd hx hb dX2_sellOne_45 ?_
  refine tqc_iast (jn := x2.toNatClampNeg) hx hb hK hW hS (by decide) (tq_mk_46 (by decide)) b6 rfl (tq_mk_46 (by decide)) dX2_sellOne_46 (fun H locs hW hS => ?_)
  generalize eS9 : tq_up S8 46 0 x2.toNatClampNeg ((S8 46 0 x2.toNatClampNeg) + 1) = S9 at hW
  have h := h S9 eS9.symm
  refine lv_aload_n hx hb dX2_sellOne_47 rfl (lv_at hl 1 rfl) ?_
  refine tqc_get (v := .ref (ad 47 0)) hx hb hw tq_inX2 hown hK hW (by decide) (tq_mk_4 (by decide)) rfl 3 (by decide) (hw _ tw_212) (fun _ h9 => h9) rfl dX2_sellOne_48 ?_
  refine lv_iload_n hx hb dX2_sellOne_51 rfl (lv_at hl 3 rfl) ?_
  refine lv_dup2_11 hx hb dX2_sellOne_52 rfl rfl ?_
  refine tqc_iald (jn := x2.toNatClampNeg) hx hb hK hW (by decide) (tq_mk_47 (by decide)) b6 rfl dX2_sellOne_53 ?_
  refine lv_iload hx hb dX2_sellOne_54 (lv_at hl 0 rfl) ?_
  refine lv_iadd hx hb dX2_sellOne_56 ?_
  refine tqc_iast (jn := x2.toNatClampNeg) hx hb hK hW hS (by decide) (tq_mk_47 (by decide)) b6 rfl (tq_mk_47 (by decide)) dX2_sellOne_57 (fun H locs hW hS => ?_)
  generalize eS10 : tq_up S9 47 0 x2.toNatClampNeg ((S9 47 0 x2.toNatClampNeg) + y0) = S10 at hW
  have h := h S10 eS10.symm
  refine lv_iload hx hb dX2_sellOne_58 (lv_at hl 0 rfl) ?_
  exact W.iret (v := y0) hx hb hr (fun t ht hWm => ⟨⟨_, S10, rfl, h, tq_pe ht hW⟩, hS.F ht⟩) hS.2.2 dX2_sellOne_60
set_option maxHeartbeats 4000000 in
set_option maxRecDepth 100000 in
theorem kX2_sellOne {post : tq_St → Int32 → Prop} {S : tq_St} {p0 : Int32} {p1 : Int32} (h : wpX2_sellOne N post S p0 p1) : tq_sI l yX2_sellOne (tq_ws yX2_sellOne cX2_sellOne 5 (some .int)) 1 25 D cy z H0 ad N M S [.ref (ad 4 0), .int p0, .int p1] post := by
  unfold wpX2_sellOne at h
  refine Met.ofW (cc := cX2_sellOne) (maxL := 5) (ret := (some .int)) (by decide) rfl ?_
  intro p e s m args below meth c s₁ B hml hv
  obtain ⟨rfl, hW, hK, hG⟩ := hv
  have hx := B.exec
  have hb := B.bytes
  have hr := B.returns
  have hts := atoms_spec (ws := (tq_ws yX2_sellOne cX2_sellOne 5 (some .int))) B.pre
  have hw : ∀ w ∈ tq_W, w.before _ s = true := fun w h => hts w (List.mem_cons_of_mem _ h)
  have hown : s.vm.findClass RX2 = some m.cls := findClass_of_methodNamed B.named
  have hlocks := B.notSynchronized
  have C : tq_At p s m meth c [.ref (ad 4 0), .int p0, .int p1].toArray cX2_sellOne 5 ((some .int)) ((tq_ws yX2_sellOne cX2_sellOne 5 (some .int))) RX2 D cy z ad := ⟨hx, hb, hr, hml, hown, hts, hlocks, hK, hG⟩
  have hS : va_S (fun q => z ≤ q) s.heap s.heap [] := va_S.rf
  have hl := lv_entry ([.ref (ad 4 0), .int p0, .int p1]) (n := 5) (Nat.le_of_ble_eq_true rfl)
  rw [lg_entry_eq]
  generalize (lg_sl ([.ref (ad 4 0), .int p0, .int p1]) ++ List.replicate (5 - (lg_sl ([.ref (ad 4 0), .int p0, .int p1])).length) Slot.unset).toArray = ls at hl ⊢
  have hl : lv_has ls 5 [(0, .ref (ad 4 0)), (1, .int p0), (2, .int p1)] := hl
  have hW : tq_wd D cy z H0 ad N (tq_mix S M) s.heap := hW
  refine lv_aload_n hx hb dX2_sellOne_0 rfl (lv_at hl 0 rfl) ?_
  refine lv_iload_n hx hb dX2_sellOne_1 rfl (lv_at hl 1 rfl) ?_
  refine lv_iload_n hx hb dX2_sellOne_2 rfl (lv_at hl 2 rfl) ?_
  refine tqc_callVi (As := [.int p0, .int p1]) (rest := []) (kX2_greatest h) ⟨hx, hb, hml, hown, hts⟩ (cwV 2 hts (tq_goodV tw_1286 tw_1279 tw_1280 tw_120 tw_1281) rfl rfl rfl (by decide +kernel) ⟨(Nat.le_of_ble_eq_true rfl), (Nat.le_of_ble_eq_true rfl)⟩) (tq_recvC hK hW (by decide) (tq_mk_4 (by decide)) rfl) hK hG hW hS rfl hl.1 rfl (Nat.le_of_ble_eq_true rfl) dX2_sellOne_3 ⟨(Nat.le_of_ble_eq_true rfl), (Nat.le_of_ble_eq_true rfl)⟩ (fun r2 S1 H locs h hW hS => ?_)
  refine lv_istore_n (lv' := [(3, .int r2), (0, .ref (ad 4 0)), (1, .int p0), (2, .int p1)]) hx hb dX2_sellOne_6 rfl hl (by decide) rfl (fun ls hl => ?_)
  refine lv_iload_n hx hb dX2_sellOne_7 rfl (lv_at hl 0 rfl) ?_
  refine lv_if_ge (tgt := 15) hx hb dX2_sellOne_8 (by decide) (fun c3 => ?_) (fun c3 => ?_)
  · have h := h.1 c3
    refine lv_aload_n hx hb dX2_sellOne_15 rfl (lv_at hl 1 rfl) ?_
    refine tqc_get (v := .ref (ad 44 0)) hx hb hw tq_inX2 hown hK hW (by decide) (tq_mk_4 (by decide)) rfl 1 (by decide) (hw _ tw_208) (fun _ h9 => h9) rfl dX2_sellOne_16 ?_
    refine lv_iload_n hx hb dX2_sellOne_19 rfl (lv_at hl 0 rfl) ?_
    obtain ⟨b4, h⟩ := h
    refine tqc_aald (jn := r2.toNatClampNeg) (v := .ref (ad 45 r2.toNatClampNeg)) hx hb hK hW (by decide) (tq_mk_44 (by decide)) 2 rfl rfl b4 rfl rfl dX2_sellOne_20 ?_
    refine lv_iload_n hx hb dX2_sellOne_21 rfl (lv_at hl 2 rfl) ?_
    obtain ⟨b5, h⟩ := h
    refine tqc_iald (jn := p0.toNatClampNeg) hx hb hK hW (by decide) (tq_mk_45 (tq_lt b4)) b5 rfl dX2_sellOne_22 ?_
    exact bX2_sellOne_23 C  _ _ _ _ _ _ _ h hW hS (lv_sub hl [1, 2, 3] rfl)
  · have h := h.2 c3
    refine lv_iconst (v := 0) hx hb dX2_sellOne_11 (by decide) ?_
    refine lv_goto (tgt := 23) hx hb dX2_sellOne_12 (by decide) ?_
    exact bX2_sellOne_23 C  _ _ _ _ _ _ _ h hW hS (lv_sub hl [1, 2, 3] rfl)
-- X1 isOpen
def wbX1_isOpen_20 (N : tq_Nn) (post : tq_St → Int32 → Prop)  (S : tq_St) (y0 : Int32) : Prop :=
  narrow .boolean (.int y0) = .int y0 ∧ post S y0
def wbX1_isOpen_15 (N : tq_Nn) (post : tq_St → Int32 → Prop)  (S : tq_St) : Prop :=
  wbX1_isOpen_20 N post S 1
def wpX1_isOpen (N : tq_Nn) (post : tq_St → Int32 → Prop) (S : tq_St) (o : Nat) : Prop :=
  N 7 o = 1 ∧ ¬ S 7 o 13 = 0 ∧ (((S 7 o 10) = 0 → (wbX1_isOpen_15 N post S )) ∧ (¬ (S 7 o 10) = 0 → ((¬ (S 7 o 10) = 1 → (wbX1_isOpen_20 N post S 0)) ∧ ((S 7 o 10) = 1 → (wbX1_isOpen_15 N post S )))))
set_option maxHeartbeats 4000000 in
set_option maxRecDepth 100000 in
theorem bX1_isOpen_20 {p : Program} {e : Env} {s : State} {m : MethodId} {args : Array Value} {below : List Frame} {meth : Method} {c : Code} {post : tq_St → Int32 → Prop} (C : tq_At p s m meth c args cX1_isOpen 1 ((some .boolean)) ((tq_ws yX1_isOpen cX1_isOpen 1 (some .boolean))) RX1 D cy z ad)  : ∀ (S : tq_St) (y0 : Int32) (H : Heap) (locs : List Loc) (ls : Array Slot), wbX1_isOpen_20 N post   S y0 → tq_wd D cy z H0 ad N (tq_mix S M) H → va_S (fun q => z ≤ q) s.heap H locs → lv_has ls 1 [] → W p l e (tq_rm 0 0) s m args below meth c H locs 0 0 (MQ below (va_Qi (fun r u => post u r) (fun u => tq_P D cy z H0 ad N u M) (fun q => z ≤ q)) args s 0 0 (fun q => z ≤ q)) (F0 m 20 ls [.int y0]) := by
  obtain ⟨hx, hb, hr, hml, hown, hts, hlocks, hK, hG⟩ := id C
  have hw : ∀ w ∈ tq_W, w.before args s = true := fun w h => hts w (List.mem_cons_of_mem _ h)
  intro S y0 H locs ls h hW hS hl
  unfold wbX1_isOpen_20 at h
  obtain ⟨b5, h⟩ := h
  exact W.zret (v := y0) hx hb hr b5 (fun t ht hWm => ⟨⟨_, S, rfl, h, tq_pe ht hW⟩, hS.F ht⟩) hS.2.2 dX1_isOpen_20
set_option maxHeartbeats 4000000 in
set_option maxRecDepth 100000 in
theorem bX1_isOpen_15 {p : Program} {e : Env} {s : State} {m : MethodId} {args : Array Value} {below : List Frame} {meth : Method} {c : Code} {post : tq_St → Int32 → Prop} (C : tq_At p s m meth c args cX1_isOpen 1 ((some .boolean)) ((tq_ws yX1_isOpen cX1_isOpen 1 (some .boolean))) RX1 D cy z ad)  : ∀ (S : tq_St)  (H : Heap) (locs : List Loc) (ls : Array Slot), wbX1_isOpen_15 N post   S  → tq_wd D cy z H0 ad N (tq_mix S M) H → va_S (fun q => z ≤ q) s.heap H locs → lv_has ls 1 [] → W p l e (tq_rm 0 0) s m args below meth c H locs 0 0 (MQ below (va_Qi (fun r u => post u r) (fun u => tq_P D cy z H0 ad N u M) (fun q => z ≤ q)) args s 0 0 (fun q => z ≤ q)) (F0 m 15 ls []) := by
  obtain ⟨hx, hb, hr, hml, hown, hts, hlocks, hK, hG⟩ := id C
  have hw : ∀ w ∈ tq_W, w.before args s = true := fun w h => hts w (List.mem_cons_of_mem _ h)
  intro S  H locs ls h hW hS hl
  unfold wbX1_isOpen_15 at h
  refine lv_iconst (v := 1) hx hb dX1_isOpen_15 (by decide) ?_
  refine lv_goto (tgt := 20) hx hb dX1_isOpen_16 (by decide) ?_
  exact bX1_isOpen_20 C  _ _ _ _ _ h hW hS (lv_sub hl [] rfl)
set_option maxHeartbeats 4000000 in
set_option maxRecDepth 100000 in
theorem kX1_isOpen {post : tq_St → Int32 → Prop} {S : tq_St} {o : Nat} (h : wpX1_isOpen N post S o) : tq_sI l yX1_isOpen (tq_ws yX1_isOpen cX1_isOpen 1 (some .boolean)) 0 0 D cy z H0 ad N M S [.ref (ad 7 o)] post := by
  unfold wpX1_isOpen at h
  refine Met.ofW (cc := cX1_isOpen) (maxL := 1) (ret := (some .boolean)) (by decide) rfl ?_
  intro p e s m args below meth c s₁ B hml hv
  obtain ⟨rfl, hW, hK, hG⟩ := hv
  have hx := B.exec
  have hb := B.bytes
  have hr := B.returns
  have hts := atoms_spec (ws := (tq_ws yX1_isOpen cX1_isOpen 1 (some .boolean))) B.pre
  have hw : ∀ w ∈ tq_W, w.before _ s = true := fun w h => hts w (List.mem_cons_of_mem _ h)
  have hown : s.vm.findClass RX1 = some m.cls := findClass_of_methodNamed B.named
  have hlocks := B.notSynchronized
  have C : tq_At p s m meth c [.ref (ad 7 o)].toArray cX1_isOpen 1 ((some .boolean)) ((tq_ws yX1_isOpen cX1_isOpen 1 (some .boolean))) RX1 D cy z ad := ⟨hx, hb, hr, hml, hown, hts, hlocks, hK, hG⟩
  have hS : va_S (fun q => z ≤ q) s.heap s.heap [] := va_S.rf
  have hl := lv_entry ([.ref (ad 7 o)]) (n := 1) (Nat.le_of_ble_eq_true rfl)
  rw [lg_entry_eq]
  generalize (lg_sl ([.ref (ad 7 o)]) ++ List.replicate (1 - (lg_sl ([.ref (ad 7 o)])).length) Slot.unset).toArray = ls at hl ⊢
  have hl : lv_has ls 1 [(0, .ref (ad 7 o))] := hl
  have hW : tq_wd D cy z H0 ad N (tq_mix S M) s.heap := hW
  refine lv_aload_n hx hb dX1_isOpen_0 rfl (lv_at hl 0 rfl) ?_
  obtain ⟨b1, h⟩ := h
  obtain ⟨b2, h⟩ := h
  refine tqc_getB (v := .int (S 7 o 10)) hx hb hw tq_inX1 hown hK hW b1 b2 10 (by decide) (hw _ tw_1193) (fun _ h9 => h9) rfl dX1_isOpen_1 ?_
  refine lv_if_eq (tgt := 15) hx hb dX1_isOpen_4 (by decide) (fun c3 => ?_) (fun c3 => ?_)
  · have h := h.1 c3
    exact bX1_isOpen_15 C  _  _ _ _ h hW hS (lv_sub hl [] rfl)
  · have h := h.2 c3
    refine lv_aload_n hx hb dX1_isOpen_7 rfl (lv_at hl 0 rfl) ?_
    refine tqc_getB (v := .int (S 7 o 10)) hx hb hw tq_inX1 hown hK hW b1 b2 10 (by decide) (hw _ tw_1193) (fun _ h9 => h9) rfl dX1_isOpen_8 ?_
    refine lv_iconst (v := 1) hx hb dX1_isOpen_11 (by decide) ?_
    refine lv_icmp_ne (tgt := 19) hx hb dX1_isOpen_12 (by decide) (fun c4 => ?_) (fun c4 => ?_)
    · have h := h.1 c4
      refine lv_iconst (v := 0) hx hb dX1_isOpen_19 (by decide) ?_
      exact bX1_isOpen_20 C  _ _ _ _ _ h hW hS (lv_sub hl [] rfl)
    · have h := h.2 c4
      exact bX1_isOpen_15 C  _  _ _ _ h hW hS (lv_sub hl [] rfl)
-- X1 settle
def wpX1_settle (N : tq_Nn) (post : tq_St → Prop) (S : tq_St) (o : Nat) (p1 : Int32) (p2 : Int32) : Prop :=
  N 7 o = 1 ∧ ¬ S 7 o 13 = 0 ∧ ((∀ S3, S3 = tq_up S 7 o 10 p1 → (¬ S3 7 o 13 = 0 ∧ ((∀ S5, S5 = tq_up S3 7 o 12 ((S3 7 o 8) + (((S3 7 o 8) * ((p2 - (S 7 o 4)) / 30)) / 100)) → (post S5))))))
set_option maxHeartbeats 4000000 in
set_option maxRecDepth 100000 in
theorem kX1_settle {post : tq_St → Prop} {S : tq_St} {o : Nat} {p1 : Int32} {p2 : Int32} (h : wpX1_settle N post S o p1 p2) : tq_sV l yX1_settle (tq_ws yX1_settle cX1_settle 4 none) 0 0 D cy z H0 ad N M S [.ref (ad 7 o), .int p1, .int p2] post := by
  unfold wpX1_settle at h
  refine Met.ofW (cc := cX1_settle) (maxL := 4) (ret := none) (by decide) rfl ?_
  intro p e s m args below meth c s₁ B hml hv
  obtain ⟨rfl, hW, hK, hG⟩ := hv
  have hx := B.exec
  have hb := B.bytes
  have hr := B.returns
  have hts := atoms_spec (ws := (tq_ws yX1_settle cX1_settle 4 none)) B.pre
  have hw : ∀ w ∈ tq_W, w.before _ s = true := fun w h => hts w (List.mem_cons_of_mem _ h)
  have hown : s.vm.findClass RX1 = some m.cls := findClass_of_methodNamed B.named
  have hlocks := B.notSynchronized
  have C : tq_At p s m meth c [.ref (ad 7 o), .int p1, .int p2].toArray cX1_settle 4 (none) ((tq_ws yX1_settle cX1_settle 4 none)) RX1 D cy z ad := ⟨hx, hb, hr, hml, hown, hts, hlocks, hK, hG⟩
  have hS : va_S (fun q => z ≤ q) s.heap s.heap [] := va_S.rf
  have hl := lv_entry ([.ref (ad 7 o), .int p1, .int p2]) (n := 4) (Nat.le_of_ble_eq_true rfl)
  rw [lg_entry_eq]
  generalize (lg_sl ([.ref (ad 7 o), .int p1, .int p2]) ++ List.replicate (4 - (lg_sl ([.ref (ad 7 o), .int p1, .int p2])).length) Slot.unset).toArray = ls at hl ⊢
  have hl : lv_has ls 4 [(0, .ref (ad 7 o)), (1, .int p1), (2, .int p2)] := hl
  have hW : tq_wd D cy z H0 ad N (tq_mix S M) s.heap := hW
  refine lv_iload_n hx hb dX1_settle_0 rfl (lv_at hl 2 rfl) ?_
  refine lv_aload_n hx hb dX1_settle_1 rfl (lv_at hl 0 rfl) ?_
  obtain ⟨b1, h⟩ := h
  obtain ⟨b2, h⟩ := h
  refine tqc_getB (v := .int (S 7 o 4)) hx hb hw tq_inX1 hown hK hW b1 b2 4 (by decide) (hw _ tw_519) (fun x h9 => u_same (hw _ tw_520) x h9) rfl dX1_settle_2 ?_
  refine lv_isub hx hb dX1_settle_5 ?_
  refine lv_bipush (v := 30) hx hb dX1_settle_6 (by decide) ?_
  refine lv_idiv hx hb dX1_settle_8 (by decide) ?_
  refine lv_istore_n (lv' := [(3, .int ((p2 - (S 7 o 4)) / 30)), (0, .ref (ad 7 o)), (1, .int p1), (2, .int p2)]) hx hb dX1_settle_9 rfl hl (by decide) rfl (fun ls hl => ?_)
  refine lv_aload_n hx hb dX1_settle_10 rfl (lv_at hl 1 rfl) ?_
  refine lv_iload_n hx hb dX1_settle_11 rfl (lv_at hl 2 rfl) ?_
  refine tqc_putB hx hb hw tq_inX1 hown hK hW hS b1 b2 10 (by decide) (hw _ tw_1193) (fun _ h9 => h9) dX1_settle_12 (fun H locs hW hS => ?_)
  generalize eS3 : tq_up S 7 o 10 p1 = S3 at hW
  have h := h S3 eS3.symm
  refine lv_aload_n hx hb dX1_settle_15 rfl (lv_at hl 1 rfl) ?_
  refine lv_aload_n hx hb dX1_settle_16 rfl (lv_at hl 1 rfl) ?_
  obtain ⟨b4, h⟩ := h
  refine tqc_getB (v := .int (S3 7 o 8)) hx hb hw tq_inX1 hown hK hW b1 b4 8 (by decide) (hw _ tw_534) (fun x h9 => u_same (hw _ tw_535) x h9) rfl dX1_settle_17 ?_
  refine lv_aload_n hx hb dX1_settle_20 rfl (lv_at hl 1 rfl) ?_
  refine tqc_getB (v := .int (S3 7 o 8)) hx hb hw tq_inX1 hown hK hW b1 b4 8 (by decide) (hw _ tw_534) (fun x h9 => u_same (hw _ tw_535) x h9) rfl dX1_settle_21 ?_
  refine lv_iload_n hx hb dX1_settle_24 rfl (lv_at hl 0 rfl) ?_
  refine lv_imul hx hb dX1_settle_25 ?_
  refine lv_bipush (v := 100) hx hb dX1_settle_26 (by decide) ?_
  refine lv_idiv hx hb dX1_settle_28 (by decide) ?_
  refine lv_iadd hx hb dX1_settle_29 ?_
  refine tqc_putB hx hb hw tq_inX1 hown hK hW hS b1 b4 12 (by decide) (hw _ tw_1197) (fun _ h9 => h9) dX1_settle_30 (fun H locs hW hS => ?_)
  generalize eS5 : tq_up S3 7 o 12 ((S3 7 o 8) + (((S3 7 o 8) * ((p2 - (S 7 o 4)) / 30)) / 100)) = S5 at hW
  have h := h S5 eS5.symm
  exact W.vret hx hb hr (fun t ht hWm => ⟨⟨S5, rfl, h, tq_pe ht hW⟩, hS.F ht⟩) hS.2.2 dX1_settle_33
-- X0 begin
def wpX0_begin (N : tq_Nn) (post : tq_St → Prop) (S : tq_St)  : Prop :=
  (∀ S1, S1 = tq_up S 5 0 1 0 → (post S1))
set_option maxHeartbeats 4000000 in
set_option maxRecDepth 100000 in
theorem kX0_begin {post : tq_St → Prop} {S : tq_St}  (h : wpX0_begin N post S ) : tq_sV l yX0_begin (tq_ws yX0_begin cX0_begin 1 none) 0 0 D cy z H0 ad N M S [.ref (ad 5 0)] post := by
  unfold wpX0_begin at h
  refine Met.ofW (cc := cX0_begin) (maxL := 1) (ret := none) (by decide) rfl ?_
  intro p e s m args below meth c s₁ B hml hv
  obtain ⟨rfl, hW, hK, hG⟩ := hv
  have hx := B.exec
  have hb := B.bytes
  have hr := B.returns
  have hts := atoms_spec (ws := (tq_ws yX0_begin cX0_begin 1 none)) B.pre
  have hw : ∀ w ∈ tq_W, w.before _ s = true := fun w h => hts w (List.mem_cons_of_mem _ h)
  have hown : s.vm.findClass RX0 = some m.cls := findClass_of_methodNamed B.named
  have hlocks := B.notSynchronized
  have C : tq_At p s m meth c [.ref (ad 5 0)].toArray cX0_begin 1 (none) ((tq_ws yX0_begin cX0_begin 1 none)) RX0 D cy z ad := ⟨hx, hb, hr, hml, hown, hts, hlocks, hK, hG⟩
  have hS : va_S (fun q => z ≤ q) s.heap s.heap [] := va_S.rf
  have hl := lv_entry ([.ref (ad 5 0)]) (n := 1) (Nat.le_of_ble_eq_true rfl)
  rw [lg_entry_eq]
  generalize (lg_sl ([.ref (ad 5 0)]) ++ List.replicate (1 - (lg_sl ([.ref (ad 5 0)])).length) Slot.unset).toArray = ls at hl ⊢
  have hl : lv_has ls 1 [(0, .ref (ad 5 0))] := hl
  have hW : tq_wd D cy z H0 ad N (tq_mix S M) s.heap := hW
  refine lv_aload_n hx hb dX0_begin_0 rfl (lv_at hl 0 rfl) ?_
  refine lv_iconst (v := 0) hx hb dX0_begin_1 (by decide) ?_
  refine tqc_put hx hb hw tq_inX0 tyX0 tyX0_ok nmX0 hown hK hW hS (by decide) (tq_mk_5 (by decide)) rfl 1 (by decide) (hw _ tw_235) (fun _ h9 => h9) rfl rfl rfl rfl (tq_mk_5 (by decide)) dX0_begin_2 (fun H locs hW hS => ?_)
  generalize eS1 : tq_up S 5 0 1 0 = S1 at hW
  have h := h S1 eS1.symm
  exact W.vret hx hb hr (fun t ht hWm => ⟨⟨S1, rfl, h, tq_pe ht hW⟩, hS.F ht⟩) hS.2.2 dX0_begin_5
-- X0 kindWithBody
def wbX0_kindWithBody_46 (N : tq_Nn) (post : tq_St → Int32 → Prop)  (S : tq_St) : Prop :=
  post S ((-1))
def wbX0_kindWithBody_4 (N : tq_Nn) (post : tq_St → Int32 → Prop) : Nat → tq_St → Int32 → Int32 → Int32 → Prop
  | 0, _, _, _, _ => False
  | n + 1, S, x1, x2, x3 =>
    (7 ≤ x3 → (wbX0_kindWithBody_46 N post S )) ∧ (¬ 7 ≤ x3 → ((x2 < 0 → (wbX0_kindWithBody_46 N post S )) ∧ (¬ x2 < 0 → ((7 ≤ x2 → (wbX0_kindWithBody_46 N post S )) ∧ (¬ 7 ≤ x2 → (vp_in ((x2 * 3) + x1) 21 ∧ (((tq_bodies.getD ((x2 * 3) + x1).toNatClampNeg 0) = 0 → (vp_in x2 7 ∧ ((wbX0_kindWithBody_4 N post n) S x1 (tq_above.getD x2.toNatClampNeg 0) (x3 + 1)))) ∧ (¬ (tq_bodies.getD ((x2 * 3) + x1).toNatClampNeg 0) = 0 → (post S x2)))))))))
def wpX0_kindWithBody (N : tq_Nn) (post : tq_St → Int32 → Prop) (S : tq_St) (p0 : Int32) (p1 : Int32) : Prop :=
  ∃ nq, wbX0_kindWithBody_4 N post nq S p1 p0 0
set_option maxHeartbeats 4000000 in
set_option maxRecDepth 100000 in
theorem bX0_kindWithBody_46 {p : Program} {e : Env} {s : State} {m : MethodId} {args : Array Value} {below : List Frame} {meth : Method} {c : Code} {post : tq_St → Int32 → Prop} (C : tq_At p s m meth c args cX0_kindWithBody 4 ((some .int)) ((tq_ws yX0_kindWithBody cX0_kindWithBody 4 (some .int))) RX0 D cy z ad)  : ∀ (S : tq_St)  (H : Heap) (locs : List Loc) (ls : Array Slot), wbX0_kindWithBody_46 N post   S  → tq_wd D cy z H0 ad N (tq_mix S M) H → va_S (fun q => z ≤ q) s.heap H locs → lv_has ls 4 [] → W p l e (tq_rm 0 0) s m args below meth c H locs 0 0 (MQ below (va_Qi (fun r u => post u r) (fun u => tq_P D cy z H0 ad N u M) (fun q => z ≤ q)) args s 0 0 (fun q => z ≤ q)) (F0 m 46 ls []) := by
  obtain ⟨hx, hb, hr, hml, hown, hts, hlocks, hK, hG⟩ := id C
  have hw : ∀ w ∈ tq_W, w.before args s = true := fun w h => hts w (List.mem_cons_of_mem _ h)
  intro S  H locs ls h hW hS hl
  unfold wbX0_kindWithBody_46 at h
  refine lv_iconst (v := (-1)) hx hb dX0_kindWithBody_46 (by decide) ?_
  exact W.iret (v := (-1)) hx hb hr (fun t ht hWm => ⟨⟨_, S, rfl, h, tq_pe ht hW⟩, hS.F ht⟩) hS.2.2 dX0_kindWithBody_47
set_option maxHeartbeats 4000000 in
set_option maxRecDepth 100000 in
theorem bX0_kindWithBody_4 {p : Program} {e : Env} {s : State} {m : MethodId} {args : Array Value} {below : List Frame} {meth : Method} {c : Code} {post : tq_St → Int32 → Prop} (C : tq_At p s m meth c args cX0_kindWithBody 4 ((some .int)) ((tq_ws yX0_kindWithBody cX0_kindWithBody 4 (some .int))) RX0 D cy z ad)  : ∀ n : Nat, ∀ (S : tq_St) (x1 : Int32) (x2 : Int32) (x3 : Int32) (H : Heap) (locs : List Loc) (ls : Array Slot), wbX0_kindWithBody_4 N post   n S x1 x2 x3 → tq_wd D cy z H0 ad N (tq_mix S M) H → va_S (fun q => z ≤ q) s.heap H locs → lv_has ls 4 [(1, .int x1), (2, .int x2), (3, .int x3)] → W p l e (tq_rm 0 0) s m args below meth c H locs 0 0 (MQ below (va_Qi (fun r u => post u r) (fun u => tq_P D cy z H0 ad N u M) (fun q => z ≤ q)) args s 0 0 (fun q => z ≤ q)) (F0 m 4 ls []) := by
  obtain ⟨hx, hb, hr, hml, hown, hts, hlocks, hK, hG⟩ := id C
  have hw : ∀ w ∈ tq_W, w.before args s = true := fun w h => hts w (List.mem_cons_of_mem _ h)
  intro n
  induction n with
  | zero =>
    intro S x1 x2 x3 H locs ls h
    exact absurd h (by unfold wbX0_kindWithBody_4; exact id)
  | succ n ih =>
    intro S x1 x2 x3 H locs ls h hW hS hl
    unfold wbX0_kindWithBody_4 at h
    refine lv_iload_n hx hb dX0_kindWithBody_4 rfl (lv_at hl 2 rfl) ?_
    refine lv_bipush (v := 7) hx hb dX0_kindWithBody_5 (by decide) ?_
    refine lv_icmp_ge (tgt := 46) hx hb dX0_kindWithBody_7 (by decide) (fun c1 => ?_) (fun c1 => ?_)
    · have h := h.1 c1
      exact bX0_kindWithBody_46 C  _  _ _ _ h hW hS (lv_sub hl [] rfl)
    · have h := h.2 c1
      refine lv_iload_n hx hb dX0_kindWithBody_10 rfl (lv_at hl 1 rfl) ?_
      refine lv_if_lt (tgt := 46) hx hb dX0_kindWithBody_11 (by decide) (fun c2 => ?_) (fun c2 => ?_)
      · have h := h.1 c2
        exact bX0_kindWithBody_46 C  _  _ _ _ h hW hS (lv_sub hl [] rfl)
      · have h := h.2 c2
        refine lv_iload_n hx hb dX0_kindWithBody_14 rfl (lv_at hl 1 rfl) ?_
        refine lv_bipush (v := 7) hx hb dX0_kindWithBody_15 (by decide) ?_
        refine lv_icmp_ge (tgt := 46) hx hb dX0_kindWithBody_17 (by decide) (fun c3 => ?_) (fun c3 => ?_)
        · have h := h.1 c3
          exact bX0_kindWithBody_46 C  _  _ _ _ h hW hS (lv_sub hl [] rfl)
        · have h := h.2 c3
          refine va_getsN hx hb hG.2.2.2.2.1.1 hS hown ((hG.2.2.2.2.2.2.2.2.2.1 ("TwoSeas$Acts", 23, "TwoSeas", "BODIES", "[I", "TwoSeas") (by decide)).use rfl) (fun _ h9 => h9) dX0_kindWithBody_20 ?_
          refine lv_iload_n hx hb dX0_kindWithBody_23 rfl (lv_at hl 1 rfl) ?_
          refine lv_iconst (v := 3) hx hb dX0_kindWithBody_24 (by decide) ?_
          refine lv_imul hx hb dX0_kindWithBody_25 ?_
          refine lv_iload_n hx hb dX0_kindWithBody_26 rfl (lv_at hl 0 rfl) ?_
          refine lv_iadd hx hb dX0_kindWithBody_27 ?_
          obtain ⟨b4, h⟩ := h
          refine va_ti (v := .int (tq_bodies.getD ((x2 * 3) + x1).toNatClampNeg 0)) hx hb hG.2.2.2.2.1.2 hS b4 rfl dX0_kindWithBody_28 ?_
          refine lv_if_eq (tgt := 34) hx hb dX0_kindWithBody_29 (by decide) (fun c5 => ?_) (fun c5 => ?_)
          · have h := h.1 c5
            refine va_getsN hx hb hG.2.2.2.1.1 hS hown ((hG.2.2.2.2.2.2.2.2.2.1 ("TwoSeas$Acts", 26, "TwoSeas", "ABOVE", "[I", "TwoSeas") (by decide)).use rfl) (fun _ h9 => h9) dX0_kindWithBody_34 ?_
            refine lv_iload_n hx hb dX0_kindWithBody_37 rfl (lv_at hl 1 rfl) ?_
            obtain ⟨b6, h⟩ := h
            refine va_ti (v := .int (tq_above.getD x2.toNatClampNeg 0)) hx hb hG.2.2.2.1.2 hS b6 rfl dX0_kindWithBody_38 ?_
            refine lv_istore_n (lv' := [(2, .int (tq_above.getD x2.toNatClampNeg 0)), (1, .int x1), (3, .int x3)]) hx hb dX0_kindWithBody_39 rfl hl (by decide) rfl (fun ls hl => ?_)
            refine lv_iinc (v := x3 + 1) (lv' := [(3, .int (x3 + 1)), (2, .int (tq_above.getD x2.toNatClampNeg 0)), (1, .int x1)]) hx hb dX0_kindWithBody_40 hl (k := 2) rfl rfl (by decide) rfl (fun ls hl => ?_)
            refine lv_goto (tgt := 4) hx hb dX0_kindWithBody_43 (by decide) ?_
            exact ih _ _ _ _ _ _ _ h hW hS (lv_sub hl [2, 1, 0] rfl)
          · have h := h.2 c5
            refine lv_iload_n hx hb dX0_kindWithBody_32 rfl (lv_at hl 1 rfl) ?_
            exact W.iret (v := x2) hx hb hr (fun t ht hWm => ⟨⟨_, S, rfl, h, tq_pe ht hW⟩, hS.F ht⟩) hS.2.2 dX0_kindWithBody_33
set_option maxHeartbeats 4000000 in
set_option maxRecDepth 100000 in
theorem kX0_kindWithBody {post : tq_St → Int32 → Prop} {S : tq_St} {p0 : Int32} {p1 : Int32} (h : wpX0_kindWithBody N post S p0 p1) : tq_sI l yX0_kindWithBody (tq_ws yX0_kindWithBody cX0_kindWithBody 4 (some .int)) 0 0 D cy z H0 ad N M S [.int p0, .int p1] post := by
  unfold wpX0_kindWithBody at h
  refine Met.ofW (cc := cX0_kindWithBody) (maxL := 4) (ret := (some .int)) (by decide) rfl ?_
  intro p e s m args below meth c s₁ B hml hv
  obtain ⟨rfl, hW, hK, hG⟩ := hv
  have hx := B.exec
  have hb := B.bytes
  have hr := B.returns
  have hts := atoms_spec (ws := (tq_ws yX0_kindWithBody cX0_kindWithBody 4 (some .int))) B.pre
  have hw : ∀ w ∈ tq_W, w.before _ s = true := fun w h => hts w (List.mem_cons_of_mem _ h)
  have hown : s.vm.findClass RX0 = some m.cls := findClass_of_methodNamed B.named
  have hlocks := B.notSynchronized
  have C : tq_At p s m meth c [.int p0, .int p1].toArray cX0_kindWithBody 4 ((some .int)) ((tq_ws yX0_kindWithBody cX0_kindWithBody 4 (some .int))) RX0 D cy z ad := ⟨hx, hb, hr, hml, hown, hts, hlocks, hK, hG⟩
  have hS : va_S (fun q => z ≤ q) s.heap s.heap [] := va_S.rf
  have hl := lv_entry ([.int p0, .int p1]) (n := 4) (Nat.le_of_ble_eq_true rfl)
  rw [lg_entry_eq]
  generalize (lg_sl ([.int p0, .int p1]) ++ List.replicate (4 - (lg_sl ([.int p0, .int p1])).length) Slot.unset).toArray = ls at hl ⊢
  have hl : lv_has ls 4 [(0, .int p0), (1, .int p1)] := hl
  have hW : tq_wd D cy z H0 ad N (tq_mix S M) s.heap := hW
  refine lv_iload_n hx hb dX0_kindWithBody_0 rfl (lv_at hl 0 rfl) ?_
  refine lv_istore_n (lv' := [(2, .int p0), (0, .int p0), (1, .int p1)]) hx hb dX0_kindWithBody_1 rfl hl (by decide) rfl (fun ls hl => ?_)
  refine lv_iconst (v := 0) hx hb dX0_kindWithBody_2 (by decide) ?_
  refine lv_istore_n (lv' := [(3, .int 0), (2, .int p0), (0, .int p0), (1, .int p1)]) hx hb dX0_kindWithBody_3 rfl hl (by decide) rfl (fun ls hl => ?_)
  obtain ⟨nq, h⟩ := h
  exact bX0_kindWithBody_4 C  nq _ _ _ _ _ _ _ h hW hS (lv_sub hl [3, 1, 0] rfl)
-- X0 begins
def wbX0_begins_19 (N : tq_Nn) (post : tq_St → Prop)  (S : tq_St) : Prop :=
  (∀ S4, S4 = tq_up S 5 0 1 ((S 5 0 1) + 1) → (post S4))
def wpX0_begins (N : tq_Nn) (post : tq_St → Prop) (S : tq_St) (p0 : Int32) : Prop :=
  (20 ≤ (S 5 0 1) → (wbX0_begins_19 N post S )) ∧ (¬ 20 ≤ (S 5 0 1) → (vp_in (S 5 0 1) 20 ∧ (∀ S3, S3 = tq_up S 48 0 ((S 5 0 1).toNatClampNeg) p0 → (wbX0_begins_19 N post S3 ))))
set_option maxHeartbeats 4000000 in
set_option maxRecDepth 100000 in
theorem bX0_begins_19 {p : Program} {e : Env} {s : State} {m : MethodId} {args : Array Value} {below : List Frame} {meth : Method} {c : Code} {post : tq_St → Prop} (C : tq_At p s m meth c args cX0_begins 2 (none) ((tq_ws yX0_begins cX0_begins 2 none)) RX0 D cy z ad)  : ∀ (S : tq_St)  (H : Heap) (locs : List Loc) (ls : Array Slot), wbX0_begins_19 N post   S  → tq_wd D cy z H0 ad N (tq_mix S M) H → va_S (fun q => z ≤ q) s.heap H locs → lv_has ls 2 [(0, .ref (ad 5 0))] → W p l e (tq_rm 0 0) s m args below meth c H locs 0 0 (MQ below (va_Qv (fun u => post u) (fun u => tq_P D cy z H0 ad N u M) (fun q => z ≤ q)) args s 0 0 (fun q => z ≤ q)) (F0 m 19 ls []) := by
  obtain ⟨hx, hb, hr, hml, hown, hts, hlocks, hK, hG⟩ := id C
  have hw : ∀ w ∈ tq_W, w.before args s = true := fun w h => hts w (List.mem_cons_of_mem _ h)
  intro S  H locs ls h hW hS hl
  unfold wbX0_begins_19 at h
  refine lv_aload_n hx hb dX0_begins_19 rfl (lv_at hl 0 rfl) ?_
  refine lv_dup hx hb dX0_begins_20 rfl ?_
  refine tqc_get (v := .int (S 5 0 1)) hx hb hw tq_inX0 hown hK hW (by decide) (tq_mk_5 (by decide)) rfl 1 (by decide) (hw _ tw_235) (fun _ h9 => h9) rfl dX0_begins_21 ?_
  refine lv_iconst (v := 1) hx hb dX0_begins_24 (by decide) ?_
  refine lv_iadd hx hb dX0_begins_25 ?_
  refine tqc_put hx hb hw tq_inX0 tyX0 tyX0_ok nmX0 hown hK hW hS (by decide) (tq_mk_5 (by decide)) rfl 1 (by decide) (hw _ tw_235) (fun _ h9 => h9) rfl rfl rfl rfl (tq_mk_5 (by decide)) dX0_begins_26 (fun H locs hW hS => ?_)
  generalize eS4 : tq_up S 5 0 1 ((S 5 0 1) + 1) = S4 at hW
  have h := h S4 eS4.symm
  exact W.vret hx hb hr (fun t ht hWm => ⟨⟨S4, rfl, h, tq_pe ht hW⟩, hS.F ht⟩) hS.2.2 dX0_begins_29
set_option maxHeartbeats 4000000 in
set_option maxRecDepth 100000 in
theorem kX0_begins {post : tq_St → Prop} {S : tq_St} {p0 : Int32} (h : wpX0_begins N post S p0) : tq_sV l yX0_begins (tq_ws yX0_begins cX0_begins 2 none) 0 0 D cy z H0 ad N M S [.ref (ad 5 0), .int p0] post := by
  unfold wpX0_begins at h
  refine Met.ofW (cc := cX0_begins) (maxL := 2) (ret := none) (by decide) rfl ?_
  intro p e s m args below meth c s₁ B hml hv
  obtain ⟨rfl, hW, hK, hG⟩ := hv
  have hx := B.exec
  have hb := B.bytes
  have hr := B.returns
  have hts := atoms_spec (ws := (tq_ws yX0_begins cX0_begins 2 none)) B.pre
  have hw : ∀ w ∈ tq_W, w.before _ s = true := fun w h => hts w (List.mem_cons_of_mem _ h)
  have hown : s.vm.findClass RX0 = some m.cls := findClass_of_methodNamed B.named
  have hlocks := B.notSynchronized
  have C : tq_At p s m meth c [.ref (ad 5 0), .int p0].toArray cX0_begins 2 (none) ((tq_ws yX0_begins cX0_begins 2 none)) RX0 D cy z ad := ⟨hx, hb, hr, hml, hown, hts, hlocks, hK, hG⟩
  have hS : va_S (fun q => z ≤ q) s.heap s.heap [] := va_S.rf
  have hl := lv_entry ([.ref (ad 5 0), .int p0]) (n := 2) (Nat.le_of_ble_eq_true rfl)
  rw [lg_entry_eq]
  generalize (lg_sl ([.ref (ad 5 0), .int p0]) ++ List.replicate (2 - (lg_sl ([.ref (ad 5 0), .int p0])).length) Slot.unset).toArray = ls at hl ⊢
  have hl : lv_has ls 2 [(0, .ref (ad 5 0)), (1, .int p0)] := hl
  have hW : tq_wd D cy z H0 ad N (tq_mix S M) s.heap := hW
  refine lv_aload_n hx hb dX0_begins_0 rfl (lv_at hl 0 rfl) ?_
  refine tqc_get (v := .int (S 5 0 1)) hx hb hw tq_inX0 hown hK hW (by decide) (tq_mk_5 (by decide)) rfl 1 (by decide) (hw _ tw_235) (fun _ h9 => h9) rfl dX0_begins_1 ?_
  refine lv_bipush (v := 20) hx hb dX0_begins_4 (by decide) ?_
  refine lv_icmp_ge (tgt := 19) hx hb dX0_begins_6 (by decide) (fun c1 => ?_) (fun c1 => ?_)
  · have h := h.1 c1
    exact bX0_begins_19 C  _  _ _ _ h hW hS (lv_sub hl [0] rfl)
  · have h := h.2 c1
    refine lv_aload_n hx hb dX0_begins_9 rfl (lv_at hl 0 rfl) ?_
    refine tqc_get (v := .ref (ad 48 0)) hx hb hw tq_inX0 hown hK hW (by decide) (tq_mk_5 (by decide)) rfl 0 (by decide) (hw _ tw_233) (fun _ h9 => h9) rfl dX0_begins_10 ?_
    refine lv_aload_n hx hb dX0_begins_13 rfl (lv_at hl 0 rfl) ?_
    refine tqc_get (v := .int (S 5 0 1)) hx hb hw tq_inX0 hown hK hW (by decide) (tq_mk_5 (by decide)) rfl 1 (by decide) (hw _ tw_235) (fun _ h9 => h9) rfl dX0_begins_14 ?_
    refine lv_iload_n hx hb dX0_begins_17 rfl (lv_at hl 1 rfl) ?_
    obtain ⟨b2, h⟩ := h
    refine tqc_iast (jn := (S 5 0 1).toNatClampNeg) hx hb hK hW hS (by decide) (tq_mk_48 (by decide)) b2 rfl (tq_mk_48 (by decide)) dX0_begins_18 (fun H locs hW hS => ?_)
    generalize eS3 : tq_up S 48 0 ((S 5 0 1).toNatClampNeg) p0 = S3 at hW
    have h := h S3 eS3.symm
    exact bX0_begins_19 C  _  _ _ _ h hW hS (lv_sub hl [0] rfl)
-- X8 freeTons
def wpX8_freeTons (N : tq_Nn) (post : tq_St → Int32 → Prop) (S : tq_St) (o : Nat) : Prop :=
  N 8 o = 1 ∧ (N 54 o = 1 ∧ (N 55 o = 1 ∧ (post S (((S 8 o 2) - (bx_sum (S 54 o) 4)) - (bx_sum (S 55 o) 20)))))
set_option maxHeartbeats 4000000 in
set_option maxRecDepth 100000 in
theorem kX8_freeTons {post : tq_St → Int32 → Prop} {S : tq_St} {o : Nat} (h : wpX8_freeTons N post S o) : tq_sI l yX8_freeTons (tq_ws yX8_freeTons cX8_freeTons 1 (some .int)) 1 22 D cy z H0 ad N M S [.ref (ad 8 o)] post := by
  unfold wpX8_freeTons at h
  refine Met.ofW (cc := cX8_freeTons) (maxL := 1) (ret := (some .int)) (by decide) rfl ?_
  intro p e s m args below meth c s₁ B hml hv
  obtain ⟨rfl, hW, hK, hG⟩ := hv
  have hx := B.exec
  have hb := B.bytes
  have hr := B.returns
  have hts := atoms_spec (ws := (tq_ws yX8_freeTons cX8_freeTons 1 (some .int))) B.pre
  have hw : ∀ w ∈ tq_W, w.before _ s = true := fun w h => hts w (List.mem_cons_of_mem _ h)
  have hown : s.vm.findClass RX8 = some m.cls := findClass_of_methodNamed B.named
  have hlocks := B.notSynchronized
  have C : tq_At p s m meth c [.ref (ad 8 o)].toArray cX8_freeTons 1 ((some .int)) ((tq_ws yX8_freeTons cX8_freeTons 1 (some .int))) RX8 D cy z ad := ⟨hx, hb, hr, hml, hown, hts, hlocks, hK, hG⟩
  have hS : va_S (fun q => z ≤ q) s.heap s.heap [] := va_S.rf
  have hl := lv_entry ([.ref (ad 8 o)]) (n := 1) (Nat.le_of_ble_eq_true rfl)
  rw [lg_entry_eq]
  generalize (lg_sl ([.ref (ad 8 o)]) ++ List.replicate (1 - (lg_sl ([.ref (ad 8 o)])).length) Slot.unset).toArray = ls at hl ⊢
  have hl : lv_has ls 1 [(0, .ref (ad 8 o))] := hl
  have hW : tq_wd D cy z H0 ad N (tq_mix S M) s.heap := hW
  refine lv_aload_n hx hb dX8_freeTons_0 rfl (lv_at hl 0 rfl) ?_
  obtain ⟨b1, h⟩ := h
  refine tqc_get (v := .int (S 8 o 2)) hx hb hw tq_inX8 hown hK hW (by decide) (tq_mk_8 b1) rfl 2 (by decide) (hw _ tw_901) (fun _ h9 => h9) rfl dX8_freeTons_1 ?_
  refine lv_aload_n hx hb dX8_freeTons_4 rfl (lv_at hl 0 rfl) ?_
  refine tqc_get (v := .ref (ad 54 o)) hx hb hw tq_inX8 hown hK hW (by decide) (tq_mk_8 b1) rfl 8 (by decide) (hw _ tw_912) (fun _ h9 => h9) rfl dX8_freeTons_5 ?_
  obtain ⟨b2, h⟩ := h
  refine tqc_callSNi (As := [.ref (ad 54 o)]) (rest := [.int (S 8 o 2)]) (kX11_sumOf (n := 4) (post := fun u r => u = S ∧ r = bx_sum (S 54 o) 4) (by decide) (by decide) (fun f => tq_mk_54 b2) ⟨rfl, rfl⟩) ⟨hx, hb, hml, hown, hts⟩ (⟨va_cnB 1 hts (tq_goodO tw_969) rfl rfl rfl (hG.2.2.2.2.2.2.2.2.1 ("TwoSeas$Ship", 40, yX11_sumOf, "TwoSeas") (by decide)) (hw _ tw_115) (by decide +kernel) ⟨(Nat.le_of_ble_eq_true rfl), (Nat.le_of_ble_eq_true rfl)⟩, hw _ tw_968, trivial⟩) hK hG hW hS rfl hl.1 rfl (Nat.le_of_ble_eq_true rfl) dX8_freeTons_8 ⟨(Nat.le_of_ble_eq_true rfl), (Nat.le_of_ble_eq_true rfl)⟩ (fun r4 S3 H locs q9 hW hS => ?_)
  rw [q9.1] at hW
  rw [q9.2]
  refine lv_isub hx hb dX8_freeTons_11 ?_
  refine lv_aload_n hx hb dX8_freeTons_12 rfl (lv_at hl 0 rfl) ?_
  refine tqc_get (v := .ref (ad 55 o)) hx hb hw tq_inX8 hown hK hW (by decide) (tq_mk_8 b1) rfl 9 (by decide) (hw _ tw_915) (fun _ h9 => h9) rfl dX8_freeTons_13 ?_
  obtain ⟨b5, h⟩ := h
  refine tqc_callSNi (As := [.ref (ad 55 o)]) (rest := [.int ((S 8 o 2) - (bx_sum (S 54 o) 4))]) (kX11_sumOf (n := 20) (post := fun u r => u = S ∧ r = bx_sum (S 55 o) 20) (by decide) (by decide) (fun f => tq_mk_55 b5) ⟨rfl, rfl⟩) ⟨hx, hb, hml, hown, hts⟩ (⟨va_cnB 1 hts (tq_goodO tw_969) rfl rfl rfl (hG.2.2.2.2.2.2.2.2.1 ("TwoSeas$Ship", 40, yX11_sumOf, "TwoSeas") (by decide)) (hw _ tw_115) (by decide +kernel) ⟨(Nat.le_of_ble_eq_true rfl), (Nat.le_of_ble_eq_true rfl)⟩, hw _ tw_968, trivial⟩) hK hG hW hS rfl hl.1 rfl (Nat.le_of_ble_eq_true rfl) dX8_freeTons_16 ⟨(Nat.le_of_ble_eq_true rfl), (Nat.le_of_ble_eq_true rfl)⟩ (fun r7 S6 H locs q9 hW hS => ?_)
  rw [q9.1] at hW
  rw [q9.2]
  refine lv_isub hx hb dX8_freeTons_19 ?_
  exact W.iret (v := ((S 8 o 2) - (bx_sum (S 54 o) 4)) - (bx_sum (S 55 o) 20)) hx hb hr (fun t ht hWm => ⟨⟨_, S, rfl, h, tq_pe ht hW⟩, hS.F ht⟩) hS.2.2 dX8_freeTons_20
-- X8 clearHold
def wpX8_clearHold (N : tq_Nn) (post : tq_St → Prop) (S : tq_St) (o : Nat) : Prop :=
  N 8 o = 1 ∧ (∀ S2, S2 = tq_up S 8 o 7 0 → (N 54 o = 1 ∧ (∀ S4, S4 = tq_cp S2 54 o (tq_fl (S2 54 o) 4 0) → (N 55 o = 1 ∧ (∀ S6, S6 = tq_cp S4 55 o (tq_fl (S4 55 o) 20 0) → (post S6))))))
set_option maxHeartbeats 4000000 in
set_option maxRecDepth 100000 in
theorem kX8_clearHold {post : tq_St → Prop} {S : tq_St} {o : Nat} (h : wpX8_clearHold N post S o) : tq_sV l yX8_clearHold (tq_ws yX8_clearHold cX8_clearHold 1 none) 1 23 D cy z H0 ad N M S [.ref (ad 8 o)] post := by
  unfold wpX8_clearHold at h
  refine Met.ofW (cc := cX8_clearHold) (maxL := 1) (ret := none) (by decide) rfl ?_
  intro p e s m args below meth c s₁ B hml hv
  obtain ⟨rfl, hW, hK, hG⟩ := hv
  have hx := B.exec
  have hb := B.bytes
  have hr := B.returns
  have hts := atoms_spec (ws := (tq_ws yX8_clearHold cX8_clearHold 1 none)) B.pre
  have hw : ∀ w ∈ tq_W, w.before _ s = true := fun w h => hts w (List.mem_cons_of_mem _ h)
  have hown : s.vm.findClass RX8 = some m.cls := findClass_of_methodNamed B.named
  have hlocks := B.notSynchronized
  have C : tq_At p s m meth c [.ref (ad 8 o)].toArray cX8_clearHold 1 (none) ((tq_ws yX8_clearHold cX8_clearHold 1 none)) RX8 D cy z ad := ⟨hx, hb, hr, hml, hown, hts, hlocks, hK, hG⟩
  have hS : va_S (fun q => z ≤ q) s.heap s.heap [] := va_S.rf
  have hl := lv_entry ([.ref (ad 8 o)]) (n := 1) (Nat.le_of_ble_eq_true rfl)
  rw [lg_entry_eq]
  generalize (lg_sl ([.ref (ad 8 o)]) ++ List.replicate (1 - (lg_sl ([.ref (ad 8 o)])).length) Slot.unset).toArray = ls at hl ⊢
  have hl : lv_has ls 1 [(0, .ref (ad 8 o))] := hl
  have hW : tq_wd D cy z H0 ad N (tq_mix S M) s.heap := hW
  refine lv_aload_n hx hb dX8_clearHold_0 rfl (lv_at hl 0 rfl) ?_
  refine lv_iconst (v := 0) hx hb dX8_clearHold_1 (by decide) ?_
  obtain ⟨b1, h⟩ := h
  refine tqc_put hx hb hw tq_inX8 tyX8 tyX8_ok nmX8 hown hK hW hS (by decide) (tq_mk_8 b1) rfl 7 (by decide) (hw _ tw_910) (fun _ h9 => h9) rfl rfl rfl rfl (tq_mk_8 b1) dX8_clearHold_2 (fun H locs hW hS => ?_)
  generalize eS2 : tq_up S 8 o 7 0 = S2 at hW
  have h := h S2 eS2.symm
  refine lv_aload_n hx hb dX8_clearHold_5 rfl (lv_at hl 0 rfl) ?_
  refine tqc_get (v := .ref (ad 54 o)) hx hb hw tq_inX8 hown hK hW (by decide) (tq_mk_8 b1) rfl 8 (by decide) (hw _ tw_912) (fun _ h9 => h9) rfl dX8_clearHold_6 ?_
  refine lv_iconst (v := 0) hx hb dX8_clearHold_9 (by decide) ?_
  obtain ⟨b3, h⟩ := h
  refine tqc_callSv (As := [.ref (ad 54 o), .int 0]) (rest := []) (kJ7_fill (n := 4) (post := fun u => u = tq_cp S2 54 o (tq_fl (S2 54 o) 4 0)) (by decide) (by decide) (fun f => tq_mk_54 b3) rfl) ⟨hx, hb, hml, hown, hts⟩ (va_cwS 2 hts (tq_goodS tw_1113 tw_335 tw_124 tw_336) rfl rfl rfl (by decide +kernel) ⟨(Nat.le_of_ble_eq_true rfl), (Nat.le_of_ble_eq_true rfl)⟩) hK hG hW hS rfl hl.1 rfl (Nat.le_of_ble_eq_true rfl) dX8_clearHold_10 ⟨(Nat.le_of_ble_eq_true rfl), (Nat.le_of_ble_eq_true rfl)⟩ (fun S4 H locs q9 hW hS => ?_)
  have h := h S4 q9
  refine lv_aload_n hx hb dX8_clearHold_13 rfl (lv_at hl 0 rfl) ?_
  refine tqc_get (v := .ref (ad 55 o)) hx hb hw tq_inX8 hown hK hW (by decide) (tq_mk_8 b1) rfl 9 (by decide) (hw _ tw_915) (fun _ h9 => h9) rfl dX8_clearHold_14 ?_
  refine lv_iconst (v := 0) hx hb dX8_clearHold_17 (by decide) ?_
  obtain ⟨b5, h⟩ := h
  refine tqc_callSv (As := [.ref (ad 55 o), .int 0]) (rest := []) (kJ7_fill (n := 20) (post := fun u => u = tq_cp S4 55 o (tq_fl (S4 55 o) 20 0)) (by decide) (by decide) (fun f => tq_mk_55 b5) rfl) ⟨hx, hb, hml, hown, hts⟩ (va_cwS 2 hts (tq_goodS tw_1113 tw_335 tw_124 tw_336) rfl rfl rfl (by decide +kernel) ⟨(Nat.le_of_ble_eq_true rfl), (Nat.le_of_ble_eq_true rfl)⟩) hK hG hW hS rfl hl.1 rfl (Nat.le_of_ble_eq_true rfl) dX8_clearHold_18 ⟨(Nat.le_of_ble_eq_true rfl), (Nat.le_of_ble_eq_true rfl)⟩ (fun S6 H locs q9 hW hS => ?_)
  have h := h S6 q9
  exact W.vret hx hb hr (fun t ht hWm => ⟨⟨S6, rfl, h, tq_pe ht hW⟩, hS.F ht⟩) hS.2.2 dX8_clearHold_21
