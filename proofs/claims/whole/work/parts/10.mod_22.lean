variable {l : Launch} {D : va_G} {cy : Nat → ClassId} {z : Nat} {H0 : Heap} {ad : Nat → Nat → Nat} {N : tq_Nn} {S : tq_St}
-- heard
def wbX12_heard_18 (post : tq_St → Int32 → Prop)  (M : tq_St) : Prop :=
  post M ((-5))
def wbX12_heard_123 (post : tq_St → Int32 → Prop) (L27 : tq_St → Int32 → Int32 → Int32 → Int32 → Int32 → Prop) (M : tq_St) (x1 : Int32) (x2 : Int32) (x3 : Int32) (x4 : Int32) (x5 : Int32) : Prop :=
  L27 M x1 x2 x3 x4 (x5 + 1)
def wbX12_heard_119 (post : tq_St → Int32 → Prop) (L27 : tq_St → Int32 → Int32 → Int32 → Int32 → Int32 → Prop) (M : tq_St) (x1 : Int32) (x2 : Int32) (x3 : Int32) (x5 : Int32) : Prop :=
  wbX12_heard_123 post  L27 M x1 x2 x3 x5 x5
def wbX12_heard_73 (post : tq_St → Int32 → Prop) (L27 : tq_St → Int32 → Int32 → Int32 → Int32 → Int32 → Prop) (M : tq_St) (x1 : Int32) (x2 : Int32) (x3 : Int32) (x4 : Int32) (x5 : Int32) (y0 : Int32) : Prop :=
  (y0 = 0 → (wbX12_heard_123 post  L27 M x1 x2 x3 x4 x5)) ∧ (¬ y0 = 0 → (vp_in x5 150 ∧ (wpX12_in (fun M18 r19 => (r19 = 0 → (wbX12_heard_123 post  L27 M18 x1 x2 x3 x4 x5)) ∧ (¬ r19 = 0 → ((x4 < 0 → (wbX12_heard_119 post  L27 M18 x1 x2 x3 x5)) ∧ (¬ x4 < 0 → (vp_in x4 150 ∧ (((M18 112 0 x5.toNatClampNeg) < (M18 112 0 x4.toNatClampNeg) → (wbX12_heard_123 post  L27 M18 x1 x2 x3 x4 x5)) ∧ (¬ (M18 112 0 x5.toNatClampNeg) < (M18 112 0 x4.toNatClampNeg) → (wbX12_heard_119 post  L27 M18 x1 x2 x3 x5)))))))) M (M 115 x5.toNatClampNeg 0) 0 x3)))
def wbX12_heard_72 (post : tq_St → Int32 → Prop) (L27 : tq_St → Int32 → Int32 → Int32 → Int32 → Int32 → Prop) (M : tq_St) (x1 : Int32) (x2 : Int32) (x3 : Int32) (x4 : Int32) (x5 : Int32) : Prop :=
  wbX12_heard_73 post  L27 M x1 x2 x3 x4 x5 0
def wbX12_heard_147 (post : tq_St → Int32 → Prop)  (M : tq_St) (y0 : Int32) : Prop :=
  post M y0
def wbX12_heard_27 (post : tq_St → Int32 → Prop) : Nat → tq_St → Int32 → Int32 → Int32 → Int32 → Int32 → Prop
  | 0, _, _, _, _, _, _ => False
  | n + 1, M, x1, x2, x3, x4, x5 =>
    ((M 64 0 9) ≤ x5 → ((0 ≤ x4 → (vp_in x4 150 ∧ (vp_in x2 4 ∧ (wbX12_heard_147 post M (M 116 x4.toNatClampNeg x2.toNatClampNeg))))) ∧ (¬ 0 ≤ x4 → (wbX12_heard_147 post M ((-1)))))) ∧ (¬ (M 64 0 9) ≤ x5 → (vp_in x5 150 ∧ ((¬ (M 110 0 x5.toNatClampNeg) = 1 → (wbX12_heard_72 post  (wbX12_heard_27 post n) M x1 x2 x3 x4 x5)) ∧ ((M 110 0 x5.toNatClampNeg) = 1 → ((¬ (M 111 0 x5.toNatClampNeg) = x1 → (wbX12_heard_72 post  (wbX12_heard_27 post n) M x1 x2 x3 x4 x5)) ∧ ((M 111 0 x5.toNatClampNeg) = x1 → ((¬ (M 113 0 x5.toNatClampNeg) = 0 → (wbX12_heard_72 post  (wbX12_heard_27 post n) M x1 x2 x3 x4 x5)) ∧ ((M 113 0 x5.toNatClampNeg) = 0 → (wbX12_heard_73 post  (wbX12_heard_27 post n) M x1 x2 x3 x4 x5 1)))))))))
def wpX12_heard (post : tq_St → Int32 → Prop) (M : tq_St) (p0 : Int32) (p1 : Int32) (p2 : Int32) : Prop :=
  wpX12_isFactory (fun M1 r2 => (r2 = 0 → (wbX12_heard_18 post M1 )) ∧ (¬ r2 = 0 → (wpX12_isSort (fun M4 r5 => (r5 = 0 → (wbX12_heard_18 post M4 )) ∧ (¬ r5 = 0 → ((0 ≤ p2 → (∃ nq, wbX12_heard_27 post nq M4 p0 p1 p2 ((-1)) 0)) ∧ (¬ 0 ≤ p2 → (wbX12_heard_18 post M4 ))))) M1 p1))) M p0
set_option maxHeartbeats 4000000 in
set_option maxRecDepth 100000 in
theorem bX12_heard_18 {p : Program} {e : Env} {s : State} {m : MethodId} {args : Array Value} {below : List Frame} {meth : Method} {c : Code} {post : tq_St → Int32 → Prop} (C : tq_At p s m meth c args cX12_heard 7 ((some .int)) ((tq_ws yX12_heard cX12_heard 7 (some .int))) RX12 D cy z ad)  : ∀ (M : tq_St)  (H : Heap) (locs : List Loc) (ls : Array Slot), wbX12_heard_18 post   M  → tq_wd D cy z H0 ad N (tq_mix S M) H → va_S (fun q => z ≤ q) s.heap H locs → lv_has ls 7 [] → W p l e (tq_rm 2 42) s m args below meth c H locs 0 0 (MQ below (va_Qi (fun r u => post u r) (tq_P D cy z H0 ad N S) (fun q => z ≤ q)) args s 0 0 (fun q => z ≤ q)) (F0 m 18 ls []) := by
  obtain ⟨hx, hb, hr, hml, hown, hts, hlocks, hK, hG⟩ := id C
  have hw : ∀ w ∈ tq_W, w.before args s = true := fun w h => hts w (List.mem_cons_of_mem _ h)
  intro M  H locs ls h hW hS hl
  unfold wbX12_heard_18 at h
  refine lv_bipush (v := (-5)) hx hb dX12_heard_18 (by decide) ?_
  exact W.iret (v := (-5)) hx hb hr (fun t ht hWm => ⟨⟨_, M, rfl, h, tq_pe ht hW⟩, hS.F ht⟩) hS.2.2 dX12_heard_20
set_option maxHeartbeats 4000000 in
set_option maxRecDepth 100000 in
theorem bX12_heard_123 {p : Program} {e : Env} {s : State} {m : MethodId} {args : Array Value} {below : List Frame} {meth : Method} {c : Code} {post : tq_St → Int32 → Prop} (C : tq_At p s m meth c args cX12_heard 7 ((some .int)) ((tq_ws yX12_heard cX12_heard 7 (some .int))) RX12 D cy z ad) {L27 : tq_St → Int32 → Int32 → Int32 → Int32 → Int32 → Prop} (hL27 : ∀ (M : tq_St) (x1 : Int32) (x2 : Int32) (x3 : Int32) (x4 : Int32) (x5 : Int32) (H : Heap) (locs : List Loc) (ls : Array Slot), L27 M x1 x2 x3 x4 x5 → tq_wd D cy z H0 ad N (tq_mix S M) H → va_S (fun q => z ≤ q) s.heap H locs → lv_has ls 7 [(0, .ref (ad 64 0)), (1, .int x1), (2, .int x2), (3, .int x3), (4, .int x4), (5, .int x5)] → W p l e (tq_rm 2 42) s m args below meth c H locs 0 0 (MQ below (va_Qi (fun r u => post u r) (tq_P D cy z H0 ad N S) (fun q => z ≤ q)) args s 0 0 (fun q => z ≤ q)) (F0 m 27 ls [])) : ∀ (M : tq_St) (x1 : Int32) (x2 : Int32) (x3 : Int32) (x4 : Int32) (x5 : Int32) (H : Heap) (locs : List Loc) (ls : Array Slot), wbX12_heard_123 post  L27 M x1 x2 x3 x4 x5 → tq_wd D cy z H0 ad N (tq_mix S M) H → va_S (fun q => z ≤ q) s.heap H locs → lv_has ls 7 [(0, .ref (ad 64 0)), (1, .int x1), (2, .int x2), (3, .int x3), (4, .int x4), (5, .int x5)] → W p l e (tq_rm 2 42) s m args below meth c H locs 0 0 (MQ below (va_Qi (fun r u => post u r) (tq_P D cy z H0 ad N S) (fun q => z ≤ q)) args s 0 0 (fun q => z ≤ q)) (F0 m 123 ls []) := by
  obtain ⟨hx, hb, hr, hml, hown, hts, hlocks, hK, hG⟩ := id C
  have hw : ∀ w ∈ tq_W, w.before args s = true := fun w h => hts w (List.mem_cons_of_mem _ h)
  intro M x1 x2 x3 x4 x5 H locs ls h hW hS hl
  unfold wbX12_heard_123 at h
  refine lv_iinc (v := x5 + 1) (lv' := [(5, .int (x5 + 1)), (0, .ref (ad 64 0)), (1, .int x1), (2, .int x2), (3, .int x3), (4, .int x4)]) hx hb dX12_heard_123 hl (k := 5) rfl rfl (by decide) rfl (fun ls hl => ?_)
  refine lv_goto (tgt := 27) hx hb dX12_heard_126 (by decide) ?_
  exact hL27 _ _ _ _ _ _ _ _ _ h hW hS (lv_sub hl [1, 2, 3, 4, 5, 0] rfl)
set_option maxHeartbeats 4000000 in
set_option maxRecDepth 100000 in
theorem bX12_heard_119 {p : Program} {e : Env} {s : State} {m : MethodId} {args : Array Value} {below : List Frame} {meth : Method} {c : Code} {post : tq_St → Int32 → Prop} (C : tq_At p s m meth c args cX12_heard 7 ((some .int)) ((tq_ws yX12_heard cX12_heard 7 (some .int))) RX12 D cy z ad) {L27 : tq_St → Int32 → Int32 → Int32 → Int32 → Int32 → Prop} (hL27 : ∀ (M : tq_St) (x1 : Int32) (x2 : Int32) (x3 : Int32) (x4 : Int32) (x5 : Int32) (H : Heap) (locs : List Loc) (ls : Array Slot), L27 M x1 x2 x3 x4 x5 → tq_wd D cy z H0 ad N (tq_mix S M) H → va_S (fun q => z ≤ q) s.heap H locs → lv_has ls 7 [(0, .ref (ad 64 0)), (1, .int x1), (2, .int x2), (3, .int x3), (4, .int x4), (5, .int x5)] → W p l e (tq_rm 2 42) s m args below meth c H locs 0 0 (MQ below (va_Qi (fun r u => post u r) (tq_P D cy z H0 ad N S) (fun q => z ≤ q)) args s 0 0 (fun q => z ≤ q)) (F0 m 27 ls [])) : ∀ (M : tq_St) (x1 : Int32) (x2 : Int32) (x3 : Int32) (x5 : Int32) (H : Heap) (locs : List Loc) (ls : Array Slot), wbX12_heard_119 post  L27 M x1 x2 x3 x5 → tq_wd D cy z H0 ad N (tq_mix S M) H → va_S (fun q => z ≤ q) s.heap H locs → lv_has ls 7 [(0, .ref (ad 64 0)), (1, .int x1), (2, .int x2), (3, .int x3), (5, .int x5)] → W p l e (tq_rm 2 42) s m args below meth c H locs 0 0 (MQ below (va_Qi (fun r u => post u r) (tq_P D cy z H0 ad N S) (fun q => z ≤ q)) args s 0 0 (fun q => z ≤ q)) (F0 m 119 ls []) := by
  obtain ⟨hx, hb, hr, hml, hown, hts, hlocks, hK, hG⟩ := id C
  have hw : ∀ w ∈ tq_W, w.before args s = true := fun w h => hts w (List.mem_cons_of_mem _ h)
  intro M x1 x2 x3 x5 H locs ls h hW hS hl
  unfold wbX12_heard_119 at h
  refine lv_iload hx hb dX12_heard_119 (lv_at hl 4 rfl) ?_
  refine lv_istore (lv' := [(4, .int x5), (0, .ref (ad 64 0)), (1, .int x1), (2, .int x2), (3, .int x3), (5, .int x5)]) hx hb dX12_heard_121 hl (by decide) rfl (fun ls hl => ?_)
  exact bX12_heard_123 C (fun M9 a09 a19 a29 a39 a49 H9 q9 ls9 h9 hW9 hS9 hl9 => hL27 M9 a09 a19 a29 a39 a49 H9 q9 ls9 h9 hW9 hS9 hl9) _ _ _ _ _ _ _ _ _ h hW hS (lv_sub hl [1, 2, 3, 4, 0, 5] rfl)
set_option maxHeartbeats 4000000 in
set_option maxRecDepth 100000 in
theorem bX12_heard_73 {p : Program} {e : Env} {s : State} {m : MethodId} {args : Array Value} {below : List Frame} {meth : Method} {c : Code} {post : tq_St → Int32 → Prop} (C : tq_At p s m meth c args cX12_heard 7 ((some .int)) ((tq_ws yX12_heard cX12_heard 7 (some .int))) RX12 D cy z ad) {L27 : tq_St → Int32 → Int32 → Int32 → Int32 → Int32 → Prop} (hL27 : ∀ (M : tq_St) (x1 : Int32) (x2 : Int32) (x3 : Int32) (x4 : Int32) (x5 : Int32) (H : Heap) (locs : List Loc) (ls : Array Slot), L27 M x1 x2 x3 x4 x5 → tq_wd D cy z H0 ad N (tq_mix S M) H → va_S (fun q => z ≤ q) s.heap H locs → lv_has ls 7 [(0, .ref (ad 64 0)), (1, .int x1), (2, .int x2), (3, .int x3), (4, .int x4), (5, .int x5)] → W p l e (tq_rm 2 42) s m args below meth c H locs 0 0 (MQ below (va_Qi (fun r u => post u r) (tq_P D cy z H0 ad N S) (fun q => z ≤ q)) args s 0 0 (fun q => z ≤ q)) (F0 m 27 ls [])) : ∀ (M : tq_St) (x1 : Int32) (x2 : Int32) (x3 : Int32) (x4 : Int32) (x5 : Int32) (y0 : Int32) (H : Heap) (locs : List Loc) (ls : Array Slot), wbX12_heard_73 post  L27 M x1 x2 x3 x4 x5 y0 → tq_wd D cy z H0 ad N (tq_mix S M) H → va_S (fun q => z ≤ q) s.heap H locs → lv_has ls 7 [(0, .ref (ad 64 0)), (1, .int x1), (2, .int x2), (3, .int x3), (4, .int x4), (5, .int x5)] → W p l e (tq_rm 2 42) s m args below meth c H locs 0 0 (MQ below (va_Qi (fun r u => post u r) (tq_P D cy z H0 ad N S) (fun q => z ≤ q)) args s 0 0 (fun q => z ≤ q)) (F0 m 73 ls [.int y0]) := by
  obtain ⟨hx, hb, hr, hml, hown, hts, hlocks, hK, hG⟩ := id C
  have hw : ∀ w ∈ tq_W, w.before args s = true := fun w h => hts w (List.mem_cons_of_mem _ h)
  intro M x1 x2 x3 x4 x5 y0 H locs ls h hW hS hl
  unfold wbX12_heard_73 at h
  refine lv_istore (lv' := [(6, .int y0), (0, .ref (ad 64 0)), (1, .int x1), (2, .int x2), (3, .int x3), (4, .int x4), (5, .int x5)]) hx hb dX12_heard_73 hl (by decide) rfl (fun ls hl => ?_)
  refine lv_iload hx hb dX12_heard_75 (lv_at hl 0 rfl) ?_
  refine lv_if_eq (tgt := 123) hx hb dX12_heard_77 (by decide) (fun c16 => ?_) (fun c16 => ?_)
  · have h := h.1 c16
    exact bX12_heard_123 C (fun M9 a09 a19 a29 a39 a49 H9 q9 ls9 h9 hW9 hS9 hl9 => hL27 M9 a09 a19 a29 a39 a49 H9 q9 ls9 h9 hW9 hS9 hl9) _ _ _ _ _ _ _ _ _ h hW hS (lv_sub hl [1, 2, 3, 4, 5, 6] rfl)
  · have h := h.2 c16
    refine lv_aload_n hx hb dX12_heard_80 rfl (lv_at hl 1 rfl) ?_
    refine tqm_get (v := .ref (ad 215 0)) hx hb hw tq_inX12 hown hK hW (by decide) (tq_mk_64 (by decide)) rfl 15 (by decide) (hw _ tw_1423) (fun _ h9 => h9) rfl dX12_heard_81 ?_
    refine lv_iload hx hb dX12_heard_84 (lv_at hl 6 rfl) ?_
    obtain ⟨b17, h⟩ := h
    refine tqm_aald (jn := x5.toNatClampNeg) (v := .ref (ad 115 x5.toNatClampNeg)) hx hb hK hW (by decide) (tq_mk_215 (by decide)) 2 rfl rfl b17 rfl rfl dX12_heard_86 ?_
    refine lv_iconst (v := 0) hx hb dX12_heard_87 (by decide) ?_
    refine tqm_iald (jn := 0) hx hb hK hW (by decide) (tq_mk_115 (tq_lt b17)) (by unfold vp_in; decide) (by decide) dX12_heard_88 ?_
    refine lv_iconst (v := 0) hx hb dX12_heard_89 (by decide) ?_
    refine lv_iload_n hx hb dX12_heard_90 rfl (lv_at hl 4 rfl) ?_
    refine tq_callSi (As := [.int (M 115 x5.toNatClampNeg 0), .int 0, .int x3]) (rest := []) (kX12_in h) ⟨hx, hb, hml, hown, hts⟩ (va_cwS 3 hts (tq_goodS tw_1648 tw_1649 tw_125 tw_1650) rfl rfl rfl (by decide +kernel) ⟨Nat.le_of_ble_eq_true rfl, Nat.le_of_ble_eq_true rfl⟩) hK hG hW hS rfl hl.1 rfl (Nat.le_of_ble_eq_true rfl) dX12_heard_91 ⟨Nat.le_of_ble_eq_true rfl, Nat.le_of_ble_eq_true rfl⟩ (fun r19 M18 H locs h hW hS => ?_)
    refine lv_if_eq (tgt := 123) hx hb dX12_heard_94 (by decide) (fun c20 => ?_) (fun c20 => ?_)
    · have h := h.1 c20
      exact bX12_heard_123 C (fun M9 a09 a19 a29 a39 a49 H9 q9 ls9 h9 hW9 hS9 hl9 => hL27 M9 a09 a19 a29 a39 a49 H9 q9 ls9 h9 hW9 hS9 hl9) _ _ _ _ _ _ _ _ _ h hW hS (lv_sub hl [1, 2, 3, 4, 5, 6] rfl)
    · have h := h.2 c20
      refine lv_iload hx hb dX12_heard_97 (lv_at hl 5 rfl) ?_
      refine lv_if_lt (tgt := 119) hx hb dX12_heard_99 (by decide) (fun c21 => ?_) (fun c21 => ?_)
      · have h := h.1 c21
        exact bX12_heard_119 C (fun M9 a09 a19 a29 a39 a49 H9 q9 ls9 h9 hW9 hS9 hl9 => hL27 M9 a09 a19 a29 a39 a49 H9 q9 ls9 h9 hW9 hS9 hl9) _ _ _ _ _ _ _ _ h hW hS (lv_sub hl [1, 2, 3, 4, 6] rfl)
      · have h := h.2 c21
        refine lv_aload_n hx hb dX12_heard_102 rfl (lv_at hl 1 rfl) ?_
        refine tqm_get (v := .ref (ad 112 0)) hx hb hw tq_inX12 hown hK hW (by decide) (tq_mk_64 (by decide)) rfl 12 (by decide) (hw _ tw_1420) (fun _ h9 => h9) rfl dX12_heard_103 ?_
        refine lv_iload hx hb dX12_heard_106 (lv_at hl 6 rfl) ?_
        refine tqm_iald (jn := x5.toNatClampNeg) hx hb hK hW (by decide) (tq_mk_112 (by decide)) b17 rfl dX12_heard_108 ?_
        refine lv_aload_n hx hb dX12_heard_109 rfl (lv_at hl 1 rfl) ?_
        refine tqm_get (v := .ref (ad 112 0)) hx hb hw tq_inX12 hown hK hW (by decide) (tq_mk_64 (by decide)) rfl 12 (by decide) (hw _ tw_1420) (fun _ h9 => h9) rfl dX12_heard_110 ?_
        refine lv_iload hx hb dX12_heard_113 (lv_at hl 5 rfl) ?_
        obtain ⟨b22, h⟩ := h
        refine tqm_iald (jn := x4.toNatClampNeg) hx hb hK hW (by decide) (tq_mk_112 (by decide)) b22 rfl dX12_heard_115 ?_
        refine lv_icmp_lt (tgt := 123) hx hb dX12_heard_116 (by decide) (fun c23 => ?_) (fun c23 => ?_)
        · have h := h.1 c23
          exact bX12_heard_123 C (fun M9 a09 a19 a29 a39 a49 H9 q9 ls9 h9 hW9 hS9 hl9 => hL27 M9 a09 a19 a29 a39 a49 H9 q9 ls9 h9 hW9 hS9 hl9) _ _ _ _ _ _ _ _ _ h hW hS (lv_sub hl [1, 2, 3, 4, 5, 6] rfl)
        · have h := h.2 c23
          exact bX12_heard_119 C (fun M9 a09 a19 a29 a39 a49 H9 q9 ls9 h9 hW9 hS9 hl9 => hL27 M9 a09 a19 a29 a39 a49 H9 q9 ls9 h9 hW9 hS9 hl9) _ _ _ _ _ _ _ _ h hW hS (lv_sub hl [1, 2, 3, 4, 6] rfl)
set_option maxHeartbeats 4000000 in
set_option maxRecDepth 100000 in
theorem bX12_heard_72 {p : Program} {e : Env} {s : State} {m : MethodId} {args : Array Value} {below : List Frame} {meth : Method} {c : Code} {post : tq_St → Int32 → Prop} (C : tq_At p s m meth c args cX12_heard 7 ((some .int)) ((tq_ws yX12_heard cX12_heard 7 (some .int))) RX12 D cy z ad) {L27 : tq_St → Int32 → Int32 → Int32 → Int32 → Int32 → Prop} (hL27 : ∀ (M : tq_St) (x1 : Int32) (x2 : Int32) (x3 : Int32) (x4 : Int32) (x5 : Int32) (H : Heap) (locs : List Loc) (ls : Array Slot), L27 M x1 x2 x3 x4 x5 → tq_wd D cy z H0 ad N (tq_mix S M) H → va_S (fun q => z ≤ q) s.heap H locs → lv_has ls 7 [(0, .ref (ad 64 0)), (1, .int x1), (2, .int x2), (3, .int x3), (4, .int x4), (5, .int x5)] → W p l e (tq_rm 2 42) s m args below meth c H locs 0 0 (MQ below (va_Qi (fun r u => post u r) (tq_P D cy z H0 ad N S) (fun q => z ≤ q)) args s 0 0 (fun q => z ≤ q)) (F0 m 27 ls [])) : ∀ (M : tq_St) (x1 : Int32) (x2 : Int32) (x3 : Int32) (x4 : Int32) (x5 : Int32) (H : Heap) (locs : List Loc) (ls : Array Slot), wbX12_heard_72 post  L27 M x1 x2 x3 x4 x5 → tq_wd D cy z H0 ad N (tq_mix S M) H → va_S (fun q => z ≤ q) s.heap H locs → lv_has ls 7 [(0, .ref (ad 64 0)), (1, .int x1), (2, .int x2), (3, .int x3), (4, .int x4), (5, .int x5)] → W p l e (tq_rm 2 42) s m args below meth c H locs 0 0 (MQ below (va_Qi (fun r u => post u r) (tq_P D cy z H0 ad N S) (fun q => z ≤ q)) args s 0 0 (fun q => z ≤ q)) (F0 m 72 ls []) := by
  obtain ⟨hx, hb, hr, hml, hown, hts, hlocks, hK, hG⟩ := id C
  have hw : ∀ w ∈ tq_W, w.before args s = true := fun w h => hts w (List.mem_cons_of_mem _ h)
  intro M x1 x2 x3 x4 x5 H locs ls h hW hS hl
  unfold wbX12_heard_72 at h
  refine lv_iconst (v := 0) hx hb dX12_heard_72 (by decide) ?_
  exact bX12_heard_73 C (fun M9 a09 a19 a29 a39 a49 H9 q9 ls9 h9 hW9 hS9 hl9 => hL27 M9 a09 a19 a29 a39 a49 H9 q9 ls9 h9 hW9 hS9 hl9) _ _ _ _ _ _ _ _ _ _ h hW hS (lv_sub hl [0, 1, 2, 3, 4, 5] rfl)
set_option maxHeartbeats 4000000 in
set_option maxRecDepth 100000 in
theorem bX12_heard_147 {p : Program} {e : Env} {s : State} {m : MethodId} {args : Array Value} {below : List Frame} {meth : Method} {c : Code} {post : tq_St → Int32 → Prop} (C : tq_At p s m meth c args cX12_heard 7 ((some .int)) ((tq_ws yX12_heard cX12_heard 7 (some .int))) RX12 D cy z ad)  : ∀ (M : tq_St) (y0 : Int32) (H : Heap) (locs : List Loc) (ls : Array Slot), wbX12_heard_147 post   M y0 → tq_wd D cy z H0 ad N (tq_mix S M) H → va_S (fun q => z ≤ q) s.heap H locs → lv_has ls 7 [] → W p l e (tq_rm 2 42) s m args below meth c H locs 0 0 (MQ below (va_Qi (fun r u => post u r) (tq_P D cy z H0 ad N S) (fun q => z ≤ q)) args s 0 0 (fun q => z ≤ q)) (F0 m 147 ls [.int y0]) := by
  obtain ⟨hx, hb, hr, hml, hown, hts, hlocks, hK, hG⟩ := id C
  have hw : ∀ w ∈ tq_W, w.before args s = true := fun w h => hts w (List.mem_cons_of_mem _ h)
  intro M y0 H locs ls h hW hS hl
  unfold wbX12_heard_147 at h
  exact W.iret (v := y0) hx hb hr (fun t ht hWm => ⟨⟨_, M, rfl, h, tq_pe ht hW⟩, hS.F ht⟩) hS.2.2 dX12_heard_147
set_option maxHeartbeats 4000000 in
set_option maxRecDepth 100000 in
theorem bX12_heard_27 {p : Program} {e : Env} {s : State} {m : MethodId} {args : Array Value} {below : List Frame} {meth : Method} {c : Code} {post : tq_St → Int32 → Prop} (C : tq_At p s m meth c args cX12_heard 7 ((some .int)) ((tq_ws yX12_heard cX12_heard 7 (some .int))) RX12 D cy z ad)  : ∀ n : Nat, ∀ (M : tq_St) (x1 : Int32) (x2 : Int32) (x3 : Int32) (x4 : Int32) (x5 : Int32) (H : Heap) (locs : List Loc) (ls : Array Slot), wbX12_heard_27 post   n M x1 x2 x3 x4 x5 → tq_wd D cy z H0 ad N (tq_mix S M) H → va_S (fun q => z ≤ q) s.heap H locs → lv_has ls 7 [(0, .ref (ad 64 0)), (1, .int x1), (2, .int x2), (3, .int x3), (4, .int x4), (5, .int x5)] → W p l e (tq_rm 2 42) s m args below meth c H locs 0 0 (MQ below (va_Qi (fun r u => post u r) (tq_P D cy z H0 ad N S) (fun q => z ≤ q)) args s 0 0 (fun q => z ≤ q)) (F0 m 27 ls []) := by
  obtain ⟨hx, hb, hr, hml, hown, hts, hlocks, hK, hG⟩ := id C
  have hw : ∀ w ∈ tq_W, w.before args s = true := fun w h => hts w (List.mem_cons_of_mem _ h)
  intro n
  induction n with
  | zero =>
    intro M x1 x2 x3 x4 x5 H locs ls h
    exact absurd h (by unfold wbX12_heard_27; exact id)
  | succ n ih =>
    intro M x1 x2 x3 x4 x5 H locs ls h hW hS hl
    unfold wbX12_heard_27 at h
    refine lv_iload hx hb dX12_heard_27 (lv_at hl 5 rfl) ?_
    refine lv_aload_n hx hb dX12_heard_29 rfl (lv_at hl 0 rfl) ?_
    refine tqm_get (v := .int (M 64 0 9)) hx hb hw tq_inX12 hown hK hW (by decide) (tq_mk_64 (by decide)) rfl 9 (by decide) (hw _ tw_1417) (fun _ h9 => h9) rfl dX12_heard_30 ?_
    refine lv_icmp_ge (tgt := 129) hx hb dX12_heard_33 (by decide) (fun c8 => ?_) (fun c8 => ?_)
    · have h := h.1 c8
      refine lv_iload hx hb dX12_heard_129 (lv_at hl 4 rfl) ?_
      refine lv_if_ge (tgt := 138) hx hb dX12_heard_131 (by decide) (fun c9 => ?_) (fun c9 => ?_)
      · have h := h.1 c9
        refine lv_aload_n hx hb dX12_heard_138 rfl (lv_at hl 0 rfl) ?_
        refine tqm_get (v := .ref (ad 216 0)) hx hb hw tq_inX12 hown hK hW (by decide) (tq_mk_64 (by decide)) rfl 16 (by decide) (hw _ tw_1424) (fun _ h9 => h9) rfl dX12_heard_139 ?_
        refine lv_iload hx hb dX12_heard_142 (lv_at hl 4 rfl) ?_
        obtain ⟨b10, h⟩ := h
        refine tqm_aald (jn := x4.toNatClampNeg) (v := .ref (ad 116 x4.toNatClampNeg)) hx hb hK hW (by decide) (tq_mk_216 (by decide)) 2 rfl rfl b10 rfl rfl dX12_heard_144 ?_
        refine lv_iload_n hx hb dX12_heard_145 rfl (lv_at hl 2 rfl) ?_
        obtain ⟨b11, h⟩ := h
        refine tqm_iald (jn := x2.toNatClampNeg) hx hb hK hW (by decide) (tq_mk_116 (tq_lt b10)) b11 rfl dX12_heard_146 ?_
        exact bX12_heard_147 C  _ _ _ _ _ h hW hS (lv_sub hl [] rfl)
      · have h := h.2 c9
        refine lv_iconst (v := (-1)) hx hb dX12_heard_134 (by decide) ?_
        refine lv_goto (tgt := 147) hx hb dX12_heard_135 (by decide) ?_
        exact bX12_heard_147 C  _ _ _ _ _ h hW hS (lv_sub hl [] rfl)
    · have h := h.2 c8
      refine lv_aload_n hx hb dX12_heard_36 rfl (lv_at hl 0 rfl) ?_
      refine tqm_get (v := .ref (ad 110 0)) hx hb hw tq_inX12 hown hK hW (by decide) (tq_mk_64 (by decide)) rfl 10 (by decide) (hw _ tw_1418) (fun _ h9 => h9) rfl dX12_heard_37 ?_
      refine lv_iload hx hb dX12_heard_40 (lv_at hl 5 rfl) ?_
      obtain ⟨b12, h⟩ := h
      refine tqm_iald (jn := x5.toNatClampNeg) hx hb hK hW (by decide) (tq_mk_110 (by decide)) b12 rfl dX12_heard_42 ?_
      refine lv_iconst (v := 1) hx hb dX12_heard_43 (by decide) ?_
      refine lv_icmp_ne (tgt := 72) hx hb dX12_heard_44 (by decide) (fun c13 => ?_) (fun c13 => ?_)
      · have h := h.1 c13
        exact bX12_heard_72 C (fun M9 a09 a19 a29 a39 a49 H9 q9 ls9 h9 hW9 hS9 hl9 => ih M9 a09 a19 a29 a39 a49 H9 q9 ls9 h9 hW9 hS9 hl9) _ _ _ _ _ _ _ _ _ h hW hS (lv_sub hl [0, 1, 2, 3, 4, 5] rfl)
      · have h := h.2 c13
        refine lv_aload_n hx hb dX12_heard_47 rfl (lv_at hl 0 rfl) ?_
        refine tqm_get (v := .ref (ad 111 0)) hx hb hw tq_inX12 hown hK hW (by decide) (tq_mk_64 (by decide)) rfl 11 (by decide) (hw _ tw_1419) (fun _ h9 => h9) rfl dX12_heard_48 ?_
        refine lv_iload hx hb dX12_heard_51 (lv_at hl 5 rfl) ?_
        refine tqm_iald (jn := x5.toNatClampNeg) hx hb hK hW (by decide) (tq_mk_111 (by decide)) b12 rfl dX12_heard_53 ?_
        refine lv_iload_n hx hb dX12_heard_54 rfl (lv_at hl 1 rfl) ?_
        refine lv_icmp_ne (tgt := 72) hx hb dX12_heard_55 (by decide) (fun c14 => ?_) (fun c14 => ?_)
        · have h := h.1 c14
          exact bX12_heard_72 C (fun M9 a09 a19 a29 a39 a49 H9 q9 ls9 h9 hW9 hS9 hl9 => ih M9 a09 a19 a29 a39 a49 H9 q9 ls9 h9 hW9 hS9 hl9) _ _ _ _ _ _ _ _ _ h hW hS (lv_sub hl [0, 1, 2, 3, 4, 5] rfl)
        · have h := h.2 c14
          refine lv_aload_n hx hb dX12_heard_58 rfl (lv_at hl 0 rfl) ?_
          refine tqm_get (v := .ref (ad 113 0)) hx hb hw tq_inX12 hown hK hW (by decide) (tq_mk_64 (by decide)) rfl 13 (by decide) (hw _ tw_1421) (fun _ h9 => h9) rfl dX12_heard_59 ?_
          refine lv_iload hx hb dX12_heard_62 (lv_at hl 5 rfl) ?_
          refine tqm_iald (jn := x5.toNatClampNeg) hx hb hK hW (by decide) (tq_mk_113 (by decide)) b12 rfl dX12_heard_64 ?_
          refine lv_if_ne (tgt := 72) hx hb dX12_heard_65 (by decide) (fun c15 => ?_) (fun c15 => ?_)
          · have h := h.1 c15
            exact bX12_heard_72 C (fun M9 a09 a19 a29 a39 a49 H9 q9 ls9 h9 hW9 hS9 hl9 => ih M9 a09 a19 a29 a39 a49 H9 q9 ls9 h9 hW9 hS9 hl9) _ _ _ _ _ _ _ _ _ h hW hS (lv_sub hl [0, 1, 2, 3, 4, 5] rfl)
          · have h := h.2 c15
            refine lv_iconst (v := 1) hx hb dX12_heard_68 (by decide) ?_
            refine lv_goto (tgt := 73) hx hb dX12_heard_69 (by decide) ?_
            exact bX12_heard_73 C (fun M9 a09 a19 a29 a39 a49 H9 q9 ls9 h9 hW9 hS9 hl9 => ih M9 a09 a19 a29 a39 a49 H9 q9 ls9 h9 hW9 hS9 hl9) _ _ _ _ _ _ _ _ _ _ h hW hS (lv_sub hl [0, 1, 2, 3, 4, 5] rfl)
set_option maxHeartbeats 4000000 in
set_option maxRecDepth 100000 in
theorem kX12_heard {post : tq_St → Int32 → Prop} {M : tq_St} {p0 : Int32} {p1 : Int32} {p2 : Int32} (h : wpX12_heard post M p0 p1 p2) : tq_mI l yX12_heard (tq_ws yX12_heard cX12_heard 7 (some .int)) 2 42 D cy z H0 ad N S M [.ref (ad 64 0), .int p0, .int p1, .int p2] post := by
  unfold wpX12_heard at h
  refine Met.ofW (cc := cX12_heard) (maxL := 7) (ret := (some .int)) (by decide) rfl ?_
  intro p e s m args below meth c s₁ B hml hv
  obtain ⟨rfl, hW, hK, hG⟩ := hv
  have hx := B.exec
  have hb := B.bytes
  have hr := B.returns
  have hts := atoms_spec (ws := (tq_ws yX12_heard cX12_heard 7 (some .int))) B.pre
  have hw : ∀ w ∈ tq_W, w.before _ s = true := fun w h => hts w (List.mem_cons_of_mem _ h)
  have hown : s.vm.findClass RX12 = some m.cls := findClass_of_methodNamed B.named
  have hlocks := B.notSynchronized
  have C : tq_At p s m meth c [.ref (ad 64 0), .int p0, .int p1, .int p2].toArray cX12_heard 7 ((some .int)) ((tq_ws yX12_heard cX12_heard 7 (some .int))) RX12 D cy z ad := ⟨hx, hb, hr, hml, hown, hts, hlocks, hK, hG⟩
  have hS : va_S (fun q => z ≤ q) s.heap s.heap [] := va_S.rf
  have hl := lv_entry ([.ref (ad 64 0), .int p0, .int p1, .int p2]) (n := 7) (Nat.le_of_ble_eq_true rfl)
  rw [lg_entry_eq]
  generalize (lg_sl ([.ref (ad 64 0), .int p0, .int p1, .int p2]) ++ List.replicate (7 - (lg_sl ([.ref (ad 64 0), .int p0, .int p1, .int p2])).length) Slot.unset).toArray = ls at hl ⊢
  have hl : lv_has ls 7 [(0, .ref (ad 64 0)), (1, .int p0), (2, .int p1), (3, .int p2)] := hl
  have hW : tq_wd D cy z H0 ad N (tq_mix S M) s.heap := hW
  refine lv_iload_n hx hb dX12_heard_0 rfl (lv_at hl 1 rfl) ?_
  refine tq_callSi (As := [.int p0]) (rest := []) (kX12_isFactory h) ⟨hx, hb, hml, hown, hts⟩ (va_cwS 1 hts (tq_goodS tw_1645 tw_1646 tw_125 tw_1647) rfl rfl rfl (by decide +kernel) ⟨Nat.le_of_ble_eq_true rfl, Nat.le_of_ble_eq_true rfl⟩) hK hG hW hS rfl hl.1 rfl (Nat.le_of_ble_eq_true rfl) dX12_heard_1 ⟨Nat.le_of_ble_eq_true rfl, Nat.le_of_ble_eq_true rfl⟩ (fun r2 M1 H locs h hW hS => ?_)
  refine lv_if_eq (tgt := 18) hx hb dX12_heard_4 (by decide) (fun c3 => ?_) (fun c3 => ?_)
  · have h := h.1 c3
    exact bX12_heard_18 C  _  _ _ _ h hW hS (lv_sub hl [] rfl)
  · have h := h.2 c3
    refine lv_iload_n hx hb dX12_heard_7 rfl (lv_at hl 2 rfl) ?_
    refine tq_callSi (As := [.int p1]) (rest := []) (kX12_isSort h) ⟨hx, hb, hml, hown, hts⟩ (va_cwS 1 hts (tq_goodS tw_1655 tw_1656 tw_125 tw_1657) rfl rfl rfl (by decide +kernel) ⟨Nat.le_of_ble_eq_true rfl, Nat.le_of_ble_eq_true rfl⟩) hK hG hW hS rfl hl.1 rfl (Nat.le_of_ble_eq_true rfl) dX12_heard_8 ⟨Nat.le_of_ble_eq_true rfl, Nat.le_of_ble_eq_true rfl⟩ (fun r5 M4 H locs h hW hS => ?_)
    refine lv_if_eq (tgt := 18) hx hb dX12_heard_11 (by decide) (fun c6 => ?_) (fun c6 => ?_)
    · have h := h.1 c6
      exact bX12_heard_18 C  _  _ _ _ h hW hS (lv_sub hl [] rfl)
    · have h := h.2 c6
      refine lv_iload_n hx hb dX12_heard_14 rfl (lv_at hl 3 rfl) ?_
      refine lv_if_ge (tgt := 21) hx hb dX12_heard_15 (by decide) (fun c7 => ?_) (fun c7 => ?_)
      · have h := h.1 c7
        refine lv_iconst (v := (-1)) hx hb dX12_heard_21 (by decide) ?_
        refine lv_istore (lv' := [(4, .int ((-1))), (0, .ref (ad 64 0)), (1, .int p0), (2, .int p1), (3, .int p2)]) hx hb dX12_heard_22 hl (by decide) rfl (fun ls hl => ?_)
        refine lv_iconst (v := 0) hx hb dX12_heard_24 (by decide) ?_
        refine lv_istore (lv' := [(5, .int 0), (4, .int ((-1))), (0, .ref (ad 64 0)), (1, .int p0), (2, .int p1), (3, .int p2)]) hx hb dX12_heard_25 hl (by decide) rfl (fun ls hl => ?_)
        obtain ⟨nq, h⟩ := h
        exact bX12_heard_27 C  nq _ _ _ _ _ _ _ _ _ h hW hS (lv_sub hl [2, 3, 4, 5, 1, 0] rfl)
      · have h := h.2 c7
        exact bX12_heard_18 C  _  _ _ _ h hW hS (lv_sub hl [] rfl)
-- year
def wbX12_year_16 (post : tq_St → Int32 → Prop)  (M : tq_St) : Prop :=
  post M ((-1))
def wpX12_year (post : tq_St → Int32 → Prop) (M : tq_St) (p0 : Int32) (p1 : Int32) (p2 : Int32) : Prop :=
  wpX12_in (fun M1 r2 => (r2 = 0 → (wbX12_year_16 post M1 )) ∧ (¬ r2 = 0 → (wpX12_isSort (fun M4 r5 => (¬ r5 = 0 → (wpX12_in (fun M7 r8 => (¬ r8 = 0 → (vp_in p0 4 ∧ (vp_in p1 4 ∧ (∀ M12, M12 = tq_up M7 159 p0.toNatClampNeg p1.toNatClampNeg p2 → (post M12 (M7 159 p0.toNatClampNeg p1.toNatClampNeg)))))) ∧ (r8 = 0 → (post M7 ((-2))))) M4 p2 0 999)) ∧ (r5 = 0 → (wbX12_year_16 post M4 ))) M1 p1))) M p0 0 3
set_option maxHeartbeats 4000000 in
set_option maxRecDepth 100000 in
theorem bX12_year_16 {p : Program} {e : Env} {s : State} {m : MethodId} {args : Array Value} {below : List Frame} {meth : Method} {c : Code} {post : tq_St → Int32 → Prop} (C : tq_At p s m meth c args cX12_year 5 ((some .int)) ((tq_ws yX12_year cX12_year 5 (some .int))) RX12 D cy z ad)  : ∀ (M : tq_St)  (H : Heap) (locs : List Loc) (ls : Array Slot), wbX12_year_16 post   M  → tq_wd D cy z H0 ad N (tq_mix S M) H → va_S (fun q => z ≤ q) s.heap H locs → lv_has ls 5 [] → W p l e (tq_rm 2 42) s m args below meth c H locs 0 0 (MQ below (va_Qi (fun r u => post u r) (tq_P D cy z H0 ad N S) (fun q => z ≤ q)) args s 0 0 (fun q => z ≤ q)) (F0 m 16 ls []) := by
  obtain ⟨hx, hb, hr, hml, hown, hts, hlocks, hK, hG⟩ := id C
  have hw : ∀ w ∈ tq_W, w.before args s = true := fun w h => hts w (List.mem_cons_of_mem _ h)
  intro M  H locs ls h hW hS hl
  unfold wbX12_year_16 at h
  refine lv_iconst (v := (-1)) hx hb dX12_year_16 (by decide) ?_
  exact W.iret (v := (-1)) hx hb hr (fun t ht hWm => ⟨⟨_, M, rfl, h, tq_pe ht hW⟩, hS.F ht⟩) hS.2.2 dX12_year_17
set_option maxHeartbeats 4000000 in
set_option maxRecDepth 100000 in
theorem kX12_year {post : tq_St → Int32 → Prop} {M : tq_St} {p0 : Int32} {p1 : Int32} {p2 : Int32} (h : wpX12_year post M p0 p1 p2) : tq_mI l yX12_year (tq_ws yX12_year cX12_year 5 (some .int)) 2 42 D cy z H0 ad N S M [.ref (ad 64 0), .int p0, .int p1, .int p2] post := by
  unfold wpX12_year at h
  refine Met.ofW (cc := cX12_year) (maxL := 5) (ret := (some .int)) (by decide) rfl ?_
  intro p e s m args below meth c s₁ B hml hv
  obtain ⟨rfl, hW, hK, hG⟩ := hv
  have hx := B.exec
  have hb := B.bytes
  have hr := B.returns
  have hts := atoms_spec (ws := (tq_ws yX12_year cX12_year 5 (some .int))) B.pre
  have hw : ∀ w ∈ tq_W, w.before _ s = true := fun w h => hts w (List.mem_cons_of_mem _ h)
  have hown : s.vm.findClass RX12 = some m.cls := findClass_of_methodNamed B.named
  have hlocks := B.notSynchronized
  have C : tq_At p s m meth c [.ref (ad 64 0), .int p0, .int p1, .int p2].toArray cX12_year 5 ((some .int)) ((tq_ws yX12_year cX12_year 5 (some .int))) RX12 D cy z ad := ⟨hx, hb, hr, hml, hown, hts, hlocks, hK, hG⟩
  have hS : va_S (fun q => z ≤ q) s.heap s.heap [] := va_S.rf
  have hl := lv_entry ([.ref (ad 64 0), .int p0, .int p1, .int p2]) (n := 5) (Nat.le_of_ble_eq_true rfl)
  rw [lg_entry_eq]
  generalize (lg_sl ([.ref (ad 64 0), .int p0, .int p1, .int p2]) ++ List.replicate (5 - (lg_sl ([.ref (ad 64 0), .int p0, .int p1, .int p2])).length) Slot.unset).toArray = ls at hl ⊢
  have hl : lv_has ls 5 [(0, .ref (ad 64 0)), (1, .int p0), (2, .int p1), (3, .int p2)] := hl
  have hW : tq_wd D cy z H0 ad N (tq_mix S M) s.heap := hW
  refine lv_iload_n hx hb dX12_year_0 rfl (lv_at hl 1 rfl) ?_
  refine lv_iconst (v := 0) hx hb dX12_year_1 (by decide) ?_
  refine lv_iconst (v := 3) hx hb dX12_year_2 (by decide) ?_
  refine tq_callSi (As := [.int p0, .int 0, .int 3]) (rest := []) (kX12_in h) ⟨hx, hb, hml, hown, hts⟩ (va_cwS 3 hts (tq_goodS tw_1648 tw_1649 tw_125 tw_1650) rfl rfl rfl (by decide +kernel) ⟨Nat.le_of_ble_eq_true rfl, Nat.le_of_ble_eq_true rfl⟩) hK hG hW hS rfl hl.1 rfl (Nat.le_of_ble_eq_true rfl) dX12_year_3 ⟨Nat.le_of_ble_eq_true rfl, Nat.le_of_ble_eq_true rfl⟩ (fun r2 M1 H locs h hW hS => ?_)
  refine lv_if_eq (tgt := 16) hx hb dX12_year_6 (by decide) (fun c3 => ?_) (fun c3 => ?_)
  · have h := h.1 c3
    exact bX12_year_16 C  _  _ _ _ h hW hS (lv_sub hl [] rfl)
  · have h := h.2 c3
    refine lv_iload_n hx hb dX12_year_9 rfl (lv_at hl 2 rfl) ?_
    refine tq_callSi (As := [.int p1]) (rest := []) (kX12_isSort h) ⟨hx, hb, hml, hown, hts⟩ (va_cwS 1 hts (tq_goodS tw_1655 tw_1656 tw_125 tw_1657) rfl rfl rfl (by decide +kernel) ⟨Nat.le_of_ble_eq_true rfl, Nat.le_of_ble_eq_true rfl⟩) hK hG hW hS rfl hl.1 rfl (Nat.le_of_ble_eq_true rfl) dX12_year_10 ⟨Nat.le_of_ble_eq_true rfl, Nat.le_of_ble_eq_true rfl⟩ (fun r5 M4 H locs h hW hS => ?_)
    refine lv_if_ne (tgt := 18) hx hb dX12_year_13 (by decide) (fun c6 => ?_) (fun c6 => ?_)
    · have h := h.1 c6
      refine lv_iload_n hx hb dX12_year_18 rfl (lv_at hl 3 rfl) ?_
      refine lv_iconst (v := 0) hx hb dX12_year_19 (by decide) ?_
      refine lv_sipush (v := 999) hx hb dX12_year_20 (by decide) ?_
      refine tq_callSi (As := [.int p2, .int 0, .int 999]) (rest := []) (kX12_in h) ⟨hx, hb, hml, hown, hts⟩ (va_cwS 3 hts (tq_goodS tw_1648 tw_1649 tw_125 tw_1650) rfl rfl rfl (by decide +kernel) ⟨Nat.le_of_ble_eq_true rfl, Nat.le_of_ble_eq_true rfl⟩) hK hG hW hS rfl hl.1 rfl (Nat.le_of_ble_eq_true rfl) dX12_year_23 ⟨Nat.le_of_ble_eq_true rfl, Nat.le_of_ble_eq_true rfl⟩ (fun r8 M7 H locs h hW hS => ?_)
      refine lv_if_ne (tgt := 32) hx hb dX12_year_26 (by decide) (fun c9 => ?_) (fun c9 => ?_)
      · have h := h.1 c9
        refine lv_aload_n hx hb dX12_year_32 rfl (lv_at hl 0 rfl) ?_
        refine tqm_get (v := .ref (ad 259 0)) hx hb hw tq_inX12 hown hK hW (by decide) (tq_mk_64 (by decide)) rfl 59 (by decide) (hw _ tw_1467) (fun _ h9 => h9) rfl dX12_year_33 ?_
        refine lv_iload_n hx hb dX12_year_36 rfl (lv_at hl 1 rfl) ?_
        obtain ⟨b10, h⟩ := h
        refine tqm_aald (jn := p0.toNatClampNeg) (v := .ref (ad 159 p0.toNatClampNeg)) hx hb hK hW (by decide) (tq_mk_259 (by decide)) 2 rfl rfl b10 rfl rfl dX12_year_37 ?_
        refine lv_iload_n hx hb dX12_year_38 rfl (lv_at hl 2 rfl) ?_
        obtain ⟨b11, h⟩ := h
        refine tqm_iald (jn := p1.toNatClampNeg) hx hb hK hW (by decide) (tq_mk_159 (tq_lt b10)) b11 rfl dX12_year_39 ?_
        refine lv_istore (lv' := [(4, .int (M7 159 p0.toNatClampNeg p1.toNatClampNeg)), (0, .ref (ad 64 0)), (1, .int p0), (2, .int p1), (3, .int p2)]) hx hb dX12_year_40 hl (by decide) rfl (fun ls hl => ?_)
        refine lv_aload_n hx hb dX12_year_42 rfl (lv_at hl 1 rfl) ?_
        refine tqm_get (v := .ref (ad 259 0)) hx hb hw tq_inX12 hown hK hW (by decide) (tq_mk_64 (by decide)) rfl 59 (by decide) (hw _ tw_1467) (fun _ h9 => h9) rfl dX12_year_43 ?_
        refine lv_iload_n hx hb dX12_year_46 rfl (lv_at hl 2 rfl) ?_
        refine tqm_aald (jn := p0.toNatClampNeg) (v := .ref (ad 159 p0.toNatClampNeg)) hx hb hK hW (by decide) (tq_mk_259 (by decide)) 2 rfl rfl b10 rfl rfl dX12_year_47 ?_
        refine lv_iload_n hx hb dX12_year_48 rfl (lv_at hl 3 rfl) ?_
        refine lv_iload_n hx hb dX12_year_49 rfl (lv_at hl 4 rfl) ?_
        refine tqm_iast (jn := p1.toNatClampNeg) hx hb hK hW hS (by decide) (tq_mk_159 (tq_lt b10)) b11 rfl (tq_mk_159 (tq_lt b10)) dX12_year_50 (fun H locs hW hS => ?_)
        generalize eM12 : tq_up M7 159 p0.toNatClampNeg p1.toNatClampNeg p2 = M12 at hW
        have h := h M12 eM12.symm
        refine lv_iload hx hb dX12_year_51 (lv_at hl 0 rfl) ?_
        exact W.iret (v := M7 159 p0.toNatClampNeg p1.toNatClampNeg) hx hb hr (fun t ht hWm => ⟨⟨_, M12, rfl, h, tq_pe ht hW⟩, hS.F ht⟩) hS.2.2 dX12_year_53
      · have h := h.2 c9
        refine lv_bipush (v := (-2)) hx hb dX12_year_29 (by decide) ?_
        exact W.iret (v := (-2)) hx hb hr (fun t ht hWm => ⟨⟨_, M7, rfl, h, tq_pe ht hW⟩, hS.F ht⟩) hS.2.2 dX12_year_31
    · have h := h.2 c6
      exact bX12_year_16 C  _  _ _ _ h hW hS (lv_sub hl [] rfl)
-- judge
def wbX12_judge_73 (post : tq_St → Prop)  (M : tq_St) : Prop :=
  post M
def wbX12_judge_96 (post : tq_St → Prop) (L82 : tq_St → Int32 → Int32 → Int32 → Prop) : Nat → tq_St → Int32 → Int32 → Int32 → Int32 → Int32 → Prop
  | 0, _, _, _, _, _, _ => False
  | n + 1, M, x5, x6, x7, x8, x9 =>
    (4 ≤ x9 → (L82 M x5 (if x8 < x6 then x8 else x6) (x7 + 1))) ∧ (¬ 4 ≤ x9 → (vp_in x9 4 ∧ (vp_in x7 4 ∧ ((wbX12_judge_96 post L82 n) M x5 x6 x7 (x8 + ((10 * (M 175 0 x9.toNatClampNeg)) * (M 159 x7.toNatClampNeg x9.toNatClampNeg))) (x9 + 1)))))
def wbX12_judge_182 (post : tq_St → Prop)  (M : tq_St) : Prop :=
  post M
def wbX12_judge_82 (post : tq_St → Prop) : Nat → tq_St → Int32 → Int32 → Int32 → Prop
  | 0, _, _, _, _ => False
  | n + 1, M, x5, x6, x7 =>
    (4 ≤ x7 → ((x6 ≤ (M 176 0 0) → (wbX12_judge_182 post M )) ∧ (¬ x6 ≤ (M 176 0 0) → (∀ M8, M8 = tq_up M 176 0 0 x6 → ((∀ M9, M9 = tq_cp M8 176 0 (va_cpy (M8 175 0) (M8 176 0) (0 : Int32).toNatClampNeg (1 : Int32).toNatClampNeg (4 : Int32).toNatClampNeg) → (wbX12_judge_182 post M9 ))))))) ∧ (¬ 4 ≤ x7 → (∃ nq, wbX12_judge_96 post  (wbX12_judge_82 post n) nq M x5 x6 x7 (-x5) 0))
def wbX12_judge_9 (post : tq_St → Prop) : Nat → tq_St → Int32 → Int32 → Int32 → Int32 → Int32 → Int32 → Prop
  | 0, _, _, _, _, _, _, _ => False
  | n + 1, M, x1, x2, x3, x4, x5, x6 =>
    (4 ≤ x6 → ((x2 < x4 → (wbX12_judge_73 post M )) ∧ (¬ x2 < x4 → ((x5 ≤ x3 → (∃ nq, wbX12_judge_82 post nq M x5 ((2147483647)) 0)) ∧ (¬ x5 ≤ x3 → (wbX12_judge_73 post M )))))) ∧ (¬ 4 ≤ x6 → (vp_in x6 4 ∧ (vp_in x1 5 ∧ ((wbX12_judge_9 post n) M x1 x2 x3 (x4 + (10 * (M 175 0 x6.toNatClampNeg))) (x5 + ((10 * (M 175 0 x6.toNatClampNeg)) * (M 104 x1.toNatClampNeg x6.toNatClampNeg))) (x6 + 1)))))
def wpX12_judge (post : tq_St → Prop) (M : tq_St) (p0 : Int32) (p1 : Int32) (p2 : Int32) : Prop :=
  ∃ nq, wbX12_judge_9 post nq M p0 p1 p2 0 0 0
set_option maxHeartbeats 4000000 in
set_option maxRecDepth 100000 in
theorem bX12_judge_73 {p : Program} {e : Env} {s : State} {m : MethodId} {args : Array Value} {below : List Frame} {meth : Method} {c : Code} {post : tq_St → Prop} (C : tq_At p s m meth c args cX12_judge 10 (none) ((tq_ws yX12_judge cX12_judge 10 none)) RX12 D cy z ad)  : ∀ (M : tq_St)  (H : Heap) (locs : List Loc) (ls : Array Slot), wbX12_judge_73 post   M  → tq_wd D cy z H0 ad N (tq_mix S M) H → va_S (fun q => z ≤ q) s.heap H locs → lv_has ls 10 [] → W p l e (tq_rm 1 48) s m args below meth c H locs 0 0 (MQ below (va_Qv (fun u => post u) (tq_P D cy z H0 ad N S) (fun q => z ≤ q)) args s 0 0 (fun q => z ≤ q)) (F0 m 73 ls []) := by
  obtain ⟨hx, hb, hr, hml, hown, hts, hlocks, hK, hG⟩ := id C
  have hw : ∀ w ∈ tq_W, w.before args s = true := fun w h => hts w (List.mem_cons_of_mem _ h)
  intro M  H locs ls h hW hS hl
  unfold wbX12_judge_73 at h
  exact W.vret hx hb hr (fun t ht hWm => ⟨⟨M, rfl, h, tq_pe ht hW⟩, hS.F ht⟩) hS.2.2 dX12_judge_73
set_option maxHeartbeats 4000000 in
set_option maxRecDepth 100000 in
theorem bX12_judge_96 {p : Program} {e : Env} {s : State} {m : MethodId} {args : Array Value} {below : List Frame} {meth : Method} {c : Code} {post : tq_St → Prop} (C : tq_At p s m meth c args cX12_judge 10 (none) ((tq_ws yX12_judge cX12_judge 10 none)) RX12 D cy z ad) {L82 : tq_St → Int32 → Int32 → Int32 → Prop} (hL82 : ∀ (M : tq_St) (x5 : Int32) (x6 : Int32) (x7 : Int32) (H : Heap) (locs : List Loc) (ls : Array Slot), L82 M x5 x6 x7 → tq_wd D cy z H0 ad N (tq_mix S M) H → va_S (fun q => z ≤ q) s.heap H locs → lv_has ls 10 [(0, .ref (ad 64 0)), (5, .int x5), (6, .int x6), (7, .int x7)] → W p l e (tq_rm 1 48) s m args below meth c H locs 0 0 (MQ below (va_Qv (fun u => post u) (tq_P D cy z H0 ad N S) (fun q => z ≤ q)) args s 0 0 (fun q => z ≤ q)) (F0 m 82 ls [])) : ∀ n : Nat, ∀ (M : tq_St) (x5 : Int32) (x6 : Int32) (x7 : Int32) (x8 : Int32) (x9 : Int32) (H : Heap) (locs : List Loc) (ls : Array Slot), wbX12_judge_96 post  L82 n M x5 x6 x7 x8 x9 → tq_wd D cy z H0 ad N (tq_mix S M) H → va_S (fun q => z ≤ q) s.heap H locs → lv_has ls 10 [(0, .ref (ad 64 0)), (5, .int x5), (6, .int x6), (7, .int x7), (8, .int x8), (9, .int x9)] → W p l e (tq_rm 1 48) s m args below meth c H locs 0 0 (MQ below (va_Qv (fun u => post u) (tq_P D cy z H0 ad N S) (fun q => z ≤ q)) args s 0 0 (fun q => z ≤ q)) (F0 m 96 ls []) := by
  obtain ⟨hx, hb, hr, hml, hown, hts, hlocks, hK, hG⟩ := id C
  have hw : ∀ w ∈ tq_W, w.before args s = true := fun w h => hts w (List.mem_cons_of_mem _ h)
  intro n
  induction n with
  | zero =>
    intro M x5 x6 x7 x8 x9 H locs ls h
    exact absurd h (by unfold wbX12_judge_96; exact id)
  | succ n ih =>
    intro M x5 x6 x7 x8 x9 H locs ls h hW hS hl
    unfold wbX12_judge_96 at h
    refine lv_iload hx hb dX12_judge_96 (lv_at hl 5 rfl) ?_
    refine lv_iconst (v := 4) hx hb dX12_judge_98 (by decide) ?_
    refine lv_icmp_ge (tgt := 134) hx hb dX12_judge_99 (by decide) (fun c10 => ?_) (fun c10 => ?_)
    · have h := h.1 c10
      refine lv_iload hx hb dX12_judge_134 (lv_at hl 2 rfl) ?_
      refine lv_iload hx hb dX12_judge_136 (lv_at hl 4 rfl) ?_
      refine va_mmin hx hb (hml.trans hl.1.symm) hown (hw _ tw_1981) (hw _ tw_797) (hw _ tw_132) (hw _ tw_798) (Nat.le_of_ble_eq_true rfl) (Nat.le_of_ble_eq_true rfl) (Nat.zero_le _) (Nat.zero_le _) dX12_judge_138 ?_
      refine lv_istore (lv' := [(6, .int (if x8 < x6 then x8 else x6)), (0, .ref (ad 64 0)), (5, .int x5), (7, .int x7), (8, .int x8), (9, .int x9)]) hx hb dX12_judge_141 hl (by decide) rfl (fun ls hl => ?_)
      refine lv_iinc (v := x7 + 1) (lv' := [(7, .int (x7 + 1)), (6, .int (if x8 < x6 then x8 else x6)), (0, .ref (ad 64 0)), (5, .int x5), (8, .int x8), (9, .int x9)]) hx hb dX12_judge_143 hl (k := 3) rfl rfl (by decide) rfl (fun ls hl => ?_)
      refine lv_goto (tgt := 82) hx hb dX12_judge_146 (by decide) ?_
      exact hL82 _ _ _ _ _ _ _ h hW hS (lv_sub hl [2, 3, 1, 0] rfl)
    · have h := h.2 c10
      refine lv_iload hx hb dX12_judge_102 (lv_at hl 4 rfl) ?_
      refine lv_bipush (v := 10) hx hb dX12_judge_104 (by decide) ?_
      refine lv_aload_n hx hb dX12_judge_106 rfl (lv_at hl 0 rfl) ?_
      refine tqm_get (v := .ref (ad 175 0)) hx hb hw tq_inX12 hown hK hW (by decide) (tq_mk_64 (by decide)) rfl 75 (by decide) (hw _ tw_1483) (fun _ h9 => h9) rfl dX12_judge_107 ?_
      refine lv_iload hx hb dX12_judge_110 (lv_at hl 5 rfl) ?_
      obtain ⟨b11, h⟩ := h
      refine tqm_iald (jn := x9.toNatClampNeg) hx hb hK hW (by decide) (tq_mk_175 (by decide)) b11 rfl dX12_judge_112 ?_
      refine lv_imul hx hb dX12_judge_113 ?_
      refine lv_aload_n hx hb dX12_judge_114 rfl (lv_at hl 0 rfl) ?_
      refine tqm_get (v := .ref (ad 259 0)) hx hb hw tq_inX12 hown hK hW (by decide) (tq_mk_64 (by decide)) rfl 59 (by decide) (hw _ tw_1467) (fun _ h9 => h9) rfl dX12_judge_115 ?_
      refine lv_iload hx hb dX12_judge_118 (lv_at hl 3 rfl) ?_
      obtain ⟨b12, h⟩ := h
      refine tqm_aald (jn := x7.toNatClampNeg) (v := .ref (ad 159 x7.toNatClampNeg)) hx hb hK hW (by decide) (tq_mk_259 (by decide)) 2 rfl rfl b12 rfl rfl dX12_judge_120 ?_
      refine lv_iload hx hb dX12_judge_121 (lv_at hl 5 rfl) ?_
      refine tqm_iald (jn := x9.toNatClampNeg) hx hb hK hW (by decide) (tq_mk_159 (tq_lt b12)) b11 rfl dX12_judge_123 ?_
      refine lv_imul hx hb dX12_judge_124 ?_
      refine lv_iadd hx hb dX12_judge_125 ?_
      refine lv_istore (lv' := [(8, .int (x8 + ((10 * (M 175 0 x9.toNatClampNeg)) * (M 159 x7.toNatClampNeg x9.toNatClampNeg)))), (0, .ref (ad 64 0)), (5, .int x5), (6, .int x6), (7, .int x7), (9, .int x9)]) hx hb dX12_judge_126 hl (by decide) rfl (fun ls hl => ?_)
      refine lv_iinc (v := x9 + 1) (lv' := [(9, .int (x9 + 1)), (8, .int (x8 + ((10 * (M 175 0 x9.toNatClampNeg)) * (M 159 x7.toNatClampNeg x9.toNatClampNeg)))), (0, .ref (ad 64 0)), (5, .int x5), (6, .int x6), (7, .int x7)]) hx hb dX12_judge_128 hl (k := 5) rfl rfl (by decide) rfl (fun ls hl => ?_)
      refine lv_goto (tgt := 96) hx hb dX12_judge_131 (by decide) ?_
      exact ih _ _ _ _ _ _ _ _ _ h hW hS (lv_sub hl [2, 3, 4, 5, 1, 0] rfl)
set_option maxHeartbeats 4000000 in
set_option maxRecDepth 100000 in
theorem bX12_judge_182 {p : Program} {e : Env} {s : State} {m : MethodId} {args : Array Value} {below : List Frame} {meth : Method} {c : Code} {post : tq_St → Prop} (C : tq_At p s m meth c args cX12_judge 10 (none) ((tq_ws yX12_judge cX12_judge 10 none)) RX12 D cy z ad)  : ∀ (M : tq_St)  (H : Heap) (locs : List Loc) (ls : Array Slot), wbX12_judge_182 post   M  → tq_wd D cy z H0 ad N (tq_mix S M) H → va_S (fun q => z ≤ q) s.heap H locs → lv_has ls 10 [] → W p l e (tq_rm 1 48) s m args below meth c H locs 0 0 (MQ below (va_Qv (fun u => post u) (tq_P D cy z H0 ad N S) (fun q => z ≤ q)) args s 0 0 (fun q => z ≤ q)) (F0 m 182 ls []) := by
  obtain ⟨hx, hb, hr, hml, hown, hts, hlocks, hK, hG⟩ := id C
  have hw : ∀ w ∈ tq_W, w.before args s = true := fun w h => hts w (List.mem_cons_of_mem _ h)
  intro M  H locs ls h hW hS hl
  unfold wbX12_judge_182 at h
  exact W.vret hx hb hr (fun t ht hWm => ⟨⟨M, rfl, h, tq_pe ht hW⟩, hS.F ht⟩) hS.2.2 dX12_judge_182
set_option maxHeartbeats 4000000 in
set_option maxRecDepth 100000 in
theorem bX12_judge_82 {p : Program} {e : Env} {s : State} {m : MethodId} {args : Array Value} {below : List Frame} {meth : Method} {c : Code} {post : tq_St → Prop} (C : tq_At p s m meth c args cX12_judge 10 (none) ((tq_ws yX12_judge cX12_judge 10 none)) RX12 D cy z ad)  : ∀ n : Nat, ∀ (M : tq_St) (x5 : Int32) (x6 : Int32) (x7 : Int32) (H : Heap) (locs : List Loc) (ls : Array Slot), wbX12_judge_82 post   n M x5 x6 x7 → tq_wd D cy z H0 ad N (tq_mix S M) H → va_S (fun q => z ≤ q) s.heap H locs → lv_has ls 10 [(0, .ref (ad 64 0)), (5, .int x5), (6, .int x6), (7, .int x7)] → W p l e (tq_rm 1 48) s m args below meth c H locs 0 0 (MQ below (va_Qv (fun u => post u) (tq_P D cy z H0 ad N S) (fun q => z ≤ q)) args s 0 0 (fun q => z ≤ q)) (F0 m 82 ls []) := by
  obtain ⟨hx, hb, hr, hml, hown, hts, hlocks, hK, hG⟩ := id C
  have hw : ∀ w ∈ tq_W, w.before args s = true := fun w h => hts w (List.mem_cons_of_mem _ h)
  intro n
  induction n with
  | zero =>
    intro M x5 x6 x7 H locs ls h
    exact absurd h (by unfold wbX12_judge_82; exact id)
  | succ n ih =>
    intro M x5 x6 x7 H locs ls h hW hS hl
    unfold wbX12_judge_82 at h
    refine lv_iload hx hb dX12_judge_82 (lv_at hl 3 rfl) ?_
    refine lv_iconst (v := 4) hx hb dX12_judge_84 (by decide) ?_
    refine lv_icmp_ge (tgt := 149) hx hb dX12_judge_85 (by decide) (fun c6 => ?_) (fun c6 => ?_)
    · have h := h.1 c6
      refine lv_iload hx hb dX12_judge_149 (lv_at hl 2 rfl) ?_
      refine lv_aload_n hx hb dX12_judge_151 rfl (lv_at hl 0 rfl) ?_
      refine tqm_get (v := .ref (ad 176 0)) hx hb hw tq_inX12 hown hK hW (by decide) (tq_mk_64 (by decide)) rfl 76 (by decide) (hw _ tw_1484) (fun _ h9 => h9) rfl dX12_judge_152 ?_
      refine lv_iconst (v := 0) hx hb dX12_judge_155 (by decide) ?_
      refine tqm_iald (jn := 0) hx hb hK hW (by decide) (tq_mk_176 (by decide)) (by unfold vp_in; decide) (by decide) dX12_judge_156 ?_
      refine lv_icmp_le (tgt := 182) hx hb dX12_judge_157 (by decide) (fun c7 => ?_) (fun c7 => ?_)
      · have h := h.1 c7
        exact bX12_judge_182 C  _  _ _ _ h hW hS (lv_sub hl [] rfl)
      · have h := h.2 c7
        refine lv_aload_n hx hb dX12_judge_160 rfl (lv_at hl 0 rfl) ?_
        refine tqm_get (v := .ref (ad 176 0)) hx hb hw tq_inX12 hown hK hW (by decide) (tq_mk_64 (by decide)) rfl 76 (by decide) (hw _ tw_1484) (fun _ h9 => h9) rfl dX12_judge_161 ?_
        refine lv_iconst (v := 0) hx hb dX12_judge_164 (by decide) ?_
        refine lv_iload hx hb dX12_judge_165 (lv_at hl 2 rfl) ?_
        refine tqm_iast (jn := 0) hx hb hK hW hS (by decide) (tq_mk_176 (by decide)) (by unfold vp_in; decide) (by decide) (tq_mk_176 (by decide)) dX12_judge_167 (fun H locs hW hS => ?_)
        generalize eM8 : tq_up M 176 0 0 x6 = M8 at hW
        have h := h M8 eM8.symm
        refine lv_aload_n hx hb dX12_judge_168 rfl (lv_at hl 0 rfl) ?_
        refine tqm_get (v := .ref (ad 175 0)) hx hb hw tq_inX12 hown hK hW (by decide) (tq_mk_64 (by decide)) rfl 75 (by decide) (hw _ tw_1483) (fun _ h9 => h9) rfl dX12_judge_169 ?_
        refine lv_iconst (v := 0) hx hb dX12_judge_172 (by decide) ?_
        refine lv_aload_n hx hb dX12_judge_173 rfl (lv_at hl 0 rfl) ?_
        refine tqm_get (v := .ref (ad 176 0)) hx hb hw tq_inX12 hown hK hW (by decide) (tq_mk_64 (by decide)) rfl 76 (by decide) (hw _ tw_1484) (fun _ h9 => h9) rfl dX12_judge_174 ?_
        refine lv_iconst (v := 1) hx hb dX12_judge_177 (by decide) ?_
        refine lv_iconst (v := 4) hx hb dX12_judge_178 (by decide) ?_
        refine tqm_copy hx hb (hml.trans hl.1.symm) hown (hw _ tw_1756) (hw _ tw_801) (hw _ tw_800) (hw _ tw_135) hK hW hS (by decide) (by decide) (tq_mk_175 (by decide)) (fun f => tq_mk_176 (by decide)) (by decide) (by decide) (by decide) (by decide) (by decide) (Nat.le_of_ble_eq_true rfl) (Nat.le_of_ble_eq_true rfl) dX12_judge_179 (fun H locs hW hS => ?_)
        generalize eM9 : tq_cp M8 176 0 (va_cpy (M8 175 0) (M8 176 0) (0 : Int32).toNatClampNeg (1 : Int32).toNatClampNeg (4 : Int32).toNatClampNeg) = M9 at hW
        have h := h M9 eM9.symm
        exact bX12_judge_182 C  _  _ _ _ h hW hS (lv_sub hl [] rfl)
    · have h := h.2 c6
      refine lv_iload hx hb dX12_judge_88 (lv_at hl 1 rfl) ?_
      refine lv_ineg hx hb dX12_judge_90 ?_
      refine lv_istore (lv' := [(8, .int (-x5)), (0, .ref (ad 64 0)), (5, .int x5), (6, .int x6), (7, .int x7)]) hx hb dX12_judge_91 hl (by decide) rfl (fun ls hl => ?_)
      refine lv_iconst (v := 0) hx hb dX12_judge_93 (by decide) ?_
      refine lv_istore (lv' := [(9, .int 0), (8, .int (-x5)), (0, .ref (ad 64 0)), (5, .int x5), (6, .int x6), (7, .int x7)]) hx hb dX12_judge_94 hl (by decide) rfl (fun ls hl => ?_)
      obtain ⟨nq, h⟩ := h
      exact bX12_judge_96 C (fun M9 a09 a19 a29 H9 q9 ls9 h9 hW9 hS9 hl9 => ih M9 a09 a19 a29 H9 q9 ls9 h9 hW9 hS9 hl9) nq _ _ _ _ _ _ _ _ _ h hW hS (lv_sub hl [2, 3, 4, 5, 1, 0] rfl)
set_option maxHeartbeats 4000000 in
set_option maxRecDepth 100000 in
theorem bX12_judge_9 {p : Program} {e : Env} {s : State} {m : MethodId} {args : Array Value} {below : List Frame} {meth : Method} {c : Code} {post : tq_St → Prop} (C : tq_At p s m meth c args cX12_judge 10 (none) ((tq_ws yX12_judge cX12_judge 10 none)) RX12 D cy z ad)  : ∀ n : Nat, ∀ (M : tq_St) (x1 : Int32) (x2 : Int32) (x3 : Int32) (x4 : Int32) (x5 : Int32) (x6 : Int32) (H : Heap) (locs : List Loc) (ls : Array Slot), wbX12_judge_9 post   n M x1 x2 x3 x4 x5 x6 → tq_wd D cy z H0 ad N (tq_mix S M) H → va_S (fun q => z ≤ q) s.heap H locs → lv_has ls 10 [(0, .ref (ad 64 0)), (1, .int x1), (2, .int x2), (3, .int x3), (4, .int x4), (5, .int x5), (6, .int x6)] → W p l e (tq_rm 1 48) s m args below meth c H locs 0 0 (MQ below (va_Qv (fun u => post u) (tq_P D cy z H0 ad N S) (fun q => z ≤ q)) args s 0 0 (fun q => z ≤ q)) (F0 m 9 ls []) := by
  obtain ⟨hx, hb, hr, hml, hown, hts, hlocks, hK, hG⟩ := id C
  have hw : ∀ w ∈ tq_W, w.before args s = true := fun w h => hts w (List.mem_cons_of_mem _ h)
  intro n
  induction n with
  | zero =>
    intro M x1 x2 x3 x4 x5 x6 H locs ls h
    exact absurd h (by unfold wbX12_judge_9; exact id)
  | succ n ih =>
    intro M x1 x2 x3 x4 x5 x6 H locs ls h hW hS hl
    unfold wbX12_judge_9 at h
    refine lv_iload hx hb dX12_judge_9 (lv_at hl 6 rfl) ?_
    refine lv_iconst (v := 4) hx hb dX12_judge_11 (by decide) ?_
    refine lv_icmp_ge (tgt := 61) hx hb dX12_judge_12 (by decide) (fun c1 => ?_) (fun c1 => ?_)
    · have h := h.1 c1
      refine lv_iload hx hb dX12_judge_61 (lv_at hl 4 rfl) ?_
      refine lv_iload_n hx hb dX12_judge_63 rfl (lv_at hl 2 rfl) ?_
      refine lv_icmp_gt (tgt := 73) hx hb dX12_judge_64 (by decide) (fun c2 => ?_) (fun c2 => ?_)
      · have h := h.1 c2
        exact bX12_judge_73 C  _  _ _ _ h hW hS (lv_sub hl [] rfl)
      · have h := h.2 c2
        refine lv_iload hx hb dX12_judge_67 (lv_at hl 5 rfl) ?_
        refine lv_iload_n hx hb dX12_judge_69 rfl (lv_at hl 3 rfl) ?_
        refine lv_icmp_le (tgt := 74) hx hb dX12_judge_70 (by decide) (fun c3 => ?_) (fun c3 => ?_)
        · have h := h.1 c3
          refine lv_ldcw hx hb hown (hw _ tw_2090) dX12_judge_74 ?_
          refine lv_istore (lv' := [(6, .int ((2147483647))), (0, .ref (ad 64 0)), (1, .int x1), (2, .int x2), (3, .int x3), (4, .int x4), (5, .int x5)]) hx hb dX12_judge_77 hl (by decide) rfl (fun ls hl => ?_)
          refine lv_iconst (v := 0) hx hb dX12_judge_79 (by decide) ?_
          refine lv_istore (lv' := [(7, .int 0), (6, .int ((2147483647))), (0, .ref (ad 64 0)), (1, .int x1), (2, .int x2), (3, .int x3), (4, .int x4), (5, .int x5)]) hx hb dX12_judge_80 hl (by decide) rfl (fun ls hl => ?_)
          obtain ⟨nq, h⟩ := h
          exact bX12_judge_82 C  nq _ _ _ _ _ _ _ h hW hS (lv_sub hl [2, 7, 1, 0] rfl)
        · have h := h.2 c3
          exact bX12_judge_73 C  _  _ _ _ h hW hS (lv_sub hl [] rfl)
    · have h := h.2 c1
      refine lv_iload hx hb dX12_judge_15 (lv_at hl 4 rfl) ?_
      refine lv_bipush (v := 10) hx hb dX12_judge_17 (by decide) ?_
      refine lv_aload_n hx hb dX12_judge_19 rfl (lv_at hl 0 rfl) ?_
      refine tqm_get (v := .ref (ad 175 0)) hx hb hw tq_inX12 hown hK hW (by decide) (tq_mk_64 (by decide)) rfl 75 (by decide) (hw _ tw_1483) (fun _ h9 => h9) rfl dX12_judge_20 ?_
      refine lv_iload hx hb dX12_judge_23 (lv_at hl 6 rfl) ?_
      obtain ⟨b4, h⟩ := h
      refine tqm_iald (jn := x6.toNatClampNeg) hx hb hK hW (by decide) (tq_mk_175 (by decide)) b4 rfl dX12_judge_25 ?_
      refine lv_imul hx hb dX12_judge_26 ?_
      refine lv_iadd hx hb dX12_judge_27 ?_
      refine lv_istore (lv' := [(4, .int (x4 + (10 * (M 175 0 x6.toNatClampNeg)))), (0, .ref (ad 64 0)), (1, .int x1), (2, .int x2), (3, .int x3), (5, .int x5), (6, .int x6)]) hx hb dX12_judge_28 hl (by decide) rfl (fun ls hl => ?_)
      refine lv_iload hx hb dX12_judge_30 (lv_at hl 5 rfl) ?_
      refine lv_bipush (v := 10) hx hb dX12_judge_32 (by decide) ?_
      refine lv_aload_n hx hb dX12_judge_34 rfl (lv_at hl 1 rfl) ?_
      refine tqm_get (v := .ref (ad 175 0)) hx hb hw tq_inX12 hown hK hW (by decide) (tq_mk_64 (by decide)) rfl 75 (by decide) (hw _ tw_1483) (fun _ h9 => h9) rfl dX12_judge_35 ?_
      refine lv_iload hx hb dX12_judge_38 (lv_at hl 6 rfl) ?_
      refine tqm_iald (jn := x6.toNatClampNeg) hx hb hK hW (by decide) (tq_mk_175 (by decide)) b4 rfl dX12_judge_40 ?_
      refine lv_imul hx hb dX12_judge_41 ?_
      refine lv_aload_n hx hb dX12_judge_42 rfl (lv_at hl 1 rfl) ?_
      refine tqm_get (v := .ref (ad 204 0)) hx hb hw tq_inX12 hown hK hW (by decide) (tq_mk_64 (by decide)) rfl 4 (by decide) (hw _ tw_1412) (fun _ h9 => h9) rfl dX12_judge_43 ?_
      refine lv_iload_n hx hb dX12_judge_46 rfl (lv_at hl 2 rfl) ?_
      obtain ⟨b5, h⟩ := h
      refine tqm_aald (jn := x1.toNatClampNeg) (v := .ref (ad 104 x1.toNatClampNeg)) hx hb hK hW (by decide) (tq_mk_204 (by decide)) 2 rfl rfl b5 rfl rfl dX12_judge_47 ?_
      refine lv_iload hx hb dX12_judge_48 (lv_at hl 6 rfl) ?_
      refine tqm_iald (jn := x6.toNatClampNeg) hx hb hK hW (by decide) (tq_mk_104 (tq_lt b5)) b4 rfl dX12_judge_50 ?_
      refine lv_imul hx hb dX12_judge_51 ?_
      refine lv_iadd hx hb dX12_judge_52 ?_
      refine lv_istore (lv' := [(5, .int (x5 + ((10 * (M 175 0 x6.toNatClampNeg)) * (M 104 x1.toNatClampNeg x6.toNatClampNeg)))), (4, .int (x4 + (10 * (M 175 0 x6.toNatClampNeg)))), (0, .ref (ad 64 0)), (1, .int x1), (2, .int x2), (3, .int x3), (6, .int x6)]) hx hb dX12_judge_53 hl (by decide) rfl (fun ls hl => ?_)
      refine lv_iinc (v := x6 + 1) (lv' := [(6, .int (x6 + 1)), (5, .int (x5 + ((10 * (M 175 0 x6.toNatClampNeg)) * (M 104 x1.toNatClampNeg x6.toNatClampNeg)))), (4, .int (x4 + (10 * (M 175 0 x6.toNatClampNeg)))), (0, .ref (ad 64 0)), (1, .int x1), (2, .int x2), (3, .int x3)]) hx hb dX12_judge_55 hl (k := 6) rfl rfl (by decide) rfl (fun ls hl => ?_)
      refine lv_goto (tgt := 9) hx hb dX12_judge_58 (by decide) ?_
      exact ih _ _ _ _ _ _ _ _ _ _ h hW hS (lv_sub hl [3, 4, 5, 6, 2, 1, 0] rfl)
set_option maxHeartbeats 4000000 in
set_option maxRecDepth 100000 in
theorem kX12_judge {post : tq_St → Prop} {M : tq_St} {p0 : Int32} {p1 : Int32} {p2 : Int32} (h : wpX12_judge post M p0 p1 p2) : tq_mV l yX12_judge (tq_ws yX12_judge cX12_judge 10 none) 1 48 D cy z H0 ad N S M [.ref (ad 64 0), .int p0, .int p1, .int p2] post := by
  unfold wpX12_judge at h
  refine Met.ofW (cc := cX12_judge) (maxL := 10) (ret := none) (by decide) rfl ?_
  intro p e s m args below meth c s₁ B hml hv
  obtain ⟨rfl, hW, hK, hG⟩ := hv
  have hx := B.exec
  have hb := B.bytes
  have hr := B.returns
  have hts := atoms_spec (ws := (tq_ws yX12_judge cX12_judge 10 none)) B.pre
  have hw : ∀ w ∈ tq_W, w.before _ s = true := fun w h => hts w (List.mem_cons_of_mem _ h)
  have hown : s.vm.findClass RX12 = some m.cls := findClass_of_methodNamed B.named
  have hlocks := B.notSynchronized
  have C : tq_At p s m meth c [.ref (ad 64 0), .int p0, .int p1, .int p2].toArray cX12_judge 10 (none) ((tq_ws yX12_judge cX12_judge 10 none)) RX12 D cy z ad := ⟨hx, hb, hr, hml, hown, hts, hlocks, hK, hG⟩
  have hS : va_S (fun q => z ≤ q) s.heap s.heap [] := va_S.rf
  have hl := lv_entry ([.ref (ad 64 0), .int p0, .int p1, .int p2]) (n := 10) (Nat.le_of_ble_eq_true rfl)
  rw [lg_entry_eq]
  generalize (lg_sl ([.ref (ad 64 0), .int p0, .int p1, .int p2]) ++ List.replicate (10 - (lg_sl ([.ref (ad 64 0), .int p0, .int p1, .int p2])).length) Slot.unset).toArray = ls at hl ⊢
  have hl : lv_has ls 10 [(0, .ref (ad 64 0)), (1, .int p0), (2, .int p1), (3, .int p2)] := hl
  have hW : tq_wd D cy z H0 ad N (tq_mix S M) s.heap := hW
  refine lv_iconst (v := 0) hx hb dX12_judge_0 (by decide) ?_
  refine lv_istore (lv' := [(4, .int 0), (0, .ref (ad 64 0)), (1, .int p0), (2, .int p1), (3, .int p2)]) hx hb dX12_judge_1 hl (by decide) rfl (fun ls hl => ?_)
  refine lv_iconst (v := 0) hx hb dX12_judge_3 (by decide) ?_
  refine lv_istore (lv' := [(5, .int 0), (4, .int 0), (0, .ref (ad 64 0)), (1, .int p0), (2, .int p1), (3, .int p2)]) hx hb dX12_judge_4 hl (by decide) rfl (fun ls hl => ?_)
  refine lv_iconst (v := 0) hx hb dX12_judge_6 (by decide) ?_
  refine lv_istore (lv' := [(6, .int 0), (5, .int 0), (4, .int 0), (0, .ref (ad 64 0)), (1, .int p0), (2, .int p1), (3, .int p2)]) hx hb dX12_judge_7 hl (by decide) rfl (fun ls hl => ?_)
  obtain ⟨nq, h⟩ := h
  exact bX12_judge_9 C  nq _ _ _ _ _ _ _ _ _ _ h hW hS (lv_sub hl [3, 4, 5, 6, 2, 1, 0] rfl)
