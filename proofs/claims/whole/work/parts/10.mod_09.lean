variable {l : Launch} {D : va_G} {cy : Nat → ClassId} {z : Nat} {H0 : Heap} {ad : Nat → Nat → Nat} {N : tq_Nn} {S : tq_St}
-- take
def wbX12_take_104 (post : tq_St → Int32 → Prop) (L4 : tq_St → Int32 → Int32 → Prop) (M : tq_St) (x1 : Int32) (x2 : Int32) : Prop :=
  L4 M x1 (x2 + 1)
def wbX12_take_102 (post : tq_St → Int32 → Prop) (L4 : tq_St → Int32 → Int32 → Prop) (M : tq_St) (x2 : Int32) : Prop :=
  wbX12_take_104 post  L4 M x2 x2
def wbX12_take_4 (post : tq_St → Int32 → Prop) : Nat → tq_St → Int32 → Int32 → Prop
  | 0, _, _, _ => False
  | n + 1, M, x1, x2 =>
    ((M 64 0 21) ≤ x2 → ((0 ≤ x1 → (vp_in x1 8 ∧ (∀ M4, M4 = tq_up M 125 0 x1.toNatClampNeg 1 → (vp_in (M4 122 0 x1.toNatClampNeg) 4 ∧ (∀ M6, M6 = tq_up M4 126 0 ((M4 122 0 x1.toNatClampNeg).toNatClampNeg) ((M4 126 0 ((M4 122 0 x1.toNatClampNeg).toNatClampNeg)) + 1) → (post M6 x1)))))) ∧ (¬ 0 ≤ x1 → (post M ((-1)))))) ∧ (¬ (M 64 0 21) ≤ x2 → (vp_in x2 8 ∧ ((¬ (M 124 0 x2.toNatClampNeg) = 0 → (wbX12_take_104 post  (wbX12_take_4 post n) M x1 x2)) ∧ ((M 124 0 x2.toNatClampNeg) = 0 → (((M 125 0 x2.toNatClampNeg) = 0 → ((x1 < 0 → (wbX12_take_102 post  (wbX12_take_4 post n) M x2)) ∧ (¬ x1 < 0 → (vp_in (M 122 0 x2.toNatClampNeg) 4 ∧ (vp_in x1 8 ∧ (vp_in (M 122 0 x1.toNatClampNeg) 4 ∧ (((M 126 0 ((M 122 0 x2.toNatClampNeg).toNatClampNeg)) < (M 126 0 ((M 122 0 x1.toNatClampNeg).toNatClampNeg)) → (wbX12_take_102 post  (wbX12_take_4 post n) M x2)) ∧ (¬ (M 126 0 ((M 122 0 x2.toNatClampNeg).toNatClampNeg)) < (M 126 0 ((M 122 0 x1.toNatClampNeg).toNatClampNeg)) → ((¬ (M 126 0 ((M 122 0 x2.toNatClampNeg).toNatClampNeg)) = (M 126 0 ((M 122 0 x1.toNatClampNeg).toNatClampNeg)) → (wbX12_take_104 post  (wbX12_take_4 post n) M x1 x2)) ∧ ((M 126 0 ((M 122 0 x2.toNatClampNeg).toNatClampNeg)) = (M 126 0 ((M 122 0 x1.toNatClampNeg).toNatClampNeg)) → (((M 122 0 x1.toNatClampNeg) ≤ (M 122 0 x2.toNatClampNeg) → (wbX12_take_104 post  (wbX12_take_4 post n) M x1 x2)) ∧ (¬ (M 122 0 x1.toNatClampNeg) ≤ (M 122 0 x2.toNatClampNeg) → (wbX12_take_102 post  (wbX12_take_4 post n) M x2))))))))))))) ∧ (¬ (M 125 0 x2.toNatClampNeg) = 0 → (wbX12_take_104 post  (wbX12_take_4 post n) M x1 x2)))))))
def wpX12_take (post : tq_St → Int32 → Prop) (M : tq_St)  : Prop :=
  ∃ nq, wbX12_take_4 post nq M ((-1)) 0
set_option maxHeartbeats 4000000 in
set_option maxRecDepth 100000 in
theorem bX12_take_104 {p : Program} {e : Env} {s : State} {m : MethodId} {args : Array Value} {below : List Frame} {meth : Method} {c : Code} {post : tq_St → Int32 → Prop} (C : tq_At p s m meth c args cX12_take 3 ((some .int)) ((tq_ws yX12_take cX12_take 3 (some .int))) RX12 D cy z ad) {L4 : tq_St → Int32 → Int32 → Prop} (hL4 : ∀ (M : tq_St) (x1 : Int32) (x2 : Int32) (H : Heap) (locs : List Loc) (ls : Array Slot), L4 M x1 x2 → tq_wd D cy z H0 ad N (tq_mix S M) H → va_S (fun q => z ≤ q) s.heap H locs → lv_has ls 3 [(0, .ref (ad 64 0)), (1, .int x1), (2, .int x2)] → W p l e (tq_rm 0 0) s m args below meth c H locs 0 0 (MQ below (va_Qi (fun r u => post u r) (tq_P D cy z H0 ad N S) (fun q => z ≤ q)) args s 0 0 (fun q => z ≤ q)) (F0 m 4 ls [])) : ∀ (M : tq_St) (x1 : Int32) (x2 : Int32) (H : Heap) (locs : List Loc) (ls : Array Slot), wbX12_take_104 post  L4 M x1 x2 → tq_wd D cy z H0 ad N (tq_mix S M) H → va_S (fun q => z ≤ q) s.heap H locs → lv_has ls 3 [(0, .ref (ad 64 0)), (1, .int x1), (2, .int x2)] → W p l e (tq_rm 0 0) s m args below meth c H locs 0 0 (MQ below (va_Qi (fun r u => post u r) (tq_P D cy z H0 ad N S) (fun q => z ≤ q)) args s 0 0 (fun q => z ≤ q)) (F0 m 104 ls []) := by
  obtain ⟨hx, hb, hr, hml, hown, hts, hlocks, hK, hG⟩ := id C
  have hw : ∀ w ∈ tq_W, w.before args s = true := fun w h => hts w (List.mem_cons_of_mem _ h)
  intro M x1 x2 H locs ls h hW hS hl
  unfold wbX12_take_104 at h
  refine lv_iinc (v := x2 + 1) (lv' := [(2, .int (x2 + 1)), (0, .ref (ad 64 0)), (1, .int x1)]) hx hb dX12_take_104 hl (k := 2) rfl rfl (by decide) rfl (fun ls hl => ?_)
  refine lv_goto (tgt := 4) hx hb dX12_take_107 (by decide) ?_
  exact hL4 _ _ _ _ _ _ h hW hS (lv_sub hl [1, 2, 0] rfl)
set_option maxHeartbeats 4000000 in
set_option maxRecDepth 100000 in
theorem bX12_take_102 {p : Program} {e : Env} {s : State} {m : MethodId} {args : Array Value} {below : List Frame} {meth : Method} {c : Code} {post : tq_St → Int32 → Prop} (C : tq_At p s m meth c args cX12_take 3 ((some .int)) ((tq_ws yX12_take cX12_take 3 (some .int))) RX12 D cy z ad) {L4 : tq_St → Int32 → Int32 → Prop} (hL4 : ∀ (M : tq_St) (x1 : Int32) (x2 : Int32) (H : Heap) (locs : List Loc) (ls : Array Slot), L4 M x1 x2 → tq_wd D cy z H0 ad N (tq_mix S M) H → va_S (fun q => z ≤ q) s.heap H locs → lv_has ls 3 [(0, .ref (ad 64 0)), (1, .int x1), (2, .int x2)] → W p l e (tq_rm 0 0) s m args below meth c H locs 0 0 (MQ below (va_Qi (fun r u => post u r) (tq_P D cy z H0 ad N S) (fun q => z ≤ q)) args s 0 0 (fun q => z ≤ q)) (F0 m 4 ls [])) : ∀ (M : tq_St) (x2 : Int32) (H : Heap) (locs : List Loc) (ls : Array Slot), wbX12_take_102 post  L4 M x2 → tq_wd D cy z H0 ad N (tq_mix S M) H → va_S (fun q => z ≤ q) s.heap H locs → lv_has ls 3 [(0, .ref (ad 64 0)), (2, .int x2)] → W p l e (tq_rm 0 0) s m args below meth c H locs 0 0 (MQ below (va_Qi (fun r u => post u r) (tq_P D cy z H0 ad N S) (fun q => z ≤ q)) args s 0 0 (fun q => z ≤ q)) (F0 m 102 ls []) := by
  obtain ⟨hx, hb, hr, hml, hown, hts, hlocks, hK, hG⟩ := id C
  have hw : ∀ w ∈ tq_W, w.before args s = true := fun w h => hts w (List.mem_cons_of_mem _ h)
  intro M x2 H locs ls h hW hS hl
  unfold wbX12_take_102 at h
  refine lv_iload_n hx hb dX12_take_102 rfl (lv_at hl 1 rfl) ?_
  refine lv_istore_n (lv' := [(1, .int x2), (0, .ref (ad 64 0)), (2, .int x2)]) hx hb dX12_take_103 rfl hl (by decide) rfl (fun ls hl => ?_)
  exact bX12_take_104 C (fun M9 a09 a19 H9 q9 ls9 h9 hW9 hS9 hl9 => hL4 M9 a09 a19 H9 q9 ls9 h9 hW9 hS9 hl9) _ _ _ _ _ _ h hW hS (lv_sub hl [1, 0, 2] rfl)
set_option maxHeartbeats 4000000 in
set_option maxRecDepth 100000 in
theorem bX12_take_4 {p : Program} {e : Env} {s : State} {m : MethodId} {args : Array Value} {below : List Frame} {meth : Method} {c : Code} {post : tq_St → Int32 → Prop} (C : tq_At p s m meth c args cX12_take 3 ((some .int)) ((tq_ws yX12_take cX12_take 3 (some .int))) RX12 D cy z ad)  : ∀ n : Nat, ∀ (M : tq_St) (x1 : Int32) (x2 : Int32) (H : Heap) (locs : List Loc) (ls : Array Slot), wbX12_take_4 post   n M x1 x2 → tq_wd D cy z H0 ad N (tq_mix S M) H → va_S (fun q => z ≤ q) s.heap H locs → lv_has ls 3 [(0, .ref (ad 64 0)), (1, .int x1), (2, .int x2)] → W p l e (tq_rm 0 0) s m args below meth c H locs 0 0 (MQ below (va_Qi (fun r u => post u r) (tq_P D cy z H0 ad N S) (fun q => z ≤ q)) args s 0 0 (fun q => z ≤ q)) (F0 m 4 ls []) := by
  obtain ⟨hx, hb, hr, hml, hown, hts, hlocks, hK, hG⟩ := id C
  have hw : ∀ w ∈ tq_W, w.before args s = true := fun w h => hts w (List.mem_cons_of_mem _ h)
  intro n
  induction n with
  | zero =>
    intro M x1 x2 H locs ls h
    exact absurd h (by unfold wbX12_take_4; exact id)
  | succ n ih =>
    intro M x1 x2 H locs ls h hW hS hl
    unfold wbX12_take_4 at h
    refine lv_iload_n hx hb dX12_take_4 rfl (lv_at hl 2 rfl) ?_
    refine lv_aload_n hx hb dX12_take_5 rfl (lv_at hl 0 rfl) ?_
    refine tqm_get (v := .int (M 64 0 21)) hx hb hw tq_inX12 hown hK hW (by decide) (tq_mk_64 (by decide)) rfl 21 (by decide) (hw _ tw_1429) (fun _ h9 => h9) rfl dX12_take_6 ?_
    refine lv_icmp_ge (tgt := 110) hx hb dX12_take_9 (by decide) (fun c1 => ?_) (fun c1 => ?_)
    · have h := h.1 c1
      refine lv_iload_n hx hb dX12_take_110 rfl (lv_at hl 1 rfl) ?_
      refine lv_if_ge (tgt := 116) hx hb dX12_take_111 (by decide) (fun c2 => ?_) (fun c2 => ?_)
      · have h := h.1 c2
        refine lv_aload_n hx hb dX12_take_116 rfl (lv_at hl 0 rfl) ?_
        refine tqm_get (v := .ref (ad 125 0)) hx hb hw tq_inX12 hown hK hW (by decide) (tq_mk_64 (by decide)) rfl 25 (by decide) (hw _ tw_1433) (fun _ h9 => h9) rfl dX12_take_117 ?_
        refine lv_iload_n hx hb dX12_take_120 rfl (lv_at hl 1 rfl) ?_
        refine lv_iconst (v := 1) hx hb dX12_take_121 (by decide) ?_
        obtain ⟨b3, h⟩ := h
        refine tqm_zast (jn := x1.toNatClampNeg) hx hb hK hW hS (by decide) (tq_mk_125 (by decide)) b3 rfl rfl (tq_mk_125 (by decide)) dX12_take_122 (fun H locs hW hS => ?_)
        generalize eM4 : tq_up M 125 0 x1.toNatClampNeg 1 = M4 at hW
        have h := h M4 eM4.symm
        refine lv_aload_n hx hb dX12_take_123 rfl (lv_at hl 0 rfl) ?_
        refine tqm_get (v := .ref (ad 126 0)) hx hb hw tq_inX12 hown hK hW (by decide) (tq_mk_64 (by decide)) rfl 26 (by decide) (hw _ tw_1434) (fun _ h9 => h9) rfl dX12_take_124 ?_
        refine lv_aload_n hx hb dX12_take_127 rfl (lv_at hl 0 rfl) ?_
        refine tqm_get (v := .ref (ad 122 0)) hx hb hw tq_inX12 hown hK hW (by decide) (tq_mk_64 (by decide)) rfl 22 (by decide) (hw _ tw_1430) (fun _ h9 => h9) rfl dX12_take_128 ?_
        refine lv_iload_n hx hb dX12_take_131 rfl (lv_at hl 1 rfl) ?_
        refine tqm_iald (jn := x1.toNatClampNeg) hx hb hK hW (by decide) (tq_mk_122 (by decide)) b3 rfl dX12_take_132 ?_
        refine lv_dup2_11 hx hb dX12_take_133 rfl rfl ?_
        obtain ⟨b5, h⟩ := h
        refine tqm_iald (jn := (M4 122 0 x1.toNatClampNeg).toNatClampNeg) hx hb hK hW (by decide) (tq_mk_126 (by decide)) b5 rfl dX12_take_134 ?_
        refine lv_iconst (v := 1) hx hb dX12_take_135 (by decide) ?_
        refine lv_iadd hx hb dX12_take_136 ?_
        refine tqm_iast (jn := (M4 122 0 x1.toNatClampNeg).toNatClampNeg) hx hb hK hW hS (by decide) (tq_mk_126 (by decide)) b5 rfl (tq_mk_126 (by decide)) dX12_take_137 (fun H locs hW hS => ?_)
        generalize eM6 : tq_up M4 126 0 ((M4 122 0 x1.toNatClampNeg).toNatClampNeg) ((M4 126 0 ((M4 122 0 x1.toNatClampNeg).toNatClampNeg)) + 1) = M6 at hW
        have h := h M6 eM6.symm
        refine lv_iload_n hx hb dX12_take_138 rfl (lv_at hl 1 rfl) ?_
        exact W.iret (v := x1) hx hb hr (fun t ht hWm => ⟨⟨_, M6, rfl, h, tq_pe ht hW⟩, hS.F ht⟩) hS.2.2 dX12_take_139
      · have h := h.2 c2
        refine lv_iconst (v := (-1)) hx hb dX12_take_114 (by decide) ?_
        exact W.iret (v := (-1)) hx hb hr (fun t ht hWm => ⟨⟨_, M, rfl, h, tq_pe ht hW⟩, hS.F ht⟩) hS.2.2 dX12_take_115
    · have h := h.2 c1
      refine lv_aload_n hx hb dX12_take_12 rfl (lv_at hl 0 rfl) ?_
      refine tqm_get (v := .ref (ad 124 0)) hx hb hw tq_inX12 hown hK hW (by decide) (tq_mk_64 (by decide)) rfl 24 (by decide) (hw _ tw_1432) (fun _ h9 => h9) rfl dX12_take_13 ?_
      refine lv_iload_n hx hb dX12_take_16 rfl (lv_at hl 2 rfl) ?_
      obtain ⟨b7, h⟩ := h
      refine tqm_iald (jn := x2.toNatClampNeg) hx hb hK hW (by decide) (tq_mk_124 (by decide)) b7 rfl dX12_take_17 ?_
      refine lv_if_ne (tgt := 104) hx hb dX12_take_18 (by decide) (fun c8 => ?_) (fun c8 => ?_)
      · have h := h.1 c8
        exact bX12_take_104 C (fun M9 a09 a19 H9 q9 ls9 h9 hW9 hS9 hl9 => ih M9 a09 a19 H9 q9 ls9 h9 hW9 hS9 hl9) _ _ _ _ _ _ h hW hS (lv_sub hl [0, 1, 2] rfl)
      · have h := h.2 c8
        refine lv_aload_n hx hb dX12_take_21 rfl (lv_at hl 0 rfl) ?_
        refine tqm_get (v := .ref (ad 125 0)) hx hb hw tq_inX12 hown hK hW (by decide) (tq_mk_64 (by decide)) rfl 25 (by decide) (hw _ tw_1433) (fun _ h9 => h9) rfl dX12_take_22 ?_
        refine lv_iload_n hx hb dX12_take_25 rfl (lv_at hl 2 rfl) ?_
        refine tqm_zald (jn := x2.toNatClampNeg) hx hb hK hW (by decide) (tq_mk_125 (by decide)) b7 rfl dX12_take_26 ?_
        refine lv_if_eq (tgt := 33) hx hb dX12_take_27 (by decide) (fun c9 => ?_) (fun c9 => ?_)
        · have h := h.1 c9
          refine lv_iload_n hx hb dX12_take_33 rfl (lv_at hl 1 rfl) ?_
          refine lv_if_lt (tgt := 102) hx hb dX12_take_34 (by decide) (fun c10 => ?_) (fun c10 => ?_)
          · have h := h.1 c10
            exact bX12_take_102 C (fun M9 a09 a19 H9 q9 ls9 h9 hW9 hS9 hl9 => ih M9 a09 a19 H9 q9 ls9 h9 hW9 hS9 hl9) _ _ _ _ _ h hW hS (lv_sub hl [0, 2] rfl)
          · have h := h.2 c10
            refine lv_aload_n hx hb dX12_take_37 rfl (lv_at hl 0 rfl) ?_
            refine tqm_get (v := .ref (ad 126 0)) hx hb hw tq_inX12 hown hK hW (by decide) (tq_mk_64 (by decide)) rfl 26 (by decide) (hw _ tw_1434) (fun _ h9 => h9) rfl dX12_take_38 ?_
            refine lv_aload_n hx hb dX12_take_41 rfl (lv_at hl 0 rfl) ?_
            refine tqm_get (v := .ref (ad 122 0)) hx hb hw tq_inX12 hown hK hW (by decide) (tq_mk_64 (by decide)) rfl 22 (by decide) (hw _ tw_1430) (fun _ h9 => h9) rfl dX12_take_42 ?_
            refine lv_iload_n hx hb dX12_take_45 rfl (lv_at hl 2 rfl) ?_
            refine tqm_iald (jn := x2.toNatClampNeg) hx hb hK hW (by decide) (tq_mk_122 (by decide)) b7 rfl dX12_take_46 ?_
            obtain ⟨b11, h⟩ := h
            refine tqm_iald (jn := (M 122 0 x2.toNatClampNeg).toNatClampNeg) hx hb hK hW (by decide) (tq_mk_126 (by decide)) b11 rfl dX12_take_47 ?_
            refine lv_aload_n hx hb dX12_take_48 rfl (lv_at hl 0 rfl) ?_
            refine tqm_get (v := .ref (ad 126 0)) hx hb hw tq_inX12 hown hK hW (by decide) (tq_mk_64 (by decide)) rfl 26 (by decide) (hw _ tw_1434) (fun _ h9 => h9) rfl dX12_take_49 ?_
            refine lv_aload_n hx hb dX12_take_52 rfl (lv_at hl 0 rfl) ?_
            refine tqm_get (v := .ref (ad 122 0)) hx hb hw tq_inX12 hown hK hW (by decide) (tq_mk_64 (by decide)) rfl 22 (by decide) (hw _ tw_1430) (fun _ h9 => h9) rfl dX12_take_53 ?_
            refine lv_iload_n hx hb dX12_take_56 rfl (lv_at hl 1 rfl) ?_
            obtain ⟨b12, h⟩ := h
            refine tqm_iald (jn := x1.toNatClampNeg) hx hb hK hW (by decide) (tq_mk_122 (by decide)) b12 rfl dX12_take_57 ?_
            obtain ⟨b13, h⟩ := h
            refine tqm_iald (jn := (M 122 0 x1.toNatClampNeg).toNatClampNeg) hx hb hK hW (by decide) (tq_mk_126 (by decide)) b13 rfl dX12_take_58 ?_
            refine lv_icmp_lt (tgt := 102) hx hb dX12_take_59 (by decide) (fun c14 => ?_) (fun c14 => ?_)
            · have h := h.1 c14
              exact bX12_take_102 C (fun M9 a09 a19 H9 q9 ls9 h9 hW9 hS9 hl9 => ih M9 a09 a19 H9 q9 ls9 h9 hW9 hS9 hl9) _ _ _ _ _ h hW hS (lv_sub hl [0, 2] rfl)
            · have h := h.2 c14
              refine lv_aload_n hx hb dX12_take_62 rfl (lv_at hl 0 rfl) ?_
              refine tqm_get (v := .ref (ad 126 0)) hx hb hw tq_inX12 hown hK hW (by decide) (tq_mk_64 (by decide)) rfl 26 (by decide) (hw _ tw_1434) (fun _ h9 => h9) rfl dX12_take_63 ?_
              refine lv_aload_n hx hb dX12_take_66 rfl (lv_at hl 0 rfl) ?_
              refine tqm_get (v := .ref (ad 122 0)) hx hb hw tq_inX12 hown hK hW (by decide) (tq_mk_64 (by decide)) rfl 22 (by decide) (hw _ tw_1430) (fun _ h9 => h9) rfl dX12_take_67 ?_
              refine lv_iload_n hx hb dX12_take_70 rfl (lv_at hl 2 rfl) ?_
              refine tqm_iald (jn := x2.toNatClampNeg) hx hb hK hW (by decide) (tq_mk_122 (by decide)) b7 rfl dX12_take_71 ?_
              refine tqm_iald (jn := (M 122 0 x2.toNatClampNeg).toNatClampNeg) hx hb hK hW (by decide) (tq_mk_126 (by decide)) b11 rfl dX12_take_72 ?_
              refine lv_aload_n hx hb dX12_take_73 rfl (lv_at hl 0 rfl) ?_
              refine tqm_get (v := .ref (ad 126 0)) hx hb hw tq_inX12 hown hK hW (by decide) (tq_mk_64 (by decide)) rfl 26 (by decide) (hw _ tw_1434) (fun _ h9 => h9) rfl dX12_take_74 ?_
              refine lv_aload_n hx hb dX12_take_77 rfl (lv_at hl 0 rfl) ?_
              refine tqm_get (v := .ref (ad 122 0)) hx hb hw tq_inX12 hown hK hW (by decide) (tq_mk_64 (by decide)) rfl 22 (by decide) (hw _ tw_1430) (fun _ h9 => h9) rfl dX12_take_78 ?_
              refine lv_iload_n hx hb dX12_take_81 rfl (lv_at hl 1 rfl) ?_
              refine tqm_iald (jn := x1.toNatClampNeg) hx hb hK hW (by decide) (tq_mk_122 (by decide)) b12 rfl dX12_take_82 ?_
              refine tqm_iald (jn := (M 122 0 x1.toNatClampNeg).toNatClampNeg) hx hb hK hW (by decide) (tq_mk_126 (by decide)) b13 rfl dX12_take_83 ?_
              refine lv_icmp_ne (tgt := 104) hx hb dX12_take_84 (by decide) (fun c15 => ?_) (fun c15 => ?_)
              · have h := h.1 c15
                exact bX12_take_104 C (fun M9 a09 a19 H9 q9 ls9 h9 hW9 hS9 hl9 => ih M9 a09 a19 H9 q9 ls9 h9 hW9 hS9 hl9) _ _ _ _ _ _ h hW hS (lv_sub hl [0, 1, 2] rfl)
              · have h := h.2 c15
                refine lv_aload_n hx hb dX12_take_87 rfl (lv_at hl 0 rfl) ?_
                refine tqm_get (v := .ref (ad 122 0)) hx hb hw tq_inX12 hown hK hW (by decide) (tq_mk_64 (by decide)) rfl 22 (by decide) (hw _ tw_1430) (fun _ h9 => h9) rfl dX12_take_88 ?_
                refine lv_iload_n hx hb dX12_take_91 rfl (lv_at hl 2 rfl) ?_
                refine tqm_iald (jn := x2.toNatClampNeg) hx hb hK hW (by decide) (tq_mk_122 (by decide)) b7 rfl dX12_take_92 ?_
                refine lv_aload_n hx hb dX12_take_93 rfl (lv_at hl 0 rfl) ?_
                refine tqm_get (v := .ref (ad 122 0)) hx hb hw tq_inX12 hown hK hW (by decide) (tq_mk_64 (by decide)) rfl 22 (by decide) (hw _ tw_1430) (fun _ h9 => h9) rfl dX12_take_94 ?_
                refine lv_iload_n hx hb dX12_take_97 rfl (lv_at hl 1 rfl) ?_
                refine tqm_iald (jn := x1.toNatClampNeg) hx hb hK hW (by decide) (tq_mk_122 (by decide)) b12 rfl dX12_take_98 ?_
                refine lv_icmp_ge (tgt := 104) hx hb dX12_take_99 (by decide) (fun c16 => ?_) (fun c16 => ?_)
                · have h := h.1 c16
                  exact bX12_take_104 C (fun M9 a09 a19 H9 q9 ls9 h9 hW9 hS9 hl9 => ih M9 a09 a19 H9 q9 ls9 h9 hW9 hS9 hl9) _ _ _ _ _ _ h hW hS (lv_sub hl [0, 1, 2] rfl)
                · have h := h.2 c16
                  exact bX12_take_102 C (fun M9 a09 a19 H9 q9 ls9 h9 hW9 hS9 hl9 => ih M9 a09 a19 H9 q9 ls9 h9 hW9 hS9 hl9) _ _ _ _ _ h hW hS (lv_sub hl [0, 2] rfl)
        · have h := h.2 c9
          refine lv_goto (tgt := 104) hx hb dX12_take_30 (by decide) ?_
          exact bX12_take_104 C (fun M9 a09 a19 H9 q9 ls9 h9 hW9 hS9 hl9 => ih M9 a09 a19 H9 q9 ls9 h9 hW9 hS9 hl9) _ _ _ _ _ _ h hW hS (lv_sub hl [0, 1, 2] rfl)
set_option maxHeartbeats 4000000 in
set_option maxRecDepth 100000 in
theorem kX12_take {post : tq_St → Int32 → Prop} {M : tq_St}  (h : wpX12_take post M ) : tq_mI l yX12_take (tq_ws yX12_take cX12_take 3 (some .int)) 0 0 D cy z H0 ad N S M [.ref (ad 64 0)] post := by
  unfold wpX12_take at h
  refine Met.ofW (cc := cX12_take) (maxL := 3) (ret := (some .int)) (by decide) rfl ?_
  intro p e s m args below meth c s₁ B hml hv
  obtain ⟨rfl, hW, hK, hG⟩ := hv
  have hx := B.exec
  have hb := B.bytes
  have hr := B.returns
  have hts := atoms_spec (ws := (tq_ws yX12_take cX12_take 3 (some .int))) B.pre
  have hw : ∀ w ∈ tq_W, w.before _ s = true := fun w h => hts w (List.mem_cons_of_mem _ h)
  have hown : s.vm.findClass RX12 = some m.cls := findClass_of_methodNamed B.named
  have hlocks := B.notSynchronized
  have C : tq_At p s m meth c [.ref (ad 64 0)].toArray cX12_take 3 ((some .int)) ((tq_ws yX12_take cX12_take 3 (some .int))) RX12 D cy z ad := ⟨hx, hb, hr, hml, hown, hts, hlocks, hK, hG⟩
  have hS : va_S (fun q => z ≤ q) s.heap s.heap [] := va_S.rf
  have hl := lv_entry ([.ref (ad 64 0)]) (n := 3) (Nat.le_of_ble_eq_true rfl)
  rw [lg_entry_eq]
  generalize (lg_sl ([.ref (ad 64 0)]) ++ List.replicate (3 - (lg_sl ([.ref (ad 64 0)])).length) Slot.unset).toArray = ls at hl ⊢
  have hl : lv_has ls 3 [(0, .ref (ad 64 0))] := hl
  have hW : tq_wd D cy z H0 ad N (tq_mix S M) s.heap := hW
  refine lv_iconst (v := (-1)) hx hb dX12_take_0 (by decide) ?_
  refine lv_istore_n (lv' := [(1, .int ((-1))), (0, .ref (ad 64 0))]) hx hb dX12_take_1 rfl hl (by decide) rfl (fun ls hl => ?_)
  refine lv_iconst (v := 0) hx hb dX12_take_2 (by decide) ?_
  refine lv_istore_n (lv' := [(2, .int 0), (1, .int ((-1))), (0, .ref (ad 64 0))]) hx hb dX12_take_3 rfl hl (by decide) rfl (fun ls hl => ?_)
  obtain ⟨nq, h⟩ := h
  exact bX12_take_4 C  nq _ _ _ _ _ _ h hW hS (lv_sub hl [2, 1, 0] rfl)
-- load
def wbX12_load_94 (post : tq_St → Int32 → Prop)  (M : tq_St) : Prop :=
  post M ((-2))
def wbX12_load_97 (post : tq_St → Int32 → Prop)  (M : tq_St) (x1 : Int32) (x2 : Int32) (x3 : Int32) : Prop :=
  vp_in x3 5 ∧ (∀ M14, M14 = tq_up M 101 0 x3.toNatClampNeg ((M 101 0 x3.toNatClampNeg) - x2) → (vp_in x1 8 ∧ (∀ M16, M16 = tq_up M14 128 0 x1.toNatClampNeg ((M14 128 0 x1.toNatClampNeg) + x2) → (post M16 (M16 128 0 x1.toNatClampNeg)))))
def wpX12_load (post : tq_St → Int32 → Prop) (M : tq_St) (p0 : Int32) (p1 : Int32) : Prop :=
  wpX12_isShip (fun M1 r2 => (¬ r2 = 0 → (vp_in p0 8 ∧ ((0 ≤ (M1 124 0 p0.toNatClampNeg) → (((lg_cmp p1.toInt64 0) ≤ 0 → (((lg_cmp ((M1 128 0 p0.toNatClampNeg).toInt64) (-p1.toInt64)) < 0 → (wbX12_load_94 post M1 )) ∧ (¬ (lg_cmp ((M1 128 0 p0.toNatClampNeg).toInt64) (-p1.toInt64)) < 0 → ((0 ≤ (lg_cmp p1.toInt64 0) → (wbX12_load_97 post M1 p0 p1 (M1 124 0 p0.toNatClampNeg))) ∧ (¬ 0 ≤ (lg_cmp p1.toInt64 0) → (vp_in (M1 124 0 p0.toNatClampNeg) 5 ∧ (((lg_cmp (((M1 101 0 ((M1 124 0 p0.toNatClampNeg).toNatClampNeg)).toInt64) - p1.toInt64) ((100000000))) ≤ 0 → (wbX12_load_97 post M1 p0 p1 (M1 124 0 p0.toNatClampNeg))) ∧ (¬ (lg_cmp (((M1 101 0 ((M1 124 0 p0.toNatClampNeg).toNatClampNeg)).toInt64) - p1.toInt64) ((100000000))) ≤ 0 → (wbX12_load_94 post M1 ))))))))) ∧ (¬ (lg_cmp p1.toInt64 0) ≤ 0 → (vp_in (M1 124 0 p0.toNatClampNeg) 5 ∧ ((0 ≤ (lg_cmp ((M1 101 0 ((M1 124 0 p0.toNatClampNeg).toNatClampNeg)).toInt64) p1.toInt64) → (wbX12_load_97 post M1 p0 p1 (M1 124 0 p0.toNatClampNeg))) ∧ (¬ 0 ≤ (lg_cmp ((M1 101 0 ((M1 124 0 p0.toNatClampNeg).toNatClampNeg)).toInt64) p1.toInt64) → (wbX12_load_94 post M1 ))))))) ∧ (¬ 0 ≤ (M1 124 0 p0.toNatClampNeg) → (post M1 ((-3))))))) ∧ (r2 = 0 → (post M1 ((-1))))) M p0
set_option maxHeartbeats 4000000 in
set_option maxRecDepth 100000 in
theorem bX12_load_94 {p : Program} {e : Env} {s : State} {m : MethodId} {args : Array Value} {below : List Frame} {meth : Method} {c : Code} {post : tq_St → Int32 → Prop} (C : tq_At p s m meth c args cX12_load 6 ((some .int)) ((tq_ws yX12_load cX12_load 6 (some .int))) RX12 D cy z ad)  : ∀ (M : tq_St)  (H : Heap) (locs : List Loc) (ls : Array Slot), wbX12_load_94 post   M  → tq_wd D cy z H0 ad N (tq_mix S M) H → va_S (fun q => z ≤ q) s.heap H locs → lv_has ls 6 [] → W p l e (tq_rm 2 43) s m args below meth c H locs 0 0 (MQ below (va_Qi (fun r u => post u r) (tq_P D cy z H0 ad N S) (fun q => z ≤ q)) args s 0 0 (fun q => z ≤ q)) (F0 m 94 ls []) := by
  obtain ⟨hx, hb, hr, hml, hown, hts, hlocks, hK, hG⟩ := id C
  have hw : ∀ w ∈ tq_W, w.before args s = true := fun w h => hts w (List.mem_cons_of_mem _ h)
  intro M  H locs ls h hW hS hl
  unfold wbX12_load_94 at h
  refine lv_bipush (v := (-2)) hx hb dX12_load_94 (by decide) ?_
  exact W.iret (v := (-2)) hx hb hr (fun t ht hWm => ⟨⟨_, M, rfl, h, tq_pe ht hW⟩, hS.F ht⟩) hS.2.2 dX12_load_96
set_option maxHeartbeats 4000000 in
set_option maxRecDepth 100000 in
theorem bX12_load_97 {p : Program} {e : Env} {s : State} {m : MethodId} {args : Array Value} {below : List Frame} {meth : Method} {c : Code} {post : tq_St → Int32 → Prop} (C : tq_At p s m meth c args cX12_load 6 ((some .int)) ((tq_ws yX12_load cX12_load 6 (some .int))) RX12 D cy z ad)  : ∀ (M : tq_St) (x1 : Int32) (x2 : Int32) (x3 : Int32) (H : Heap) (locs : List Loc) (ls : Array Slot), wbX12_load_97 post   M x1 x2 x3 → tq_wd D cy z H0 ad N (tq_mix S M) H → va_S (fun q => z ≤ q) s.heap H locs → lv_has ls 6 [(0, .ref (ad 64 0)), (1, .int x1), (2, .int x2), (3, .int x3)] → W p l e (tq_rm 2 43) s m args below meth c H locs 0 0 (MQ below (va_Qi (fun r u => post u r) (tq_P D cy z H0 ad N S) (fun q => z ≤ q)) args s 0 0 (fun q => z ≤ q)) (F0 m 97 ls []) := by
  obtain ⟨hx, hb, hr, hml, hown, hts, hlocks, hK, hG⟩ := id C
  have hw : ∀ w ∈ tq_W, w.before args s = true := fun w h => hts w (List.mem_cons_of_mem _ h)
  intro M x1 x2 x3 H locs ls h hW hS hl
  unfold wbX12_load_97 at h
  refine lv_aload_n hx hb dX12_load_97 rfl (lv_at hl 0 rfl) ?_
  refine tqm_get (v := .ref (ad 101 0)) hx hb hw tq_inX12 hown hK hW (by decide) (tq_mk_64 (by decide)) rfl 1 (by decide) (hw _ tw_1409) (fun _ h9 => h9) rfl dX12_load_98 ?_
  refine lv_iload_n hx hb dX12_load_101 rfl (lv_at hl 3 rfl) ?_
  refine lv_dup2_11 hx hb dX12_load_102 rfl rfl ?_
  obtain ⟨b13, h⟩ := h
  refine tqm_iald (jn := x3.toNatClampNeg) hx hb hK hW (by decide) (tq_mk_101 (by decide)) b13 rfl dX12_load_103 ?_
  refine lv_iload_n hx hb dX12_load_104 rfl (lv_at hl 2 rfl) ?_
  refine lv_isub hx hb dX12_load_105 ?_
  refine tqm_iast (jn := x3.toNatClampNeg) hx hb hK hW hS (by decide) (tq_mk_101 (by decide)) b13 rfl (tq_mk_101 (by decide)) dX12_load_106 (fun H locs hW hS => ?_)
  generalize eM14 : tq_up M 101 0 x3.toNatClampNeg ((M 101 0 x3.toNatClampNeg) - x2) = M14 at hW
  have h := h M14 eM14.symm
  refine lv_aload_n hx hb dX12_load_107 rfl (lv_at hl 0 rfl) ?_
  refine tqm_get (v := .ref (ad 128 0)) hx hb hw tq_inX12 hown hK hW (by decide) (tq_mk_64 (by decide)) rfl 28 (by decide) (hw _ tw_1436) (fun _ h9 => h9) rfl dX12_load_108 ?_
  refine lv_iload_n hx hb dX12_load_111 rfl (lv_at hl 1 rfl) ?_
  refine lv_dup2_11 hx hb dX12_load_112 rfl rfl ?_
  obtain ⟨b15, h⟩ := h
  refine tqm_iald (jn := x1.toNatClampNeg) hx hb hK hW (by decide) (tq_mk_128 (by decide)) b15 rfl dX12_load_113 ?_
  refine lv_iload_n hx hb dX12_load_114 rfl (lv_at hl 2 rfl) ?_
  refine lv_iadd hx hb dX12_load_115 ?_
  refine tqm_iast (jn := x1.toNatClampNeg) hx hb hK hW hS (by decide) (tq_mk_128 (by decide)) b15 rfl (tq_mk_128 (by decide)) dX12_load_116 (fun H locs hW hS => ?_)
  generalize eM16 : tq_up M14 128 0 x1.toNatClampNeg ((M14 128 0 x1.toNatClampNeg) + x2) = M16 at hW
  have h := h M16 eM16.symm
  refine lv_aload_n hx hb dX12_load_117 rfl (lv_at hl 0 rfl) ?_
  refine tqm_get (v := .ref (ad 128 0)) hx hb hw tq_inX12 hown hK hW (by decide) (tq_mk_64 (by decide)) rfl 28 (by decide) (hw _ tw_1436) (fun _ h9 => h9) rfl dX12_load_118 ?_
  refine lv_iload_n hx hb dX12_load_121 rfl (lv_at hl 1 rfl) ?_
  refine tqm_iald (jn := x1.toNatClampNeg) hx hb hK hW (by decide) (tq_mk_128 (by decide)) b15 rfl dX12_load_122 ?_
  exact W.iret (v := M16 128 0 x1.toNatClampNeg) hx hb hr (fun t ht hWm => ⟨⟨_, M16, rfl, h, tq_pe ht hW⟩, hS.F ht⟩) hS.2.2 dX12_load_123
set_option maxHeartbeats 4000000 in
set_option maxRecDepth 100000 in
theorem kX12_load {post : tq_St → Int32 → Prop} {M : tq_St} {p0 : Int32} {p1 : Int32} (h : wpX12_load post M p0 p1) : tq_mI l yX12_load (tq_ws yX12_load cX12_load 6 (some .int)) 2 43 D cy z H0 ad N S M [.ref (ad 64 0), .int p0, .int p1] post := by
  unfold wpX12_load at h
  refine Met.ofW (cc := cX12_load) (maxL := 6) (ret := (some .int)) (by decide) rfl ?_
  intro p e s m args below meth c s₁ B hml hv
  obtain ⟨rfl, hW, hK, hG⟩ := hv
  have hx := B.exec
  have hb := B.bytes
  have hr := B.returns
  have hts := atoms_spec (ws := (tq_ws yX12_load cX12_load 6 (some .int))) B.pre
  have hw : ∀ w ∈ tq_W, w.before _ s = true := fun w h => hts w (List.mem_cons_of_mem _ h)
  have hown : s.vm.findClass RX12 = some m.cls := findClass_of_methodNamed B.named
  have hlocks := B.notSynchronized
  have C : tq_At p s m meth c [.ref (ad 64 0), .int p0, .int p1].toArray cX12_load 6 ((some .int)) ((tq_ws yX12_load cX12_load 6 (some .int))) RX12 D cy z ad := ⟨hx, hb, hr, hml, hown, hts, hlocks, hK, hG⟩
  have hS : va_S (fun q => z ≤ q) s.heap s.heap [] := va_S.rf
  have hl := lv_entry ([.ref (ad 64 0), .int p0, .int p1]) (n := 6) (Nat.le_of_ble_eq_true rfl)
  rw [lg_entry_eq]
  generalize (lg_sl ([.ref (ad 64 0), .int p0, .int p1]) ++ List.replicate (6 - (lg_sl ([.ref (ad 64 0), .int p0, .int p1])).length) Slot.unset).toArray = ls at hl ⊢
  have hl : lv_has ls 6 [(0, .ref (ad 64 0)), (1, .int p0), (2, .int p1)] := hl
  have hW : tq_wd D cy z H0 ad N (tq_mix S M) s.heap := hW
  refine lv_aload_n hx hb dX12_load_0 rfl (lv_at hl 0 rfl) ?_
  refine lv_iload_n hx hb dX12_load_1 rfl (lv_at hl 1 rfl) ?_
  refine tq_callVi (As := [.int p0]) (rest := []) (kX12_isShip h) ⟨hx, hb, hml, hown, hts⟩ (cwV 1 hts (tq_goodV tw_1775 tw_1777 tw_69 tw_125 tw_1778) rfl rfl rfl (by decide +kernel) ⟨Nat.le_of_ble_eq_true rfl, Nat.le_of_ble_eq_true rfl⟩) hK hG hW hS rfl hl.1 rfl (Nat.le_of_ble_eq_true rfl) dX12_load_2 ⟨Nat.le_of_ble_eq_true rfl, Nat.le_of_ble_eq_true rfl⟩ (fun r2 M1 H locs h hW hS => ?_)
  refine lv_if_ne (tgt := 10) hx hb dX12_load_5 (by decide) (fun c3 => ?_) (fun c3 => ?_)
  · have h := h.1 c3
    refine lv_aload_n hx hb dX12_load_10 rfl (lv_at hl 0 rfl) ?_
    refine tqm_get (v := .ref (ad 124 0)) hx hb hw tq_inX12 hown hK hW (by decide) (tq_mk_64 (by decide)) rfl 24 (by decide) (hw _ tw_1432) (fun _ h9 => h9) rfl dX12_load_11 ?_
    refine lv_iload_n hx hb dX12_load_14 rfl (lv_at hl 1 rfl) ?_
    obtain ⟨b4, h⟩ := h
    refine tqm_iald (jn := p0.toNatClampNeg) hx hb hK hW (by decide) (tq_mk_124 (by decide)) b4 rfl dX12_load_15 ?_
    refine lv_if_ge (tgt := 22) hx hb dX12_load_16 (by decide) (fun c5 => ?_) (fun c5 => ?_)
    · have h := h.1 c5
      refine lv_aload_n hx hb dX12_load_22 rfl (lv_at hl 0 rfl) ?_
      refine tqm_get (v := .ref (ad 124 0)) hx hb hw tq_inX12 hown hK hW (by decide) (tq_mk_64 (by decide)) rfl 24 (by decide) (hw _ tw_1432) (fun _ h9 => h9) rfl dX12_load_23 ?_
      refine lv_iload_n hx hb dX12_load_26 rfl (lv_at hl 1 rfl) ?_
      refine tqm_iald (jn := p0.toNatClampNeg) hx hb hK hW (by decide) (tq_mk_124 (by decide)) b4 rfl dX12_load_27 ?_
      refine lv_istore_n (lv' := [(3, .int (M1 124 0 p0.toNatClampNeg)), (0, .ref (ad 64 0)), (1, .int p0), (2, .int p1)]) hx hb dX12_load_28 rfl hl (by decide) rfl (fun ls hl => ?_)
      refine lv_iload_n hx hb dX12_load_29 rfl (lv_at hl 3 rfl) ?_
      refine lv_i2l (v := p1.toInt64) hx hb dX12_load_30 rfl ?_
      refine lv_lstore (lv' := [(4, .long p1.toInt64), (3, .int (M1 124 0 p0.toNatClampNeg)), (0, .ref (ad 64 0)), (1, .int p0), (2, .int p1)]) hx hb dX12_load_31 hl (by decide) rfl (fun ls hl => ?_)
      refine lv_lload hx hb dX12_load_33 (lv_at hl 0 rfl) ?_
      refine lv_lconst (v := 0) hx hb dX12_load_35 (by decide) ?_
      refine W.lcmp hx hb dX12_load_36 ?_
      refine lv_if_le (tgt := 56) hx hb dX12_load_37 (by decide) (fun c6 => ?_) (fun c6 => ?_)
      · have h := h.1 c6
        refine lv_aload_n hx hb dX12_load_56 rfl (lv_at hl 2 rfl) ?_
        refine tqm_get (v := .ref (ad 128 0)) hx hb hw tq_inX12 hown hK hW (by decide) (tq_mk_64 (by decide)) rfl 28 (by decide) (hw _ tw_1436) (fun _ h9 => h9) rfl dX12_load_57 ?_
        refine lv_iload_n hx hb dX12_load_60 rfl (lv_at hl 3 rfl) ?_
        refine tqm_iald (jn := p0.toNatClampNeg) hx hb hK hW (by decide) (tq_mk_128 (by decide)) b4 rfl dX12_load_61 ?_
        refine lv_i2l (v := (M1 128 0 p0.toNatClampNeg).toInt64) hx hb dX12_load_62 rfl ?_
        refine lv_lload hx hb dX12_load_63 (lv_at hl 0 rfl) ?_
        refine lv_lneg hx hb dX12_load_65 ?_
        refine W.lcmp hx hb dX12_load_66 ?_
        refine lv_if_lt (tgt := 94) hx hb dX12_load_67 (by decide) (fun c7 => ?_) (fun c7 => ?_)
        · have h := h.1 c7
          exact bX12_load_94 C  _  _ _ _ h hW hS (lv_sub hl [] rfl)
        · have h := h.2 c7
          refine lv_lload hx hb dX12_load_70 (lv_at hl 0 rfl) ?_
          refine lv_lconst (v := 0) hx hb dX12_load_72 (by decide) ?_
          refine W.lcmp hx hb dX12_load_73 ?_
          refine lv_if_ge (tgt := 97) hx hb dX12_load_74 (by decide) (fun c8 => ?_) (fun c8 => ?_)
          · have h := h.1 c8
            exact bX12_load_97 C  _ _ _ _ _ _ _ h hW hS (lv_sub hl [2, 3, 4, 1] rfl)
          · have h := h.2 c8
            refine lv_aload_n hx hb dX12_load_77 rfl (lv_at hl 2 rfl) ?_
            refine tqm_get (v := .ref (ad 101 0)) hx hb hw tq_inX12 hown hK hW (by decide) (tq_mk_64 (by decide)) rfl 1 (by decide) (hw _ tw_1409) (fun _ h9 => h9) rfl dX12_load_78 ?_
            refine lv_iload_n hx hb dX12_load_81 rfl (lv_at hl 1 rfl) ?_
            obtain ⟨b9, h⟩ := h
            refine tqm_iald (jn := (M1 124 0 p0.toNatClampNeg).toNatClampNeg) hx hb hK hW (by decide) (tq_mk_101 (by decide)) b9 rfl dX12_load_82 ?_
            refine lv_i2l (v := (M1 101 0 ((M1 124 0 p0.toNatClampNeg).toNatClampNeg)).toInt64) hx hb dX12_load_83 rfl ?_
            refine lv_lload hx hb dX12_load_84 (lv_at hl 0 rfl) ?_
            refine lv_lsub hx hb dX12_load_86 ?_
            refine lv_ldc2 hx hb hown (hw _ tw_1852) dX12_load_87 ?_
            refine W.lcmp hx hb dX12_load_90 ?_
            refine lv_if_le (tgt := 97) hx hb dX12_load_91 (by decide) (fun c10 => ?_) (fun c10 => ?_)
            · have h := h.1 c10
              exact bX12_load_97 C  _ _ _ _ _ _ _ h hW hS (lv_sub hl [2, 3, 4, 1] rfl)
            · have h := h.2 c10
              exact bX12_load_94 C  _  _ _ _ h hW hS (lv_sub hl [] rfl)
      · have h := h.2 c6
        refine lv_aload_n hx hb dX12_load_40 rfl (lv_at hl 2 rfl) ?_
        refine tqm_get (v := .ref (ad 101 0)) hx hb hw tq_inX12 hown hK hW (by decide) (tq_mk_64 (by decide)) rfl 1 (by decide) (hw _ tw_1409) (fun _ h9 => h9) rfl dX12_load_41 ?_
        refine lv_iload_n hx hb dX12_load_44 rfl (lv_at hl 1 rfl) ?_
        obtain ⟨b11, h⟩ := h
        refine tqm_iald (jn := (M1 124 0 p0.toNatClampNeg).toNatClampNeg) hx hb hK hW (by decide) (tq_mk_101 (by decide)) b11 rfl dX12_load_45 ?_
        refine lv_i2l (v := (M1 101 0 ((M1 124 0 p0.toNatClampNeg).toNatClampNeg)).toInt64) hx hb dX12_load_46 rfl ?_
        refine lv_lload hx hb dX12_load_47 (lv_at hl 0 rfl) ?_
        refine W.lcmp hx hb dX12_load_49 ?_
        refine lv_if_ge (tgt := 97) hx hb dX12_load_50 (by decide) (fun c12 => ?_) (fun c12 => ?_)
        · have h := h.1 c12
          exact bX12_load_97 C  _ _ _ _ _ _ _ h hW hS (lv_sub hl [2, 3, 4, 1] rfl)
        · have h := h.2 c12
          refine lv_goto (tgt := 94) hx hb dX12_load_53 (by decide) ?_
          exact bX12_load_94 C  _  _ _ _ h hW hS (lv_sub hl [] rfl)
    · have h := h.2 c5
      refine lv_bipush (v := (-3)) hx hb dX12_load_19 (by decide) ?_
      exact W.iret (v := (-3)) hx hb hr (fun t ht hWm => ⟨⟨_, M1, rfl, h, tq_pe ht hW⟩, hS.F ht⟩) hS.2.2 dX12_load_21
  · have h := h.2 c3
    refine lv_iconst (v := (-1)) hx hb dX12_load_8 (by decide) ?_
    exact W.iret (v := (-1)) hx hb hr (fun t ht hWm => ⟨⟨_, M1, rfl, h, tq_pe ht hW⟩, hS.F ht⟩) hS.2.2 dX12_load_9
-- balesOn
def wbX12_balesOn_4 (post : tq_St → Int32 → Prop) : Nat → tq_St → Int32 → Int32 → Int32 → Prop
  | 0, _, _, _, _ => False
  | n + 1, M, x1, x2, x3 =>
    (4 ≤ x3 → (post M x2)) ∧ (¬ 4 ≤ x3 → (vp_in x1 8 ∧ (vp_in x3 4 ∧ ((wbX12_balesOn_4 post n) M x1 (x2 + (M 127 x1.toNatClampNeg x3.toNatClampNeg)) (x3 + 1)))))
def wpX12_balesOn (post : tq_St → Int32 → Prop) (M : tq_St) (p0 : Int32) : Prop :=
  ∃ nq, wbX12_balesOn_4 post nq M p0 0 0
set_option maxHeartbeats 4000000 in
set_option maxRecDepth 100000 in
theorem bX12_balesOn_4 {p : Program} {e : Env} {s : State} {m : MethodId} {args : Array Value} {below : List Frame} {meth : Method} {c : Code} {post : tq_St → Int32 → Prop} (C : tq_At p s m meth c args cX12_balesOn 4 ((some .int)) ((tq_ws yX12_balesOn cX12_balesOn 4 (some .int))) RX12 D cy z ad)  : ∀ n : Nat, ∀ (M : tq_St) (x1 : Int32) (x2 : Int32) (x3 : Int32) (H : Heap) (locs : List Loc) (ls : Array Slot), wbX12_balesOn_4 post   n M x1 x2 x3 → tq_wd D cy z H0 ad N (tq_mix S M) H → va_S (fun q => z ≤ q) s.heap H locs → lv_has ls 4 [(0, .ref (ad 64 0)), (1, .int x1), (2, .int x2), (3, .int x3)] → W p l e (tq_rm 0 0) s m args below meth c H locs 0 0 (MQ below (va_Qi (fun r u => post u r) (tq_P D cy z H0 ad N S) (fun q => z ≤ q)) args s 0 0 (fun q => z ≤ q)) (F0 m 4 ls []) := by
  obtain ⟨hx, hb, hr, hml, hown, hts, hlocks, hK, hG⟩ := id C
  have hw : ∀ w ∈ tq_W, w.before args s = true := fun w h => hts w (List.mem_cons_of_mem _ h)
  intro n
  induction n with
  | zero =>
    intro M x1 x2 x3 H locs ls h
    exact absurd h (by unfold wbX12_balesOn_4; exact id)
  | succ n ih =>
    intro M x1 x2 x3 H locs ls h hW hS hl
    unfold wbX12_balesOn_4 at h
    refine lv_iload_n hx hb dX12_balesOn_4 rfl (lv_at hl 3 rfl) ?_
    refine lv_iconst (v := 4) hx hb dX12_balesOn_5 (by decide) ?_
    refine lv_icmp_ge (tgt := 26) hx hb dX12_balesOn_6 (by decide) (fun c1 => ?_) (fun c1 => ?_)
    · have h := h.1 c1
      refine lv_iload_n hx hb dX12_balesOn_26 rfl (lv_at hl 2 rfl) ?_
      exact W.iret (v := x2) hx hb hr (fun t ht hWm => ⟨⟨_, M, rfl, h, tq_pe ht hW⟩, hS.F ht⟩) hS.2.2 dX12_balesOn_27
    · have h := h.2 c1
      refine lv_iload_n hx hb dX12_balesOn_9 rfl (lv_at hl 2 rfl) ?_
      refine lv_aload_n hx hb dX12_balesOn_10 rfl (lv_at hl 0 rfl) ?_
      refine tqm_get (v := .ref (ad 227 0)) hx hb hw tq_inX12 hown hK hW (by decide) (tq_mk_64 (by decide)) rfl 27 (by decide) (hw _ tw_1435) (fun _ h9 => h9) rfl dX12_balesOn_11 ?_
      refine lv_iload_n hx hb dX12_balesOn_14 rfl (lv_at hl 1 rfl) ?_
      obtain ⟨b2, h⟩ := h
      refine tqm_aald (jn := x1.toNatClampNeg) (v := .ref (ad 127 x1.toNatClampNeg)) hx hb hK hW (by decide) (tq_mk_227 (by decide)) 2 rfl rfl b2 rfl rfl dX12_balesOn_15 ?_
      refine lv_iload_n hx hb dX12_balesOn_16 rfl (lv_at hl 3 rfl) ?_
      obtain ⟨b3, h⟩ := h
      refine tqm_iald (jn := x3.toNatClampNeg) hx hb hK hW (by decide) (tq_mk_127 (tq_lt b2)) b3 rfl dX12_balesOn_17 ?_
      refine lv_iadd hx hb dX12_balesOn_18 ?_
      refine lv_istore_n (lv' := [(2, .int (x2 + (M 127 x1.toNatClampNeg x3.toNatClampNeg))), (0, .ref (ad 64 0)), (1, .int x1), (3, .int x3)]) hx hb dX12_balesOn_19 rfl hl (by decide) rfl (fun ls hl => ?_)
      refine lv_iinc (v := x3 + 1) (lv' := [(3, .int (x3 + 1)), (2, .int (x2 + (M 127 x1.toNatClampNeg x3.toNatClampNeg))), (0, .ref (ad 64 0)), (1, .int x1)]) hx hb dX12_balesOn_20 hl (k := 3) rfl rfl (by decide) rfl (fun ls hl => ?_)
      refine lv_goto (tgt := 4) hx hb dX12_balesOn_23 (by decide) ?_
      exact ih _ _ _ _ _ _ _ h hW hS (lv_sub hl [2, 3, 1, 0] rfl)
set_option maxHeartbeats 4000000 in
set_option maxRecDepth 100000 in
theorem kX12_balesOn {post : tq_St → Int32 → Prop} {M : tq_St} {p0 : Int32} (h : wpX12_balesOn post M p0) : tq_mI l yX12_balesOn (tq_ws yX12_balesOn cX12_balesOn 4 (some .int)) 0 0 D cy z H0 ad N S M [.ref (ad 64 0), .int p0] post := by
  unfold wpX12_balesOn at h
  refine Met.ofW (cc := cX12_balesOn) (maxL := 4) (ret := (some .int)) (by decide) rfl ?_
  intro p e s m args below meth c s₁ B hml hv
  obtain ⟨rfl, hW, hK, hG⟩ := hv
  have hx := B.exec
  have hb := B.bytes
  have hr := B.returns
  have hts := atoms_spec (ws := (tq_ws yX12_balesOn cX12_balesOn 4 (some .int))) B.pre
  have hw : ∀ w ∈ tq_W, w.before _ s = true := fun w h => hts w (List.mem_cons_of_mem _ h)
  have hown : s.vm.findClass RX12 = some m.cls := findClass_of_methodNamed B.named
  have hlocks := B.notSynchronized
  have C : tq_At p s m meth c [.ref (ad 64 0), .int p0].toArray cX12_balesOn 4 ((some .int)) ((tq_ws yX12_balesOn cX12_balesOn 4 (some .int))) RX12 D cy z ad := ⟨hx, hb, hr, hml, hown, hts, hlocks, hK, hG⟩
  have hS : va_S (fun q => z ≤ q) s.heap s.heap [] := va_S.rf
  have hl := lv_entry ([.ref (ad 64 0), .int p0]) (n := 4) (Nat.le_of_ble_eq_true rfl)
  rw [lg_entry_eq]
  generalize (lg_sl ([.ref (ad 64 0), .int p0]) ++ List.replicate (4 - (lg_sl ([.ref (ad 64 0), .int p0])).length) Slot.unset).toArray = ls at hl ⊢
  have hl : lv_has ls 4 [(0, .ref (ad 64 0)), (1, .int p0)] := hl
  have hW : tq_wd D cy z H0 ad N (tq_mix S M) s.heap := hW
  refine lv_iconst (v := 0) hx hb dX12_balesOn_0 (by decide) ?_
  refine lv_istore_n (lv' := [(2, .int 0), (0, .ref (ad 64 0)), (1, .int p0)]) hx hb dX12_balesOn_1 rfl hl (by decide) rfl (fun ls hl => ?_)
  refine lv_iconst (v := 0) hx hb dX12_balesOn_2 (by decide) ?_
  refine lv_istore_n (lv' := [(3, .int 0), (2, .int 0), (0, .ref (ad 64 0)), (1, .int p0)]) hx hb dX12_balesOn_3 rfl hl (by decide) rfl (fun ls hl => ?_)
  obtain ⟨nq, h⟩ := h
  exact bX12_balesOn_4 C  nq _ _ _ _ _ _ _ h hW hS (lv_sub hl [2, 3, 1, 0] rfl)
-- ownOn
def wbX12_ownOn_4 (post : tq_St → Int32 → Prop) : Nat → tq_St → Int32 → Int32 → Int32 → Prop
  | 0, _, _, _, _ => False
  | n + 1, M, x1, x2, x3 =>
    ((M 64 0 6) ≤ x3 → (post M x2)) ∧ (¬ (M 64 0 6) ≤ x3 → (vp_in x1 8 ∧ (vp_in x3 20 ∧ ((wbX12_ownOn_4 post n) M x1 (x2 + (M 129 x1.toNatClampNeg x3.toNatClampNeg)) (x3 + 1)))))
def wpX12_ownOn (post : tq_St → Int32 → Prop) (M : tq_St) (p0 : Int32) : Prop :=
  ∃ nq, wbX12_ownOn_4 post nq M p0 0 0
set_option maxHeartbeats 4000000 in
set_option maxRecDepth 100000 in
theorem bX12_ownOn_4 {p : Program} {e : Env} {s : State} {m : MethodId} {args : Array Value} {below : List Frame} {meth : Method} {c : Code} {post : tq_St → Int32 → Prop} (C : tq_At p s m meth c args cX12_ownOn 4 ((some .int)) ((tq_ws yX12_ownOn cX12_ownOn 4 (some .int))) RX12 D cy z ad)  : ∀ n : Nat, ∀ (M : tq_St) (x1 : Int32) (x2 : Int32) (x3 : Int32) (H : Heap) (locs : List Loc) (ls : Array Slot), wbX12_ownOn_4 post   n M x1 x2 x3 → tq_wd D cy z H0 ad N (tq_mix S M) H → va_S (fun q => z ≤ q) s.heap H locs → lv_has ls 4 [(0, .ref (ad 64 0)), (1, .int x1), (2, .int x2), (3, .int x3)] → W p l e (tq_rm 0 0) s m args below meth c H locs 0 0 (MQ below (va_Qi (fun r u => post u r) (tq_P D cy z H0 ad N S) (fun q => z ≤ q)) args s 0 0 (fun q => z ≤ q)) (F0 m 4 ls []) := by
  obtain ⟨hx, hb, hr, hml, hown, hts, hlocks, hK, hG⟩ := id C
  have hw : ∀ w ∈ tq_W, w.before args s = true := fun w h => hts w (List.mem_cons_of_mem _ h)
  intro n
  induction n with
  | zero =>
    intro M x1 x2 x3 H locs ls h
    exact absurd h (by unfold wbX12_ownOn_4; exact id)
  | succ n ih =>
    intro M x1 x2 x3 H locs ls h hW hS hl
    unfold wbX12_ownOn_4 at h
    refine lv_iload_n hx hb dX12_ownOn_4 rfl (lv_at hl 3 rfl) ?_
    refine lv_aload_n hx hb dX12_ownOn_5 rfl (lv_at hl 0 rfl) ?_
    refine tqm_get (v := .int (M 64 0 6)) hx hb hw tq_inX12 hown hK hW (by decide) (tq_mk_64 (by decide)) rfl 6 (by decide) (hw _ tw_1414) (fun _ h9 => h9) rfl dX12_ownOn_6 ?_
    refine lv_icmp_ge (tgt := 29) hx hb dX12_ownOn_9 (by decide) (fun c1 => ?_) (fun c1 => ?_)
    · have h := h.1 c1
      refine lv_iload_n hx hb dX12_ownOn_29 rfl (lv_at hl 2 rfl) ?_
      exact W.iret (v := x2) hx hb hr (fun t ht hWm => ⟨⟨_, M, rfl, h, tq_pe ht hW⟩, hS.F ht⟩) hS.2.2 dX12_ownOn_30
    · have h := h.2 c1
      refine lv_iload_n hx hb dX12_ownOn_12 rfl (lv_at hl 2 rfl) ?_
      refine lv_aload_n hx hb dX12_ownOn_13 rfl (lv_at hl 0 rfl) ?_
      refine tqm_get (v := .ref (ad 229 0)) hx hb hw tq_inX12 hown hK hW (by decide) (tq_mk_64 (by decide)) rfl 29 (by decide) (hw _ tw_1437) (fun _ h9 => h9) rfl dX12_ownOn_14 ?_
      refine lv_iload_n hx hb dX12_ownOn_17 rfl (lv_at hl 1 rfl) ?_
      obtain ⟨b2, h⟩ := h
      refine tqm_aald (jn := x1.toNatClampNeg) (v := .ref (ad 129 x1.toNatClampNeg)) hx hb hK hW (by decide) (tq_mk_229 (by decide)) 2 rfl rfl b2 rfl rfl dX12_ownOn_18 ?_
      refine lv_iload_n hx hb dX12_ownOn_19 rfl (lv_at hl 3 rfl) ?_
      obtain ⟨b3, h⟩ := h
      refine tqm_iald (jn := x3.toNatClampNeg) hx hb hK hW (by decide) (tq_mk_129 (tq_lt b2)) b3 rfl dX12_ownOn_20 ?_
      refine lv_iadd hx hb dX12_ownOn_21 ?_
      refine lv_istore_n (lv' := [(2, .int (x2 + (M 129 x1.toNatClampNeg x3.toNatClampNeg))), (0, .ref (ad 64 0)), (1, .int x1), (3, .int x3)]) hx hb dX12_ownOn_22 rfl hl (by decide) rfl (fun ls hl => ?_)
      refine lv_iinc (v := x3 + 1) (lv' := [(3, .int (x3 + 1)), (2, .int (x2 + (M 129 x1.toNatClampNeg x3.toNatClampNeg))), (0, .ref (ad 64 0)), (1, .int x1)]) hx hb dX12_ownOn_23 hl (k := 3) rfl rfl (by decide) rfl (fun ls hl => ?_)
      refine lv_goto (tgt := 4) hx hb dX12_ownOn_26 (by decide) ?_
      exact ih _ _ _ _ _ _ _ h hW hS (lv_sub hl [2, 3, 1, 0] rfl)
set_option maxHeartbeats 4000000 in
set_option maxRecDepth 100000 in
theorem kX12_ownOn {post : tq_St → Int32 → Prop} {M : tq_St} {p0 : Int32} (h : wpX12_ownOn post M p0) : tq_mI l yX12_ownOn (tq_ws yX12_ownOn cX12_ownOn 4 (some .int)) 0 0 D cy z H0 ad N S M [.ref (ad 64 0), .int p0] post := by
  unfold wpX12_ownOn at h
  refine Met.ofW (cc := cX12_ownOn) (maxL := 4) (ret := (some .int)) (by decide) rfl ?_
  intro p e s m args below meth c s₁ B hml hv
  obtain ⟨rfl, hW, hK, hG⟩ := hv
  have hx := B.exec
  have hb := B.bytes
  have hr := B.returns
  have hts := atoms_spec (ws := (tq_ws yX12_ownOn cX12_ownOn 4 (some .int))) B.pre
  have hw : ∀ w ∈ tq_W, w.before _ s = true := fun w h => hts w (List.mem_cons_of_mem _ h)
  have hown : s.vm.findClass RX12 = some m.cls := findClass_of_methodNamed B.named
  have hlocks := B.notSynchronized
  have C : tq_At p s m meth c [.ref (ad 64 0), .int p0].toArray cX12_ownOn 4 ((some .int)) ((tq_ws yX12_ownOn cX12_ownOn 4 (some .int))) RX12 D cy z ad := ⟨hx, hb, hr, hml, hown, hts, hlocks, hK, hG⟩
  have hS : va_S (fun q => z ≤ q) s.heap s.heap [] := va_S.rf
  have hl := lv_entry ([.ref (ad 64 0), .int p0]) (n := 4) (Nat.le_of_ble_eq_true rfl)
  rw [lg_entry_eq]
  generalize (lg_sl ([.ref (ad 64 0), .int p0]) ++ List.replicate (4 - (lg_sl ([.ref (ad 64 0), .int p0])).length) Slot.unset).toArray = ls at hl ⊢
  have hl : lv_has ls 4 [(0, .ref (ad 64 0)), (1, .int p0)] := hl
  have hW : tq_wd D cy z H0 ad N (tq_mix S M) s.heap := hW
  refine lv_iconst (v := 0) hx hb dX12_ownOn_0 (by decide) ?_
  refine lv_istore_n (lv' := [(2, .int 0), (0, .ref (ad 64 0)), (1, .int p0)]) hx hb dX12_ownOn_1 rfl hl (by decide) rfl (fun ls hl => ?_)
  refine lv_iconst (v := 0) hx hb dX12_ownOn_2 (by decide) ?_
  refine lv_istore_n (lv' := [(3, .int 0), (2, .int 0), (0, .ref (ad 64 0)), (1, .int p0)]) hx hb dX12_ownOn_3 rfl hl (by decide) rfl (fun ls hl => ?_)
  obtain ⟨nq, h⟩ := h
  exact bX12_ownOn_4 C  nq _ _ _ _ _ _ _ h hW hS (lv_sub hl [2, 3, 1, 0] rfl)
-- free
def wpX12_free (post : tq_St → Int32 → Prop) (M : tq_St) (p0 : Int32) : Prop :=
  vp_in p0 8 ∧ (wpX12_balesOn (fun M2 r3 => wpX12_ownOn (fun M4 r5 => post M4 (((M 123 0 p0.toNatClampNeg) - r3) - r5)) M2 p0) M p0)
set_option maxHeartbeats 4000000 in
set_option maxRecDepth 100000 in
theorem kX12_free {post : tq_St → Int32 → Prop} {M : tq_St} {p0 : Int32} (h : wpX12_free post M p0) : tq_mI l yX12_free (tq_ws yX12_free cX12_free 2 (some .int)) 1 23 D cy z H0 ad N S M [.ref (ad 64 0), .int p0] post := by
  unfold wpX12_free at h
  refine Met.ofW (cc := cX12_free) (maxL := 2) (ret := (some .int)) (by decide) rfl ?_
  intro p e s m args below meth c s₁ B hml hv
  obtain ⟨rfl, hW, hK, hG⟩ := hv
  have hx := B.exec
  have hb := B.bytes
  have hr := B.returns
  have hts := atoms_spec (ws := (tq_ws yX12_free cX12_free 2 (some .int))) B.pre
  have hw : ∀ w ∈ tq_W, w.before _ s = true := fun w h => hts w (List.mem_cons_of_mem _ h)
  have hown : s.vm.findClass RX12 = some m.cls := findClass_of_methodNamed B.named
  have hlocks := B.notSynchronized
  have C : tq_At p s m meth c [.ref (ad 64 0), .int p0].toArray cX12_free 2 ((some .int)) ((tq_ws yX12_free cX12_free 2 (some .int))) RX12 D cy z ad := ⟨hx, hb, hr, hml, hown, hts, hlocks, hK, hG⟩
  have hS : va_S (fun q => z ≤ q) s.heap s.heap [] := va_S.rf
  have hl := lv_entry ([.ref (ad 64 0), .int p0]) (n := 2) (Nat.le_of_ble_eq_true rfl)
  rw [lg_entry_eq]
  generalize (lg_sl ([.ref (ad 64 0), .int p0]) ++ List.replicate (2 - (lg_sl ([.ref (ad 64 0), .int p0])).length) Slot.unset).toArray = ls at hl ⊢
  have hl : lv_has ls 2 [(0, .ref (ad 64 0)), (1, .int p0)] := hl
  have hW : tq_wd D cy z H0 ad N (tq_mix S M) s.heap := hW
  refine lv_aload_n hx hb dX12_free_0 rfl (lv_at hl 0 rfl) ?_
  refine tqm_get (v := .ref (ad 123 0)) hx hb hw tq_inX12 hown hK hW (by decide) (tq_mk_64 (by decide)) rfl 23 (by decide) (hw _ tw_1431) (fun _ h9 => h9) rfl dX12_free_1 ?_
  refine lv_iload_n hx hb dX12_free_4 rfl (lv_at hl 1 rfl) ?_
  obtain ⟨b1, h⟩ := h
  refine tqm_iald (jn := p0.toNatClampNeg) hx hb hK hW (by decide) (tq_mk_123 (by decide)) b1 rfl dX12_free_5 ?_
  refine lv_aload_n hx hb dX12_free_6 rfl (lv_at hl 0 rfl) ?_
  refine lv_iload_n hx hb dX12_free_7 rfl (lv_at hl 1 rfl) ?_
  refine tq_callVi (As := [.int p0]) (rest := [.int (M 123 0 p0.toNatClampNeg)]) (kX12_balesOn h) ⟨hx, hb, hml, hown, hts⟩ (cwV 1 hts (tq_goodV tw_1861 tw_1863 tw_81 tw_125 tw_1864) rfl rfl rfl (by decide +kernel) ⟨Nat.le_of_ble_eq_true rfl, Nat.le_of_ble_eq_true rfl⟩) hK hG hW hS rfl hl.1 rfl (Nat.le_of_ble_eq_true rfl) dX12_free_8 ⟨Nat.le_of_ble_eq_true rfl, Nat.le_of_ble_eq_true rfl⟩ (fun r3 M2 H locs h hW hS => ?_)
  refine lv_isub hx hb dX12_free_11 ?_
  refine lv_aload_n hx hb dX12_free_12 rfl (lv_at hl 0 rfl) ?_
  refine lv_iload_n hx hb dX12_free_13 rfl (lv_at hl 1 rfl) ?_
  refine tq_callVi (As := [.int p0]) (rest := [.int ((M 123 0 p0.toNatClampNeg) - r3)]) (kX12_ownOn h) ⟨hx, hb, hml, hown, hts⟩ (cwV 1 hts (tq_goodV tw_1865 tw_1867 tw_82 tw_125 tw_1868) rfl rfl rfl (by decide +kernel) ⟨Nat.le_of_ble_eq_true rfl, Nat.le_of_ble_eq_true rfl⟩) hK hG hW hS rfl hl.1 rfl (Nat.le_of_ble_eq_true rfl) dX12_free_14 ⟨Nat.le_of_ble_eq_true rfl, Nat.le_of_ble_eq_true rfl⟩ (fun r5 M4 H locs h hW hS => ?_)
  refine lv_isub hx hb dX12_free_17 ?_
  exact W.iret (v := ((M 123 0 p0.toNatClampNeg) - r3) - r5) hx hb hr (fun t ht hWm => ⟨⟨_, M4, rfl, h, tq_pe ht hW⟩, hS.F ht⟩) hS.2.2 dX12_free_18
-- stow
def wbX12_stow_16 (post : tq_St → Int32 → Prop)  (M : tq_St) : Prop :=
  post M ((-1))
def wpX12_stow (post : tq_St → Int32 → Prop) (M : tq_St) (p0 : Int32) (p1 : Int32) (p2 : Int32) : Prop :=
  wpX12_isPerson (fun M1 r2 => (r2 = 0 → (wbX12_stow_16 post M1 )) ∧ (¬ r2 = 0 → (wpX12_isShip (fun M4 r5 => (¬ r5 = 0 → (wpX12_in (fun M7 r8 => (¬ r8 = 0 → (vp_in p1 8 ∧ (vp_in p0 20 ∧ (((M7 124 0 p1.toNatClampNeg) = (M7 107 0 p0.toNatClampNeg) → (wpX12_free (fun M13 r14 => (p2 ≤ r14 → (∀ M16, M16 = tq_up M13 129 p1.toNatClampNeg p0.toNatClampNeg ((M13 129 p1.toNatClampNeg p0.toNatClampNeg) + p2) → (post M16 (M16 129 p1.toNatClampNeg p0.toNatClampNeg)))) ∧ (¬ p2 ≤ r14 → (post M13 ((-4))))) M7 p1)) ∧ (¬ (M7 124 0 p1.toNatClampNeg) = (M7 107 0 p0.toNatClampNeg) → (post M7 ((-3)))))))) ∧ (r8 = 0 → (post M7 ((-2))))) M4 p2 0 20)) ∧ (r5 = 0 → (wbX12_stow_16 post M4 ))) M1 p1))) M p0
set_option maxHeartbeats 4000000 in
set_option maxRecDepth 100000 in
theorem bX12_stow_16 {p : Program} {e : Env} {s : State} {m : MethodId} {args : Array Value} {below : List Frame} {meth : Method} {c : Code} {post : tq_St → Int32 → Prop} (C : tq_At p s m meth c args cX12_stow 4 ((some .int)) ((tq_ws yX12_stow cX12_stow 4 (some .int))) RX12 D cy z ad)  : ∀ (M : tq_St)  (H : Heap) (locs : List Loc) (ls : Array Slot), wbX12_stow_16 post   M  → tq_wd D cy z H0 ad N (tq_mix S M) H → va_S (fun q => z ≤ q) s.heap H locs → lv_has ls 4 [] → W p l e (tq_rm 2 44) s m args below meth c H locs 0 0 (MQ below (va_Qi (fun r u => post u r) (tq_P D cy z H0 ad N S) (fun q => z ≤ q)) args s 0 0 (fun q => z ≤ q)) (F0 m 16 ls []) := by
  obtain ⟨hx, hb, hr, hml, hown, hts, hlocks, hK, hG⟩ := id C
  have hw : ∀ w ∈ tq_W, w.before args s = true := fun w h => hts w (List.mem_cons_of_mem _ h)
  intro M  H locs ls h hW hS hl
  unfold wbX12_stow_16 at h
  refine lv_iconst (v := (-1)) hx hb dX12_stow_16 (by decide) ?_
  exact W.iret (v := (-1)) hx hb hr (fun t ht hWm => ⟨⟨_, M, rfl, h, tq_pe ht hW⟩, hS.F ht⟩) hS.2.2 dX12_stow_17
set_option maxHeartbeats 4000000 in
set_option maxRecDepth 100000 in
theorem kX12_stow {post : tq_St → Int32 → Prop} {M : tq_St} {p0 : Int32} {p1 : Int32} {p2 : Int32} (h : wpX12_stow post M p0 p1 p2) : tq_mI l yX12_stow (tq_ws yX12_stow cX12_stow 4 (some .int)) 2 44 D cy z H0 ad N S M [.ref (ad 64 0), .int p0, .int p1, .int p2] post := by
  unfold wpX12_stow at h
  refine Met.ofW (cc := cX12_stow) (maxL := 4) (ret := (some .int)) (by decide) rfl ?_
  intro p e s m args below meth c s₁ B hml hv
  obtain ⟨rfl, hW, hK, hG⟩ := hv
  have hx := B.exec
  have hb := B.bytes
  have hr := B.returns
  have hts := atoms_spec (ws := (tq_ws yX12_stow cX12_stow 4 (some .int))) B.pre
  have hw : ∀ w ∈ tq_W, w.before _ s = true := fun w h => hts w (List.mem_cons_of_mem _ h)
  have hown : s.vm.findClass RX12 = some m.cls := findClass_of_methodNamed B.named
  have hlocks := B.notSynchronized
  have C : tq_At p s m meth c [.ref (ad 64 0), .int p0, .int p1, .int p2].toArray cX12_stow 4 ((some .int)) ((tq_ws yX12_stow cX12_stow 4 (some .int))) RX12 D cy z ad := ⟨hx, hb, hr, hml, hown, hts, hlocks, hK, hG⟩
  have hS : va_S (fun q => z ≤ q) s.heap s.heap [] := va_S.rf
  have hl := lv_entry ([.ref (ad 64 0), .int p0, .int p1, .int p2]) (n := 4) (Nat.le_of_ble_eq_true rfl)
  rw [lg_entry_eq]
  generalize (lg_sl ([.ref (ad 64 0), .int p0, .int p1, .int p2]) ++ List.replicate (4 - (lg_sl ([.ref (ad 64 0), .int p0, .int p1, .int p2])).length) Slot.unset).toArray = ls at hl ⊢
  have hl : lv_has ls 4 [(0, .ref (ad 64 0)), (1, .int p0), (2, .int p1), (3, .int p2)] := hl
  have hW : tq_wd D cy z H0 ad N (tq_mix S M) s.heap := hW
  refine lv_aload_n hx hb dX12_stow_0 rfl (lv_at hl 0 rfl) ?_
  refine lv_iload_n hx hb dX12_stow_1 rfl (lv_at hl 1 rfl) ?_
  refine tq_callVi (As := [.int p0]) (rest := []) (kX12_isPerson h) ⟨hx, hb, hml, hown, hts⟩ (cwV 1 hts (tq_goodV tw_1688 tw_1690 tw_57 tw_125 tw_1691) rfl rfl rfl (by decide +kernel) ⟨Nat.le_of_ble_eq_true rfl, Nat.le_of_ble_eq_true rfl⟩) hK hG hW hS rfl hl.1 rfl (Nat.le_of_ble_eq_true rfl) dX12_stow_2 ⟨Nat.le_of_ble_eq_true rfl, Nat.le_of_ble_eq_true rfl⟩ (fun r2 M1 H locs h hW hS => ?_)
  refine lv_if_eq (tgt := 16) hx hb dX12_stow_5 (by decide) (fun c3 => ?_) (fun c3 => ?_)
  · have h := h.1 c3
    exact bX12_stow_16 C  _  _ _ _ h hW hS (lv_sub hl [] rfl)
  · have h := h.2 c3
    refine lv_aload_n hx hb dX12_stow_8 rfl (lv_at hl 0 rfl) ?_
    refine lv_iload_n hx hb dX12_stow_9 rfl (lv_at hl 2 rfl) ?_
    refine tq_callVi (As := [.int p1]) (rest := []) (kX12_isShip h) ⟨hx, hb, hml, hown, hts⟩ (cwV 1 hts (tq_goodV tw_1775 tw_1777 tw_69 tw_125 tw_1778) rfl rfl rfl (by decide +kernel) ⟨Nat.le_of_ble_eq_true rfl, Nat.le_of_ble_eq_true rfl⟩) hK hG hW hS rfl hl.1 rfl (Nat.le_of_ble_eq_true rfl) dX12_stow_10 ⟨Nat.le_of_ble_eq_true rfl, Nat.le_of_ble_eq_true rfl⟩ (fun r5 M4 H locs h hW hS => ?_)
    refine lv_if_ne (tgt := 18) hx hb dX12_stow_13 (by decide) (fun c6 => ?_) (fun c6 => ?_)
    · have h := h.1 c6
      refine lv_iload_n hx hb dX12_stow_18 rfl (lv_at hl 3 rfl) ?_
      refine lv_iconst (v := 0) hx hb dX12_stow_19 (by decide) ?_
      refine lv_bipush (v := 20) hx hb dX12_stow_20 (by decide) ?_
      refine tq_callSi (As := [.int p2, .int 0, .int 20]) (rest := []) (kX12_in h) ⟨hx, hb, hml, hown, hts⟩ (va_cwS 3 hts (tq_goodS tw_1648 tw_1649 tw_125 tw_1650) rfl rfl rfl (by decide +kernel) ⟨Nat.le_of_ble_eq_true rfl, Nat.le_of_ble_eq_true rfl⟩) hK hG hW hS rfl hl.1 rfl (Nat.le_of_ble_eq_true rfl) dX12_stow_22 ⟨Nat.le_of_ble_eq_true rfl, Nat.le_of_ble_eq_true rfl⟩ (fun r8 M7 H locs h hW hS => ?_)
      refine lv_if_ne (tgt := 31) hx hb dX12_stow_25 (by decide) (fun c9 => ?_) (fun c9 => ?_)
      · have h := h.1 c9
        refine lv_aload_n hx hb dX12_stow_31 rfl (lv_at hl 0 rfl) ?_
        refine tqm_get (v := .ref (ad 124 0)) hx hb hw tq_inX12 hown hK hW (by decide) (tq_mk_64 (by decide)) rfl 24 (by decide) (hw _ tw_1432) (fun _ h9 => h9) rfl dX12_stow_32 ?_
        refine lv_iload_n hx hb dX12_stow_35 rfl (lv_at hl 2 rfl) ?_
        obtain ⟨b10, h⟩ := h
        refine tqm_iald (jn := p1.toNatClampNeg) hx hb hK hW (by decide) (tq_mk_124 (by decide)) b10 rfl dX12_stow_36 ?_
        refine lv_aload_n hx hb dX12_stow_37 rfl (lv_at hl 0 rfl) ?_
        refine tqm_get (v := .ref (ad 107 0)) hx hb hw tq_inX12 hown hK hW (by decide) (tq_mk_64 (by decide)) rfl 7 (by decide) (hw _ tw_1415) (fun _ h9 => h9) rfl dX12_stow_38 ?_
        refine lv_iload_n hx hb dX12_stow_41 rfl (lv_at hl 1 rfl) ?_
        obtain ⟨b11, h⟩ := h
        refine tqm_iald (jn := p0.toNatClampNeg) hx hb hK hW (by decide) (tq_mk_107 (by decide)) b11 rfl dX12_stow_42 ?_
        refine lv_icmp_eq (tgt := 49) hx hb dX12_stow_43 (by decide) (fun c12 => ?_) (fun c12 => ?_)
        · have h := h.1 c12
          refine lv_iload_n hx hb dX12_stow_49 rfl (lv_at hl 3 rfl) ?_
          refine lv_aload_n hx hb dX12_stow_50 rfl (lv_at hl 0 rfl) ?_
          refine lv_iload_n hx hb dX12_stow_51 rfl (lv_at hl 2 rfl) ?_
          refine tq_callVi (As := [.int p1]) (rest := [.int p2]) (kX12_free h) ⟨hx, hb, hml, hown, hts⟩ (cwV 1 hts (tq_goodV tw_1857 tw_1859 tw_80 tw_125 tw_1860) rfl rfl rfl (by decide +kernel) ⟨Nat.le_of_ble_eq_true rfl, Nat.le_of_ble_eq_true rfl⟩) hK hG hW hS rfl hl.1 rfl (Nat.le_of_ble_eq_true rfl) dX12_stow_52 ⟨Nat.le_of_ble_eq_true rfl, Nat.le_of_ble_eq_true rfl⟩ (fun r14 M13 H locs h hW hS => ?_)
          refine lv_icmp_le (tgt := 61) hx hb dX12_stow_55 (by decide) (fun c15 => ?_) (fun c15 => ?_)
          · have h := h.1 c15
            refine lv_aload_n hx hb dX12_stow_61 rfl (lv_at hl 0 rfl) ?_
            refine tqm_get (v := .ref (ad 229 0)) hx hb hw tq_inX12 hown hK hW (by decide) (tq_mk_64 (by decide)) rfl 29 (by decide) (hw _ tw_1437) (fun _ h9 => h9) rfl dX12_stow_62 ?_
            refine lv_iload_n hx hb dX12_stow_65 rfl (lv_at hl 2 rfl) ?_
            refine tqm_aald (jn := p1.toNatClampNeg) (v := .ref (ad 129 p1.toNatClampNeg)) hx hb hK hW (by decide) (tq_mk_229 (by decide)) 2 rfl rfl b10 rfl rfl dX12_stow_66 ?_
            refine lv_iload_n hx hb dX12_stow_67 rfl (lv_at hl 1 rfl) ?_
            refine lv_dup2_11 hx hb dX12_stow_68 rfl rfl ?_
            refine tqm_iald (jn := p0.toNatClampNeg) hx hb hK hW (by decide) (tq_mk_129 (tq_lt b10)) b11 rfl dX12_stow_69 ?_
            refine lv_iload_n hx hb dX12_stow_70 rfl (lv_at hl 3 rfl) ?_
            refine lv_iadd hx hb dX12_stow_71 ?_
            refine tqm_iast (jn := p0.toNatClampNeg) hx hb hK hW hS (by decide) (tq_mk_129 (tq_lt b10)) b11 rfl (tq_mk_129 (tq_lt b10)) dX12_stow_72 (fun H locs hW hS => ?_)
            generalize eM16 : tq_up M13 129 p1.toNatClampNeg p0.toNatClampNeg ((M13 129 p1.toNatClampNeg p0.toNatClampNeg) + p2) = M16 at hW
            have h := h M16 eM16.symm
            refine lv_aload_n hx hb dX12_stow_73 rfl (lv_at hl 0 rfl) ?_
            refine tqm_get (v := .ref (ad 229 0)) hx hb hw tq_inX12 hown hK hW (by decide) (tq_mk_64 (by decide)) rfl 29 (by decide) (hw _ tw_1437) (fun _ h9 => h9) rfl dX12_stow_74 ?_
            refine lv_iload_n hx hb dX12_stow_77 rfl (lv_at hl 2 rfl) ?_
            refine tqm_aald (jn := p1.toNatClampNeg) (v := .ref (ad 129 p1.toNatClampNeg)) hx hb hK hW (by decide) (tq_mk_229 (by decide)) 2 rfl rfl b10 rfl rfl dX12_stow_78 ?_
            refine lv_iload_n hx hb dX12_stow_79 rfl (lv_at hl 1 rfl) ?_
            refine tqm_iald (jn := p0.toNatClampNeg) hx hb hK hW (by decide) (tq_mk_129 (tq_lt b10)) b11 rfl dX12_stow_80 ?_
            exact W.iret (v := M16 129 p1.toNatClampNeg p0.toNatClampNeg) hx hb hr (fun t ht hWm => ⟨⟨_, M16, rfl, h, tq_pe ht hW⟩, hS.F ht⟩) hS.2.2 dX12_stow_81
          · have h := h.2 c15
            refine lv_bipush (v := (-4)) hx hb dX12_stow_58 (by decide) ?_
            exact W.iret (v := (-4)) hx hb hr (fun t ht hWm => ⟨⟨_, M13, rfl, h, tq_pe ht hW⟩, hS.F ht⟩) hS.2.2 dX12_stow_60
        · have h := h.2 c12
          refine lv_bipush (v := (-3)) hx hb dX12_stow_46 (by decide) ?_
          exact W.iret (v := (-3)) hx hb hr (fun t ht hWm => ⟨⟨_, M7, rfl, h, tq_pe ht hW⟩, hS.F ht⟩) hS.2.2 dX12_stow_48
      · have h := h.2 c9
        refine lv_bipush (v := (-2)) hx hb dX12_stow_28 (by decide) ?_
        exact W.iret (v := (-2)) hx hb hr (fun t ht hWm => ⟨⟨_, M7, rfl, h, tq_pe ht hW⟩, hS.F ht⟩) hS.2.2 dX12_stow_30
    · have h := h.2 c6
      exact bX12_stow_16 C  _  _ _ _ h hW hS (lv_sub hl [] rfl)
