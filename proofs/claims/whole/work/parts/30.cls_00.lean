variable {l : Launch} {D : va_G} {cy : Nat → ClassId} {z : Nat} {H0 : Heap} {ad : Nat → Nat → Nat} {N : tq_Nn} {M : tq_St}
-- J8 newLength_cabcc
def wbJ8_newLength_cabcc_21 (N : tq_Nn) (post : tq_St → Int32 → Prop)  (S : tq_St) (x0 : Int32) (x1 : Int32) : Prop :=
  False
def wpJ8_newLength_cabcc (N : tq_Nn) (post : tq_St → Int32 → Prop) (S : tq_St) (p0 : Int32) (p1 : Int32) (p2 : Int32) : Prop :=
  ((p0 + (if p1 < p2 then p2 else p1)) ≤ ((0 : Int32)) → (wbJ8_newLength_cabcc_21 N post S p0 p1)) ∧ (¬ (p0 + (if p1 < p2 then p2 else p1)) ≤ ((0 : Int32)) → ((((2147483639)) < (p0 + (if p1 < p2 then p2 else p1)) → (wbJ8_newLength_cabcc_21 N post S p0 p1)) ∧ (¬ ((2147483639)) < (p0 + (if p1 < p2 then p2 else p1)) → (post S (p0 + (if p1 < p2 then p2 else p1))))))
set_option maxHeartbeats 4000000 in
set_option maxRecDepth 100000 in
theorem bJ8_newLength_cabcc_21 {p : Program} {e : Env} {s : State} {m : MethodId} {args : Array Value} {below : List Frame} {meth : Method} {c : Code} {post : tq_St → Int32 → Prop} (C : tq_At p s m meth c args cJ8_newLength_cabcc 4 ((some .int)) ((tq_ws yJ8_newLength_cabcc cJ8_newLength_cabcc 4 (some .int))) RJ8 D cy z ad)  : ∀ (S : tq_St) (x0 : Int32) (x1 : Int32) (H : Heap) (locs : List Loc) (ls : Array Slot), wbJ8_newLength_cabcc_21 N post   S x0 x1 → tq_wd D cy z H0 ad N (tq_mix S M) H → va_S (fun q => z ≤ q) s.heap H locs → lv_has ls 4 [(0, .int x0), (1, .int x1)] → W p l e (tq_rm 1 21) s m args below meth c H locs 0 0 (MQ below (va_Qi (fun r u => post u r) (fun u => tq_P D cy z H0 ad N u M) (fun q => z ≤ q)) args s 0 0 (fun q => z ≤ q)) (F0 m 21 ls []) := by
  obtain ⟨hx, hb, hr, hml, hown, hts, hlocks, hK, hG⟩ := id C
  have hw : ∀ w ∈ tq_W, w.before args s = true := fun w h => hts w (List.mem_cons_of_mem _ h)
  intro S x0 x1 H locs ls h hW hS hl
  unfold wbJ8_newLength_cabcc_21 at h
  refine lv_iload_n hx hb dJ8_newLength_cabcc_21 rfl (lv_at hl 0 rfl) ?_
  refine lv_iload_n hx hb dJ8_newLength_cabcc_22 rfl (lv_at hl 1 rfl) ?_
  exact h.elim
set_option maxHeartbeats 4000000 in
set_option maxRecDepth 100000 in
theorem kJ8_newLength_cabcc {post : tq_St → Int32 → Prop} {S : tq_St} {p0 : Int32} {p1 : Int32} {p2 : Int32} (h : wpJ8_newLength_cabcc N post S p0 p1 p2) : tq_sI l yJ8_newLength_cabcc (tq_ws yJ8_newLength_cabcc cJ8_newLength_cabcc 4 (some .int)) 1 21 D cy z H0 ad N M S [.int p0, .int p1, .int p2] post := by
  unfold wpJ8_newLength_cabcc at h
  refine Met.ofW (cc := cJ8_newLength_cabcc) (maxL := 4) (ret := (some .int)) (by decide) rfl ?_
  intro p e s m args below meth c s₁ B hml hv
  obtain ⟨rfl, hW, hK, hG⟩ := hv
  have hx := B.exec
  have hb := B.bytes
  have hr := B.returns
  have hts := atoms_spec (ws := (tq_ws yJ8_newLength_cabcc cJ8_newLength_cabcc 4 (some .int))) B.pre
  have hw : ∀ w ∈ tq_W, w.before _ s = true := fun w h => hts w (List.mem_cons_of_mem _ h)
  have hown : s.vm.findClass RJ8 = some m.cls := findClass_of_methodNamed B.named
  have hlocks := B.notSynchronized
  have C : tq_At p s m meth c [.int p0, .int p1, .int p2].toArray cJ8_newLength_cabcc 4 ((some .int)) ((tq_ws yJ8_newLength_cabcc cJ8_newLength_cabcc 4 (some .int))) RJ8 D cy z ad := ⟨hx, hb, hr, hml, hown, hts, hlocks, hK, hG⟩
  have hS : va_S (fun q => z ≤ q) s.heap s.heap [] := va_S.rf
  have hl := lv_entry ([.int p0, .int p1, .int p2]) (n := 4) (Nat.le_of_ble_eq_true rfl)
  rw [lg_entry_eq]
  generalize (lg_sl ([.int p0, .int p1, .int p2]) ++ List.replicate (4 - (lg_sl ([.int p0, .int p1, .int p2])).length) Slot.unset).toArray = ls at hl ⊢
  have hl : lv_has ls 4 [(0, .int p0), (1, .int p1), (2, .int p2)] := hl
  have hW : tq_wd D cy z H0 ad N (tq_mix S M) s.heap := hW
  refine lv_iload_n hx hb dJ8_newLength_cabcc_0 rfl (lv_at hl 0 rfl) ?_
  refine lv_iload_n hx hb dJ8_newLength_cabcc_1 rfl (lv_at hl 1 rfl) ?_
  refine lv_iload_n hx hb dJ8_newLength_cabcc_2 rfl (lv_at hl 2 rfl) ?_
  refine va_mmax hx hb (hml.trans hl.1.symm) hown (hw _ tw_764) (hw _ tw_660) (hw _ tw_132) (hw _ tw_661) (Nat.le_of_ble_eq_true rfl) (Nat.le_of_ble_eq_true rfl) (Nat.zero_le _) (Nat.zero_le _) dJ8_newLength_cabcc_3 ?_
  refine lv_iadd hx hb dJ8_newLength_cabcc_6 ?_
  refine lv_istore_n (lv' := [(3, .int (p0 + (if p1 < p2 then p2 else p1))), (0, .int p0), (1, .int p1), (2, .int p2)]) hx hb dJ8_newLength_cabcc_7 rfl hl (by decide) rfl (fun ls hl => ?_)
  refine lv_iconst (v := 0) hx hb dJ8_newLength_cabcc_8 (by decide) ?_
  refine lv_iload_n hx hb dJ8_newLength_cabcc_9 rfl (lv_at hl 0 rfl) ?_
  refine lv_icmp_ge (tgt := 21) hx hb dJ8_newLength_cabcc_10 (by decide) (fun c1 => ?_) (fun c1 => ?_)
  · have h := h.1 c1
    exact bJ8_newLength_cabcc_21 C  _ _ _ _ _ _ h hW hS (lv_sub hl [1, 2] rfl)
  · have h := h.2 c1
    refine lv_iload_n hx hb dJ8_newLength_cabcc_13 rfl (lv_at hl 0 rfl) ?_
    refine lv_ldc hx hb hown (hw _ tw_765) dJ8_newLength_cabcc_14 ?_
    refine lv_icmp_gt (tgt := 21) hx hb dJ8_newLength_cabcc_16 (by decide) (fun c2 => ?_) (fun c2 => ?_)
    · have h := h.1 c2
      exact bJ8_newLength_cabcc_21 C  _ _ _ _ _ _ h hW hS (lv_sub hl [1, 2] rfl)
    · have h := h.2 c2
      refine lv_iload_n hx hb dJ8_newLength_cabcc_19 rfl (lv_at hl 0 rfl) ?_
      exact W.iret (v := p0 + (if p1 < p2 then p2 else p1)) hx hb hr (fun t ht hWm => ⟨⟨_, S, rfl, h, tq_pe ht hW⟩, hS.F ht⟩) hS.2.2 dJ8_newLength_cabcc_20
-- X9 isMetBy
def wbX9_isMetBy_73 (N : tq_Nn) (post : tq_St → Int32 → Prop)  (S : tq_St) (y0 : Int32) : Prop :=
  narrow .boolean (.int y0) = .int y0 ∧ post S y0
def wbX9_isMetBy_59 (N : tq_Nn) (post : tq_St → Int32 → Prop)  (S : tq_St) (x0 : Nat) (y0 : Int32) : Prop :=
  N 11 x0 = 1 ∧ ((y0 = (S 11 x0 1) → (wbX9_isMetBy_73 N post S 0)) ∧ (¬ y0 = (S 11 x0 1) → (wbX9_isMetBy_73 N post S 1)))
def wpX9_isMetBy (N : tq_Nn) (post : tq_St → Int32 → Prop) (S : tq_St) (o : Nat) (p1 : Int32) : Prop :=
  N 11 o = 1 ∧ ((0 ≤ (S 11 o 4) → (((S 11 o 4) ≤ 0 → ((¬ p1 = (S 11 o 5) → (wbX9_isMetBy_59 N post S o 0)) ∧ (p1 = (S 11 o 5) → (wbX9_isMetBy_59 N post S o 1)))) ∧ (¬ (S 11 o 4) ≤ 0 → ((p1 ≤ (S 11 o 5) → (wbX9_isMetBy_59 N post S o 0)) ∧ (¬ p1 ≤ (S 11 o 5) → (wbX9_isMetBy_59 N post S o 1)))))) ∧ (¬ 0 ≤ (S 11 o 4) → (((S 11 o 5) ≤ p1 → (wbX9_isMetBy_59 N post S o 0)) ∧ (¬ (S 11 o 5) ≤ p1 → (wbX9_isMetBy_59 N post S o 1)))))
set_option maxHeartbeats 4000000 in
set_option maxRecDepth 100000 in
theorem bX9_isMetBy_73 {p : Program} {e : Env} {s : State} {m : MethodId} {args : Array Value} {below : List Frame} {meth : Method} {c : Code} {post : tq_St → Int32 → Prop} (C : tq_At p s m meth c args cX9_isMetBy 3 ((some .boolean)) ((tq_ws yX9_isMetBy cX9_isMetBy 3 (some .boolean))) RX9 D cy z ad)  : ∀ (S : tq_St) (y0 : Int32) (H : Heap) (locs : List Loc) (ls : Array Slot), wbX9_isMetBy_73 N post   S y0 → tq_wd D cy z H0 ad N (tq_mix S M) H → va_S (fun q => z ≤ q) s.heap H locs → lv_has ls 3 [] → W p l e (tq_rm 0 0) s m args below meth c H locs 0 0 (MQ below (va_Qi (fun r u => post u r) (fun u => tq_P D cy z H0 ad N u M) (fun q => z ≤ q)) args s 0 0 (fun q => z ≤ q)) (F0 m 73 ls [.int y0]) := by
  obtain ⟨hx, hb, hr, hml, hown, hts, hlocks, hK, hG⟩ := id C
  have hw : ∀ w ∈ tq_W, w.before args s = true := fun w h => hts w (List.mem_cons_of_mem _ h)
  intro S y0 H locs ls h hW hS hl
  unfold wbX9_isMetBy_73 at h
  obtain ⟨b9, h⟩ := h
  exact W.zret (v := y0) hx hb hr b9 (fun t ht hWm => ⟨⟨_, S, rfl, h, tq_pe ht hW⟩, hS.F ht⟩) hS.2.2 dX9_isMetBy_73
set_option maxHeartbeats 4000000 in
set_option maxRecDepth 100000 in
theorem bX9_isMetBy_59 {p : Program} {e : Env} {s : State} {m : MethodId} {args : Array Value} {below : List Frame} {meth : Method} {c : Code} {post : tq_St → Int32 → Prop} (C : tq_At p s m meth c args cX9_isMetBy 3 ((some .boolean)) ((tq_ws yX9_isMetBy cX9_isMetBy 3 (some .boolean))) RX9 D cy z ad)  : ∀ (S : tq_St) (x0 : Nat) (y0 : Int32) (H : Heap) (locs : List Loc) (ls : Array Slot), wbX9_isMetBy_59 N post   S x0 y0 → tq_wd D cy z H0 ad N (tq_mix S M) H → va_S (fun q => z ≤ q) s.heap H locs → lv_has ls 3 [(0, .ref (ad 11 x0))] → W p l e (tq_rm 0 0) s m args below meth c H locs 0 0 (MQ below (va_Qi (fun r u => post u r) (fun u => tq_P D cy z H0 ad N u M) (fun q => z ≤ q)) args s 0 0 (fun q => z ≤ q)) (F0 m 59 ls [.int y0]) := by
  obtain ⟨hx, hb, hr, hml, hown, hts, hlocks, hK, hG⟩ := id C
  have hw : ∀ w ∈ tq_W, w.before args s = true := fun w h => hts w (List.mem_cons_of_mem _ h)
  intro S x0 y0 H locs ls h hW hS hl
  unfold wbX9_isMetBy_59 at h
  refine lv_istore_n (lv' := [(2, .int y0), (0, .ref (ad 11 x0))]) hx hb dX9_isMetBy_59 rfl hl (by decide) rfl (fun ls hl => ?_)
  refine lv_iload_n hx hb dX9_isMetBy_60 rfl (lv_at hl 0 rfl) ?_
  refine lv_aload_n hx hb dX9_isMetBy_61 rfl (lv_at hl 1 rfl) ?_
  obtain ⟨b7, h⟩ := h
  refine tqc_get (v := .int (S 11 x0 1)) hx hb hw tq_inX9 hown hK hW (by decide) (tq_mk_11 b7) rfl 1 (by decide) (hw _ tw_725) (fun _ h9 => h9) rfl dX9_isMetBy_62 ?_
  refine lv_icmp_eq (tgt := 72) hx hb dX9_isMetBy_65 (by decide) (fun c8 => ?_) (fun c8 => ?_)
  · have h := h.1 c8
    refine lv_iconst (v := 0) hx hb dX9_isMetBy_72 (by decide) ?_
    exact bX9_isMetBy_73 C  _ _ _ _ _ h hW hS (lv_sub hl [] rfl)
  · have h := h.2 c8
    refine lv_iconst (v := 1) hx hb dX9_isMetBy_68 (by decide) ?_
    refine lv_goto (tgt := 73) hx hb dX9_isMetBy_69 (by decide) ?_
    exact bX9_isMetBy_73 C  _ _ _ _ _ h hW hS (lv_sub hl [] rfl)
set_option maxHeartbeats 4000000 in
set_option maxRecDepth 100000 in
theorem kX9_isMetBy {post : tq_St → Int32 → Prop} {S : tq_St} {o : Nat} {p1 : Int32} (h : wpX9_isMetBy N post S o p1) : tq_sI l yX9_isMetBy (tq_ws yX9_isMetBy cX9_isMetBy 3 (some .boolean)) 0 0 D cy z H0 ad N M S [.ref (ad 11 o), .int p1] post := by
  unfold wpX9_isMetBy at h
  refine Met.ofW (cc := cX9_isMetBy) (maxL := 3) (ret := (some .boolean)) (by decide) rfl ?_
  intro p e s m args below meth c s₁ B hml hv
  obtain ⟨rfl, hW, hK, hG⟩ := hv
  have hx := B.exec
  have hb := B.bytes
  have hr := B.returns
  have hts := atoms_spec (ws := (tq_ws yX9_isMetBy cX9_isMetBy 3 (some .boolean))) B.pre
  have hw : ∀ w ∈ tq_W, w.before _ s = true := fun w h => hts w (List.mem_cons_of_mem _ h)
  have hown : s.vm.findClass RX9 = some m.cls := findClass_of_methodNamed B.named
  have hlocks := B.notSynchronized
  have C : tq_At p s m meth c [.ref (ad 11 o), .int p1].toArray cX9_isMetBy 3 ((some .boolean)) ((tq_ws yX9_isMetBy cX9_isMetBy 3 (some .boolean))) RX9 D cy z ad := ⟨hx, hb, hr, hml, hown, hts, hlocks, hK, hG⟩
  have hS : va_S (fun q => z ≤ q) s.heap s.heap [] := va_S.rf
  have hl := lv_entry ([.ref (ad 11 o), .int p1]) (n := 3) (Nat.le_of_ble_eq_true rfl)
  rw [lg_entry_eq]
  generalize (lg_sl ([.ref (ad 11 o), .int p1]) ++ List.replicate (3 - (lg_sl ([.ref (ad 11 o), .int p1])).length) Slot.unset).toArray = ls at hl ⊢
  have hl : lv_has ls 3 [(0, .ref (ad 11 o)), (1, .int p1)] := hl
  have hW : tq_wd D cy z H0 ad N (tq_mix S M) s.heap := hW
  refine lv_aload_n hx hb dX9_isMetBy_0 rfl (lv_at hl 0 rfl) ?_
  obtain ⟨b1, h⟩ := h
  refine tqc_get (v := .int (S 11 o 4)) hx hb hw tq_inX9 hown hK hW (by decide) (tq_mk_11 b1) rfl 4 (by decide) (hw _ tw_730) (fun _ h9 => h9) rfl dX9_isMetBy_1 ?_
  refine lv_if_ge (tgt := 23) hx hb dX9_isMetBy_4 (by decide) (fun c2 => ?_) (fun c2 => ?_)
  · have h := h.1 c2
    refine lv_aload_n hx hb dX9_isMetBy_23 rfl (lv_at hl 0 rfl) ?_
    refine tqc_get (v := .int (S 11 o 4)) hx hb hw tq_inX9 hown hK hW (by decide) (tq_mk_11 b1) rfl 4 (by decide) (hw _ tw_730) (fun _ h9 => h9) rfl dX9_isMetBy_24 ?_
    refine lv_if_le (tgt := 46) hx hb dX9_isMetBy_27 (by decide) (fun c3 => ?_) (fun c3 => ?_)
    · have h := h.1 c3
      refine lv_iload_n hx hb dX9_isMetBy_46 rfl (lv_at hl 1 rfl) ?_
      refine lv_aload_n hx hb dX9_isMetBy_47 rfl (lv_at hl 0 rfl) ?_
      refine tqc_get (v := .int (S 11 o 5)) hx hb hw tq_inX9 hown hK hW (by decide) (tq_mk_11 b1) rfl 5 (by decide) (hw _ tw_731) (fun _ h9 => h9) rfl dX9_isMetBy_48 ?_
      refine lv_icmp_ne (tgt := 58) hx hb dX9_isMetBy_51 (by decide) (fun c4 => ?_) (fun c4 => ?_)
      · have h := h.1 c4
        refine lv_iconst (v := 0) hx hb dX9_isMetBy_58 (by decide) ?_
        exact bX9_isMetBy_59 C  _ _ _ _ _ _ h hW hS (lv_sub hl [0] rfl)
      · have h := h.2 c4
        refine lv_iconst (v := 1) hx hb dX9_isMetBy_54 (by decide) ?_
        refine lv_goto (tgt := 59) hx hb dX9_isMetBy_55 (by decide) ?_
        exact bX9_isMetBy_59 C  _ _ _ _ _ _ h hW hS (lv_sub hl [0] rfl)
    · have h := h.2 c3
      refine lv_iload_n hx hb dX9_isMetBy_30 rfl (lv_at hl 1 rfl) ?_
      refine lv_aload_n hx hb dX9_isMetBy_31 rfl (lv_at hl 0 rfl) ?_
      refine tqc_get (v := .int (S 11 o 5)) hx hb hw tq_inX9 hown hK hW (by decide) (tq_mk_11 b1) rfl 5 (by decide) (hw _ tw_731) (fun _ h9 => h9) rfl dX9_isMetBy_32 ?_
      refine lv_icmp_le (tgt := 42) hx hb dX9_isMetBy_35 (by decide) (fun c5 => ?_) (fun c5 => ?_)
      · have h := h.1 c5
        refine lv_iconst (v := 0) hx hb dX9_isMetBy_42 (by decide) ?_
        refine lv_goto (tgt := 59) hx hb dX9_isMetBy_43 (by decide) ?_
        exact bX9_isMetBy_59 C  _ _ _ _ _ _ h hW hS (lv_sub hl [0] rfl)
      · have h := h.2 c5
        refine lv_iconst (v := 1) hx hb dX9_isMetBy_38 (by decide) ?_
        refine lv_goto (tgt := 59) hx hb dX9_isMetBy_39 (by decide) ?_
        exact bX9_isMetBy_59 C  _ _ _ _ _ _ h hW hS (lv_sub hl [0] rfl)
  · have h := h.2 c2
    refine lv_iload_n hx hb dX9_isMetBy_7 rfl (lv_at hl 1 rfl) ?_
    refine lv_aload_n hx hb dX9_isMetBy_8 rfl (lv_at hl 0 rfl) ?_
    refine tqc_get (v := .int (S 11 o 5)) hx hb hw tq_inX9 hown hK hW (by decide) (tq_mk_11 b1) rfl 5 (by decide) (hw _ tw_731) (fun _ h9 => h9) rfl dX9_isMetBy_9 ?_
    refine lv_icmp_ge (tgt := 19) hx hb dX9_isMetBy_12 (by decide) (fun c6 => ?_) (fun c6 => ?_)
    · have h := h.1 c6
      refine lv_iconst (v := 0) hx hb dX9_isMetBy_19 (by decide) ?_
      refine lv_goto (tgt := 59) hx hb dX9_isMetBy_20 (by decide) ?_
      exact bX9_isMetBy_59 C  _ _ _ _ _ _ h hW hS (lv_sub hl [0] rfl)
    · have h := h.2 c6
      refine lv_iconst (v := 1) hx hb dX9_isMetBy_15 (by decide) ?_
      refine lv_goto (tgt := 59) hx hb dX9_isMetBy_16 (by decide) ?_
      exact bX9_isMetBy_59 C  _ _ _ _ _ _ h hW hS (lv_sub hl [0] rfl)
-- X10 joined
def wbX10_joined_29 (N : tq_Nn) (post : tq_St → Int32 → Prop)  (S : tq_St) (y0 : Int32) : Prop :=
  post S y0
def wbX10_joined_32 (N : tq_Nn) (post : tq_St → Int32 → Prop) : Nat → tq_St → Nat → Int32 → Prop
  | 0, _, _, _ => False
  | n + 1, S, x0, x1 =>
    (4 ≤ x1 → (post S 0)) ∧ (¬ 4 ≤ x1 → (N 9 x0 = 1 ∧ (vp_in x1 4 ∧ N 57 x0 = 1 ∧ (N 58 x0 = 1 ∧ (((S 57 x0 x1.toNatClampNeg) = (S 58 x0 x1.toNatClampNeg) → ((wbX10_joined_32 N post n) S x0 (x1 + 1))) ∧ (¬ (S 57 x0 x1.toNatClampNeg) = (S 58 x0 x1.toNatClampNeg) → (post S 3)))))))
def wpX10_joined (N : tq_Nn) (post : tq_St → Int32 → Prop) (S : tq_St) (o : Nat) : Prop :=
  N 9 o = 1 ∧ ((¬ (S 9 o 2) = 0 → (((S 9 o 9) = 1 → (∃ nq, wbX10_joined_32 N post nq S o 0)) ∧ (¬ (S 9 o 9) = 1 → ((¬ (S 9 o 9) = 0 → (wbX10_joined_29 N post S 2)) ∧ ((S 9 o 9) = 0 → (wbX10_joined_29 N post S 1)))))) ∧ ((S 9 o 2) = 0 → (post S ((-1)))))
set_option maxHeartbeats 4000000 in
set_option maxRecDepth 100000 in
theorem bX10_joined_29 {p : Program} {e : Env} {s : State} {m : MethodId} {args : Array Value} {below : List Frame} {meth : Method} {c : Code} {post : tq_St → Int32 → Prop} (C : tq_At p s m meth c args cX10_joined 2 ((some .int)) ((tq_ws yX10_joined cX10_joined 2 (some .int))) RX10 D cy z ad)  : ∀ (S : tq_St) (y0 : Int32) (H : Heap) (locs : List Loc) (ls : Array Slot), wbX10_joined_29 N post   S y0 → tq_wd D cy z H0 ad N (tq_mix S M) H → va_S (fun q => z ≤ q) s.heap H locs → lv_has ls 2 [] → W p l e (tq_rm 0 0) s m args below meth c H locs 0 0 (MQ below (va_Qi (fun r u => post u r) (fun u => tq_P D cy z H0 ad N u M) (fun q => z ≤ q)) args s 0 0 (fun q => z ≤ q)) (F0 m 29 ls [.int y0]) := by
  obtain ⟨hx, hb, hr, hml, hown, hts, hlocks, hK, hG⟩ := id C
  have hw : ∀ w ∈ tq_W, w.before args s = true := fun w h => hts w (List.mem_cons_of_mem _ h)
  intro S y0 H locs ls h hW hS hl
  unfold wbX10_joined_29 at h
  exact W.iret (v := y0) hx hb hr (fun t ht hWm => ⟨⟨_, S, rfl, h, tq_pe ht hW⟩, hS.F ht⟩) hS.2.2 dX10_joined_29
set_option maxHeartbeats 4000000 in
set_option maxRecDepth 100000 in
theorem bX10_joined_32 {p : Program} {e : Env} {s : State} {m : MethodId} {args : Array Value} {below : List Frame} {meth : Method} {c : Code} {post : tq_St → Int32 → Prop} (C : tq_At p s m meth c args cX10_joined 2 ((some .int)) ((tq_ws yX10_joined cX10_joined 2 (some .int))) RX10 D cy z ad)  : ∀ n : Nat, ∀ (S : tq_St) (x0 : Nat) (x1 : Int32) (H : Heap) (locs : List Loc) (ls : Array Slot), wbX10_joined_32 N post   n S x0 x1 → tq_wd D cy z H0 ad N (tq_mix S M) H → va_S (fun q => z ≤ q) s.heap H locs → lv_has ls 2 [(0, .ref (ad 9 x0)), (1, .int x1)] → W p l e (tq_rm 0 0) s m args below meth c H locs 0 0 (MQ below (va_Qi (fun r u => post u r) (fun u => tq_P D cy z H0 ad N u M) (fun q => z ≤ q)) args s 0 0 (fun q => z ≤ q)) (F0 m 32 ls []) := by
  obtain ⟨hx, hb, hr, hml, hown, hts, hlocks, hK, hG⟩ := id C
  have hw : ∀ w ∈ tq_W, w.before args s = true := fun w h => hts w (List.mem_cons_of_mem _ h)
  intro n
  induction n with
  | zero =>
    intro S x0 x1 H locs ls h
    exact absurd h (by unfold wbX10_joined_32; exact id)
  | succ n ih =>
    intro S x0 x1 H locs ls h hW hS hl
    unfold wbX10_joined_32 at h
    refine lv_iload_n hx hb dX10_joined_32 rfl (lv_at hl 1 rfl) ?_
    refine lv_iconst (v := 4) hx hb dX10_joined_33 (by decide) ?_
    refine lv_icmp_ge (tgt := 60) hx hb dX10_joined_34 (by decide) (fun c5 => ?_) (fun c5 => ?_)
    · have h := h.1 c5
      refine lv_iconst (v := 0) hx hb dX10_joined_60 (by decide) ?_
      exact W.iret (v := 0) hx hb hr (fun t ht hWm => ⟨⟨_, S, rfl, h, tq_pe ht hW⟩, hS.F ht⟩) hS.2.2 dX10_joined_61
    · have h := h.2 c5
      refine lv_aload_n hx hb dX10_joined_37 rfl (lv_at hl 0 rfl) ?_
      obtain ⟨b6, h⟩ := h
      refine tqc_get (v := .ref (ad 57 x0)) hx hb hw tq_inX10 hown hK hW (by decide) (tq_mk_9 b6) rfl 6 (by decide) (hw _ tw_998) (fun _ h9 => h9) rfl dX10_joined_38 ?_
      refine lv_iload_n hx hb dX10_joined_41 rfl (lv_at hl 1 rfl) ?_
      obtain ⟨b7, h⟩ := h
      obtain ⟨b8, h⟩ := h
      refine tqc_iald (jn := x1.toNatClampNeg) hx hb hK hW (by decide) (tq_mk_57 b8) b7 rfl dX10_joined_42 ?_
      refine lv_aload_n hx hb dX10_joined_43 rfl (lv_at hl 0 rfl) ?_
      refine tqc_get (v := .ref (ad 58 x0)) hx hb hw tq_inX10 hown hK hW (by decide) (tq_mk_9 b6) rfl 7 (by decide) (hw _ tw_1000) (fun _ h9 => h9) rfl dX10_joined_44 ?_
      refine lv_iload_n hx hb dX10_joined_47 rfl (lv_at hl 1 rfl) ?_
      obtain ⟨b9, h⟩ := h
      refine tqc_iald (jn := x1.toNatClampNeg) hx hb hK hW (by decide) (tq_mk_58 b9) b7 rfl dX10_joined_48 ?_
      refine lv_icmp_eq (tgt := 54) hx hb dX10_joined_49 (by decide) (fun c10 => ?_) (fun c10 => ?_)
      · have h := h.1 c10
        refine lv_iinc (v := x1 + 1) (lv' := [(1, .int (x1 + 1)), (0, .ref (ad 9 x0))]) hx hb dX10_joined_54 hl (k := 1) rfl rfl (by decide) rfl (fun ls hl => ?_)
        refine lv_goto (tgt := 32) hx hb dX10_joined_57 (by decide) ?_
        exact ih _ _ _ _ _ _ h hW hS (lv_sub hl [1, 0] rfl)
      · have h := h.2 c10
        refine lv_iconst (v := 3) hx hb dX10_joined_52 (by decide) ?_
        exact W.iret (v := 3) hx hb hr (fun t ht hWm => ⟨⟨_, S, rfl, h, tq_pe ht hW⟩, hS.F ht⟩) hS.2.2 dX10_joined_53
set_option maxHeartbeats 4000000 in
set_option maxRecDepth 100000 in
theorem kX10_joined {post : tq_St → Int32 → Prop} {S : tq_St} {o : Nat} (h : wpX10_joined N post S o) : tq_sI l yX10_joined (tq_ws yX10_joined cX10_joined 2 (some .int)) 0 0 D cy z H0 ad N M S [.ref (ad 9 o)] post := by
  unfold wpX10_joined at h
  refine Met.ofW (cc := cX10_joined) (maxL := 2) (ret := (some .int)) (by decide) rfl ?_
  intro p e s m args below meth c s₁ B hml hv
  obtain ⟨rfl, hW, hK, hG⟩ := hv
  have hx := B.exec
  have hb := B.bytes
  have hr := B.returns
  have hts := atoms_spec (ws := (tq_ws yX10_joined cX10_joined 2 (some .int))) B.pre
  have hw : ∀ w ∈ tq_W, w.before _ s = true := fun w h => hts w (List.mem_cons_of_mem _ h)
  have hown : s.vm.findClass RX10 = some m.cls := findClass_of_methodNamed B.named
  have hlocks := B.notSynchronized
  have C : tq_At p s m meth c [.ref (ad 9 o)].toArray cX10_joined 2 ((some .int)) ((tq_ws yX10_joined cX10_joined 2 (some .int))) RX10 D cy z ad := ⟨hx, hb, hr, hml, hown, hts, hlocks, hK, hG⟩
  have hS : va_S (fun q => z ≤ q) s.heap s.heap [] := va_S.rf
  have hl := lv_entry ([.ref (ad 9 o)]) (n := 2) (Nat.le_of_ble_eq_true rfl)
  rw [lg_entry_eq]
  generalize (lg_sl ([.ref (ad 9 o)]) ++ List.replicate (2 - (lg_sl ([.ref (ad 9 o)])).length) Slot.unset).toArray = ls at hl ⊢
  have hl : lv_has ls 2 [(0, .ref (ad 9 o))] := hl
  have hW : tq_wd D cy z H0 ad N (tq_mix S M) s.heap := hW
  refine lv_aload_n hx hb dX10_joined_0 rfl (lv_at hl 0 rfl) ?_
  obtain ⟨b1, h⟩ := h
  refine tqc_get (v := .int (S 9 o 2)) hx hb hw tq_inX10 hown hK hW (by decide) (tq_mk_9 b1) rfl 2 (by decide) (hw _ tw_990) (fun _ h9 => h9) rfl dX10_joined_1 ?_
  refine lv_if_ne (tgt := 9) hx hb dX10_joined_4 (by decide) (fun c2 => ?_) (fun c2 => ?_)
  · have h := h.1 c2
    refine lv_aload_n hx hb dX10_joined_9 rfl (lv_at hl 0 rfl) ?_
    refine tqc_get (v := .int (S 9 o 9)) hx hb hw tq_inX10 hown hK hW (by decide) (tq_mk_9 b1) rfl 9 (by decide) (hw _ tw_1003) (fun _ h9 => h9) rfl dX10_joined_10 ?_
    refine lv_iconst (v := 1) hx hb dX10_joined_13 (by decide) ?_
    refine lv_icmp_eq (tgt := 30) hx hb dX10_joined_14 (by decide) (fun c3 => ?_) (fun c3 => ?_)
    · have h := h.1 c3
      refine lv_iconst (v := 0) hx hb dX10_joined_30 (by decide) ?_
      refine lv_istore_n (lv' := [(1, .int 0), (0, .ref (ad 9 o))]) hx hb dX10_joined_31 rfl hl (by decide) rfl (fun ls hl => ?_)
      obtain ⟨nq, h⟩ := h
      exact bX10_joined_32 C  nq _ _ _ _ _ _ h hW hS (lv_sub hl [1, 0] rfl)
    · have h := h.2 c3
      refine lv_aload_n hx hb dX10_joined_17 rfl (lv_at hl 0 rfl) ?_
      refine tqc_get (v := .int (S 9 o 9)) hx hb hw tq_inX10 hown hK hW (by decide) (tq_mk_9 b1) rfl 9 (by decide) (hw _ tw_1003) (fun _ h9 => h9) rfl dX10_joined_18 ?_
      refine lv_if_ne (tgt := 28) hx hb dX10_joined_21 (by decide) (fun c4 => ?_) (fun c4 => ?_)
      · have h := h.1 c4
        refine lv_iconst (v := 2) hx hb dX10_joined_28 (by decide) ?_
        exact bX10_joined_29 C  _ _ _ _ _ h hW hS (lv_sub hl [] rfl)
      · have h := h.2 c4
        refine lv_iconst (v := 1) hx hb dX10_joined_24 (by decide) ?_
        refine lv_goto (tgt := 29) hx hb dX10_joined_25 (by decide) ?_
        exact bX10_joined_29 C  _ _ _ _ _ h hW hS (lv_sub hl [] rfl)
  · have h := h.2 c2
    refine lv_iconst (v := (-1)) hx hb dX10_joined_7 (by decide) ?_
    exact W.iret (v := (-1)) hx hb hr (fun t ht hWm => ⟨⟨_, S, rfl, h, tq_pe ht hW⟩, hS.F ht⟩) hS.2.2 dX10_joined_8
-- X7 isMissing
def wbX7_isMissing_12 (N : tq_Nn) (post : tq_St → Int32 → Prop)  (S : tq_St) (y0 : Int32) : Prop :=
  narrow .boolean (.int y0) = .int y0 ∧ post S y0
def wpX7_isMissing (N : tq_Nn) (post : tq_St → Int32 → Prop) (S : tq_St) (o : Nat) : Prop :=
  o < 3 ∧ ((0 ≤ (S 6 o 0) → (wbX7_isMissing_12 N post S 0)) ∧ (¬ 0 ≤ (S 6 o 0) → (wbX7_isMissing_12 N post S 1)))
set_option maxHeartbeats 4000000 in
set_option maxRecDepth 100000 in
theorem bX7_isMissing_12 {p : Program} {e : Env} {s : State} {m : MethodId} {args : Array Value} {below : List Frame} {meth : Method} {c : Code} {post : tq_St → Int32 → Prop} (C : tq_At p s m meth c args cX7_isMissing 1 ((some .boolean)) ((tq_ws yX7_isMissing cX7_isMissing 1 (some .boolean))) RX7 D cy z ad)  : ∀ (S : tq_St) (y0 : Int32) (H : Heap) (locs : List Loc) (ls : Array Slot), wbX7_isMissing_12 N post   S y0 → tq_wd D cy z H0 ad N (tq_mix S M) H → va_S (fun q => z ≤ q) s.heap H locs → lv_has ls 1 [] → W p l e (tq_rm 0 0) s m args below meth c H locs 0 0 (MQ below (va_Qi (fun r u => post u r) (fun u => tq_P D cy z H0 ad N u M) (fun q => z ≤ q)) args s 0 0 (fun q => z ≤ q)) (F0 m 12 ls [.int y0]) := by
  obtain ⟨hx, hb, hr, hml, hown, hts, hlocks, hK, hG⟩ := id C
  have hw : ∀ w ∈ tq_W, w.before args s = true := fun w h => hts w (List.mem_cons_of_mem _ h)
  intro S y0 H locs ls h hW hS hl
  unfold wbX7_isMissing_12 at h
  obtain ⟨b3, h⟩ := h
  exact W.zret (v := y0) hx hb hr b3 (fun t ht hWm => ⟨⟨_, S, rfl, h, tq_pe ht hW⟩, hS.F ht⟩) hS.2.2 dX7_isMissing_12
set_option maxHeartbeats 4000000 in
set_option maxRecDepth 100000 in
theorem kX7_isMissing {post : tq_St → Int32 → Prop} {S : tq_St} {o : Nat} (h : wpX7_isMissing N post S o) : tq_sI l yX7_isMissing (tq_ws yX7_isMissing cX7_isMissing 1 (some .boolean)) 0 0 D cy z H0 ad N M S [.ref (ad 6 o)] post := by
  unfold wpX7_isMissing at h
  refine Met.ofW (cc := cX7_isMissing) (maxL := 1) (ret := (some .boolean)) (by decide) rfl ?_
  intro p e s m args below meth c s₁ B hml hv
  obtain ⟨rfl, hW, hK, hG⟩ := hv
  have hx := B.exec
  have hb := B.bytes
  have hr := B.returns
  have hts := atoms_spec (ws := (tq_ws yX7_isMissing cX7_isMissing 1 (some .boolean))) B.pre
  have hw : ∀ w ∈ tq_W, w.before _ s = true := fun w h => hts w (List.mem_cons_of_mem _ h)
  have hown : s.vm.findClass RX7 = some m.cls := findClass_of_methodNamed B.named
  have hlocks := B.notSynchronized
  have C : tq_At p s m meth c [.ref (ad 6 o)].toArray cX7_isMissing 1 ((some .boolean)) ((tq_ws yX7_isMissing cX7_isMissing 1 (some .boolean))) RX7 D cy z ad := ⟨hx, hb, hr, hml, hown, hts, hlocks, hK, hG⟩
  have hS : va_S (fun q => z ≤ q) s.heap s.heap [] := va_S.rf
  have hl := lv_entry ([.ref (ad 6 o)]) (n := 1) (Nat.le_of_ble_eq_true rfl)
  rw [lg_entry_eq]
  generalize (lg_sl ([.ref (ad 6 o)]) ++ List.replicate (1 - (lg_sl ([.ref (ad 6 o)])).length) Slot.unset).toArray = ls at hl ⊢
  have hl : lv_has ls 1 [(0, .ref (ad 6 o))] := hl
  have hW : tq_wd D cy z H0 ad N (tq_mix S M) s.heap := hW
  refine lv_aload_n hx hb dX7_isMissing_0 rfl (lv_at hl 0 rfl) ?_
  obtain ⟨b1, h⟩ := h
  refine tqc_get (v := .int (S 6 o 0)) hx hb hw tq_inX7 hown hK hW (by decide) (tq_mk_6 b1) rfl 0 (by decide) (hw _ tw_322) (fun _ h9 => h9) rfl dX7_isMissing_1 ?_
  refine lv_if_ge (tgt := 11) hx hb dX7_isMissing_4 (by decide) (fun c2 => ?_) (fun c2 => ?_)
  · have h := h.1 c2
    refine lv_iconst (v := 0) hx hb dX7_isMissing_11 (by decide) ?_
    exact bX7_isMissing_12 C  _ _ _ _ _ h hW hS (lv_sub hl [] rfl)
  · have h := h.2 c2
    refine lv_iconst (v := 1) hx hb dX7_isMissing_7 (by decide) ?_
    refine lv_goto (tgt := 12) hx hb dX7_isMissing_8 (by decide) ?_
    exact bX7_isMissing_12 C  _ _ _ _ _ h hW hS (lv_sub hl [] rfl)
-- X7 become
def wpX7_become (N : tq_Nn) (post : tq_St → Prop) (S : tq_St) (o : Nat) (p1 : Int32) (p2 : Int32) : Prop :=
  o < 3 ∧ (∀ S2, S2 = tq_up S 6 o 0 p1 → ((∀ S3, S3 = tq_up S2 6 o 1 p2 → ((∀ S4, S4 = tq_cp S3 49 o (tq_fl (S3 49 o) 64 0) → (post S4))))))
set_option maxHeartbeats 4000000 in
set_option maxRecDepth 100000 in
theorem kX7_become {post : tq_St → Prop} {S : tq_St} {o : Nat} {p1 : Int32} {p2 : Int32} (h : wpX7_become N post S o p1 p2) : tq_sV l yX7_become (tq_ws yX7_become cX7_become 3 none) 1 23 D cy z H0 ad N M S [.ref (ad 6 o), .int p1, .int p2] post := by
  unfold wpX7_become at h
  refine Met.ofW (cc := cX7_become) (maxL := 3) (ret := none) (by decide) rfl ?_
  intro p e s m args below meth c s₁ B hml hv
  obtain ⟨rfl, hW, hK, hG⟩ := hv
  have hx := B.exec
  have hb := B.bytes
  have hr := B.returns
  have hts := atoms_spec (ws := (tq_ws yX7_become cX7_become 3 none)) B.pre
  have hw : ∀ w ∈ tq_W, w.before _ s = true := fun w h => hts w (List.mem_cons_of_mem _ h)
  have hown : s.vm.findClass RX7 = some m.cls := findClass_of_methodNamed B.named
  have hlocks := B.notSynchronized
  have C : tq_At p s m meth c [.ref (ad 6 o), .int p1, .int p2].toArray cX7_become 3 (none) ((tq_ws yX7_become cX7_become 3 none)) RX7 D cy z ad := ⟨hx, hb, hr, hml, hown, hts, hlocks, hK, hG⟩
  have hS : va_S (fun q => z ≤ q) s.heap s.heap [] := va_S.rf
  have hl := lv_entry ([.ref (ad 6 o), .int p1, .int p2]) (n := 3) (Nat.le_of_ble_eq_true rfl)
  rw [lg_entry_eq]
  generalize (lg_sl ([.ref (ad 6 o), .int p1, .int p2]) ++ List.replicate (3 - (lg_sl ([.ref (ad 6 o), .int p1, .int p2])).length) Slot.unset).toArray = ls at hl ⊢
  have hl : lv_has ls 3 [(0, .ref (ad 6 o)), (1, .int p1), (2, .int p2)] := hl
  have hW : tq_wd D cy z H0 ad N (tq_mix S M) s.heap := hW
  refine lv_aload_n hx hb dX7_become_0 rfl (lv_at hl 0 rfl) ?_
  refine lv_iload_n hx hb dX7_become_1 rfl (lv_at hl 1 rfl) ?_
  obtain ⟨b1, h⟩ := h
  refine tqc_put hx hb hw tq_inX7 tyX7 tyX7_ok nmX7 hown hK hW hS (by decide) (tq_mk_6 b1) rfl 0 (by decide) (hw _ tw_322) (fun _ h9 => h9) rfl rfl rfl rfl (tq_mk_6 b1) dX7_become_2 (fun H locs hW hS => ?_)
  generalize eS2 : tq_up S 6 o 0 p1 = S2 at hW
  have h := h S2 eS2.symm
  refine lv_aload_n hx hb dX7_become_5 rfl (lv_at hl 0 rfl) ?_
  refine lv_iload_n hx hb dX7_become_6 rfl (lv_at hl 2 rfl) ?_
  refine tqc_put hx hb hw tq_inX7 tyX7 tyX7_ok nmX7 hown hK hW hS (by decide) (tq_mk_6 b1) rfl 1 (by decide) (hw _ tw_324) (fun _ h9 => h9) rfl rfl rfl rfl (tq_mk_6 b1) dX7_become_7 (fun H locs hW hS => ?_)
  generalize eS3 : tq_up S2 6 o 1 p2 = S3 at hW
  have h := h S3 eS3.symm
  refine lv_aload_n hx hb dX7_become_10 rfl (lv_at hl 0 rfl) ?_
  refine tqc_get (v := .ref (ad 49 o)) hx hb hw tq_inX7 hown hK hW (by decide) (tq_mk_6 b1) rfl 2 (by decide) (hw _ tw_325) (fun _ h9 => h9) rfl dX7_become_11 ?_
  refine lv_iconst (v := 0) hx hb dX7_become_14 (by decide) ?_
  refine tqc_callSv (As := [.ref (ad 49 o), .int 0]) (rest := []) (kJ7_fill (n := 64) (post := fun u => u = tq_cp S3 49 o (tq_fl (S3 49 o) 64 0)) (by decide) (by decide) (fun f => tq_mk_49 b1) rfl) ⟨hx, hb, hml, hown, hts⟩ (va_cwS 2 hts (tq_goodS tw_1387 tw_335 tw_124 tw_336) rfl rfl rfl (by decide +kernel) ⟨(Nat.le_of_ble_eq_true rfl), (Nat.le_of_ble_eq_true rfl)⟩) hK hG hW hS rfl hl.1 rfl (Nat.le_of_ble_eq_true rfl) dX7_become_15 ⟨(Nat.le_of_ble_eq_true rfl), (Nat.le_of_ble_eq_true rfl)⟩ (fun S4 H locs q9 hW hS => ?_)
  have h := h S4 q9
  exact W.vret hx hb hr (fun t ht hWm => ⟨⟨S4, rfl, h, tq_pe ht hW⟩, hS.F ht⟩) hS.2.2 dX7_become_18
-- X7 has
def wbX7_has_23 (N : tq_Nn) (post : tq_St → Int32 → Prop)  (S : tq_St) (y0 : Int32) : Prop :=
  narrow .boolean (.int y0) = .int y0 ∧ post S y0
def wbX7_has_22 (N : tq_Nn) (post : tq_St → Int32 → Prop)  (S : tq_St) : Prop :=
  wbX7_has_23 N post S 0
def wpX7_has (N : tq_Nn) (post : tq_St → Int32 → Prop) (S : tq_St) (o : Nat) (p1 : Int32) (p2 : Int32) : Prop :=
  (p1 < 0 → (wbX7_has_22 N post S )) ∧ (¬ p1 < 0 → ((p2 < 0 → (wbX7_has_22 N post S )) ∧ (¬ p2 < 0 → (o < 3 ∧ ((((S 6 o 1) - p2) < p1 → (wbX7_has_22 N post S )) ∧ (¬ ((S 6 o 1) - p2) < p1 → (wbX7_has_23 N post S 1)))))))
set_option maxHeartbeats 4000000 in
set_option maxRecDepth 100000 in
theorem bX7_has_23 {p : Program} {e : Env} {s : State} {m : MethodId} {args : Array Value} {below : List Frame} {meth : Method} {c : Code} {post : tq_St → Int32 → Prop} (C : tq_At p s m meth c args cX7_has 3 ((some .boolean)) ((tq_ws yX7_has cX7_has 3 (some .boolean))) RX7 D cy z ad)  : ∀ (S : tq_St) (y0 : Int32) (H : Heap) (locs : List Loc) (ls : Array Slot), wbX7_has_23 N post   S y0 → tq_wd D cy z H0 ad N (tq_mix S M) H → va_S (fun q => z ≤ q) s.heap H locs → lv_has ls 3 [] → W p l e (tq_rm 0 0) s m args below meth c H locs 0 0 (MQ below (va_Qi (fun r u => post u r) (fun u => tq_P D cy z H0 ad N u M) (fun q => z ≤ q)) args s 0 0 (fun q => z ≤ q)) (F0 m 23 ls [.int y0]) := by
  obtain ⟨hx, hb, hr, hml, hown, hts, hlocks, hK, hG⟩ := id C
  have hw : ∀ w ∈ tq_W, w.before args s = true := fun w h => hts w (List.mem_cons_of_mem _ h)
  intro S y0 H locs ls h hW hS hl
  unfold wbX7_has_23 at h
  obtain ⟨b5, h⟩ := h
  exact W.zret (v := y0) hx hb hr b5 (fun t ht hWm => ⟨⟨_, S, rfl, h, tq_pe ht hW⟩, hS.F ht⟩) hS.2.2 dX7_has_23
set_option maxHeartbeats 4000000 in
set_option maxRecDepth 100000 in
theorem bX7_has_22 {p : Program} {e : Env} {s : State} {m : MethodId} {args : Array Value} {below : List Frame} {meth : Method} {c : Code} {post : tq_St → Int32 → Prop} (C : tq_At p s m meth c args cX7_has 3 ((some .boolean)) ((tq_ws yX7_has cX7_has 3 (some .boolean))) RX7 D cy z ad)  : ∀ (S : tq_St)  (H : Heap) (locs : List Loc) (ls : Array Slot), wbX7_has_22 N post   S  → tq_wd D cy z H0 ad N (tq_mix S M) H → va_S (fun q => z ≤ q) s.heap H locs → lv_has ls 3 [] → W p l e (tq_rm 0 0) s m args below meth c H locs 0 0 (MQ below (va_Qi (fun r u => post u r) (fun u => tq_P D cy z H0 ad N u M) (fun q => z ≤ q)) args s 0 0 (fun q => z ≤ q)) (F0 m 22 ls []) := by
  obtain ⟨hx, hb, hr, hml, hown, hts, hlocks, hK, hG⟩ := id C
  have hw : ∀ w ∈ tq_W, w.before args s = true := fun w h => hts w (List.mem_cons_of_mem _ h)
  intro S  H locs ls h hW hS hl
  unfold wbX7_has_22 at h
  refine lv_iconst (v := 0) hx hb dX7_has_22 (by decide) ?_
  exact bX7_has_23 C  _ _ _ _ _ h hW hS (lv_sub hl [] rfl)
set_option maxHeartbeats 4000000 in
set_option maxRecDepth 100000 in
theorem kX7_has {post : tq_St → Int32 → Prop} {S : tq_St} {o : Nat} {p1 : Int32} {p2 : Int32} (h : wpX7_has N post S o p1 p2) : tq_sI l yX7_has (tq_ws yX7_has cX7_has 3 (some .boolean)) 0 0 D cy z H0 ad N M S [.ref (ad 6 o), .int p1, .int p2] post := by
  unfold wpX7_has at h
  refine Met.ofW (cc := cX7_has) (maxL := 3) (ret := (some .boolean)) (by decide) rfl ?_
  intro p e s m args below meth c s₁ B hml hv
  obtain ⟨rfl, hW, hK, hG⟩ := hv
  have hx := B.exec
  have hb := B.bytes
  have hr := B.returns
  have hts := atoms_spec (ws := (tq_ws yX7_has cX7_has 3 (some .boolean))) B.pre
  have hw : ∀ w ∈ tq_W, w.before _ s = true := fun w h => hts w (List.mem_cons_of_mem _ h)
  have hown : s.vm.findClass RX7 = some m.cls := findClass_of_methodNamed B.named
  have hlocks := B.notSynchronized
  have C : tq_At p s m meth c [.ref (ad 6 o), .int p1, .int p2].toArray cX7_has 3 ((some .boolean)) ((tq_ws yX7_has cX7_has 3 (some .boolean))) RX7 D cy z ad := ⟨hx, hb, hr, hml, hown, hts, hlocks, hK, hG⟩
  have hS : va_S (fun q => z ≤ q) s.heap s.heap [] := va_S.rf
  have hl := lv_entry ([.ref (ad 6 o), .int p1, .int p2]) (n := 3) (Nat.le_of_ble_eq_true rfl)
  rw [lg_entry_eq]
  generalize (lg_sl ([.ref (ad 6 o), .int p1, .int p2]) ++ List.replicate (3 - (lg_sl ([.ref (ad 6 o), .int p1, .int p2])).length) Slot.unset).toArray = ls at hl ⊢
  have hl : lv_has ls 3 [(0, .ref (ad 6 o)), (1, .int p1), (2, .int p2)] := hl
  have hW : tq_wd D cy z H0 ad N (tq_mix S M) s.heap := hW
  refine lv_iload_n hx hb dX7_has_0 rfl (lv_at hl 1 rfl) ?_
  refine lv_if_lt (tgt := 22) hx hb dX7_has_1 (by decide) (fun c1 => ?_) (fun c1 => ?_)
  · have h := h.1 c1
    exact bX7_has_22 C  _  _ _ _ h hW hS (lv_sub hl [] rfl)
  · have h := h.2 c1
    refine lv_iload_n hx hb dX7_has_4 rfl (lv_at hl 2 rfl) ?_
    refine lv_if_lt (tgt := 22) hx hb dX7_has_5 (by decide) (fun c2 => ?_) (fun c2 => ?_)
    · have h := h.1 c2
      exact bX7_has_22 C  _  _ _ _ h hW hS (lv_sub hl [] rfl)
    · have h := h.2 c2
      refine lv_iload_n hx hb dX7_has_8 rfl (lv_at hl 1 rfl) ?_
      refine lv_aload_n hx hb dX7_has_9 rfl (lv_at hl 0 rfl) ?_
      obtain ⟨b3, h⟩ := h
      refine tqc_get (v := .int (S 6 o 1)) hx hb hw tq_inX7 hown hK hW (by decide) (tq_mk_6 b3) rfl 1 (by decide) (hw _ tw_324) (fun _ h9 => h9) rfl dX7_has_10 ?_
      refine lv_iload_n hx hb dX7_has_13 rfl (lv_at hl 2 rfl) ?_
      refine lv_isub hx hb dX7_has_14 ?_
      refine lv_icmp_gt (tgt := 22) hx hb dX7_has_15 (by decide) (fun c4 => ?_) (fun c4 => ?_)
      · have h := h.1 c4
        exact bX7_has_22 C  _  _ _ _ h hW hS (lv_sub hl [] rfl)
      · have h := h.2 c4
        refine lv_iconst (v := 1) hx hb dX7_has_18 (by decide) ?_
        refine lv_goto (tgt := 23) hx hb dX7_has_19 (by decide) ?_
        exact bX7_has_23 C  _ _ _ _ _ h hW hS (lv_sub hl [] rfl)
-- X7 put
def wbX7_put_44 (N : tq_Nn) (post : tq_St → Prop)  (S : tq_St) : Prop :=
  post S
def wpX7_put (N : tq_Nn) (post : tq_St → Prop) (S : tq_St) (o : Nat) (p1 : Int32) (p2 : Int32) : Prop :=
  o < 3 ∧ ((¬ (S 6 o 0) = 0 → ((¬ (S 6 o 0) = 1 → (vp_in p1 64 ∧ (∀ S5, S5 = tq_up S 49 o p1.toNatClampNeg p2 → (wbX7_put_44 N post S5 )))) ∧ ((S 6 o 0) = 1 → (vp_in p1 64 ∧ (∀ S7, S7 = tq_up S 49 o p1.toNatClampNeg p2.toInt16.toInt32 → (wbX7_put_44 N post S7 )))))) ∧ ((S 6 o 0) = 0 → (vp_in p1 64 ∧ (∀ S9, S9 = tq_up S 49 o p1.toNatClampNeg p2.toInt8.toInt32 → (wbX7_put_44 N post S9 )))))
set_option maxHeartbeats 4000000 in
set_option maxRecDepth 100000 in
theorem bX7_put_44 {p : Program} {e : Env} {s : State} {m : MethodId} {args : Array Value} {below : List Frame} {meth : Method} {c : Code} {post : tq_St → Prop} (C : tq_At p s m meth c args cX7_put 3 (none) ((tq_ws yX7_put cX7_put 3 none)) RX7 D cy z ad)  : ∀ (S : tq_St)  (H : Heap) (locs : List Loc) (ls : Array Slot), wbX7_put_44 N post   S  → tq_wd D cy z H0 ad N (tq_mix S M) H → va_S (fun q => z ≤ q) s.heap H locs → lv_has ls 3 [] → W p l e (tq_rm 0 0) s m args below meth c H locs 0 0 (MQ below (va_Qv (fun u => post u) (fun u => tq_P D cy z H0 ad N u M) (fun q => z ≤ q)) args s 0 0 (fun q => z ≤ q)) (F0 m 44 ls []) := by
  obtain ⟨hx, hb, hr, hml, hown, hts, hlocks, hK, hG⟩ := id C
  have hw : ∀ w ∈ tq_W, w.before args s = true := fun w h => hts w (List.mem_cons_of_mem _ h)
  intro S  H locs ls h hW hS hl
  unfold wbX7_put_44 at h
  exact W.vret hx hb hr (fun t ht hWm => ⟨⟨S, rfl, h, tq_pe ht hW⟩, hS.F ht⟩) hS.2.2 dX7_put_44
set_option maxHeartbeats 4000000 in
set_option maxRecDepth 100000 in
theorem kX7_put {post : tq_St → Prop} {S : tq_St} {o : Nat} {p1 : Int32} {p2 : Int32} (h : wpX7_put N post S o p1 p2) : tq_sV l yX7_put (tq_ws yX7_put cX7_put 3 none) 0 0 D cy z H0 ad N M S [.ref (ad 6 o), .int p1, .int p2] post := by
  unfold wpX7_put at h
  refine Met.ofW (cc := cX7_put) (maxL := 3) (ret := none) (by decide) rfl ?_
  intro p e s m args below meth c s₁ B hml hv
  obtain ⟨rfl, hW, hK, hG⟩ := hv
  have hx := B.exec
  have hb := B.bytes
  have hr := B.returns
  have hts := atoms_spec (ws := (tq_ws yX7_put cX7_put 3 none)) B.pre
  have hw : ∀ w ∈ tq_W, w.before _ s = true := fun w h => hts w (List.mem_cons_of_mem _ h)
  have hown : s.vm.findClass RX7 = some m.cls := findClass_of_methodNamed B.named
  have hlocks := B.notSynchronized
  have C : tq_At p s m meth c [.ref (ad 6 o), .int p1, .int p2].toArray cX7_put 3 (none) ((tq_ws yX7_put cX7_put 3 none)) RX7 D cy z ad := ⟨hx, hb, hr, hml, hown, hts, hlocks, hK, hG⟩
  have hS : va_S (fun q => z ≤ q) s.heap s.heap [] := va_S.rf
  have hl := lv_entry ([.ref (ad 6 o), .int p1, .int p2]) (n := 3) (Nat.le_of_ble_eq_true rfl)
  rw [lg_entry_eq]
  generalize (lg_sl ([.ref (ad 6 o), .int p1, .int p2]) ++ List.replicate (3 - (lg_sl ([.ref (ad 6 o), .int p1, .int p2])).length) Slot.unset).toArray = ls at hl ⊢
  have hl : lv_has ls 3 [(0, .ref (ad 6 o)), (1, .int p1), (2, .int p2)] := hl
  have hW : tq_wd D cy z H0 ad N (tq_mix S M) s.heap := hW
  refine lv_aload_n hx hb dX7_put_0 rfl (lv_at hl 0 rfl) ?_
  obtain ⟨b1, h⟩ := h
  refine tqc_get (v := .int (S 6 o 0)) hx hb hw tq_inX7 hown hK hW (by decide) (tq_mk_6 b1) rfl 0 (by decide) (hw _ tw_322) (fun _ h9 => h9) rfl dX7_put_1 ?_
  refine lv_if_ne (tgt := 18) hx hb dX7_put_4 (by decide) (fun c2 => ?_) (fun c2 => ?_)
  · have h := h.1 c2
    refine lv_aload_n hx hb dX7_put_18 rfl (lv_at hl 0 rfl) ?_
    refine tqc_get (v := .int (S 6 o 0)) hx hb hw tq_inX7 hown hK hW (by decide) (tq_mk_6 b1) rfl 0 (by decide) (hw _ tw_322) (fun _ h9 => h9) rfl dX7_put_19 ?_
    refine lv_iconst (v := 1) hx hb dX7_put_22 (by decide) ?_
    refine lv_icmp_ne (tgt := 37) hx hb dX7_put_23 (by decide) (fun c3 => ?_) (fun c3 => ?_)
    · have h := h.1 c3
      refine lv_aload_n hx hb dX7_put_37 rfl (lv_at hl 0 rfl) ?_
      refine tqc_get (v := .ref (ad 49 o)) hx hb hw tq_inX7 hown hK hW (by decide) (tq_mk_6 b1) rfl 2 (by decide) (hw _ tw_325) (fun _ h9 => h9) rfl dX7_put_38 ?_
      refine lv_iload_n hx hb dX7_put_41 rfl (lv_at hl 1 rfl) ?_
      refine lv_iload_n hx hb dX7_put_42 rfl (lv_at hl 2 rfl) ?_
      obtain ⟨b4, h⟩ := h
      refine tqc_iast (jn := p1.toNatClampNeg) hx hb hK hW hS (by decide) (tq_mk_49 b1) b4 rfl (tq_mk_49 b1) dX7_put_43 (fun H locs hW hS => ?_)
      generalize eS5 : tq_up S 49 o p1.toNatClampNeg p2 = S5 at hW
      have h := h S5 eS5.symm
      exact bX7_put_44 C  _  _ _ _ h hW hS (lv_sub hl [] rfl)
    · have h := h.2 c3
      refine lv_aload_n hx hb dX7_put_26 rfl (lv_at hl 0 rfl) ?_
      refine tqc_get (v := .ref (ad 49 o)) hx hb hw tq_inX7 hown hK hW (by decide) (tq_mk_6 b1) rfl 2 (by decide) (hw _ tw_325) (fun _ h9 => h9) rfl dX7_put_27 ?_
      refine lv_iload_n hx hb dX7_put_30 rfl (lv_at hl 1 rfl) ?_
      refine lv_iload_n hx hb dX7_put_31 rfl (lv_at hl 2 rfl) ?_
      refine lv_i2s (v := p2.toInt16.toInt32) hx hb dX7_put_32 rfl ?_
      obtain ⟨b6, h⟩ := h
      refine tqc_iast (jn := p1.toNatClampNeg) hx hb hK hW hS (by decide) (tq_mk_49 b1) b6 rfl (tq_mk_49 b1) dX7_put_33 (fun H locs hW hS => ?_)
      generalize eS7 : tq_up S 49 o p1.toNatClampNeg p2.toInt16.toInt32 = S7 at hW
      have h := h S7 eS7.symm
      refine lv_goto (tgt := 44) hx hb dX7_put_34 (by decide) ?_
      exact bX7_put_44 C  _  _ _ _ h hW hS (lv_sub hl [] rfl)
  · have h := h.2 c2
    refine lv_aload_n hx hb dX7_put_7 rfl (lv_at hl 0 rfl) ?_
    refine tqc_get (v := .ref (ad 49 o)) hx hb hw tq_inX7 hown hK hW (by decide) (tq_mk_6 b1) rfl 2 (by decide) (hw _ tw_325) (fun _ h9 => h9) rfl dX7_put_8 ?_
    refine lv_iload_n hx hb dX7_put_11 rfl (lv_at hl 1 rfl) ?_
    refine lv_iload_n hx hb dX7_put_12 rfl (lv_at hl 2 rfl) ?_
    refine lv_i2b (v := p2.toInt8.toInt32) hx hb dX7_put_13 rfl ?_
    obtain ⟨b8, h⟩ := h
    refine tqc_iast (jn := p1.toNatClampNeg) hx hb hK hW hS (by decide) (tq_mk_49 b1) b8 rfl (tq_mk_49 b1) dX7_put_14 (fun H locs hW hS => ?_)
    generalize eS9 : tq_up S 49 o p1.toNatClampNeg p2.toInt8.toInt32 = S9 at hW
    have h := h S9 eS9.symm
    refine lv_goto (tgt := 44) hx hb dX7_put_15 (by decide) ?_
    exact bX7_put_44 C  _  _ _ _ h hW hS (lv_sub hl [] rfl)
-- X6 hasRoomFor
def wbX6_hasRoomFor_16 (N : tq_Nn) (post : tq_St → Int32 → Prop)  (S : tq_St) (y0 : Int32) : Prop :=
  narrow .boolean (.int y0) = .int y0 ∧ post S y0
def wpX6_hasRoomFor (N : tq_Nn) (post : tq_St → Int32 → Prop) (S : tq_St) (p0 : Int32) : Prop :=
  ((120 - (S 3 0 1)) < p0 → (wbX6_hasRoomFor_16 N post S 0)) ∧ (¬ (120 - (S 3 0 1)) < p0 → (wbX6_hasRoomFor_16 N post S 1))
set_option maxHeartbeats 4000000 in
set_option maxRecDepth 100000 in
theorem bX6_hasRoomFor_16 {p : Program} {e : Env} {s : State} {m : MethodId} {args : Array Value} {below : List Frame} {meth : Method} {c : Code} {post : tq_St → Int32 → Prop} (C : tq_At p s m meth c args cX6_hasRoomFor 2 ((some .boolean)) ((tq_ws yX6_hasRoomFor cX6_hasRoomFor 2 (some .boolean))) RX6 D cy z ad)  : ∀ (S : tq_St) (y0 : Int32) (H : Heap) (locs : List Loc) (ls : Array Slot), wbX6_hasRoomFor_16 N post   S y0 → tq_wd D cy z H0 ad N (tq_mix S M) H → va_S (fun q => z ≤ q) s.heap H locs → lv_has ls 2 [] → W p l e (tq_rm 0 0) s m args below meth c H locs 0 0 (MQ below (va_Qi (fun r u => post u r) (fun u => tq_P D cy z H0 ad N u M) (fun q => z ≤ q)) args s 0 0 (fun q => z ≤ q)) (F0 m 16 ls [.int y0]) := by
  obtain ⟨hx, hb, hr, hml, hown, hts, hlocks, hK, hG⟩ := id C
  have hw : ∀ w ∈ tq_W, w.before args s = true := fun w h => hts w (List.mem_cons_of_mem _ h)
  intro S y0 H locs ls h hW hS hl
  unfold wbX6_hasRoomFor_16 at h
  obtain ⟨b2, h⟩ := h
  exact W.zret (v := y0) hx hb hr b2 (fun t ht hWm => ⟨⟨_, S, rfl, h, tq_pe ht hW⟩, hS.F ht⟩) hS.2.2 dX6_hasRoomFor_16
set_option maxHeartbeats 4000000 in
set_option maxRecDepth 100000 in
theorem kX6_hasRoomFor {post : tq_St → Int32 → Prop} {S : tq_St} {p0 : Int32} (h : wpX6_hasRoomFor N post S p0) : tq_sI l yX6_hasRoomFor (tq_ws yX6_hasRoomFor cX6_hasRoomFor 2 (some .boolean)) 0 0 D cy z H0 ad N M S [.ref (ad 3 0), .int p0] post := by
  unfold wpX6_hasRoomFor at h
  refine Met.ofW (cc := cX6_hasRoomFor) (maxL := 2) (ret := (some .boolean)) (by decide) rfl ?_
  intro p e s m args below meth c s₁ B hml hv
  obtain ⟨rfl, hW, hK, hG⟩ := hv
  have hx := B.exec
  have hb := B.bytes
  have hr := B.returns
  have hts := atoms_spec (ws := (tq_ws yX6_hasRoomFor cX6_hasRoomFor 2 (some .boolean))) B.pre
  have hw : ∀ w ∈ tq_W, w.before _ s = true := fun w h => hts w (List.mem_cons_of_mem _ h)
  have hown : s.vm.findClass RX6 = some m.cls := findClass_of_methodNamed B.named
  have hlocks := B.notSynchronized
  have C : tq_At p s m meth c [.ref (ad 3 0), .int p0].toArray cX6_hasRoomFor 2 ((some .boolean)) ((tq_ws yX6_hasRoomFor cX6_hasRoomFor 2 (some .boolean))) RX6 D cy z ad := ⟨hx, hb, hr, hml, hown, hts, hlocks, hK, hG⟩
  have hS : va_S (fun q => z ≤ q) s.heap s.heap [] := va_S.rf
  have hl := lv_entry ([.ref (ad 3 0), .int p0]) (n := 2) (Nat.le_of_ble_eq_true rfl)
  rw [lg_entry_eq]
  generalize (lg_sl ([.ref (ad 3 0), .int p0]) ++ List.replicate (2 - (lg_sl ([.ref (ad 3 0), .int p0])).length) Slot.unset).toArray = ls at hl ⊢
  have hl : lv_has ls 2 [(0, .ref (ad 3 0)), (1, .int p0)] := hl
  have hW : tq_wd D cy z H0 ad N (tq_mix S M) s.heap := hW
  refine lv_iload_n hx hb dX6_hasRoomFor_0 rfl (lv_at hl 1 rfl) ?_
  refine lv_bipush (v := 120) hx hb dX6_hasRoomFor_1 (by decide) ?_
  refine lv_aload_n hx hb dX6_hasRoomFor_3 rfl (lv_at hl 0 rfl) ?_
  refine tqc_get (v := .int (S 3 0 1)) hx hb hw tq_inX6 hown hK hW (by decide) (tq_mk_3 (by decide)) rfl 1 (by decide) (hw _ tw_185) (fun _ h9 => h9) rfl dX6_hasRoomFor_4 ?_
  refine lv_isub hx hb dX6_hasRoomFor_7 ?_
  refine lv_icmp_gt (tgt := 15) hx hb dX6_hasRoomFor_8 (by decide) (fun c1 => ?_) (fun c1 => ?_)
  · have h := h.1 c1
    refine lv_iconst (v := 0) hx hb dX6_hasRoomFor_15 (by decide) ?_
    exact bX6_hasRoomFor_16 C  _ _ _ _ _ h hW hS (lv_sub hl [] rfl)
  · have h := h.2 c1
    refine lv_iconst (v := 1) hx hb dX6_hasRoomFor_11 (by decide) ?_
    refine lv_goto (tgt := 16) hx hb dX6_hasRoomFor_12 (by decide) ?_
    exact bX6_hasRoomFor_16 C  _ _ _ _ _ h hW hS (lv_sub hl [] rfl)
-- X6 append
def wbX6_append_33 (N : tq_Nn) (post : tq_St → Prop)  (S : tq_St) : Prop :=
  post S
def wpX6_append (N : tq_Nn) (post : tq_St → Prop) (S : tq_St) (p0 : Int32) : Prop :=
  (120 ≤ (S 3 0 1) → (wbX6_append_33 N post S )) ∧ (¬ 120 ≤ (S 3 0 1) → (vp_in (S 3 0 1) 120 ∧ (∀ S3, S3 = tq_up S 41 0 ((S 3 0 1).toNatClampNeg) (p0 &&& 255) → ((∀ S4, S4 = tq_up S3 3 0 1 ((S3 3 0 1) + 1) → (wbX6_append_33 N post S4 ))))))
set_option maxHeartbeats 4000000 in
set_option maxRecDepth 100000 in
theorem bX6_append_33 {p : Program} {e : Env} {s : State} {m : MethodId} {args : Array Value} {below : List Frame} {meth : Method} {c : Code} {post : tq_St → Prop} (C : tq_At p s m meth c args cX6_append 2 (none) ((tq_ws yX6_append cX6_append 2 none)) RX6 D cy z ad)  : ∀ (S : tq_St)  (H : Heap) (locs : List Loc) (ls : Array Slot), wbX6_append_33 N post   S  → tq_wd D cy z H0 ad N (tq_mix S M) H → va_S (fun q => z ≤ q) s.heap H locs → lv_has ls 2 [] → W p l e (tq_rm 0 0) s m args below meth c H locs 0 0 (MQ below (va_Qv (fun u => post u) (fun u => tq_P D cy z H0 ad N u M) (fun q => z ≤ q)) args s 0 0 (fun q => z ≤ q)) (F0 m 33 ls []) := by
  obtain ⟨hx, hb, hr, hml, hown, hts, hlocks, hK, hG⟩ := id C
  have hw : ∀ w ∈ tq_W, w.before args s = true := fun w h => hts w (List.mem_cons_of_mem _ h)
  intro S  H locs ls h hW hS hl
  unfold wbX6_append_33 at h
  exact W.vret hx hb hr (fun t ht hWm => ⟨⟨S, rfl, h, tq_pe ht hW⟩, hS.F ht⟩) hS.2.2 dX6_append_33
set_option maxHeartbeats 4000000 in
set_option maxRecDepth 100000 in
theorem kX6_append {post : tq_St → Prop} {S : tq_St} {p0 : Int32} (h : wpX6_append N post S p0) : tq_sV l yX6_append (tq_ws yX6_append cX6_append 2 none) 0 0 D cy z H0 ad N M S [.ref (ad 3 0), .int p0] post := by
  unfold wpX6_append at h
  refine Met.ofW (cc := cX6_append) (maxL := 2) (ret := none) (by decide) rfl ?_
  intro p e s m args below meth c s₁ B hml hv
  obtain ⟨rfl, hW, hK, hG⟩ := hv
  have hx := B.exec
  have hb := B.bytes
  have hr := B.returns
  have hts := atoms_spec (ws := (tq_ws yX6_append cX6_append 2 none)) B.pre
  have hw : ∀ w ∈ tq_W, w.before _ s = true := fun w h => hts w (List.mem_cons_of_mem _ h)
  have hown : s.vm.findClass RX6 = some m.cls := findClass_of_methodNamed B.named
  have hlocks := B.notSynchronized
  have C : tq_At p s m meth c [.ref (ad 3 0), .int p0].toArray cX6_append 2 (none) ((tq_ws yX6_append cX6_append 2 none)) RX6 D cy z ad := ⟨hx, hb, hr, hml, hown, hts, hlocks, hK, hG⟩
  have hS : va_S (fun q => z ≤ q) s.heap s.heap [] := va_S.rf
  have hl := lv_entry ([.ref (ad 3 0), .int p0]) (n := 2) (Nat.le_of_ble_eq_true rfl)
  rw [lg_entry_eq]
  generalize (lg_sl ([.ref (ad 3 0), .int p0]) ++ List.replicate (2 - (lg_sl ([.ref (ad 3 0), .int p0])).length) Slot.unset).toArray = ls at hl ⊢
  have hl : lv_has ls 2 [(0, .ref (ad 3 0)), (1, .int p0)] := hl
  have hW : tq_wd D cy z H0 ad N (tq_mix S M) s.heap := hW
  refine lv_aload_n hx hb dX6_append_0 rfl (lv_at hl 0 rfl) ?_
  refine tqc_get (v := .int (S 3 0 1)) hx hb hw tq_inX6 hown hK hW (by decide) (tq_mk_3 (by decide)) rfl 1 (by decide) (hw _ tw_185) (fun _ h9 => h9) rfl dX6_append_1 ?_
  refine lv_bipush (v := 120) hx hb dX6_append_4 (by decide) ?_
  refine lv_icmp_ge (tgt := 33) hx hb dX6_append_6 (by decide) (fun c1 => ?_) (fun c1 => ?_)
  · have h := h.1 c1
    exact bX6_append_33 C  _  _ _ _ h hW hS (lv_sub hl [] rfl)
  · have h := h.2 c1
    refine lv_aload_n hx hb dX6_append_9 rfl (lv_at hl 0 rfl) ?_
    refine tqc_get (v := .ref (ad 41 0)) hx hb hw tq_inX6 hown hK hW (by decide) (tq_mk_3 (by decide)) rfl 0 (by decide) (hw _ tw_184) (fun _ h9 => h9) rfl dX6_append_10 ?_
    refine lv_aload_n hx hb dX6_append_13 rfl (lv_at hl 0 rfl) ?_
    refine tqc_get (v := .int (S 3 0 1)) hx hb hw tq_inX6 hown hK hW (by decide) (tq_mk_3 (by decide)) rfl 1 (by decide) (hw _ tw_185) (fun _ h9 => h9) rfl dX6_append_14 ?_
    refine lv_iload_n hx hb dX6_append_17 rfl (lv_at hl 1 rfl) ?_
    refine lv_sipush (v := 255) hx hb dX6_append_18 (by decide) ?_
    refine lv_iand hx hb dX6_append_21 ?_
    obtain ⟨b2, h⟩ := h
    refine tqc_iast (jn := (S 3 0 1).toNatClampNeg) hx hb hK hW hS (by decide) (tq_mk_41 (by decide)) b2 rfl (tq_mk_41 (by decide)) dX6_append_22 (fun H locs hW hS => ?_)
    generalize eS3 : tq_up S 41 0 ((S 3 0 1).toNatClampNeg) (p0 &&& 255) = S3 at hW
    have h := h S3 eS3.symm
    refine lv_aload_n hx hb dX6_append_23 rfl (lv_at hl 0 rfl) ?_
    refine lv_dup hx hb dX6_append_24 rfl ?_
    refine tqc_get (v := .int (S3 3 0 1)) hx hb hw tq_inX6 hown hK hW (by decide) (tq_mk_3 (by decide)) rfl 1 (by decide) (hw _ tw_185) (fun _ h9 => h9) rfl dX6_append_25 ?_
    refine lv_iconst (v := 1) hx hb dX6_append_28 (by decide) ?_
    refine lv_iadd hx hb dX6_append_29 ?_
    refine tqc_put hx hb hw tq_inX6 tyX6 tyX6_ok nmX6 hown hK hW hS (by decide) (tq_mk_3 (by decide)) rfl 1 (by decide) (hw _ tw_185) (fun _ h9 => h9) rfl rfl rfl rfl (tq_mk_3 (by decide)) dX6_append_30 (fun H locs hW hS => ?_)
    generalize eS4 : tq_up S3 3 0 1 ((S3 3 0 1) + 1) = S4 at hW
    have h := h S4 eS4.symm
    exact bX6_append_33 C  _  _ _ _ h hW hS (lv_sub hl [] rfl)
-- X6 isDigitNext
def wbX6_isDigitNext_51 (N : tq_Nn) (post : tq_St → Int32 → Prop)  (S : tq_St) (y0 : Int32) : Prop :=
  narrow .boolean (.int y0) = .int y0 ∧ post S y0
def wbX6_isDigitNext_50 (N : tq_Nn) (post : tq_St → Int32 → Prop)  (S : tq_St) : Prop :=
  wbX6_isDigitNext_51 N post S 0
def wpX6_isDigitNext (N : tq_Nn) (post : tq_St → Int32 → Prop) (S : tq_St)  : Prop :=
  (0 ≤ (S 3 0 3) → (wbX6_isDigitNext_50 N post S )) ∧ (¬ 0 ≤ (S 3 0 3) → (((S 3 0 1) ≤ (S 3 0 2) → (wbX6_isDigitNext_50 N post S )) ∧ (¬ (S 3 0 1) ≤ (S 3 0 2) → (vp_in (S 3 0 2) 120 ∧ (((S 41 0 ((S 3 0 2).toNatClampNeg)) < 48 → (wbX6_isDigitNext_50 N post S )) ∧ (¬ (S 41 0 ((S 3 0 2).toNatClampNeg)) < 48 → ((57 < (S 41 0 ((S 3 0 2).toNatClampNeg)) → (wbX6_isDigitNext_50 N post S )) ∧ (¬ 57 < (S 41 0 ((S 3 0 2).toNatClampNeg)) → (wbX6_isDigitNext_51 N post S 1)))))))))
set_option maxHeartbeats 4000000 in
set_option maxRecDepth 100000 in
theorem bX6_isDigitNext_51 {p : Program} {e : Env} {s : State} {m : MethodId} {args : Array Value} {below : List Frame} {meth : Method} {c : Code} {post : tq_St → Int32 → Prop} (C : tq_At p s m meth c args cX6_isDigitNext 1 ((some .boolean)) ((tq_ws yX6_isDigitNext cX6_isDigitNext 1 (some .boolean))) RX6 D cy z ad)  : ∀ (S : tq_St) (y0 : Int32) (H : Heap) (locs : List Loc) (ls : Array Slot), wbX6_isDigitNext_51 N post   S y0 → tq_wd D cy z H0 ad N (tq_mix S M) H → va_S (fun q => z ≤ q) s.heap H locs → lv_has ls 1 [] → W p l e (tq_rm 0 0) s m args below meth c H locs 0 0 (MQ below (va_Qi (fun r u => post u r) (fun u => tq_P D cy z H0 ad N u M) (fun q => z ≤ q)) args s 0 0 (fun q => z ≤ q)) (F0 m 51 ls [.int y0]) := by
  obtain ⟨hx, hb, hr, hml, hown, hts, hlocks, hK, hG⟩ := id C
  have hw : ∀ w ∈ tq_W, w.before args s = true := fun w h => hts w (List.mem_cons_of_mem _ h)
  intro S y0 H locs ls h hW hS hl
  unfold wbX6_isDigitNext_51 at h
  obtain ⟨b6, h⟩ := h
  exact W.zret (v := y0) hx hb hr b6 (fun t ht hWm => ⟨⟨_, S, rfl, h, tq_pe ht hW⟩, hS.F ht⟩) hS.2.2 dX6_isDigitNext_51
set_option maxHeartbeats 4000000 in
set_option maxRecDepth 100000 in
theorem bX6_isDigitNext_50 {p : Program} {e : Env} {s : State} {m : MethodId} {args : Array Value} {below : List Frame} {meth : Method} {c : Code} {post : tq_St → Int32 → Prop} (C : tq_At p s m meth c args cX6_isDigitNext 1 ((some .boolean)) ((tq_ws yX6_isDigitNext cX6_isDigitNext 1 (some .boolean))) RX6 D cy z ad)  : ∀ (S : tq_St)  (H : Heap) (locs : List Loc) (ls : Array Slot), wbX6_isDigitNext_50 N post   S  → tq_wd D cy z H0 ad N (tq_mix S M) H → va_S (fun q => z ≤ q) s.heap H locs → lv_has ls 1 [] → W p l e (tq_rm 0 0) s m args below meth c H locs 0 0 (MQ below (va_Qi (fun r u => post u r) (fun u => tq_P D cy z H0 ad N u M) (fun q => z ≤ q)) args s 0 0 (fun q => z ≤ q)) (F0 m 50 ls []) := by
  obtain ⟨hx, hb, hr, hml, hown, hts, hlocks, hK, hG⟩ := id C
  have hw : ∀ w ∈ tq_W, w.before args s = true := fun w h => hts w (List.mem_cons_of_mem _ h)
  intro S  H locs ls h hW hS hl
  unfold wbX6_isDigitNext_50 at h
  refine lv_iconst (v := 0) hx hb dX6_isDigitNext_50 (by decide) ?_
  exact bX6_isDigitNext_51 C  _ _ _ _ _ h hW hS (lv_sub hl [] rfl)
set_option maxHeartbeats 4000000 in
set_option maxRecDepth 100000 in
theorem kX6_isDigitNext {post : tq_St → Int32 → Prop} {S : tq_St}  (h : wpX6_isDigitNext N post S ) : tq_sI l yX6_isDigitNext (tq_ws yX6_isDigitNext cX6_isDigitNext 1 (some .boolean)) 0 0 D cy z H0 ad N M S [.ref (ad 3 0)] post := by
  unfold wpX6_isDigitNext at h
  refine Met.ofW (cc := cX6_isDigitNext) (maxL := 1) (ret := (some .boolean)) (by decide) rfl ?_
  intro p e s m args below meth c s₁ B hml hv
  obtain ⟨rfl, hW, hK, hG⟩ := hv
  have hx := B.exec
  have hb := B.bytes
  have hr := B.returns
  have hts := atoms_spec (ws := (tq_ws yX6_isDigitNext cX6_isDigitNext 1 (some .boolean))) B.pre
  have hw : ∀ w ∈ tq_W, w.before _ s = true := fun w h => hts w (List.mem_cons_of_mem _ h)
  have hown : s.vm.findClass RX6 = some m.cls := findClass_of_methodNamed B.named
  have hlocks := B.notSynchronized
  have C : tq_At p s m meth c [.ref (ad 3 0)].toArray cX6_isDigitNext 1 ((some .boolean)) ((tq_ws yX6_isDigitNext cX6_isDigitNext 1 (some .boolean))) RX6 D cy z ad := ⟨hx, hb, hr, hml, hown, hts, hlocks, hK, hG⟩
  have hS : va_S (fun q => z ≤ q) s.heap s.heap [] := va_S.rf
  have hl := lv_entry ([.ref (ad 3 0)]) (n := 1) (Nat.le_of_ble_eq_true rfl)
  rw [lg_entry_eq]
  generalize (lg_sl ([.ref (ad 3 0)]) ++ List.replicate (1 - (lg_sl ([.ref (ad 3 0)])).length) Slot.unset).toArray = ls at hl ⊢
  have hl : lv_has ls 1 [(0, .ref (ad 3 0))] := hl
  have hW : tq_wd D cy z H0 ad N (tq_mix S M) s.heap := hW
  refine lv_aload_n hx hb dX6_isDigitNext_0 rfl (lv_at hl 0 rfl) ?_
  refine tqc_get (v := .int (S 3 0 3)) hx hb hw tq_inX6 hown hK hW (by decide) (tq_mk_3 (by decide)) rfl 3 (by decide) (hw _ tw_188) (fun _ h9 => h9) rfl dX6_isDigitNext_1 ?_
  refine lv_if_ge (tgt := 50) hx hb dX6_isDigitNext_4 (by decide) (fun c1 => ?_) (fun c1 => ?_)
  · have h := h.1 c1
    exact bX6_isDigitNext_50 C  _  _ _ _ h hW hS (lv_sub hl [] rfl)
  · have h := h.2 c1
    refine lv_aload_n hx hb dX6_isDigitNext_7 rfl (lv_at hl 0 rfl) ?_
    refine tqc_get (v := .int (S 3 0 2)) hx hb hw tq_inX6 hown hK hW (by decide) (tq_mk_3 (by decide)) rfl 2 (by decide) (hw _ tw_187) (fun _ h9 => h9) rfl dX6_isDigitNext_8 ?_
    refine lv_aload_n hx hb dX6_isDigitNext_11 rfl (lv_at hl 0 rfl) ?_
    refine tqc_get (v := .int (S 3 0 1)) hx hb hw tq_inX6 hown hK hW (by decide) (tq_mk_3 (by decide)) rfl 1 (by decide) (hw _ tw_185) (fun _ h9 => h9) rfl dX6_isDigitNext_12 ?_
    refine lv_icmp_ge (tgt := 50) hx hb dX6_isDigitNext_15 (by decide) (fun c2 => ?_) (fun c2 => ?_)
    · have h := h.1 c2
      exact bX6_isDigitNext_50 C  _  _ _ _ h hW hS (lv_sub hl [] rfl)
    · have h := h.2 c2
      refine lv_aload_n hx hb dX6_isDigitNext_18 rfl (lv_at hl 0 rfl) ?_
      refine tqc_get (v := .ref (ad 41 0)) hx hb hw tq_inX6 hown hK hW (by decide) (tq_mk_3 (by decide)) rfl 0 (by decide) (hw _ tw_184) (fun _ h9 => h9) rfl dX6_isDigitNext_19 ?_
      refine lv_aload_n hx hb dX6_isDigitNext_22 rfl (lv_at hl 0 rfl) ?_
      refine tqc_get (v := .int (S 3 0 2)) hx hb hw tq_inX6 hown hK hW (by decide) (tq_mk_3 (by decide)) rfl 2 (by decide) (hw _ tw_187) (fun _ h9 => h9) rfl dX6_isDigitNext_23 ?_
      obtain ⟨b3, h⟩ := h
      refine tqc_iald (jn := (S 3 0 2).toNatClampNeg) hx hb hK hW (by decide) (tq_mk_41 (by decide)) b3 rfl dX6_isDigitNext_26 ?_
      refine lv_bipush (v := 48) hx hb dX6_isDigitNext_27 (by decide) ?_
      refine lv_icmp_lt (tgt := 50) hx hb dX6_isDigitNext_29 (by decide) (fun c4 => ?_) (fun c4 => ?_)
      · have h := h.1 c4
        exact bX6_isDigitNext_50 C  _  _ _ _ h hW hS (lv_sub hl [] rfl)
      · have h := h.2 c4
        refine lv_aload_n hx hb dX6_isDigitNext_32 rfl (lv_at hl 0 rfl) ?_
        refine tqc_get (v := .ref (ad 41 0)) hx hb hw tq_inX6 hown hK hW (by decide) (tq_mk_3 (by decide)) rfl 0 (by decide) (hw _ tw_184) (fun _ h9 => h9) rfl dX6_isDigitNext_33 ?_
        refine lv_aload_n hx hb dX6_isDigitNext_36 rfl (lv_at hl 0 rfl) ?_
        refine tqc_get (v := .int (S 3 0 2)) hx hb hw tq_inX6 hown hK hW (by decide) (tq_mk_3 (by decide)) rfl 2 (by decide) (hw _ tw_187) (fun _ h9 => h9) rfl dX6_isDigitNext_37 ?_
        refine tqc_iald (jn := (S 3 0 2).toNatClampNeg) hx hb hK hW (by decide) (tq_mk_41 (by decide)) b3 rfl dX6_isDigitNext_40 ?_
        refine lv_bipush (v := 57) hx hb dX6_isDigitNext_41 (by decide) ?_
        refine lv_icmp_gt (tgt := 50) hx hb dX6_isDigitNext_43 (by decide) (fun c5 => ?_) (fun c5 => ?_)
        · have h := h.1 c5
          exact bX6_isDigitNext_50 C  _  _ _ _ h hW hS (lv_sub hl [] rfl)
        · have h := h.2 c5
          refine lv_iconst (v := 1) hx hb dX6_isDigitNext_46 (by decide) ?_
          refine lv_goto (tgt := 51) hx hb dX6_isDigitNext_47 (by decide) ?_
          exact bX6_isDigitNext_51 C  _ _ _ _ _ h hW hS (lv_sub hl [] rfl)
