variable {l : Launch} {D : va_G} {cy : Nat → ClassId} {z : Nat} {H0 : Heap} {ad : Nat → Nat → Nat} {N : tq_Nn} {M : tq_St}
-- X11 divide
def wbX11_divide_25 (N : tq_Nn) (post : tq_St → Int32 → Prop)  (S : tq_St) : Prop :=
  post S ((-2))
def wbX11_divide_32 (N : tq_Nn) (post : tq_St → Int32 → Prop) : Nat → tq_St → Int32 → Int32 → Int32 → Prop
  | 0, _, _, _, _ => False
  | n + 1, S, x1, x2, x3 =>
    (8 ≤ x3 → ((∀ S7, S7 = tq_up S 2 0 1 ((S 2 0 1) - x2) → ((∀ S8, S8 = tq_up S7 1 0 16 ((S7 1 0 16) + x2) → (post S8 x2)))))) ∧ (¬ 8 ≤ x3 → (vp_in x3 8 ∧ (∀ S10, S10 = tq_up S 26 0 x3.toNatClampNeg ((S 26 0 x3.toNatClampNeg) + (((x1.toInt64 * ((S 25 0 x3.toNatClampNeg).toInt64)) / ((800))).toInt32)) → ((wbX11_divide_32 N post n) S10 x1 (x2 + (((x1.toInt64 * ((S 25 0 x3.toNatClampNeg).toInt64)) / ((800))).toInt32)) (x3 + 1)))))
def wpX11_divide (N : tq_Nn) (post : tq_St → Int32 → Prop) (S : tq_St) (p0 : Int32) : Prop :=
  (p0 < 0 → (wbX11_divide_25 N post S )) ∧ (¬ p0 < 0 → (wpX11_gain N (fun S2 r3 => (r3 < p0 → (wbX11_divide_25 N post S2 )) ∧ (¬ r3 < p0 → ((p0 ≤ (S2 2 0 1) → (∃ nq, wbX11_divide_32 N post nq S2 p0 0 0)) ∧ (¬ p0 ≤ (S2 2 0 1) → (wbX11_divide_25 N post S2 ))))) S ))
set_option maxHeartbeats 4000000 in
set_option maxRecDepth 100000 in
theorem bX11_divide_25 {p : Program} {e : Env} {s : State} {m : MethodId} {args : Array Value} {below : List Frame} {meth : Method} {c : Code} {post : tq_St → Int32 → Prop} (C : tq_At p s m meth c args cX11_divide 5 ((some .int)) ((tq_ws yX11_divide cX11_divide 5 (some .int))) RX11 D cy z ad)  : ∀ (S : tq_St)  (H : Heap) (locs : List Loc) (ls : Array Slot), wbX11_divide_25 N post   S  → tq_wd D cy z H0 ad N (tq_mix S M) H → va_S (fun q => z ≤ q) s.heap H locs → lv_has ls 5 [] → W p l e (tq_rm 3 66) s m args below meth c H locs 0 0 (MQ below (va_Qi (fun r u => post u r) (fun u => tq_P D cy z H0 ad N u M) (fun q => z ≤ q)) args s 0 0 (fun q => z ≤ q)) (F0 m 25 ls []) := by
  obtain ⟨hx, hb, hr, hml, hown, hts, hlocks, hK, hG⟩ := id C
  have hw : ∀ w ∈ tq_W, w.before args s = true := fun w h => hts w (List.mem_cons_of_mem _ h)
  intro S  H locs ls h hW hS hl
  unfold wbX11_divide_25 at h
  refine lv_bipush (v := (-2)) hx hb dX11_divide_25 (by decide) ?_
  exact W.iret (v := (-2)) hx hb hr (fun t ht hWm => ⟨⟨_, S, rfl, h, tq_pe ht hW⟩, hS.F ht⟩) hS.2.2 dX11_divide_27
set_option maxHeartbeats 4000000 in
set_option maxRecDepth 100000 in
theorem bX11_divide_32 {p : Program} {e : Env} {s : State} {m : MethodId} {args : Array Value} {below : List Frame} {meth : Method} {c : Code} {post : tq_St → Int32 → Prop} (C : tq_At p s m meth c args cX11_divide 5 ((some .int)) ((tq_ws yX11_divide cX11_divide 5 (some .int))) RX11 D cy z ad)  : ∀ n : Nat, ∀ (S : tq_St) (x1 : Int32) (x2 : Int32) (x3 : Int32) (H : Heap) (locs : List Loc) (ls : Array Slot), wbX11_divide_32 N post   n S x1 x2 x3 → tq_wd D cy z H0 ad N (tq_mix S M) H → va_S (fun q => z ≤ q) s.heap H locs → lv_has ls 5 [(0, .ref (ad 1 0)), (1, .int x1), (2, .int x2), (3, .int x3)] → W p l e (tq_rm 3 66) s m args below meth c H locs 0 0 (MQ below (va_Qi (fun r u => post u r) (fun u => tq_P D cy z H0 ad N u M) (fun q => z ≤ q)) args s 0 0 (fun q => z ≤ q)) (F0 m 32 ls []) := by
  obtain ⟨hx, hb, hr, hml, hown, hts, hlocks, hK, hG⟩ := id C
  have hw : ∀ w ∈ tq_W, w.before args s = true := fun w h => hts w (List.mem_cons_of_mem _ h)
  intro n
  induction n with
  | zero =>
    intro S x1 x2 x3 H locs ls h
    exact absurd h (by unfold wbX11_divide_32; exact id)
  | succ n ih =>
    intro S x1 x2 x3 H locs ls h hW hS hl
    unfold wbX11_divide_32 at h
    refine lv_iload_n hx hb dX11_divide_32 rfl (lv_at hl 3 rfl) ?_
    refine lv_bipush (v := 8) hx hb dX11_divide_33 (by decide) ?_
    refine lv_icmp_ge (tgt := 77) hx hb dX11_divide_35 (by decide) (fun c6 => ?_) (fun c6 => ?_)
    · have h := h.1 c6
      refine lv_aload_n hx hb dX11_divide_77 rfl (lv_at hl 0 rfl) ?_
      refine tqc_get (v := .ref (ad 12 0)) hx hb hw tq_inX11 hown hK hW (by decide) (tq_mk_1 (by decide)) rfl 1 (by decide) (hw _ tw_338) (fun _ h9 => h9) rfl dX11_divide_78 ?_
      refine lv_iconst (v := 0) hx hb dX11_divide_81 (by decide) ?_
      refine tqc_aald (jn := 0) (v := .ref (ad 2 0)) hx hb hK hW (by decide) (tq_mk_12 (by decide)) 3 rfl rfl (by unfold vp_in; decide) (by decide) rfl dX11_divide_82 ?_
      refine lv_dup hx hb dX11_divide_83 rfl ?_
      refine tqc_get (v := .int (S 2 0 1)) hx hb hw tq_inX5 hown hK hW (by decide) (tq_mk_2 (by decide)) rfl 1 (by decide) (hw _ tw_255) (fun _ h9 => h9) rfl dX11_divide_84 ?_
      refine lv_iload_n hx hb dX11_divide_87 rfl (lv_at hl 2 rfl) ?_
      refine lv_isub hx hb dX11_divide_88 ?_
      refine tqc_put hx hb hw tq_inX5 tyX5 tyX5_ok nmX5 hown hK hW hS (by decide) (tq_mk_2 (by decide)) rfl 1 (by decide) (hw _ tw_255) (fun _ h9 => h9) rfl rfl rfl rfl (tq_mk_2 (by decide)) dX11_divide_89 (fun H locs hW hS => ?_)
      generalize eS7 : tq_up S 2 0 1 ((S 2 0 1) - x2) = S7 at hW
      have h := h S7 eS7.symm
      refine lv_aload_n hx hb dX11_divide_92 rfl (lv_at hl 0 rfl) ?_
      refine lv_dup hx hb dX11_divide_93 rfl ?_
      refine tqc_get (v := .int (S7 1 0 16)) hx hb hw tq_inX11 hown hK hW (by decide) (tq_mk_1 (by decide)) rfl 16 (by decide) (hw _ tw_353) (fun _ h9 => h9) rfl dX11_divide_94 ?_
      refine lv_iload_n hx hb dX11_divide_97 rfl (lv_at hl 2 rfl) ?_
      refine lv_iadd hx hb dX11_divide_98 ?_
      refine tqc_put hx hb hw tq_inX11 tyX11 tyX11_ok nmX11 hown hK hW hS (by decide) (tq_mk_1 (by decide)) rfl 16 (by decide) (hw _ tw_353) (fun _ h9 => h9) rfl rfl rfl rfl (tq_mk_1 (by decide)) dX11_divide_99 (fun H locs hW hS => ?_)
      generalize eS8 : tq_up S7 1 0 16 ((S7 1 0 16) + x2) = S8 at hW
      have h := h S8 eS8.symm
      refine lv_iload_n hx hb dX11_divide_102 rfl (lv_at hl 2 rfl) ?_
      exact W.iret (v := x2) hx hb hr (fun t ht hWm => ⟨⟨_, S8, rfl, h, tq_pe ht hW⟩, hS.F ht⟩) hS.2.2 dX11_divide_103
    · have h := h.2 c6
      refine lv_iload_n hx hb dX11_divide_38 rfl (lv_at hl 1 rfl) ?_
      refine lv_i2l (v := x1.toInt64) hx hb dX11_divide_39 rfl ?_
      refine lv_aload_n hx hb dX11_divide_40 rfl (lv_at hl 0 rfl) ?_
      refine tqc_get (v := .ref (ad 25 0)) hx hb hw tq_inX11 hown hK hW (by decide) (tq_mk_1 (by decide)) rfl 14 (by decide) (hw _ tw_351) (fun _ h9 => h9) rfl dX11_divide_41 ?_
      refine lv_iload_n hx hb dX11_divide_44 rfl (lv_at hl 3 rfl) ?_
      obtain ⟨b9, h⟩ := h
      refine tqc_iald (jn := x3.toNatClampNeg) hx hb hK hW (by decide) (tq_mk_25 (by decide)) b9 rfl dX11_divide_45 ?_
      refine lv_i2l (v := (S 25 0 x3.toNatClampNeg).toInt64) hx hb dX11_divide_46 rfl ?_
      refine lv_lmul hx hb dX11_divide_47 ?_
      refine lv_ldc2 hx hb hown (hw _ tw_1311) dX11_divide_48 ?_
      refine lv_ldiv hx hb dX11_divide_51 (by decide) ?_
      refine lv_l2i (v := ((x1.toInt64 * ((S 25 0 x3.toNatClampNeg).toInt64)) / ((800))).toInt32) hx hb dX11_divide_52 rfl ?_
      refine lv_istore (lv' := [(4, .int (((x1.toInt64 * ((S 25 0 x3.toNatClampNeg).toInt64)) / ((800))).toInt32)), (0, .ref (ad 1 0)), (1, .int x1), (2, .int x2), (3, .int x3)]) hx hb dX11_divide_53 hl (by decide) rfl (fun ls hl => ?_)
      refine lv_aload_n hx hb dX11_divide_55 rfl (lv_at hl 1 rfl) ?_
      refine tqc_get (v := .ref (ad 26 0)) hx hb hw tq_inX11 hown hK hW (by decide) (tq_mk_1 (by decide)) rfl 15 (by decide) (hw _ tw_352) (fun _ h9 => h9) rfl dX11_divide_56 ?_
      refine lv_iload_n hx hb dX11_divide_59 rfl (lv_at hl 4 rfl) ?_
      refine lv_dup2_11 hx hb dX11_divide_60 rfl rfl ?_
      refine tqc_iald (jn := x3.toNatClampNeg) hx hb hK hW (by decide) (tq_mk_26 (by decide)) b9 rfl dX11_divide_61 ?_
      refine lv_iload hx hb dX11_divide_62 (lv_at hl 0 rfl) ?_
      refine lv_iadd hx hb dX11_divide_64 ?_
      refine tqc_iast (jn := x3.toNatClampNeg) hx hb hK hW hS (by decide) (tq_mk_26 (by decide)) b9 rfl (tq_mk_26 (by decide)) dX11_divide_65 (fun H locs hW hS => ?_)
      generalize eS10 : tq_up S 26 0 x3.toNatClampNeg ((S 26 0 x3.toNatClampNeg) + (((x1.toInt64 * ((S 25 0 x3.toNatClampNeg).toInt64)) / ((800))).toInt32)) = S10 at hW
      have h := h S10 eS10.symm
      refine lv_iload_n hx hb dX11_divide_66 rfl (lv_at hl 3 rfl) ?_
      refine lv_iload hx hb dX11_divide_67 (lv_at hl 0 rfl) ?_
      refine lv_iadd hx hb dX11_divide_69 ?_
      refine lv_istore_n (lv' := [(2, .int (x2 + (((x1.toInt64 * ((S 25 0 x3.toNatClampNeg).toInt64)) / ((800))).toInt32))), (4, .int (((x1.toInt64 * ((S 25 0 x3.toNatClampNeg).toInt64)) / ((800))).toInt32)), (0, .ref (ad 1 0)), (1, .int x1), (3, .int x3)]) hx hb dX11_divide_70 rfl hl (by decide) rfl (fun ls hl => ?_)
      refine lv_iinc (v := x3 + 1) (lv' := [(3, .int (x3 + 1)), (2, .int (x2 + (((x1.toInt64 * ((S 25 0 x3.toNatClampNeg).toInt64)) / ((800))).toInt32))), (4, .int (((x1.toInt64 * ((S 25 0 x3.toNatClampNeg).toInt64)) / ((800))).toInt32)), (0, .ref (ad 1 0)), (1, .int x1)]) hx hb dX11_divide_71 hl (k := 4) rfl rfl (by decide) rfl (fun ls hl => ?_)
      refine lv_goto (tgt := 32) hx hb dX11_divide_74 (by decide) ?_
      exact ih _ _ _ _ _ _ _ h hW hS (lv_sub hl [3, 4, 1, 0] rfl)
set_option maxHeartbeats 4000000 in
set_option maxRecDepth 100000 in
theorem kX11_divide {post : tq_St → Int32 → Prop} {S : tq_St} {p0 : Int32} (h : wpX11_divide N post S p0) : tq_sI l yX11_divide (tq_ws yX11_divide cX11_divide 5 (some .int)) 3 66 D cy z H0 ad N M S [.ref (ad 1 0), .int p0] post := by
  unfold wpX11_divide at h
  refine Met.ofW (cc := cX11_divide) (maxL := 5) (ret := (some .int)) (by decide) rfl ?_
  intro p e s m args below meth c s₁ B hml hv
  obtain ⟨rfl, hW, hK, hG⟩ := hv
  have hx := B.exec
  have hb := B.bytes
  have hr := B.returns
  have hts := atoms_spec (ws := (tq_ws yX11_divide cX11_divide 5 (some .int))) B.pre
  have hw : ∀ w ∈ tq_W, w.before _ s = true := fun w h => hts w (List.mem_cons_of_mem _ h)
  have hown : s.vm.findClass RX11 = some m.cls := findClass_of_methodNamed B.named
  have hlocks := B.notSynchronized
  have C : tq_At p s m meth c [.ref (ad 1 0), .int p0].toArray cX11_divide 5 ((some .int)) ((tq_ws yX11_divide cX11_divide 5 (some .int))) RX11 D cy z ad := ⟨hx, hb, hr, hml, hown, hts, hlocks, hK, hG⟩
  have hS : va_S (fun q => z ≤ q) s.heap s.heap [] := va_S.rf
  have hl := lv_entry ([.ref (ad 1 0), .int p0]) (n := 5) (Nat.le_of_ble_eq_true rfl)
  rw [lg_entry_eq]
  generalize (lg_sl ([.ref (ad 1 0), .int p0]) ++ List.replicate (5 - (lg_sl ([.ref (ad 1 0), .int p0])).length) Slot.unset).toArray = ls at hl ⊢
  have hl : lv_has ls 5 [(0, .ref (ad 1 0)), (1, .int p0)] := hl
  have hW : tq_wd D cy z H0 ad N (tq_mix S M) s.heap := hW
  refine lv_iload_n hx hb dX11_divide_0 rfl (lv_at hl 1 rfl) ?_
  refine lv_if_lt (tgt := 25) hx hb dX11_divide_1 (by decide) (fun c1 => ?_) (fun c1 => ?_)
  · have h := h.1 c1
    exact bX11_divide_25 C  _  _ _ _ h hW hS (lv_sub hl [] rfl)
  · have h := h.2 c1
    refine lv_iload_n hx hb dX11_divide_4 rfl (lv_at hl 1 rfl) ?_
    refine lv_aload_n hx hb dX11_divide_5 rfl (lv_at hl 0 rfl) ?_
    refine tqc_callVi (As := []) (rest := [.int p0]) (kX11_gain h) ⟨hx, hb, hml, hown, hts⟩ (cwV 0 hts (tq_goodV tw_1310 tw_1299 tw_1300 tw_115 tw_1301) rfl rfl rfl (by decide +kernel) ⟨(Nat.le_of_ble_eq_true rfl), (Nat.le_of_ble_eq_true rfl)⟩) (tq_recvC hK hW (by decide) (tq_mk_1 (by decide)) rfl) hK hG hW hS rfl hl.1 rfl (Nat.le_of_ble_eq_true rfl) dX11_divide_6 ⟨(Nat.le_of_ble_eq_true rfl), (Nat.le_of_ble_eq_true rfl)⟩ (fun r3 S2 H locs h hW hS => ?_)
    refine lv_icmp_gt (tgt := 25) hx hb dX11_divide_9 (by decide) (fun c4 => ?_) (fun c4 => ?_)
    · have h := h.1 c4
      exact bX11_divide_25 C  _  _ _ _ h hW hS (lv_sub hl [] rfl)
    · have h := h.2 c4
      refine lv_iload_n hx hb dX11_divide_12 rfl (lv_at hl 1 rfl) ?_
      refine lv_aload_n hx hb dX11_divide_13 rfl (lv_at hl 0 rfl) ?_
      refine tqc_get (v := .ref (ad 12 0)) hx hb hw tq_inX11 hown hK hW (by decide) (tq_mk_1 (by decide)) rfl 1 (by decide) (hw _ tw_338) (fun _ h9 => h9) rfl dX11_divide_14 ?_
      refine lv_iconst (v := 0) hx hb dX11_divide_17 (by decide) ?_
      refine tqc_aald (jn := 0) (v := .ref (ad 2 0)) hx hb hK hW (by decide) (tq_mk_12 (by decide)) 3 rfl rfl (by unfold vp_in; decide) (by decide) rfl dX11_divide_18 ?_
      refine tqc_get (v := .int (S2 2 0 1)) hx hb hw tq_inX5 hown hK hW (by decide) (tq_mk_2 (by decide)) rfl 1 (by decide) (hw _ tw_255) (fun _ h9 => h9) rfl dX11_divide_19 ?_
      refine lv_icmp_le (tgt := 28) hx hb dX11_divide_22 (by decide) (fun c5 => ?_) (fun c5 => ?_)
      · have h := h.1 c5
        refine lv_iconst (v := 0) hx hb dX11_divide_28 (by decide) ?_
        refine lv_istore_n (lv' := [(2, .int 0), (0, .ref (ad 1 0)), (1, .int p0)]) hx hb dX11_divide_29 rfl hl (by decide) rfl (fun ls hl => ?_)
        refine lv_iconst (v := 0) hx hb dX11_divide_30 (by decide) ?_
        refine lv_istore_n (lv' := [(3, .int 0), (2, .int 0), (0, .ref (ad 1 0)), (1, .int p0)]) hx hb dX11_divide_31 rfl hl (by decide) rfl (fun ls hl => ?_)
        obtain ⟨nq, h⟩ := h
        exact bX11_divide_32 C  nq _ _ _ _ _ _ _ h hW hS (lv_sub hl [2, 3, 1, 0] rfl)
      · have h := h.2 c5
        exact bX11_divide_25 C  _  _ _ _ h hW hS (lv_sub hl [] rfl)
-- X11 holder
def wbX11_holder_16 (N : tq_Nn) (post : tq_St → Int32 → Prop)  (S : tq_St) : Prop :=
  post S ((-1))
def wbX11_holder_37 (N : tq_Nn) (post : tq_St → Int32 → Prop)  (S : tq_St) (y0 : Int32) : Prop :=
  post S y0
def wpX11_holder (N : tq_Nn) (post : tq_St → Int32 → Prop) (S : tq_St) (p0 : Int32) (p1 : Int32) : Prop :=
  wpX11_isHolder N (fun S1 r2 => (r2 = 0 → (wbX11_holder_16 N post S1 )) ∧ (¬ r2 = 0 → (wpX11_within N (fun S4 r5 => (¬ r5 = 0 → ((¬ p1 = 0 → (vp_in p0 8 ∧ (wbX11_holder_37 N post S4 (S4 26 0 p0.toNatClampNeg)))) ∧ (p1 = 0 → (vp_in p0 8 ∧ (wbX11_holder_37 N post S4 (S4 25 0 p0.toNatClampNeg)))))) ∧ (r5 = 0 → (wbX11_holder_16 N post S4 ))) S1 p1 0 1))) S p0
set_option maxHeartbeats 4000000 in
set_option maxRecDepth 100000 in
theorem bX11_holder_16 {p : Program} {e : Env} {s : State} {m : MethodId} {args : Array Value} {below : List Frame} {meth : Method} {c : Code} {post : tq_St → Int32 → Prop} (C : tq_At p s m meth c args cX11_holder 3 ((some .int)) ((tq_ws yX11_holder cX11_holder 3 (some .int))) RX11 D cy z ad)  : ∀ (S : tq_St)  (H : Heap) (locs : List Loc) (ls : Array Slot), wbX11_holder_16 N post   S  → tq_wd D cy z H0 ad N (tq_mix S M) H → va_S (fun q => z ≤ q) s.heap H locs → lv_has ls 3 [] → W p l e (tq_rm 1 22) s m args below meth c H locs 0 0 (MQ below (va_Qi (fun r u => post u r) (fun u => tq_P D cy z H0 ad N u M) (fun q => z ≤ q)) args s 0 0 (fun q => z ≤ q)) (F0 m 16 ls []) := by
  obtain ⟨hx, hb, hr, hml, hown, hts, hlocks, hK, hG⟩ := id C
  have hw : ∀ w ∈ tq_W, w.before args s = true := fun w h => hts w (List.mem_cons_of_mem _ h)
  intro S  H locs ls h hW hS hl
  unfold wbX11_holder_16 at h
  refine lv_iconst (v := (-1)) hx hb dX11_holder_16 (by decide) ?_
  exact W.iret (v := (-1)) hx hb hr (fun t ht hWm => ⟨⟨_, S, rfl, h, tq_pe ht hW⟩, hS.F ht⟩) hS.2.2 dX11_holder_17
set_option maxHeartbeats 4000000 in
set_option maxRecDepth 100000 in
theorem bX11_holder_37 {p : Program} {e : Env} {s : State} {m : MethodId} {args : Array Value} {below : List Frame} {meth : Method} {c : Code} {post : tq_St → Int32 → Prop} (C : tq_At p s m meth c args cX11_holder 3 ((some .int)) ((tq_ws yX11_holder cX11_holder 3 (some .int))) RX11 D cy z ad)  : ∀ (S : tq_St) (y0 : Int32) (H : Heap) (locs : List Loc) (ls : Array Slot), wbX11_holder_37 N post   S y0 → tq_wd D cy z H0 ad N (tq_mix S M) H → va_S (fun q => z ≤ q) s.heap H locs → lv_has ls 3 [] → W p l e (tq_rm 1 22) s m args below meth c H locs 0 0 (MQ below (va_Qi (fun r u => post u r) (fun u => tq_P D cy z H0 ad N u M) (fun q => z ≤ q)) args s 0 0 (fun q => z ≤ q)) (F0 m 37 ls [.int y0]) := by
  obtain ⟨hx, hb, hr, hml, hown, hts, hlocks, hK, hG⟩ := id C
  have hw : ∀ w ∈ tq_W, w.before args s = true := fun w h => hts w (List.mem_cons_of_mem _ h)
  intro S y0 H locs ls h hW hS hl
  unfold wbX11_holder_37 at h
  exact W.iret (v := y0) hx hb hr (fun t ht hWm => ⟨⟨_, S, rfl, h, tq_pe ht hW⟩, hS.F ht⟩) hS.2.2 dX11_holder_37
set_option maxHeartbeats 4000000 in
set_option maxRecDepth 100000 in
theorem kX11_holder {post : tq_St → Int32 → Prop} {S : tq_St} {p0 : Int32} {p1 : Int32} (h : wpX11_holder N post S p0 p1) : tq_sI l yX11_holder (tq_ws yX11_holder cX11_holder 3 (some .int)) 1 22 D cy z H0 ad N M S [.ref (ad 1 0), .int p0, .int p1] post := by
  unfold wpX11_holder at h
  refine Met.ofW (cc := cX11_holder) (maxL := 3) (ret := (some .int)) (by decide) rfl ?_
  intro p e s m args below meth c s₁ B hml hv
  obtain ⟨rfl, hW, hK, hG⟩ := hv
  have hx := B.exec
  have hb := B.bytes
  have hr := B.returns
  have hts := atoms_spec (ws := (tq_ws yX11_holder cX11_holder 3 (some .int))) B.pre
  have hw : ∀ w ∈ tq_W, w.before _ s = true := fun w h => hts w (List.mem_cons_of_mem _ h)
  have hown : s.vm.findClass RX11 = some m.cls := findClass_of_methodNamed B.named
  have hlocks := B.notSynchronized
  have C : tq_At p s m meth c [.ref (ad 1 0), .int p0, .int p1].toArray cX11_holder 3 ((some .int)) ((tq_ws yX11_holder cX11_holder 3 (some .int))) RX11 D cy z ad := ⟨hx, hb, hr, hml, hown, hts, hlocks, hK, hG⟩
  have hS : va_S (fun q => z ≤ q) s.heap s.heap [] := va_S.rf
  have hl := lv_entry ([.ref (ad 1 0), .int p0, .int p1]) (n := 3) (Nat.le_of_ble_eq_true rfl)
  rw [lg_entry_eq]
  generalize (lg_sl ([.ref (ad 1 0), .int p0, .int p1]) ++ List.replicate (3 - (lg_sl ([.ref (ad 1 0), .int p0, .int p1])).length) Slot.unset).toArray = ls at hl ⊢
  have hl : lv_has ls 3 [(0, .ref (ad 1 0)), (1, .int p0), (2, .int p1)] := hl
  have hW : tq_wd D cy z H0 ad N (tq_mix S M) s.heap := hW
  refine lv_iload_n hx hb dX11_holder_0 rfl (lv_at hl 1 rfl) ?_
  refine tqc_callSi (As := [.int p0]) (rest := []) (kX11_isHolder h) ⟨hx, hb, hml, hown, hts⟩ (va_cwS 1 hts (tq_goodS tw_1295 tw_1296 tw_115 tw_1297) rfl rfl rfl (by decide +kernel) ⟨(Nat.le_of_ble_eq_true rfl), (Nat.le_of_ble_eq_true rfl)⟩) hK hG hW hS rfl hl.1 rfl (Nat.le_of_ble_eq_true rfl) dX11_holder_1 ⟨(Nat.le_of_ble_eq_true rfl), (Nat.le_of_ble_eq_true rfl)⟩ (fun r2 S1 H locs h hW hS => ?_)
  refine lv_if_eq (tgt := 16) hx hb dX11_holder_4 (by decide) (fun c3 => ?_) (fun c3 => ?_)
  · have h := h.1 c3
    exact bX11_holder_16 C  _  _ _ _ h hW hS (lv_sub hl [] rfl)
  · have h := h.2 c3
    refine lv_iload_n hx hb dX11_holder_7 rfl (lv_at hl 2 rfl) ?_
    refine lv_iconst (v := 0) hx hb dX11_holder_8 (by decide) ?_
    refine lv_iconst (v := 1) hx hb dX11_holder_9 (by decide) ?_
    refine tqc_callSi (As := [.int p1, .int 0, .int 1]) (rest := []) (kX11_within h) ⟨hx, hb, hml, hown, hts⟩ (va_cwS 3 hts (tq_goodS tw_405 tw_406 tw_115 tw_407) rfl rfl rfl (by decide +kernel) ⟨(Nat.le_of_ble_eq_true rfl), (Nat.le_of_ble_eq_true rfl)⟩) hK hG hW hS rfl hl.1 rfl (Nat.le_of_ble_eq_true rfl) dX11_holder_10 ⟨(Nat.le_of_ble_eq_true rfl), (Nat.le_of_ble_eq_true rfl)⟩ (fun r5 S4 H locs h hW hS => ?_)
    refine lv_if_ne (tgt := 18) hx hb dX11_holder_13 (by decide) (fun c6 => ?_) (fun c6 => ?_)
    · have h := h.1 c6
      refine lv_iload_n hx hb dX11_holder_18 rfl (lv_at hl 2 rfl) ?_
      refine lv_if_ne (tgt := 31) hx hb dX11_holder_19 (by decide) (fun c7 => ?_) (fun c7 => ?_)
      · have h := h.1 c7
        refine lv_aload_n hx hb dX11_holder_31 rfl (lv_at hl 0 rfl) ?_
        refine tqc_get (v := .ref (ad 26 0)) hx hb hw tq_inX11 hown hK hW (by decide) (tq_mk_1 (by decide)) rfl 15 (by decide) (hw _ tw_352) (fun _ h9 => h9) rfl dX11_holder_32 ?_
        refine lv_iload_n hx hb dX11_holder_35 rfl (lv_at hl 1 rfl) ?_
        obtain ⟨b8, h⟩ := h
        refine tqc_iald (jn := p0.toNatClampNeg) hx hb hK hW (by decide) (tq_mk_26 (by decide)) b8 rfl dX11_holder_36 ?_
        exact bX11_holder_37 C  _ _ _ _ _ h hW hS (lv_sub hl [] rfl)
      · have h := h.2 c7
        refine lv_aload_n hx hb dX11_holder_22 rfl (lv_at hl 0 rfl) ?_
        refine tqc_get (v := .ref (ad 25 0)) hx hb hw tq_inX11 hown hK hW (by decide) (tq_mk_1 (by decide)) rfl 14 (by decide) (hw _ tw_351) (fun _ h9 => h9) rfl dX11_holder_23 ?_
        refine lv_iload_n hx hb dX11_holder_26 rfl (lv_at hl 1 rfl) ?_
        obtain ⟨b9, h⟩ := h
        refine tqc_iald (jn := p0.toNatClampNeg) hx hb hK hW (by decide) (tq_mk_25 (by decide)) b9 rfl dX11_holder_27 ?_
        refine lv_goto (tgt := 37) hx hb dX11_holder_28 (by decide) ?_
        exact bX11_holder_37 C  _ _ _ _ _ h hW hS (lv_sub hl [] rfl)
    · have h := h.2 c6
      exact bX11_holder_16 C  _  _ _ _ h hW hS (lv_sub hl [] rfl)
-- X11 heard
def wbX11_heard_18 (N : tq_Nn) (post : tq_St → Int32 → Prop)  (S : tq_St) : Prop :=
  post S ((-5))
def wbX11_heard_112 (N : tq_Nn) (post : tq_St → Int32 → Prop) (L32 : tq_St → Int32 → Int32 → Int32 → Int32 → Prop) (S : tq_St) (x1 : Int32) (x2 : Int32) (x3 : Int32) (x4 : Int32) : Prop :=
  L32 S x1 x2 x3 (x4 + (-1))
def wbX11_heard_82 (N : tq_Nn) (post : tq_St → Int32 → Prop) (L32 : tq_St → Int32 → Int32 → Int32 → Int32 → Prop) (S : tq_St) (x1 : Int32) (x2 : Int32) (x3 : Int32) (x4 : Int32) (x5 : Nat) (y0 : Int32) : Prop :=
  (y0 = 0 → (wbX11_heard_112 N post  L32 S x1 x2 x3 x4)) ∧ (¬ y0 = 0 → (N 7 x5 = 1 ∧ (N 50 x5 = 1 ∧ (wpX11_within N (fun S21 r22 => (r22 = 0 → (wbX11_heard_112 N post  L32 S21 x1 x2 x3 x4)) ∧ (¬ r22 = 0 → (vp_in x2 4 ∧ N 51 x5 = 1 ∧ (post S21 (S21 51 x5 x2.toNatClampNeg))))) S (S 50 x5 0) 0 x3))))
def wbX11_heard_81 (N : tq_Nn) (post : tq_St → Int32 → Prop) (L32 : tq_St → Int32 → Int32 → Int32 → Int32 → Prop) (S : tq_St) (x1 : Int32) (x2 : Int32) (x3 : Int32) (x4 : Int32) (x5 : Nat) : Prop :=
  wbX11_heard_82 N post  L32 S x1 x2 x3 x4 x5 0
def wbX11_heard_32 (N : tq_Nn) (post : tq_St → Int32 → Prop) : Nat → tq_St → Int32 → Int32 → Int32 → Int32 → Prop
  | 0, _, _, _, _, _ => False
  | n + 1, S, x1, x2, x3, x4 =>
    (x4 < 0 → (post S ((-1)))) ∧ (¬ x4 < 0 → (tq_gok N S 15 16 0 x4 ∧ (N 7 (tq_el S 15 16 0 x4) = 1 ∧ ((¬ (S 7 (tq_el S 15 16 0 x4) 1) = 1 → (wbX11_heard_81 N post  (wbX11_heard_32 N post n) S x1 x2 x3 x4 (tq_el S 15 16 0 x4))) ∧ ((S 7 (tq_el S 15 16 0 x4) 1) = 1 → ((¬ (S 7 (tq_el S 15 16 0 x4) 2) = x1 → (wbX11_heard_81 N post  (wbX11_heard_32 N post n) S x1 x2 x3 x4 (tq_el S 15 16 0 x4))) ∧ ((S 7 (tq_el S 15 16 0 x4) 2) = x1 → ((¬ (S 7 (tq_el S 15 16 0 x4) 3) = 0 → (wbX11_heard_81 N post  (wbX11_heard_32 N post n) S x1 x2 x3 x4 (tq_el S 15 16 0 x4))) ∧ ((S 7 (tq_el S 15 16 0 x4) 3) = 0 → (wbX11_heard_82 N post  (wbX11_heard_32 N post n) S x1 x2 x3 x4 (tq_el S 15 16 0 x4) 1))))))))))
def wpX11_heard (N : tq_Nn) (post : tq_St → Int32 → Prop) (S : tq_St) (p0 : Int32) (p1 : Int32) (p2 : Int32) : Prop :=
  wpX11_isFactory N (fun S1 r2 => (r2 = 0 → (wbX11_heard_18 N post S1 )) ∧ (¬ r2 = 0 → (wpX11_isSort N (fun S4 r5 => (r5 = 0 → (wbX11_heard_18 N post S4 )) ∧ (¬ r5 = 0 → ((0 ≤ p2 → (∃ nq, wbX11_heard_32 N post nq S4 p0 p1 p2 ((S4 15 0 2) - 1))) ∧ (¬ 0 ≤ p2 → (wbX11_heard_18 N post S4 ))))) S1 p1))) S p0
set_option maxHeartbeats 4000000 in
set_option maxRecDepth 100000 in
theorem bX11_heard_18 {p : Program} {e : Env} {s : State} {m : MethodId} {args : Array Value} {below : List Frame} {meth : Method} {c : Code} {post : tq_St → Int32 → Prop} (C : tq_At p s m meth c args cX11_heard 7 ((some .int)) ((tq_ws yX11_heard cX11_heard 7 (some .int))) RX11 D cy z ad)  : ∀ (S : tq_St)  (H : Heap) (locs : List Loc) (ls : Array Slot), wbX11_heard_18 N post   S  → tq_wd D cy z H0 ad N (tq_mix S M) H → va_S (fun q => z ≤ q) s.heap H locs → lv_has ls 7 [] → W p l e (tq_rm 3 64) s m args below meth c H locs 0 0 (MQ below (va_Qi (fun r u => post u r) (fun u => tq_P D cy z H0 ad N u M) (fun q => z ≤ q)) args s 0 0 (fun q => z ≤ q)) (F0 m 18 ls []) := by
  obtain ⟨hx, hb, hr, hml, hown, hts, hlocks, hK, hG⟩ := id C
  have hw : ∀ w ∈ tq_W, w.before args s = true := fun w h => hts w (List.mem_cons_of_mem _ h)
  intro S  H locs ls h hW hS hl
  unfold wbX11_heard_18 at h
  refine lv_bipush (v := (-5)) hx hb dX11_heard_18 (by decide) ?_
  exact W.iret (v := (-5)) hx hb hr (fun t ht hWm => ⟨⟨_, S, rfl, h, tq_pe ht hW⟩, hS.F ht⟩) hS.2.2 dX11_heard_20
set_option maxHeartbeats 4000000 in
set_option maxRecDepth 100000 in
theorem bX11_heard_112 {p : Program} {e : Env} {s : State} {m : MethodId} {args : Array Value} {below : List Frame} {meth : Method} {c : Code} {post : tq_St → Int32 → Prop} (C : tq_At p s m meth c args cX11_heard 7 ((some .int)) ((tq_ws yX11_heard cX11_heard 7 (some .int))) RX11 D cy z ad) {L32 : tq_St → Int32 → Int32 → Int32 → Int32 → Prop} (hL32 : ∀ (S : tq_St) (x1 : Int32) (x2 : Int32) (x3 : Int32) (x4 : Int32) (H : Heap) (locs : List Loc) (ls : Array Slot), L32 S x1 x2 x3 x4 → tq_wd D cy z H0 ad N (tq_mix S M) H → va_S (fun q => z ≤ q) s.heap H locs → lv_has ls 7 [(0, .ref (ad 1 0)), (1, .int x1), (2, .int x2), (3, .int x3), (4, .int x4)] → W p l e (tq_rm 3 64) s m args below meth c H locs 0 0 (MQ below (va_Qi (fun r u => post u r) (fun u => tq_P D cy z H0 ad N u M) (fun q => z ≤ q)) args s 0 0 (fun q => z ≤ q)) (F0 m 32 ls [])) : ∀ (S : tq_St) (x1 : Int32) (x2 : Int32) (x3 : Int32) (x4 : Int32) (H : Heap) (locs : List Loc) (ls : Array Slot), wbX11_heard_112 N post  L32 S x1 x2 x3 x4 → tq_wd D cy z H0 ad N (tq_mix S M) H → va_S (fun q => z ≤ q) s.heap H locs → lv_has ls 7 [(0, .ref (ad 1 0)), (1, .int x1), (2, .int x2), (3, .int x3), (4, .int x4)] → W p l e (tq_rm 3 64) s m args below meth c H locs 0 0 (MQ below (va_Qi (fun r u => post u r) (fun u => tq_P D cy z H0 ad N u M) (fun q => z ≤ q)) args s 0 0 (fun q => z ≤ q)) (F0 m 112 ls []) := by
  obtain ⟨hx, hb, hr, hml, hown, hts, hlocks, hK, hG⟩ := id C
  have hw : ∀ w ∈ tq_W, w.before args s = true := fun w h => hts w (List.mem_cons_of_mem _ h)
  intro S x1 x2 x3 x4 H locs ls h hW hS hl
  unfold wbX11_heard_112 at h
  refine lv_iinc (v := x4 + (-1)) (lv' := [(4, .int (x4 + (-1))), (0, .ref (ad 1 0)), (1, .int x1), (2, .int x2), (3, .int x3)]) hx hb dX11_heard_112 hl (k := 4) rfl rfl (by decide) rfl (fun ls hl => ?_)
  refine lv_goto (tgt := 32) hx hb dX11_heard_115 (by decide) ?_
  exact hL32 _ _ _ _ _ _ _ _ h hW hS (lv_sub hl [1, 2, 3, 4, 0] rfl)
set_option maxHeartbeats 4000000 in
set_option maxRecDepth 100000 in
theorem bX11_heard_82 {p : Program} {e : Env} {s : State} {m : MethodId} {args : Array Value} {below : List Frame} {meth : Method} {c : Code} {post : tq_St → Int32 → Prop} (C : tq_At p s m meth c args cX11_heard 7 ((some .int)) ((tq_ws yX11_heard cX11_heard 7 (some .int))) RX11 D cy z ad) {L32 : tq_St → Int32 → Int32 → Int32 → Int32 → Prop} (hL32 : ∀ (S : tq_St) (x1 : Int32) (x2 : Int32) (x3 : Int32) (x4 : Int32) (H : Heap) (locs : List Loc) (ls : Array Slot), L32 S x1 x2 x3 x4 → tq_wd D cy z H0 ad N (tq_mix S M) H → va_S (fun q => z ≤ q) s.heap H locs → lv_has ls 7 [(0, .ref (ad 1 0)), (1, .int x1), (2, .int x2), (3, .int x3), (4, .int x4)] → W p l e (tq_rm 3 64) s m args below meth c H locs 0 0 (MQ below (va_Qi (fun r u => post u r) (fun u => tq_P D cy z H0 ad N u M) (fun q => z ≤ q)) args s 0 0 (fun q => z ≤ q)) (F0 m 32 ls [])) : ∀ (S : tq_St) (x1 : Int32) (x2 : Int32) (x3 : Int32) (x4 : Int32) (x5 : Nat) (y0 : Int32) (H : Heap) (locs : List Loc) (ls : Array Slot), wbX11_heard_82 N post  L32 S x1 x2 x3 x4 x5 y0 → tq_wd D cy z H0 ad N (tq_mix S M) H → va_S (fun q => z ≤ q) s.heap H locs → lv_has ls 7 [(0, .ref (ad 1 0)), (1, .int x1), (2, .int x2), (3, .int x3), (4, .int x4), (5, .ref (ad 7 x5))] → W p l e (tq_rm 3 64) s m args below meth c H locs 0 0 (MQ below (va_Qi (fun r u => post u r) (fun u => tq_P D cy z H0 ad N u M) (fun q => z ≤ q)) args s 0 0 (fun q => z ≤ q)) (F0 m 82 ls [.int y0]) := by
  obtain ⟨hx, hb, hr, hml, hown, hts, hlocks, hK, hG⟩ := id C
  have hw : ∀ w ∈ tq_W, w.before args s = true := fun w h => hts w (List.mem_cons_of_mem _ h)
  intro S x1 x2 x3 x4 x5 y0 H locs ls h hW hS hl
  unfold wbX11_heard_82 at h
  refine lv_istore (lv' := [(6, .int y0), (0, .ref (ad 1 0)), (1, .int x1), (2, .int x2), (3, .int x3), (4, .int x4), (5, .ref (ad 7 x5))]) hx hb dX11_heard_82 hl (by decide) rfl (fun ls hl => ?_)
  refine lv_iload hx hb dX11_heard_84 (lv_at hl 0 rfl) ?_
  refine lv_if_eq (tgt := 112) hx hb dX11_heard_86 (by decide) (fun c18 => ?_) (fun c18 => ?_)
  · have h := h.1 c18
    exact bX11_heard_112 C (fun M9 a09 a19 a29 a39 H9 q9 ls9 h9 hW9 hS9 hl9 => hL32 M9 a09 a19 a29 a39 H9 q9 ls9 h9 hW9 hS9 hl9) _ _ _ _ _ _ _ _ h hW hS (lv_sub hl [1, 2, 3, 4, 5] rfl)
  · have h := h.2 c18
    refine lv_aload hx hb dX11_heard_89 (lv_at hl 6 rfl) ?_
    obtain ⟨b19, h⟩ := h
    refine tqc_get7 (v := .ref (ad 50 x5)) hx hb hw tq_inX3 tq_inX1 hown hK hW b19 5 (by decide) (hw _ tw_525) (fun _ h9 => h9) rfl dX11_heard_91 ?_
    refine lv_iconst (v := 0) hx hb dX11_heard_94 (by decide) ?_
    obtain ⟨b20, h⟩ := h
    refine tqc_iald (jn := 0) hx hb hK hW (by decide) (tq_mk_50 b20) (by unfold vp_in; decide) (by decide) dX11_heard_95 ?_
    refine lv_iconst (v := 0) hx hb dX11_heard_96 (by decide) ?_
    refine lv_iload_n hx hb dX11_heard_97 rfl (lv_at hl 4 rfl) ?_
    refine tqc_callSi (As := [.int (S 50 x5 0), .int 0, .int x3]) (rest := []) (kX11_within h) ⟨hx, hb, hml, hown, hts⟩ (va_cwS 3 hts (tq_goodS tw_405 tw_406 tw_115 tw_407) rfl rfl rfl (by decide +kernel) ⟨(Nat.le_of_ble_eq_true rfl), (Nat.le_of_ble_eq_true rfl)⟩) hK hG hW hS rfl hl.1 rfl (Nat.le_of_ble_eq_true rfl) dX11_heard_98 ⟨(Nat.le_of_ble_eq_true rfl), (Nat.le_of_ble_eq_true rfl)⟩ (fun r22 S21 H locs h hW hS => ?_)
    refine lv_if_eq (tgt := 112) hx hb dX11_heard_101 (by decide) (fun c23 => ?_) (fun c23 => ?_)
    · have h := h.1 c23
      exact bX11_heard_112 C (fun M9 a09 a19 a29 a39 H9 q9 ls9 h9 hW9 hS9 hl9 => hL32 M9 a09 a19 a29 a39 H9 q9 ls9 h9 hW9 hS9 hl9) _ _ _ _ _ _ _ _ h hW hS (lv_sub hl [1, 2, 3, 4, 5] rfl)
    · have h := h.2 c23
      refine lv_aload hx hb dX11_heard_104 (lv_at hl 6 rfl) ?_
      refine tqc_get7 (v := .ref (ad 51 x5)) hx hb hw tq_inX3 tq_inX1 hown hK hW b19 6 (by decide) (hw _ tw_529) (fun _ h9 => h9) rfl dX11_heard_106 ?_
      refine lv_iload_n hx hb dX11_heard_109 rfl (lv_at hl 3 rfl) ?_
      obtain ⟨b24, h⟩ := h
      obtain ⟨b25, h⟩ := h
      refine tqc_iald (jn := x2.toNatClampNeg) hx hb hK hW (by decide) (tq_mk_51 b25) b24 rfl dX11_heard_110 ?_
      exact W.iret (v := S21 51 x5 x2.toNatClampNeg) hx hb hr (fun t ht hWm => ⟨⟨_, S21, rfl, h, tq_pe ht hW⟩, hS.F ht⟩) hS.2.2 dX11_heard_111
set_option maxHeartbeats 4000000 in
set_option maxRecDepth 100000 in
theorem bX11_heard_81 {p : Program} {e : Env} {s : State} {m : MethodId} {args : Array Value} {below : List Frame} {meth : Method} {c : Code} {post : tq_St → Int32 → Prop} (C : tq_At p s m meth c args cX11_heard 7 ((some .int)) ((tq_ws yX11_heard cX11_heard 7 (some .int))) RX11 D cy z ad) {L32 : tq_St → Int32 → Int32 → Int32 → Int32 → Prop} (hL32 : ∀ (S : tq_St) (x1 : Int32) (x2 : Int32) (x3 : Int32) (x4 : Int32) (H : Heap) (locs : List Loc) (ls : Array Slot), L32 S x1 x2 x3 x4 → tq_wd D cy z H0 ad N (tq_mix S M) H → va_S (fun q => z ≤ q) s.heap H locs → lv_has ls 7 [(0, .ref (ad 1 0)), (1, .int x1), (2, .int x2), (3, .int x3), (4, .int x4)] → W p l e (tq_rm 3 64) s m args below meth c H locs 0 0 (MQ below (va_Qi (fun r u => post u r) (fun u => tq_P D cy z H0 ad N u M) (fun q => z ≤ q)) args s 0 0 (fun q => z ≤ q)) (F0 m 32 ls [])) : ∀ (S : tq_St) (x1 : Int32) (x2 : Int32) (x3 : Int32) (x4 : Int32) (x5 : Nat) (H : Heap) (locs : List Loc) (ls : Array Slot), wbX11_heard_81 N post  L32 S x1 x2 x3 x4 x5 → tq_wd D cy z H0 ad N (tq_mix S M) H → va_S (fun q => z ≤ q) s.heap H locs → lv_has ls 7 [(0, .ref (ad 1 0)), (1, .int x1), (2, .int x2), (3, .int x3), (4, .int x4), (5, .ref (ad 7 x5))] → W p l e (tq_rm 3 64) s m args below meth c H locs 0 0 (MQ below (va_Qi (fun r u => post u r) (fun u => tq_P D cy z H0 ad N u M) (fun q => z ≤ q)) args s 0 0 (fun q => z ≤ q)) (F0 m 81 ls []) := by
  obtain ⟨hx, hb, hr, hml, hown, hts, hlocks, hK, hG⟩ := id C
  have hw : ∀ w ∈ tq_W, w.before args s = true := fun w h => hts w (List.mem_cons_of_mem _ h)
  intro S x1 x2 x3 x4 x5 H locs ls h hW hS hl
  unfold wbX11_heard_81 at h
  refine lv_iconst (v := 0) hx hb dX11_heard_81 (by decide) ?_
  exact bX11_heard_82 C (fun M9 a09 a19 a29 a39 H9 q9 ls9 h9 hW9 hS9 hl9 => hL32 M9 a09 a19 a29 a39 H9 q9 ls9 h9 hW9 hS9 hl9) _ _ _ _ _ _ _ _ _ _ h hW hS (lv_sub hl [0, 1, 2, 3, 4, 5] rfl)
set_option maxHeartbeats 4000000 in
set_option maxRecDepth 100000 in
theorem bX11_heard_32 {p : Program} {e : Env} {s : State} {m : MethodId} {args : Array Value} {below : List Frame} {meth : Method} {c : Code} {post : tq_St → Int32 → Prop} (C : tq_At p s m meth c args cX11_heard 7 ((some .int)) ((tq_ws yX11_heard cX11_heard 7 (some .int))) RX11 D cy z ad)  : ∀ n : Nat, ∀ (S : tq_St) (x1 : Int32) (x2 : Int32) (x3 : Int32) (x4 : Int32) (H : Heap) (locs : List Loc) (ls : Array Slot), wbX11_heard_32 N post   n S x1 x2 x3 x4 → tq_wd D cy z H0 ad N (tq_mix S M) H → va_S (fun q => z ≤ q) s.heap H locs → lv_has ls 7 [(0, .ref (ad 1 0)), (1, .int x1), (2, .int x2), (3, .int x3), (4, .int x4)] → W p l e (tq_rm 3 64) s m args below meth c H locs 0 0 (MQ below (va_Qi (fun r u => post u r) (fun u => tq_P D cy z H0 ad N u M) (fun q => z ≤ q)) args s 0 0 (fun q => z ≤ q)) (F0 m 32 ls []) := by
  obtain ⟨hx, hb, hr, hml, hown, hts, hlocks, hK, hG⟩ := id C
  have hw : ∀ w ∈ tq_W, w.before args s = true := fun w h => hts w (List.mem_cons_of_mem _ h)
  intro n
  induction n with
  | zero =>
    intro S x1 x2 x3 x4 H locs ls h
    exact absurd h (by unfold wbX11_heard_32; exact id)
  | succ n ih =>
    intro S x1 x2 x3 x4 H locs ls h hW hS hl
    unfold wbX11_heard_32 at h
    refine lv_iload hx hb dX11_heard_32 (lv_at hl 4 rfl) ?_
    refine lv_if_lt (tgt := 118) hx hb dX11_heard_34 (by decide) (fun c10 => ?_) (fun c10 => ?_)
    · have h := h.1 c10
      refine lv_iconst (v := (-1)) hx hb dX11_heard_118 (by decide) ?_
      exact W.iret (v := (-1)) hx hb hr (fun t ht hWm => ⟨⟨_, S, rfl, h, tq_pe ht hW⟩, hS.F ht⟩) hS.2.2 dX11_heard_119
    · have h := h.2 c10
      refine lv_aload_n hx hb dX11_heard_37 rfl (lv_at hl 0 rfl) ?_
      refine tqc_get (v := .ref (ad 15 0)) hx hb hw tq_inX11 hown hK hW (by decide) (tq_mk_1 (by decide)) rfl 5 (by decide) (hw _ tw_342) (fun _ h9 => h9) rfl dX11_heard_38 ?_
      refine lv_iload hx hb dX11_heard_41 (lv_at hl 4 rfl) ?_
      obtain ⟨b13, h⟩ := h
      refine tqc_callVr (kr := 7) (As := [.int x4]) (rest := []) (kJl_get (kd := 16) (post := fun u i => u = S ∧ i = tq_el S 15 16 0 x4) (by decide) (by decide) (tq_mk_15 (by decide)) (fun q9 => tq_mk_16 q9) b13 ⟨rfl, rfl⟩) ⟨hx, hb, hml, hown, hts⟩ (cwV 1 hts (tq_goodV tw_827 tw_828 tw_829 tw_118 tw_830) rfl rfl rfl (by decide +kernel) ⟨(Nat.le_of_ble_eq_true rfl), (Nat.le_of_ble_eq_true rfl)⟩) (tq_recvL hK hW (by decide) (tq_mk_15 (by decide))) hK hG hW hS rfl hl.1 rfl (Nat.le_of_ble_eq_true rfl) dX11_heard_43 ⟨(Nat.le_of_ble_eq_true rfl), (Nat.le_of_ble_eq_true rfl)⟩ (fun i12 S11 H locs q9 hW hS => ?_)
      rw [q9.1] at hW
      rw [q9.2]
      obtain ⟨b14, h⟩ := h
      refine tqc_cast7 hx hb hown (hw _ tw_488) hK hG hW b14 dX11_heard_46 ?_
      refine lv_astore (lv' := [(5, .ref (ad 7 (tq_el S 15 16 0 x4))), (0, .ref (ad 1 0)), (1, .int x1), (2, .int x2), (3, .int x3), (4, .int x4)]) hx hb dX11_heard_49 hl (by decide) rfl (fun ls hl => ?_)
      refine lv_aload hx hb dX11_heard_51 (lv_at hl 0 rfl) ?_
      refine tqc_get7 (v := .int (S 7 (tq_el S 15 16 0 x4) 1)) hx hb hw tq_inX3 tq_inX1 hown hK hW b14 1 (by decide) (hw _ tw_513) (fun _ h9 => h9) rfl dX11_heard_53 ?_
      refine lv_iconst (v := 1) hx hb dX11_heard_56 (by decide) ?_
      refine lv_icmp_ne (tgt := 81) hx hb dX11_heard_57 (by decide) (fun c15 => ?_) (fun c15 => ?_)
      · have h := h.1 c15
        exact bX11_heard_81 C (fun M9 a09 a19 a29 a39 H9 q9 ls9 h9 hW9 hS9 hl9 => ih M9 a09 a19 a29 a39 H9 q9 ls9 h9 hW9 hS9 hl9) _ _ _ _ _ _ _ _ _ h hW hS (lv_sub hl [1, 2, 3, 4, 5, 0] rfl)
      · have h := h.2 c15
        refine lv_aload hx hb dX11_heard_60 (lv_at hl 0 rfl) ?_
        refine tqc_get7 (v := .int (S 7 (tq_el S 15 16 0 x4) 2)) hx hb hw tq_inX3 tq_inX1 hown hK hW b14 2 (by decide) (hw _ tw_515) (fun _ h9 => h9) rfl dX11_heard_62 ?_
        refine lv_iload_n hx hb dX11_heard_65 rfl (lv_at hl 2 rfl) ?_
        refine lv_icmp_ne (tgt := 81) hx hb dX11_heard_66 (by decide) (fun c16 => ?_) (fun c16 => ?_)
        · have h := h.1 c16
          exact bX11_heard_81 C (fun M9 a09 a19 a29 a39 H9 q9 ls9 h9 hW9 hS9 hl9 => ih M9 a09 a19 a29 a39 H9 q9 ls9 h9 hW9 hS9 hl9) _ _ _ _ _ _ _ _ _ h hW hS (lv_sub hl [1, 2, 3, 4, 5, 0] rfl)
        · have h := h.2 c16
          refine lv_aload hx hb dX11_heard_69 (lv_at hl 0 rfl) ?_
          refine tqc_get7 (v := .int (S 7 (tq_el S 15 16 0 x4) 3)) hx hb hw tq_inX3 tq_inX1 hown hK hW b14 3 (by decide) (hw _ tw_517) (fun _ h9 => h9) rfl dX11_heard_71 ?_
          refine lv_if_ne (tgt := 81) hx hb dX11_heard_74 (by decide) (fun c17 => ?_) (fun c17 => ?_)
          · have h := h.1 c17
            exact bX11_heard_81 C (fun M9 a09 a19 a29 a39 H9 q9 ls9 h9 hW9 hS9 hl9 => ih M9 a09 a19 a29 a39 H9 q9 ls9 h9 hW9 hS9 hl9) _ _ _ _ _ _ _ _ _ h hW hS (lv_sub hl [1, 2, 3, 4, 5, 0] rfl)
          · have h := h.2 c17
            refine lv_iconst (v := 1) hx hb dX11_heard_77 (by decide) ?_
            refine lv_goto (tgt := 82) hx hb dX11_heard_78 (by decide) ?_
            exact bX11_heard_82 C (fun M9 a09 a19 a29 a39 H9 q9 ls9 h9 hW9 hS9 hl9 => ih M9 a09 a19 a29 a39 H9 q9 ls9 h9 hW9 hS9 hl9) _ _ _ _ _ _ _ _ _ _ h hW hS (lv_sub hl [1, 2, 3, 4, 5, 0] rfl)
set_option maxHeartbeats 4000000 in
set_option maxRecDepth 100000 in
theorem kX11_heard {post : tq_St → Int32 → Prop} {S : tq_St} {p0 : Int32} {p1 : Int32} {p2 : Int32} (h : wpX11_heard N post S p0 p1 p2) : tq_sI l yX11_heard (tq_ws yX11_heard cX11_heard 7 (some .int)) 3 64 D cy z H0 ad N M S [.ref (ad 1 0), .int p0, .int p1, .int p2] post := by
  unfold wpX11_heard at h
  refine Met.ofW (cc := cX11_heard) (maxL := 7) (ret := (some .int)) (by decide) rfl ?_
  intro p e s m args below meth c s₁ B hml hv
  obtain ⟨rfl, hW, hK, hG⟩ := hv
  have hx := B.exec
  have hb := B.bytes
  have hr := B.returns
  have hts := atoms_spec (ws := (tq_ws yX11_heard cX11_heard 7 (some .int))) B.pre
  have hw : ∀ w ∈ tq_W, w.before _ s = true := fun w h => hts w (List.mem_cons_of_mem _ h)
  have hown : s.vm.findClass RX11 = some m.cls := findClass_of_methodNamed B.named
  have hlocks := B.notSynchronized
  have C : tq_At p s m meth c [.ref (ad 1 0), .int p0, .int p1, .int p2].toArray cX11_heard 7 ((some .int)) ((tq_ws yX11_heard cX11_heard 7 (some .int))) RX11 D cy z ad := ⟨hx, hb, hr, hml, hown, hts, hlocks, hK, hG⟩
  have hS : va_S (fun q => z ≤ q) s.heap s.heap [] := va_S.rf
  have hl := lv_entry ([.ref (ad 1 0), .int p0, .int p1, .int p2]) (n := 7) (Nat.le_of_ble_eq_true rfl)
  rw [lg_entry_eq]
  generalize (lg_sl ([.ref (ad 1 0), .int p0, .int p1, .int p2]) ++ List.replicate (7 - (lg_sl ([.ref (ad 1 0), .int p0, .int p1, .int p2])).length) Slot.unset).toArray = ls at hl ⊢
  have hl : lv_has ls 7 [(0, .ref (ad 1 0)), (1, .int p0), (2, .int p1), (3, .int p2)] := hl
  have hW : tq_wd D cy z H0 ad N (tq_mix S M) s.heap := hW
  refine lv_iload_n hx hb dX11_heard_0 rfl (lv_at hl 1 rfl) ?_
  refine tqc_callSi (As := [.int p0]) (rest := []) (kX11_isFactory h) ⟨hx, hb, hml, hown, hts⟩ (va_cwS 1 hts (tq_goodS tw_402 tw_403 tw_115 tw_404) rfl rfl rfl (by decide +kernel) ⟨(Nat.le_of_ble_eq_true rfl), (Nat.le_of_ble_eq_true rfl)⟩) hK hG hW hS rfl hl.1 rfl (Nat.le_of_ble_eq_true rfl) dX11_heard_1 ⟨(Nat.le_of_ble_eq_true rfl), (Nat.le_of_ble_eq_true rfl)⟩ (fun r2 S1 H locs h hW hS => ?_)
  refine lv_if_eq (tgt := 18) hx hb dX11_heard_4 (by decide) (fun c3 => ?_) (fun c3 => ?_)
  · have h := h.1 c3
    exact bX11_heard_18 C  _  _ _ _ h hW hS (lv_sub hl [] rfl)
  · have h := h.2 c3
    refine lv_iload_n hx hb dX11_heard_7 rfl (lv_at hl 2 rfl) ?_
    refine tqc_callSi (As := [.int p1]) (rest := []) (kX11_isSort h) ⟨hx, hb, hml, hown, hts⟩ (va_cwS 1 hts (tq_goodS tw_412 tw_413 tw_115 tw_414) rfl rfl rfl (by decide +kernel) ⟨(Nat.le_of_ble_eq_true rfl), (Nat.le_of_ble_eq_true rfl)⟩) hK hG hW hS rfl hl.1 rfl (Nat.le_of_ble_eq_true rfl) dX11_heard_8 ⟨(Nat.le_of_ble_eq_true rfl), (Nat.le_of_ble_eq_true rfl)⟩ (fun r5 S4 H locs h hW hS => ?_)
    refine lv_if_eq (tgt := 18) hx hb dX11_heard_11 (by decide) (fun c6 => ?_) (fun c6 => ?_)
    · have h := h.1 c6
      exact bX11_heard_18 C  _  _ _ _ h hW hS (lv_sub hl [] rfl)
    · have h := h.2 c6
      refine lv_iload_n hx hb dX11_heard_14 rfl (lv_at hl 3 rfl) ?_
      refine lv_if_ge (tgt := 21) hx hb dX11_heard_15 (by decide) (fun c7 => ?_) (fun c7 => ?_)
      · have h := h.1 c7
        refine lv_aload_n hx hb dX11_heard_21 rfl (lv_at hl 0 rfl) ?_
        refine tqc_get (v := .ref (ad 15 0)) hx hb hw tq_inX11 hown hK hW (by decide) (tq_mk_1 (by decide)) rfl 5 (by decide) (hw _ tw_342) (fun _ h9 => h9) rfl dX11_heard_22 ?_
        refine tqc_callVi (As := []) (rest := []) (kJl_size (post := fun u r => u = S4 ∧ r = S4 15 0 2) (by decide) (tq_mk_15 (by decide)) ⟨rfl, rfl⟩) ⟨hx, hb, hml, hown, hts⟩ (cwV 0 hts (tq_goodV tw_484 tw_485 tw_486 tw_118 tw_487) rfl rfl rfl (by decide +kernel) ⟨(Nat.le_of_ble_eq_true rfl), (Nat.le_of_ble_eq_true rfl)⟩) (tq_recvL hK hW (by decide) (tq_mk_15 (by decide))) hK hG hW hS rfl hl.1 rfl (Nat.le_of_ble_eq_true rfl) dX11_heard_25 ⟨(Nat.le_of_ble_eq_true rfl), (Nat.le_of_ble_eq_true rfl)⟩ (fun r9 S8 H locs q9 hW hS => ?_)
        rw [q9.1] at hW
        rw [q9.2]
        refine lv_iconst (v := 1) hx hb dX11_heard_28 (by decide) ?_
        refine lv_isub hx hb dX11_heard_29 ?_
        refine lv_istore (lv' := [(4, .int ((S4 15 0 2) - 1)), (0, .ref (ad 1 0)), (1, .int p0), (2, .int p1), (3, .int p2)]) hx hb dX11_heard_30 hl (by decide) rfl (fun ls hl => ?_)
        obtain ⟨nq, h⟩ := h
        exact bX11_heard_32 C  nq _ _ _ _ _ _ _ _ h hW hS (lv_sub hl [1, 2, 3, 4, 0] rfl)
      · have h := h.2 c7
        exact bX11_heard_18 C  _  _ _ _ h hW hS (lv_sub hl [] rfl)
-- X11 year
def wbX11_year_16 (N : tq_Nn) (post : tq_St → Int32 → Prop)  (S : tq_St) : Prop :=
  post S ((-1))
def wpX11_year (N : tq_Nn) (post : tq_St → Int32 → Prop) (S : tq_St) (p0 : Int32) (p1 : Int32) (p2 : Int32) : Prop :=
  wpX11_within N (fun S1 r2 => (r2 = 0 → (wbX11_year_16 N post S1 )) ∧ (¬ r2 = 0 → (wpX11_isSort N (fun S4 r5 => (¬ r5 = 0 → (wpX11_within N (fun S7 r8 => (¬ r8 = 0 → (vp_in p0 4 ∧ (vp_in p1 4 ∧ (∀ S12, S12 = tq_up S7 28 p0.toNatClampNeg p1.toNatClampNeg p2 → (post S12 (S7 28 p0.toNatClampNeg p1.toNatClampNeg)))))) ∧ (r8 = 0 → (post S7 ((-2))))) S4 p2 0 999)) ∧ (r5 = 0 → (wbX11_year_16 N post S4 ))) S1 p1))) S p0 0 3
set_option maxHeartbeats 4000000 in
set_option maxRecDepth 100000 in
theorem bX11_year_16 {p : Program} {e : Env} {s : State} {m : MethodId} {args : Array Value} {below : List Frame} {meth : Method} {c : Code} {post : tq_St → Int32 → Prop} (C : tq_At p s m meth c args cX11_year 5 ((some .int)) ((tq_ws yX11_year cX11_year 5 (some .int))) RX11 D cy z ad)  : ∀ (S : tq_St)  (H : Heap) (locs : List Loc) (ls : Array Slot), wbX11_year_16 N post   S  → tq_wd D cy z H0 ad N (tq_mix S M) H → va_S (fun q => z ≤ q) s.heap H locs → lv_has ls 5 [] → W p l e (tq_rm 1 22) s m args below meth c H locs 0 0 (MQ below (va_Qi (fun r u => post u r) (fun u => tq_P D cy z H0 ad N u M) (fun q => z ≤ q)) args s 0 0 (fun q => z ≤ q)) (F0 m 16 ls []) := by
  obtain ⟨hx, hb, hr, hml, hown, hts, hlocks, hK, hG⟩ := id C
  have hw : ∀ w ∈ tq_W, w.before args s = true := fun w h => hts w (List.mem_cons_of_mem _ h)
  intro S  H locs ls h hW hS hl
  unfold wbX11_year_16 at h
  refine lv_iconst (v := (-1)) hx hb dX11_year_16 (by decide) ?_
  exact W.iret (v := (-1)) hx hb hr (fun t ht hWm => ⟨⟨_, S, rfl, h, tq_pe ht hW⟩, hS.F ht⟩) hS.2.2 dX11_year_17
set_option maxHeartbeats 4000000 in
set_option maxRecDepth 100000 in
theorem kX11_year {post : tq_St → Int32 → Prop} {S : tq_St} {p0 : Int32} {p1 : Int32} {p2 : Int32} (h : wpX11_year N post S p0 p1 p2) : tq_sI l yX11_year (tq_ws yX11_year cX11_year 5 (some .int)) 1 22 D cy z H0 ad N M S [.ref (ad 1 0), .int p0, .int p1, .int p2] post := by
  unfold wpX11_year at h
  refine Met.ofW (cc := cX11_year) (maxL := 5) (ret := (some .int)) (by decide) rfl ?_
  intro p e s m args below meth c s₁ B hml hv
  obtain ⟨rfl, hW, hK, hG⟩ := hv
  have hx := B.exec
  have hb := B.bytes
  have hr := B.returns
  have hts := atoms_spec (ws := (tq_ws yX11_year cX11_year 5 (some .int))) B.pre
  have hw : ∀ w ∈ tq_W, w.before _ s = true := fun w h => hts w (List.mem_cons_of_mem _ h)
  have hown : s.vm.findClass RX11 = some m.cls := findClass_of_methodNamed B.named
  have hlocks := B.notSynchronized
  have C : tq_At p s m meth c [.ref (ad 1 0), .int p0, .int p1, .int p2].toArray cX11_year 5 ((some .int)) ((tq_ws yX11_year cX11_year 5 (some .int))) RX11 D cy z ad := ⟨hx, hb, hr, hml, hown, hts, hlocks, hK, hG⟩
  have hS : va_S (fun q => z ≤ q) s.heap s.heap [] := va_S.rf
  have hl := lv_entry ([.ref (ad 1 0), .int p0, .int p1, .int p2]) (n := 5) (Nat.le_of_ble_eq_true rfl)
  rw [lg_entry_eq]
  generalize (lg_sl ([.ref (ad 1 0), .int p0, .int p1, .int p2]) ++ List.replicate (5 - (lg_sl ([.ref (ad 1 0), .int p0, .int p1, .int p2])).length) Slot.unset).toArray = ls at hl ⊢
  have hl : lv_has ls 5 [(0, .ref (ad 1 0)), (1, .int p0), (2, .int p1), (3, .int p2)] := hl
  have hW : tq_wd D cy z H0 ad N (tq_mix S M) s.heap := hW
  refine lv_iload_n hx hb dX11_year_0 rfl (lv_at hl 1 rfl) ?_
  refine lv_iconst (v := 0) hx hb dX11_year_1 (by decide) ?_
  refine lv_iconst (v := 3) hx hb dX11_year_2 (by decide) ?_
  refine tqc_callSi (As := [.int p0, .int 0, .int 3]) (rest := []) (kX11_within h) ⟨hx, hb, hml, hown, hts⟩ (va_cwS 3 hts (tq_goodS tw_405 tw_406 tw_115 tw_407) rfl rfl rfl (by decide +kernel) ⟨(Nat.le_of_ble_eq_true rfl), (Nat.le_of_ble_eq_true rfl)⟩) hK hG hW hS rfl hl.1 rfl (Nat.le_of_ble_eq_true rfl) dX11_year_3 ⟨(Nat.le_of_ble_eq_true rfl), (Nat.le_of_ble_eq_true rfl)⟩ (fun r2 S1 H locs h hW hS => ?_)
  refine lv_if_eq (tgt := 16) hx hb dX11_year_6 (by decide) (fun c3 => ?_) (fun c3 => ?_)
  · have h := h.1 c3
    exact bX11_year_16 C  _  _ _ _ h hW hS (lv_sub hl [] rfl)
  · have h := h.2 c3
    refine lv_iload_n hx hb dX11_year_9 rfl (lv_at hl 2 rfl) ?_
    refine tqc_callSi (As := [.int p1]) (rest := []) (kX11_isSort h) ⟨hx, hb, hml, hown, hts⟩ (va_cwS 1 hts (tq_goodS tw_412 tw_413 tw_115 tw_414) rfl rfl rfl (by decide +kernel) ⟨(Nat.le_of_ble_eq_true rfl), (Nat.le_of_ble_eq_true rfl)⟩) hK hG hW hS rfl hl.1 rfl (Nat.le_of_ble_eq_true rfl) dX11_year_10 ⟨(Nat.le_of_ble_eq_true rfl), (Nat.le_of_ble_eq_true rfl)⟩ (fun r5 S4 H locs h hW hS => ?_)
    refine lv_if_ne (tgt := 18) hx hb dX11_year_13 (by decide) (fun c6 => ?_) (fun c6 => ?_)
    · have h := h.1 c6
      refine lv_iload_n hx hb dX11_year_18 rfl (lv_at hl 3 rfl) ?_
      refine lv_iconst (v := 0) hx hb dX11_year_19 (by decide) ?_
      refine lv_sipush (v := 999) hx hb dX11_year_20 (by decide) ?_
      refine tqc_callSi (As := [.int p2, .int 0, .int 999]) (rest := []) (kX11_within h) ⟨hx, hb, hml, hown, hts⟩ (va_cwS 3 hts (tq_goodS tw_405 tw_406 tw_115 tw_407) rfl rfl rfl (by decide +kernel) ⟨(Nat.le_of_ble_eq_true rfl), (Nat.le_of_ble_eq_true rfl)⟩) hK hG hW hS rfl hl.1 rfl (Nat.le_of_ble_eq_true rfl) dX11_year_23 ⟨(Nat.le_of_ble_eq_true rfl), (Nat.le_of_ble_eq_true rfl)⟩ (fun r8 S7 H locs h hW hS => ?_)
      refine lv_if_ne (tgt := 32) hx hb dX11_year_26 (by decide) (fun c9 => ?_) (fun c9 => ?_)
      · have h := h.1 c9
        refine lv_aload_n hx hb dX11_year_32 rfl (lv_at hl 0 rfl) ?_
        refine tqc_get (v := .ref (ad 27 0)) hx hb hw tq_inX11 hown hK hW (by decide) (tq_mk_1 (by decide)) rfl 17 (by decide) (hw _ tw_354) (fun _ h9 => h9) rfl dX11_year_33 ?_
        refine lv_iload_n hx hb dX11_year_36 rfl (lv_at hl 1 rfl) ?_
        obtain ⟨b10, h⟩ := h
        refine tqc_aald (jn := p0.toNatClampNeg) (v := .ref (ad 28 p0.toNatClampNeg)) hx hb hK hW (by decide) (tq_mk_27 (by decide)) 2 rfl rfl b10 rfl rfl dX11_year_37 ?_
        refine lv_iload_n hx hb dX11_year_38 rfl (lv_at hl 2 rfl) ?_
        obtain ⟨b11, h⟩ := h
        refine tqc_iald (jn := p1.toNatClampNeg) hx hb hK hW (by decide) (tq_mk_28 (tq_lt b10)) b11 rfl dX11_year_39 ?_
        refine lv_istore (lv' := [(4, .int (S7 28 p0.toNatClampNeg p1.toNatClampNeg)), (0, .ref (ad 1 0)), (1, .int p0), (2, .int p1), (3, .int p2)]) hx hb dX11_year_40 hl (by decide) rfl (fun ls hl => ?_)
        refine lv_aload_n hx hb dX11_year_42 rfl (lv_at hl 1 rfl) ?_
        refine tqc_get (v := .ref (ad 27 0)) hx hb hw tq_inX11 hown hK hW (by decide) (tq_mk_1 (by decide)) rfl 17 (by decide) (hw _ tw_354) (fun _ h9 => h9) rfl dX11_year_43 ?_
        refine lv_iload_n hx hb dX11_year_46 rfl (lv_at hl 2 rfl) ?_
        refine tqc_aald (jn := p0.toNatClampNeg) (v := .ref (ad 28 p0.toNatClampNeg)) hx hb hK hW (by decide) (tq_mk_27 (by decide)) 2 rfl rfl b10 rfl rfl dX11_year_47 ?_
        refine lv_iload_n hx hb dX11_year_48 rfl (lv_at hl 3 rfl) ?_
        refine lv_iload_n hx hb dX11_year_49 rfl (lv_at hl 4 rfl) ?_
        refine tqc_iast (jn := p1.toNatClampNeg) hx hb hK hW hS (by decide) (tq_mk_28 (tq_lt b10)) b11 rfl (tq_mk_28 (tq_lt b10)) dX11_year_50 (fun H locs hW hS => ?_)
        generalize eS12 : tq_up S7 28 p0.toNatClampNeg p1.toNatClampNeg p2 = S12 at hW
        have h := h S12 eS12.symm
        refine lv_iload hx hb dX11_year_51 (lv_at hl 0 rfl) ?_
        exact W.iret (v := S7 28 p0.toNatClampNeg p1.toNatClampNeg) hx hb hr (fun t ht hWm => ⟨⟨_, S12, rfl, h, tq_pe ht hW⟩, hS.F ht⟩) hS.2.2 dX11_year_53
      · have h := h.2 c9
        refine lv_bipush (v := (-2)) hx hb dX11_year_29 (by decide) ?_
        exact W.iret (v := (-2)) hx hb hr (fun t ht hWm => ⟨⟨_, S7, rfl, h, tq_pe ht hW⟩, hS.F ht⟩) hS.2.2 dX11_year_31
    · have h := h.2 c6
      exact bX11_year_16 C  _  _ _ _ h hW hS (lv_sub hl [] rfl)
-- X11 act
def wbX11_act_24 (N : tq_Nn) (post : tq_St → Int32 → Prop)  (S : tq_St) : Prop :=
  post S 0
def wpX11_act (N : tq_Nn) (post : tq_St → Int32 → Prop) (S : tq_St) (p0 : Int32) (p1 : Int32) (p2 : Int32) : Prop :=
  wpX0_begin N (fun S1 => wpX11_isPaper N (fun S2 r3 => (r3 = 0 → (wbX11_act_24 N post S2 )) ∧ (¬ r3 = 0 → (wpX11_within N (fun S5 r6 => (¬ r6 = 0 → (tq_gok N S5 15 16 0 p0 ∧ (N 7 (tq_el S5 15 16 0 p0) = 1 ∧ (wpX0_run N 16 (fun S12 r13 => post S12 r13) S5 (tq_el S5 15 16 0 p0) (S5 7 (tq_el S5 15 16 0 p0) 1) p1 p2 0)))) ∧ (r6 = 0 → (wbX11_act_24 N post S5 ))) S2 p1 0 2))) S1 p0) S 
set_option maxHeartbeats 4000000 in
set_option maxRecDepth 100000 in
theorem bX11_act_24 {p : Program} {e : Env} {s : State} {m : MethodId} {args : Array Value} {below : List Frame} {meth : Method} {c : Code} {post : tq_St → Int32 → Prop} (C : tq_At p s m meth c args cX11_act 5 ((some .int)) ((tq_ws yX11_act cX11_act 5 (some .int))) RX11 D cy z ad)  : ∀ (S : tq_St)  (H : Heap) (locs : List Loc) (ls : Array Slot), wbX11_act_24 N post   S  → tq_wd D cy z H0 ad N (tq_mix S M) H → va_S (fun q => z ≤ q) s.heap H locs → lv_has ls 5 [] → W p l e (tq_rm 19 729) s m args below meth c H locs 0 0 (MQ below (va_Qi (fun r u => post u r) (fun u => tq_P D cy z H0 ad N u M) (fun q => z ≤ q)) args s 0 0 (fun q => z ≤ q)) (F0 m 24 ls []) := by
  obtain ⟨hx, hb, hr, hml, hown, hts, hlocks, hK, hG⟩ := id C
  have hw : ∀ w ∈ tq_W, w.before args s = true := fun w h => hts w (List.mem_cons_of_mem _ h)
  intro S  H locs ls h hW hS hl
  unfold wbX11_act_24 at h
  refine lv_iconst (v := 0) hx hb dX11_act_24 (by decide) ?_
  exact W.iret (v := 0) hx hb hr (fun t ht hWm => ⟨⟨_, S, rfl, h, tq_pe ht hW⟩, hS.F ht⟩) hS.2.2 dX11_act_25
set_option maxHeartbeats 4000000 in
set_option maxRecDepth 100000 in
theorem kX11_act {post : tq_St → Int32 → Prop} {S : tq_St} {p0 : Int32} {p1 : Int32} {p2 : Int32} (h : wpX11_act N post S p0 p1 p2) : tq_sI l yX11_act (tq_ws yX11_act cX11_act 5 (some .int)) 19 729 D cy z H0 ad N M S [.ref (ad 1 0), .int p0, .int p1, .int p2] post := by
  unfold wpX11_act at h
  refine Met.ofW (cc := cX11_act) (maxL := 5) (ret := (some .int)) (by decide) rfl ?_
  intro p e s m args below meth c s₁ B hml hv
  obtain ⟨rfl, hW, hK, hG⟩ := hv
  have hx := B.exec
  have hb := B.bytes
  have hr := B.returns
  have hts := atoms_spec (ws := (tq_ws yX11_act cX11_act 5 (some .int))) B.pre
  have hw : ∀ w ∈ tq_W, w.before _ s = true := fun w h => hts w (List.mem_cons_of_mem _ h)
  have hown : s.vm.findClass RX11 = some m.cls := findClass_of_methodNamed B.named
  have hlocks := B.notSynchronized
  have C : tq_At p s m meth c [.ref (ad 1 0), .int p0, .int p1, .int p2].toArray cX11_act 5 ((some .int)) ((tq_ws yX11_act cX11_act 5 (some .int))) RX11 D cy z ad := ⟨hx, hb, hr, hml, hown, hts, hlocks, hK, hG⟩
  have hS : va_S (fun q => z ≤ q) s.heap s.heap [] := va_S.rf
  have hl := lv_entry ([.ref (ad 1 0), .int p0, .int p1, .int p2]) (n := 5) (Nat.le_of_ble_eq_true rfl)
  rw [lg_entry_eq]
  generalize (lg_sl ([.ref (ad 1 0), .int p0, .int p1, .int p2]) ++ List.replicate (5 - (lg_sl ([.ref (ad 1 0), .int p0, .int p1, .int p2])).length) Slot.unset).toArray = ls at hl ⊢
  have hl : lv_has ls 5 [(0, .ref (ad 1 0)), (1, .int p0), (2, .int p1), (3, .int p2)] := hl
  have hW : tq_wd D cy z H0 ad N (tq_mix S M) s.heap := hW
  refine lv_aload_n hx hb dX11_act_0 rfl (lv_at hl 0 rfl) ?_
  refine tqc_get (v := .ref (ad 5 0)) hx hb hw tq_inX11 hown hK hW (by decide) (tq_mk_1 (by decide)) rfl 18 (by decide) (hw _ tw_355) (fun _ h9 => h9) rfl dX11_act_1 ?_
  refine tqc_callVv (As := []) (rest := []) (kX0_begin h) ⟨hx, hb, hml, hown, hts⟩ (cwV 0 hts (tq_goodV tw_1343 tw_1344 tw_1345 tw_121 tw_1346) rfl rfl rfl (by decide +kernel) ⟨(Nat.le_of_ble_eq_true rfl), (Nat.le_of_ble_eq_true rfl)⟩) (tq_recvC hK hW (by decide) (tq_mk_5 (by decide)) rfl) hK hG hW hS rfl hl.1 rfl (Nat.le_of_ble_eq_true rfl) dX11_act_4 ⟨(Nat.le_of_ble_eq_true rfl), (Nat.le_of_ble_eq_true rfl)⟩ (fun S1 H locs h hW hS => ?_)
  refine lv_aload_n hx hb dX11_act_7 rfl (lv_at hl 0 rfl) ?_
  refine lv_iload_n hx hb dX11_act_8 rfl (lv_at hl 1 rfl) ?_
  refine tqc_callVi (As := [.int p0]) (rest := []) (kX11_isPaper h) ⟨hx, hb, hml, hown, hts⟩ (cwV 1 hts (tq_goodV tw_819 tw_821 tw_18 tw_115 tw_822) rfl rfl rfl (by decide +kernel) ⟨(Nat.le_of_ble_eq_true rfl), (Nat.le_of_ble_eq_true rfl)⟩) (tq_recvC hK hW (by decide) (tq_mk_1 (by decide)) rfl) hK hG hW hS rfl hl.1 rfl (Nat.le_of_ble_eq_true rfl) dX11_act_9 ⟨(Nat.le_of_ble_eq_true rfl), (Nat.le_of_ble_eq_true rfl)⟩ (fun r3 S2 H locs h hW hS => ?_)
  refine lv_if_eq (tgt := 24) hx hb dX11_act_12 (by decide) (fun c4 => ?_) (fun c4 => ?_)
  · have h := h.1 c4
    exact bX11_act_24 C  _  _ _ _ h hW hS (lv_sub hl [] rfl)
  · have h := h.2 c4
    refine lv_iload_n hx hb dX11_act_15 rfl (lv_at hl 2 rfl) ?_
    refine lv_iconst (v := 0) hx hb dX11_act_16 (by decide) ?_
    refine lv_iconst (v := 2) hx hb dX11_act_17 (by decide) ?_
    refine tqc_callSi (As := [.int p1, .int 0, .int 2]) (rest := []) (kX11_within h) ⟨hx, hb, hml, hown, hts⟩ (va_cwS 3 hts (tq_goodS tw_405 tw_406 tw_115 tw_407) rfl rfl rfl (by decide +kernel) ⟨(Nat.le_of_ble_eq_true rfl), (Nat.le_of_ble_eq_true rfl)⟩) hK hG hW hS rfl hl.1 rfl (Nat.le_of_ble_eq_true rfl) dX11_act_18 ⟨(Nat.le_of_ble_eq_true rfl), (Nat.le_of_ble_eq_true rfl)⟩ (fun r6 S5 H locs h hW hS => ?_)
    refine lv_if_ne (tgt := 26) hx hb dX11_act_21 (by decide) (fun c7 => ?_) (fun c7 => ?_)
    · have h := h.1 c7
      refine lv_aload_n hx hb dX11_act_26 rfl (lv_at hl 0 rfl) ?_
      refine tqc_get (v := .ref (ad 15 0)) hx hb hw tq_inX11 hown hK hW (by decide) (tq_mk_1 (by decide)) rfl 5 (by decide) (hw _ tw_342) (fun _ h9 => h9) rfl dX11_act_27 ?_
      refine lv_iload_n hx hb dX11_act_30 rfl (lv_at hl 1 rfl) ?_
      obtain ⟨b10, h⟩ := h
      refine tqc_callVr (kr := 7) (As := [.int p0]) (rest := []) (kJl_get (kd := 16) (post := fun u i => u = S5 ∧ i = tq_el S5 15 16 0 p0) (by decide) (by decide) (tq_mk_15 (by decide)) (fun q9 => tq_mk_16 q9) b10 ⟨rfl, rfl⟩) ⟨hx, hb, hml, hown, hts⟩ (cwV 1 hts (tq_goodV tw_827 tw_828 tw_829 tw_118 tw_830) rfl rfl rfl (by decide +kernel) ⟨(Nat.le_of_ble_eq_true rfl), (Nat.le_of_ble_eq_true rfl)⟩) (tq_recvL hK hW (by decide) (tq_mk_15 (by decide))) hK hG hW hS rfl hl.1 rfl (Nat.le_of_ble_eq_true rfl) dX11_act_31 ⟨(Nat.le_of_ble_eq_true rfl), (Nat.le_of_ble_eq_true rfl)⟩ (fun i9 S8 H locs q9 hW hS => ?_)
      rw [q9.1] at hW
      rw [q9.2]
      obtain ⟨b11, h⟩ := h
      refine tqc_cast7 hx hb hown (hw _ tw_488) hK hG hW b11 dX11_act_34 ?_
      refine lv_astore (lv' := [(4, .ref (ad 7 (tq_el S5 15 16 0 p0))), (0, .ref (ad 1 0)), (1, .int p0), (2, .int p1), (3, .int p2)]) hx hb dX11_act_37 hl (by decide) rfl (fun ls hl => ?_)
      refine lv_aload_n hx hb dX11_act_39 rfl (lv_at hl 1 rfl) ?_
      refine tqc_get (v := .ref (ad 5 0)) hx hb hw tq_inX11 hown hK hW (by decide) (tq_mk_1 (by decide)) rfl 18 (by decide) (hw _ tw_355) (fun _ h9 => h9) rfl dX11_act_40 ?_
      refine lv_aload hx hb dX11_act_43 (lv_at hl 0 rfl) ?_
      refine lv_aload hx hb dX11_act_45 (lv_at hl 0 rfl) ?_
      refine tqc_get7 (v := .int (S5 7 (tq_el S5 15 16 0 p0) 1)) hx hb hw tq_inX3 tq_inX1 hown hK hW b11 1 (by decide) (hw _ tw_513) (fun _ h9 => h9) rfl dX11_act_47 ?_
      refine lv_iload_n hx hb dX11_act_50 rfl (lv_at hl 3 rfl) ?_
      refine lv_iload_n hx hb dX11_act_51 rfl (lv_at hl 4 rfl) ?_
      refine lv_iconst (v := 0) hx hb dX11_act_52 (by decide) ?_
      refine tqc_callVNi (As := [.ref (ad 7 (tq_el S5 15 16 0 p0)), .int (S5 7 (tq_el S5 15 16 0 p0) 1), .int p1, .int p2, .int 0]) (rest := []) (kX0_run 16 h) ⟨hx, hb, hml, hown, hts⟩ (⟨va_cnB 5 hts (tq_goodO tw_1350) rfl rfl rfl (hG.2.2.2.2.2.2.2.2.1 ("TwoSeas", 434, yX0_run, "TwoSeas") (by decide)) (hw _ tw_121) (by decide +kernel) ⟨(Nat.le_of_ble_eq_true rfl), (Nat.le_of_ble_eq_true rfl)⟩, hw _ tw_1349, hw _ tw_54⟩) (tq_recvC hK hW (by decide) (tq_mk_5 (by decide)) rfl) hK hG hW hS rfl hl.1 rfl (Nat.le_of_ble_eq_true rfl) dX11_act_53 ⟨(Nat.le_of_ble_eq_true rfl), (Nat.le_of_ble_eq_true rfl)⟩ (fun r13 S12 H locs h hW hS => ?_)
      exact W.iret (v := r13) hx hb hr (fun t ht hWm => ⟨⟨_, S12, rfl, h, tq_pe ht hW⟩, hS.F ht⟩) hS.2.2 dX11_act_56
    · have h := h.2 c7
      exact bX11_act_24 C  _  _ _ _ h hW hS (lv_sub hl [] rfl)
