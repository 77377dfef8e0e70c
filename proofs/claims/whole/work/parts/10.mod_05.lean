variable {l : Launch} {D : va_G} {cy : Nat → ClassId} {z : Nat} {H0 : Heap} {ad : Nat → Nat → Nat} {N : tq_Nn} {S : tq_St}
-- orderHere
def wbX12_orderHere_61 (post : tq_St → Int32 → Prop)  (M : tq_St) : Prop :=
  wpX12_wrong (fun M14 r15 => narrow .boolean (.int r15) = .int r15 ∧ post M14 r15) M 
def wbX12_orderHere_12 (post : tq_St → Int32 → Prop) : Nat → tq_St → Int32 → Int32 → Prop
  | 0, _, _, _ => False
  | n + 1, M, x1, x2 =>
    wpX12_paragraphHere (fun M3 r4 => (¬ r4 = 0 → (vp_in x1 150 ∧ (∀ M7, M7 = tq_up M3 117 0 x1.toNatClampNeg (x2 + 1) → ((¬ (M7 64 0 67) = (M7 64 0 61) → (wpX12_here (fun M9 r10 => (¬ r10 = 59 → (wbX12_orderHere_61 post M9 )) ∧ (r10 = 59 → ((¬ (x2 + 1) = 6 → (∀ M13, M13 = tq_up M9 64 0 67 ((M9 64 0 67) + 1) → ((wbX12_orderHere_12 post n) M13 x1 (x2 + 1)))) ∧ ((x2 + 1) = 6 → (wbX12_orderHere_61 post M9 ))))) M7 )) ∧ ((M7 64 0 67) = (M7 64 0 61) → (post M7 1)))))) ∧ (r4 = 0 → (post M3 0))) M x1 x2
def wpX12_orderHere (post : tq_St → Int32 → Prop) (M : tq_St) (p0 : Int32) : Prop :=
  ∀ M1, M1 = tq_up M 64 0 67 0 → (∀ M2, M2 = tq_up M1 64 0 68 ((-1)) → (∃ nq, wbX12_orderHere_12 post nq M2 p0 0))
set_option maxHeartbeats 4000000 in
set_option maxRecDepth 100000 in
theorem bX12_orderHere_61 {p : Program} {e : Env} {s : State} {m : MethodId} {args : Array Value} {below : List Frame} {meth : Method} {c : Code} {post : tq_St → Int32 → Prop} (C : tq_At p s m meth c args cX12_orderHere 3 ((some .boolean)) ((tq_ws yX12_orderHere cX12_orderHere 3 (some .boolean))) RX12 D cy z ad)  : ∀ (M : tq_St)  (H : Heap) (locs : List Loc) (ls : Array Slot), wbX12_orderHere_61 post   M  → tq_wd D cy z H0 ad N (tq_mix S M) H → va_S (fun q => z ≤ q) s.heap H locs → lv_has ls 3 [(0, .ref (ad 64 0))] → W p l e (tq_rm 7 154) s m args below meth c H locs 0 0 (MQ below (va_Qi (fun r u => post u r) (tq_P D cy z H0 ad N S) (fun q => z ≤ q)) args s 0 0 (fun q => z ≤ q)) (F0 m 61 ls []) := by
  obtain ⟨hx, hb, hr, hml, hown, hts, hlocks, hK, hG⟩ := id C
  have hw : ∀ w ∈ tq_W, w.before args s = true := fun w h => hts w (List.mem_cons_of_mem _ h)
  intro M  H locs ls h hW hS hl
  unfold wbX12_orderHere_61 at h
  refine lv_aload_n hx hb dX12_orderHere_61 rfl (lv_at hl 0 rfl) ?_
  refine tq_callVi (As := []) (rest := []) (kX12_wrong h) ⟨hx, hb, hml, hown, hts⟩ (cwV 0 hts (tq_goodV tw_1732 tw_1734 tw_63 tw_125 tw_1735) rfl rfl rfl (by decide +kernel) ⟨Nat.le_of_ble_eq_true rfl, Nat.le_of_ble_eq_true rfl⟩) hK hG hW hS rfl hl.1 rfl (Nat.le_of_ble_eq_true rfl) dX12_orderHere_62 ⟨Nat.le_of_ble_eq_true rfl, Nat.le_of_ble_eq_true rfl⟩ (fun r15 M14 H locs h hW hS => ?_)
  obtain ⟨b16, h⟩ := h
  exact W.zret (v := r15) hx hb hr b16 (fun t ht hWm => ⟨⟨_, M14, rfl, h, tq_pe ht hW⟩, hS.F ht⟩) hS.2.2 dX12_orderHere_65
set_option maxHeartbeats 4000000 in
set_option maxRecDepth 100000 in
theorem bX12_orderHere_12 {p : Program} {e : Env} {s : State} {m : MethodId} {args : Array Value} {below : List Frame} {meth : Method} {c : Code} {post : tq_St → Int32 → Prop} (C : tq_At p s m meth c args cX12_orderHere 3 ((some .boolean)) ((tq_ws yX12_orderHere cX12_orderHere 3 (some .boolean))) RX12 D cy z ad)  : ∀ n : Nat, ∀ (M : tq_St) (x1 : Int32) (x2 : Int32) (H : Heap) (locs : List Loc) (ls : Array Slot), wbX12_orderHere_12 post   n M x1 x2 → tq_wd D cy z H0 ad N (tq_mix S M) H → va_S (fun q => z ≤ q) s.heap H locs → lv_has ls 3 [(0, .ref (ad 64 0)), (1, .int x1), (2, .int x2)] → W p l e (tq_rm 7 154) s m args below meth c H locs 0 0 (MQ below (va_Qi (fun r u => post u r) (tq_P D cy z H0 ad N S) (fun q => z ≤ q)) args s 0 0 (fun q => z ≤ q)) (F0 m 12 ls []) := by
  obtain ⟨hx, hb, hr, hml, hown, hts, hlocks, hK, hG⟩ := id C
  have hw : ∀ w ∈ tq_W, w.before args s = true := fun w h => hts w (List.mem_cons_of_mem _ h)
  intro n
  induction n with
  | zero =>
    intro M x1 x2 H locs ls h
    exact absurd h (by unfold wbX12_orderHere_12; exact id)
  | succ n ih =>
    intro M x1 x2 H locs ls h hW hS hl
    unfold wbX12_orderHere_12 at h
    refine lv_aload_n hx hb dX12_orderHere_12 rfl (lv_at hl 0 rfl) ?_
    refine lv_iload_n hx hb dX12_orderHere_13 rfl (lv_at hl 1 rfl) ?_
    refine lv_iload_n hx hb dX12_orderHere_14 rfl (lv_at hl 2 rfl) ?_
    refine tq_callVi (As := [.int x1, .int x2]) (rest := []) (kX12_paragraphHere h) ⟨hx, hb, hml, hown, hts⟩ (cwV 2 hts (tq_goodV tw_1708 tw_1710 tw_59 tw_125 tw_1711) rfl rfl rfl (by decide +kernel) ⟨Nat.le_of_ble_eq_true rfl, Nat.le_of_ble_eq_true rfl⟩) hK hG hW hS rfl hl.1 rfl (Nat.le_of_ble_eq_true rfl) dX12_orderHere_15 ⟨Nat.le_of_ble_eq_true rfl, Nat.le_of_ble_eq_true rfl⟩ (fun r4 M3 H locs h hW hS => ?_)
    refine lv_if_ne (tgt := 23) hx hb dX12_orderHere_18 (by decide) (fun c5 => ?_) (fun c5 => ?_)
    · have h := h.1 c5
      refine lv_iinc (v := x2 + 1) (lv' := [(2, .int (x2 + 1)), (0, .ref (ad 64 0)), (1, .int x1)]) hx hb dX12_orderHere_23 hl (k := 2) rfl rfl (by decide) rfl (fun ls hl => ?_)
      refine lv_aload_n hx hb dX12_orderHere_26 rfl (lv_at hl 1 rfl) ?_
      refine tqm_get (v := .ref (ad 117 0)) hx hb hw tq_inX12 hown hK hW (by decide) (tq_mk_64 (by decide)) rfl 17 (by decide) (hw _ tw_1425) (fun _ h9 => h9) rfl dX12_orderHere_27 ?_
      refine lv_iload_n hx hb dX12_orderHere_30 rfl (lv_at hl 2 rfl) ?_
      refine lv_iload_n hx hb dX12_orderHere_31 rfl (lv_at hl 0 rfl) ?_
      obtain ⟨b6, h⟩ := h
      refine tqm_iast (jn := x1.toNatClampNeg) hx hb hK hW hS (by decide) (tq_mk_117 (by decide)) b6 rfl (tq_mk_117 (by decide)) dX12_orderHere_32 (fun H locs hW hS => ?_)
      generalize eM7 : tq_up M3 117 0 x1.toNatClampNeg (x2 + 1) = M7 at hW
      have h := h M7 eM7.symm
      refine lv_aload_n hx hb dX12_orderHere_33 rfl (lv_at hl 1 rfl) ?_
      refine tqm_get (v := .int (M7 64 0 67)) hx hb hw tq_inX12 hown hK hW (by decide) (tq_mk_64 (by decide)) rfl 67 (by decide) (hw _ tw_1475) (fun _ h9 => h9) rfl dX12_orderHere_34 ?_
      refine lv_aload_n hx hb dX12_orderHere_37 rfl (lv_at hl 1 rfl) ?_
      refine tqm_get (v := .int (M7 64 0 61)) hx hb hw tq_inX12 hown hK hW (by decide) (tq_mk_64 (by decide)) rfl 61 (by decide) (hw _ tw_1469) (fun _ h9 => h9) rfl dX12_orderHere_38 ?_
      refine lv_icmp_ne (tgt := 46) hx hb dX12_orderHere_41 (by decide) (fun c8 => ?_) (fun c8 => ?_)
      · have h := h.1 c8
        refine lv_aload_n hx hb dX12_orderHere_46 rfl (lv_at hl 1 rfl) ?_
        refine tq_callVi (As := []) (rest := []) (kX12_here h) ⟨hx, hb, hml, hown, hts⟩ (cwV 0 hts (tq_goodV tw_1716 tw_1718 tw_61 tw_125 tw_1719) rfl rfl rfl (by decide +kernel) ⟨Nat.le_of_ble_eq_true rfl, Nat.le_of_ble_eq_true rfl⟩) hK hG hW hS rfl hl.1 rfl (Nat.le_of_ble_eq_true rfl) dX12_orderHere_47 ⟨Nat.le_of_ble_eq_true rfl, Nat.le_of_ble_eq_true rfl⟩ (fun r10 M9 H locs h hW hS => ?_)
        refine lv_bipush (v := 59) hx hb dX12_orderHere_50 (by decide) ?_
        refine lv_icmp_ne (tgt := 61) hx hb dX12_orderHere_52 (by decide) (fun c11 => ?_) (fun c11 => ?_)
        · have h := h.1 c11
          exact bX12_orderHere_61 C  _  _ _ _ h hW hS (lv_sub hl [1] rfl)
        · have h := h.2 c11
          refine lv_iload_n hx hb dX12_orderHere_55 rfl (lv_at hl 0 rfl) ?_
          refine lv_bipush (v := 6) hx hb dX12_orderHere_56 (by decide) ?_
          refine lv_icmp_ne (tgt := 66) hx hb dX12_orderHere_58 (by decide) (fun c12 => ?_) (fun c12 => ?_)
          · have h := h.1 c12
            refine lv_aload_n hx hb dX12_orderHere_66 rfl (lv_at hl 1 rfl) ?_
            refine lv_dup hx hb dX12_orderHere_67 rfl ?_
            refine tqm_get (v := .int (M9 64 0 67)) hx hb hw tq_inX12 hown hK hW (by decide) (tq_mk_64 (by decide)) rfl 67 (by decide) (hw _ tw_1475) (fun _ h9 => h9) rfl dX12_orderHere_68 ?_
            refine lv_iconst (v := 1) hx hb dX12_orderHere_71 (by decide) ?_
            refine lv_iadd hx hb dX12_orderHere_72 ?_
            refine tqm_put hx hb hw tq_inX12 tyX12 tyX12_ok nmX12 hown hK hW hS (by decide) (tq_mk_64 (by decide)) rfl 67 (by decide) (hw _ tw_1475) (fun _ h9 => h9) rfl rfl rfl rfl (tq_mk_64 (by decide)) dX12_orderHere_73 (fun H locs hW hS => ?_)
            generalize eM13 : tq_up M9 64 0 67 ((M9 64 0 67) + 1) = M13 at hW
            have h := h M13 eM13.symm
            refine lv_goto (tgt := 12) hx hb dX12_orderHere_76 (by decide) ?_
            exact ih _ _ _ _ _ _ h hW hS (lv_sub hl [1, 2, 0] rfl)
          · have h := h.2 c12
            exact bX12_orderHere_61 C  _  _ _ _ h hW hS (lv_sub hl [1] rfl)
      · have h := h.2 c8
        refine lv_iconst (v := 1) hx hb dX12_orderHere_44 (by decide) ?_
        exact W.zret (v := 1) hx hb hr rfl (fun t ht hWm => ⟨⟨_, M7, rfl, h, tq_pe ht hW⟩, hS.F ht⟩) hS.2.2 dX12_orderHere_45
    · have h := h.2 c5
      refine lv_iconst (v := 0) hx hb dX12_orderHere_21 (by decide) ?_
      exact W.zret (v := 0) hx hb hr rfl (fun t ht hWm => ⟨⟨_, M3, rfl, h, tq_pe ht hW⟩, hS.F ht⟩) hS.2.2 dX12_orderHere_22
set_option maxHeartbeats 4000000 in
set_option maxRecDepth 100000 in
theorem kX12_orderHere {post : tq_St → Int32 → Prop} {M : tq_St} {p0 : Int32} (h : wpX12_orderHere post M p0) : tq_mI l yX12_orderHere (tq_ws yX12_orderHere cX12_orderHere 3 (some .boolean)) 7 154 D cy z H0 ad N S M [.ref (ad 64 0), .int p0] post := by
  unfold wpX12_orderHere at h
  refine Met.ofW (cc := cX12_orderHere) (maxL := 3) (ret := (some .boolean)) (by decide) rfl ?_
  intro p e s m args below meth c s₁ B hml hv
  obtain ⟨rfl, hW, hK, hG⟩ := hv
  have hx := B.exec
  have hb := B.bytes
  have hr := B.returns
  have hts := atoms_spec (ws := (tq_ws yX12_orderHere cX12_orderHere 3 (some .boolean))) B.pre
  have hw : ∀ w ∈ tq_W, w.before _ s = true := fun w h => hts w (List.mem_cons_of_mem _ h)
  have hown : s.vm.findClass RX12 = some m.cls := findClass_of_methodNamed B.named
  have hlocks := B.notSynchronized
  have C : tq_At p s m meth c [.ref (ad 64 0), .int p0].toArray cX12_orderHere 3 ((some .boolean)) ((tq_ws yX12_orderHere cX12_orderHere 3 (some .boolean))) RX12 D cy z ad := ⟨hx, hb, hr, hml, hown, hts, hlocks, hK, hG⟩
  have hS : va_S (fun q => z ≤ q) s.heap s.heap [] := va_S.rf
  have hl := lv_entry ([.ref (ad 64 0), .int p0]) (n := 3) (Nat.le_of_ble_eq_true rfl)
  rw [lg_entry_eq]
  generalize (lg_sl ([.ref (ad 64 0), .int p0]) ++ List.replicate (3 - (lg_sl ([.ref (ad 64 0), .int p0])).length) Slot.unset).toArray = ls at hl ⊢
  have hl : lv_has ls 3 [(0, .ref (ad 64 0)), (1, .int p0)] := hl
  have hW : tq_wd D cy z H0 ad N (tq_mix S M) s.heap := hW
  refine lv_aload_n hx hb dX12_orderHere_0 rfl (lv_at hl 0 rfl) ?_
  refine lv_iconst (v := 0) hx hb dX12_orderHere_1 (by decide) ?_
  refine tqm_put hx hb hw tq_inX12 tyX12 tyX12_ok nmX12 hown hK hW hS (by decide) (tq_mk_64 (by decide)) rfl 67 (by decide) (hw _ tw_1475) (fun _ h9 => h9) rfl rfl rfl rfl (tq_mk_64 (by decide)) dX12_orderHere_2 (fun H locs hW hS => ?_)
  generalize eM1 : tq_up M 64 0 67 0 = M1 at hW
  have h := h M1 eM1.symm
  refine lv_aload_n hx hb dX12_orderHere_5 rfl (lv_at hl 0 rfl) ?_
  refine lv_iconst (v := (-1)) hx hb dX12_orderHere_6 (by decide) ?_
  refine tqm_put hx hb hw tq_inX12 tyX12 tyX12_ok nmX12 hown hK hW hS (by decide) (tq_mk_64 (by decide)) rfl 68 (by decide) (hw _ tw_1476) (fun _ h9 => h9) rfl rfl rfl rfl (tq_mk_64 (by decide)) dX12_orderHere_7 (fun H locs hW hS => ?_)
  generalize eM2 : tq_up M1 64 0 68 ((-1)) = M2 at hW
  have h := h M2 eM2.symm
  refine lv_iconst (v := 0) hx hb dX12_orderHere_10 (by decide) ?_
  refine lv_istore_n (lv' := [(2, .int 0), (0, .ref (ad 64 0)), (1, .int p0)]) hx hb dX12_orderHere_11 rfl hl (by decide) rfl (fun ls hl => ?_)
  obtain ⟨nq, h⟩ := h
  exact bX12_orderHere_12 C  nq _ _ _ _ _ _ h hW hS (lv_sub hl [1, 2, 0] rfl)
-- order
def wbX12_order_57 (post : tq_St → Int32 → Prop)  (M : tq_St) (y0 : Int32) : Prop :=
  post M y0
def wpX12_order (post : tq_St → Int32 → Prop) (M : tq_St) (p0 : Int32) : Prop :=
  wpX12_isFactory (fun M1 r2 => (¬ r2 = 0 → ((¬ (M1 64 0 9) = 150 → (wpX12_orderHere (fun M5 r6 => ∀ M7, M7 = tq_up M5 64 0 61 0 → ((r6 = 0 → (wbX12_order_57 post M7 (((-10)) - (M7 64 0 68)))) ∧ (¬ r6 = 0 → (wpX12_write (fun M9 r10 => wbX12_order_57 post M9 r10) M7 2 0 p0)))) M1 (M1 64 0 9))) ∧ ((M1 64 0 9) = 150 → (post M1 ((-4)))))) ∧ (r2 = 0 → (post M1 ((-1))))) M p0
set_option maxHeartbeats 4000000 in
set_option maxRecDepth 100000 in
theorem bX12_order_57 {p : Program} {e : Env} {s : State} {m : MethodId} {args : Array Value} {below : List Frame} {meth : Method} {c : Code} {post : tq_St → Int32 → Prop} (C : tq_At p s m meth c args cX12_order 3 ((some .int)) ((tq_ws yX12_order cX12_order 3 (some .int))) RX12 D cy z ad)  : ∀ (M : tq_St) (y0 : Int32) (H : Heap) (locs : List Loc) (ls : Array Slot), wbX12_order_57 post   M y0 → tq_wd D cy z H0 ad N (tq_mix S M) H → va_S (fun q => z ≤ q) s.heap H locs → lv_has ls 3 [] → W p l e (tq_rm 8 176) s m args below meth c H locs 0 0 (MQ below (va_Qi (fun r u => post u r) (tq_P D cy z H0 ad N S) (fun q => z ≤ q)) args s 0 0 (fun q => z ≤ q)) (F0 m 57 ls [.int y0]) := by
  obtain ⟨hx, hb, hr, hml, hown, hts, hlocks, hK, hG⟩ := id C
  have hw : ∀ w ∈ tq_W, w.before args s = true := fun w h => hts w (List.mem_cons_of_mem _ h)
  intro M y0 H locs ls h hW hS hl
  unfold wbX12_order_57 at h
  exact W.iret (v := y0) hx hb hr (fun t ht hWm => ⟨⟨_, M, rfl, h, tq_pe ht hW⟩, hS.F ht⟩) hS.2.2 dX12_order_57
set_option maxHeartbeats 4000000 in
set_option maxRecDepth 100000 in
theorem kX12_order {post : tq_St → Int32 → Prop} {M : tq_St} {p0 : Int32} (h : wpX12_order post M p0) : tq_mI l yX12_order (tq_ws yX12_order cX12_order 3 (some .int)) 8 176 D cy z H0 ad N S M [.ref (ad 64 0), .int p0] post := by
  unfold wpX12_order at h
  refine Met.ofW (cc := cX12_order) (maxL := 3) (ret := (some .int)) (by decide) rfl ?_
  intro p e s m args below meth c s₁ B hml hv
  obtain ⟨rfl, hW, hK, hG⟩ := hv
  have hx := B.exec
  have hb := B.bytes
  have hr := B.returns
  have hts := atoms_spec (ws := (tq_ws yX12_order cX12_order 3 (some .int))) B.pre
  have hw : ∀ w ∈ tq_W, w.before _ s = true := fun w h => hts w (List.mem_cons_of_mem _ h)
  have hown : s.vm.findClass RX12 = some m.cls := findClass_of_methodNamed B.named
  have hlocks := B.notSynchronized
  have C : tq_At p s m meth c [.ref (ad 64 0), .int p0].toArray cX12_order 3 ((some .int)) ((tq_ws yX12_order cX12_order 3 (some .int))) RX12 D cy z ad := ⟨hx, hb, hr, hml, hown, hts, hlocks, hK, hG⟩
  have hS : va_S (fun q => z ≤ q) s.heap s.heap [] := va_S.rf
  have hl := lv_entry ([.ref (ad 64 0), .int p0]) (n := 3) (Nat.le_of_ble_eq_true rfl)
  rw [lg_entry_eq]
  generalize (lg_sl ([.ref (ad 64 0), .int p0]) ++ List.replicate (3 - (lg_sl ([.ref (ad 64 0), .int p0])).length) Slot.unset).toArray = ls at hl ⊢
  have hl : lv_has ls 3 [(0, .ref (ad 64 0)), (1, .int p0)] := hl
  have hW : tq_wd D cy z H0 ad N (tq_mix S M) s.heap := hW
  refine lv_iload_n hx hb dX12_order_0 rfl (lv_at hl 1 rfl) ?_
  refine tq_callSi (As := [.int p0]) (rest := []) (kX12_isFactory h) ⟨hx, hb, hml, hown, hts⟩ (va_cwS 1 hts (tq_goodS tw_1645 tw_1646 tw_125 tw_1647) rfl rfl rfl (by decide +kernel) ⟨Nat.le_of_ble_eq_true rfl, Nat.le_of_ble_eq_true rfl⟩) hK hG hW hS rfl hl.1 rfl (Nat.le_of_ble_eq_true rfl) dX12_order_1 ⟨Nat.le_of_ble_eq_true rfl, Nat.le_of_ble_eq_true rfl⟩ (fun r2 M1 H locs h hW hS => ?_)
  refine lv_if_ne (tgt := 9) hx hb dX12_order_4 (by decide) (fun c3 => ?_) (fun c3 => ?_)
  · have h := h.1 c3
    refine lv_aload_n hx hb dX12_order_9 rfl (lv_at hl 0 rfl) ?_
    refine tqm_get (v := .int (M1 64 0 9)) hx hb hw tq_inX12 hown hK hW (by decide) (tq_mk_64 (by decide)) rfl 9 (by decide) (hw _ tw_1417) (fun _ h9 => h9) rfl dX12_order_10 ?_
    refine lv_sipush (v := 150) hx hb dX12_order_13 (by decide) ?_
    refine lv_icmp_ne (tgt := 22) hx hb dX12_order_16 (by decide) (fun c4 => ?_) (fun c4 => ?_)
    · have h := h.1 c4
      refine lv_aload_n hx hb dX12_order_22 rfl (lv_at hl 0 rfl) ?_
      refine lv_aload_n hx hb dX12_order_23 rfl (lv_at hl 0 rfl) ?_
      refine tqm_get (v := .int (M1 64 0 9)) hx hb hw tq_inX12 hown hK hW (by decide) (tq_mk_64 (by decide)) rfl 9 (by decide) (hw _ tw_1417) (fun _ h9 => h9) rfl dX12_order_24 ?_
      refine tq_callVi (As := [.int (M1 64 0 9)]) (rest := []) (kX12_orderHere h) ⟨hx, hb, hml, hown, hts⟩ (cwV 1 hts (tq_goodV tw_1704 tw_1706 tw_58 tw_125 tw_1707) rfl rfl rfl (by decide +kernel) ⟨Nat.le_of_ble_eq_true rfl, Nat.le_of_ble_eq_true rfl⟩) hK hG hW hS rfl hl.1 rfl (Nat.le_of_ble_eq_true rfl) dX12_order_27 ⟨Nat.le_of_ble_eq_true rfl, Nat.le_of_ble_eq_true rfl⟩ (fun r6 M5 H locs h hW hS => ?_)
      refine lv_istore_n (lv' := [(2, .int r6), (0, .ref (ad 64 0)), (1, .int p0)]) hx hb dX12_order_30 rfl hl (by decide) rfl (fun ls hl => ?_)
      refine lv_aload_n hx hb dX12_order_31 rfl (lv_at hl 1 rfl) ?_
      refine lv_iconst (v := 0) hx hb dX12_order_32 (by decide) ?_
      refine tqm_put hx hb hw tq_inX12 tyX12 tyX12_ok nmX12 hown hK hW hS (by decide) (tq_mk_64 (by decide)) rfl 61 (by decide) (hw _ tw_1469) (fun _ h9 => h9) rfl rfl rfl rfl (tq_mk_64 (by decide)) dX12_order_33 (fun H locs hW hS => ?_)
      generalize eM7 : tq_up M5 64 0 61 0 = M7 at hW
      have h := h M7 eM7.symm
      refine lv_iload_n hx hb dX12_order_36 rfl (lv_at hl 0 rfl) ?_
      refine lv_if_eq (tgt := 50) hx hb dX12_order_37 (by decide) (fun c8 => ?_) (fun c8 => ?_)
      · have h := h.1 c8
        refine lv_bipush (v := (-10)) hx hb dX12_order_50 (by decide) ?_
        refine lv_aload_n hx hb dX12_order_52 rfl (lv_at hl 1 rfl) ?_
        refine tqm_get (v := .int (M7 64 0 68)) hx hb hw tq_inX12 hown hK hW (by decide) (tq_mk_64 (by decide)) rfl 68 (by decide) (hw _ tw_1476) (fun _ h9 => h9) rfl dX12_order_53 ?_
        refine lv_isub hx hb dX12_order_56 ?_
        exact bX12_order_57 C  _ _ _ _ _ h hW hS (lv_sub hl [] rfl)
      · have h := h.2 c8
        refine lv_aload_n hx hb dX12_order_40 rfl (lv_at hl 1 rfl) ?_
        refine lv_iconst (v := 2) hx hb dX12_order_41 (by decide) ?_
        refine lv_iconst (v := 0) hx hb dX12_order_42 (by decide) ?_
        refine lv_iload_n hx hb dX12_order_43 rfl (lv_at hl 2 rfl) ?_
        refine tq_callVi (As := [.int 2, .int 0, .int p0]) (rest := []) (kX12_write h) ⟨hx, hb, hml, hown, hts⟩ (cwV 3 hts (tq_goodV tw_1759 tw_1761 tw_67 tw_125 tw_1762) rfl rfl rfl (by decide +kernel) ⟨Nat.le_of_ble_eq_true rfl, Nat.le_of_ble_eq_true rfl⟩) hK hG hW hS rfl hl.1 rfl (Nat.le_of_ble_eq_true rfl) dX12_order_44 ⟨Nat.le_of_ble_eq_true rfl, Nat.le_of_ble_eq_true rfl⟩ (fun r10 M9 H locs h hW hS => ?_)
        refine lv_goto (tgt := 57) hx hb dX12_order_47 (by decide) ?_
        exact bX12_order_57 C  _ _ _ _ _ h hW hS (lv_sub hl [] rfl)
    · have h := h.2 c4
      refine lv_bipush (v := (-4)) hx hb dX12_order_19 (by decide) ?_
      exact W.iret (v := (-4)) hx hb hr (fun t ht hWm => ⟨⟨_, M1, rfl, h, tq_pe ht hW⟩, hS.F ht⟩) hS.2.2 dX12_order_21
  · have h := h.2 c3
    refine lv_iconst (v := (-1)) hx hb dX12_order_7 (by decide) ?_
    exact W.iret (v := (-1)) hx hb hr (fun t ht hWm => ⟨⟨_, M1, rfl, h, tq_pe ht hW⟩, hS.F ht⟩) hS.2.2 dX12_order_8
-- letter
def wbX12_letter_14 (post : tq_St → Int32 → Prop)  (M : tq_St) : Prop :=
  post M ((-1))
def wbX12_letter_48 (post : tq_St → Int32 → Prop) : Nat → tq_St → Int32 → Int32 → Int32 → Prop
  | 0, _, _, _, _ => False
  | n + 1, M, x1, x3, x4 =>
    (4 ≤ x4 → (post M x3)) ∧ (¬ 4 ≤ x4 → (vp_in x3 150 ∧ (vp_in x1 5 ∧ (vp_in x4 4 ∧ (∀ M15, M15 = tq_up M 116 x3.toNatClampNeg x4.toNatClampNeg (M 102 x1.toNatClampNeg x4.toNatClampNeg) → ((wbX12_letter_48 post n) M15 x1 x3 (x4 + 1)))))))
def wpX12_letter (post : tq_St → Int32 → Prop) (M : tq_St) (p0 : Int32) (p1 : Int32) : Prop :=
  wpX12_isPlace (fun M1 r2 => (r2 = 0 → (wbX12_letter_14 post M1 )) ∧ (¬ r2 = 0 → (wpX12_isPlace (fun M4 r5 => (¬ r5 = 0 → ((¬ p0 = p1 → ((¬ (M4 64 0 9) = 150 → (wpX12_write (fun M9 r10 => ∃ nq, wbX12_letter_48 post nq M9 p0 r10 0) M4 1 p0 p1)) ∧ ((M4 64 0 9) = 150 → (post M4 ((-4)))))) ∧ (p0 = p1 → (post M4 ((-2)))))) ∧ (r5 = 0 → (wbX12_letter_14 post M4 ))) M1 p1))) M p0
set_option maxHeartbeats 4000000 in
set_option maxRecDepth 100000 in
theorem bX12_letter_14 {p : Program} {e : Env} {s : State} {m : MethodId} {args : Array Value} {below : List Frame} {meth : Method} {c : Code} {post : tq_St → Int32 → Prop} (C : tq_At p s m meth c args cX12_letter 5 ((some .int)) ((tq_ws yX12_letter cX12_letter 5 (some .int))) RX12 D cy z ad)  : ∀ (M : tq_St)  (H : Heap) (locs : List Loc) (ls : Array Slot), wbX12_letter_14 post   M  → tq_wd D cy z H0 ad N (tq_mix S M) H → va_S (fun q => z ≤ q) s.heap H locs → lv_has ls 5 [] → W p l e (tq_rm 2 42) s m args below meth c H locs 0 0 (MQ below (va_Qi (fun r u => post u r) (tq_P D cy z H0 ad N S) (fun q => z ≤ q)) args s 0 0 (fun q => z ≤ q)) (F0 m 14 ls []) := by
  obtain ⟨hx, hb, hr, hml, hown, hts, hlocks, hK, hG⟩ := id C
  have hw : ∀ w ∈ tq_W, w.before args s = true := fun w h => hts w (List.mem_cons_of_mem _ h)
  intro M  H locs ls h hW hS hl
  unfold wbX12_letter_14 at h
  refine lv_iconst (v := (-1)) hx hb dX12_letter_14 (by decide) ?_
  exact W.iret (v := (-1)) hx hb hr (fun t ht hWm => ⟨⟨_, M, rfl, h, tq_pe ht hW⟩, hS.F ht⟩) hS.2.2 dX12_letter_15
set_option maxHeartbeats 4000000 in
set_option maxRecDepth 100000 in
theorem bX12_letter_48 {p : Program} {e : Env} {s : State} {m : MethodId} {args : Array Value} {below : List Frame} {meth : Method} {c : Code} {post : tq_St → Int32 → Prop} (C : tq_At p s m meth c args cX12_letter 5 ((some .int)) ((tq_ws yX12_letter cX12_letter 5 (some .int))) RX12 D cy z ad)  : ∀ n : Nat, ∀ (M : tq_St) (x1 : Int32) (x3 : Int32) (x4 : Int32) (H : Heap) (locs : List Loc) (ls : Array Slot), wbX12_letter_48 post   n M x1 x3 x4 → tq_wd D cy z H0 ad N (tq_mix S M) H → va_S (fun q => z ≤ q) s.heap H locs → lv_has ls 5 [(0, .ref (ad 64 0)), (1, .int x1), (3, .int x3), (4, .int x4)] → W p l e (tq_rm 2 42) s m args below meth c H locs 0 0 (MQ below (va_Qi (fun r u => post u r) (tq_P D cy z H0 ad N S) (fun q => z ≤ q)) args s 0 0 (fun q => z ≤ q)) (F0 m 48 ls []) := by
  obtain ⟨hx, hb, hr, hml, hown, hts, hlocks, hK, hG⟩ := id C
  have hw : ∀ w ∈ tq_W, w.before args s = true := fun w h => hts w (List.mem_cons_of_mem _ h)
  intro n
  induction n with
  | zero =>
    intro M x1 x3 x4 H locs ls h
    exact absurd h (by unfold wbX12_letter_48; exact id)
  | succ n ih =>
    intro M x1 x3 x4 H locs ls h hW hS hl
    unfold wbX12_letter_48 at h
    refine lv_iload hx hb dX12_letter_48 (lv_at hl 3 rfl) ?_
    refine lv_iconst (v := 4) hx hb dX12_letter_50 (by decide) ?_
    refine lv_icmp_ge (tgt := 78) hx hb dX12_letter_51 (by decide) (fun c11 => ?_) (fun c11 => ?_)
    · have h := h.1 c11
      refine lv_iload_n hx hb dX12_letter_78 rfl (lv_at hl 2 rfl) ?_
      exact W.iret (v := x3) hx hb hr (fun t ht hWm => ⟨⟨_, M, rfl, h, tq_pe ht hW⟩, hS.F ht⟩) hS.2.2 dX12_letter_79
    · have h := h.2 c11
      refine lv_aload_n hx hb dX12_letter_54 rfl (lv_at hl 0 rfl) ?_
      refine tqm_get (v := .ref (ad 216 0)) hx hb hw tq_inX12 hown hK hW (by decide) (tq_mk_64 (by decide)) rfl 16 (by decide) (hw _ tw_1424) (fun _ h9 => h9) rfl dX12_letter_55 ?_
      refine lv_iload_n hx hb dX12_letter_58 rfl (lv_at hl 2 rfl) ?_
      obtain ⟨b12, h⟩ := h
      refine tqm_aald (jn := x3.toNatClampNeg) (v := .ref (ad 116 x3.toNatClampNeg)) hx hb hK hW (by decide) (tq_mk_216 (by decide)) 2 rfl rfl b12 rfl rfl dX12_letter_59 ?_
      refine lv_iload hx hb dX12_letter_60 (lv_at hl 3 rfl) ?_
      refine lv_aload_n hx hb dX12_letter_62 rfl (lv_at hl 0 rfl) ?_
      refine tqm_get (v := .ref (ad 202 0)) hx hb hw tq_inX12 hown hK hW (by decide) (tq_mk_64 (by decide)) rfl 2 (by decide) (hw _ tw_1410) (fun _ h9 => h9) rfl dX12_letter_63 ?_
      refine lv_iload_n hx hb dX12_letter_66 rfl (lv_at hl 1 rfl) ?_
      obtain ⟨b13, h⟩ := h
      refine tqm_aald (jn := x1.toNatClampNeg) (v := .ref (ad 102 x1.toNatClampNeg)) hx hb hK hW (by decide) (tq_mk_202 (by decide)) 2 rfl rfl b13 rfl rfl dX12_letter_67 ?_
      refine lv_iload hx hb dX12_letter_68 (lv_at hl 3 rfl) ?_
      obtain ⟨b14, h⟩ := h
      refine tqm_iald (jn := x4.toNatClampNeg) hx hb hK hW (by decide) (tq_mk_102 (tq_lt b13)) b14 rfl dX12_letter_70 ?_
      refine tqm_iast (jn := x4.toNatClampNeg) hx hb hK hW hS (by decide) (tq_mk_116 (tq_lt b12)) b14 rfl (tq_mk_116 (tq_lt b12)) dX12_letter_71 (fun H locs hW hS => ?_)
      generalize eM15 : tq_up M 116 x3.toNatClampNeg x4.toNatClampNeg (M 102 x1.toNatClampNeg x4.toNatClampNeg) = M15 at hW
      have h := h M15 eM15.symm
      refine lv_iinc (v := x4 + 1) (lv' := [(4, .int (x4 + 1)), (0, .ref (ad 64 0)), (1, .int x1), (3, .int x3)]) hx hb dX12_letter_72 hl (k := 3) rfl rfl (by decide) rfl (fun ls hl => ?_)
      refine lv_goto (tgt := 48) hx hb dX12_letter_75 (by decide) ?_
      exact ih _ _ _ _ _ _ _ h hW hS (lv_sub hl [1, 2, 3, 0] rfl)
set_option maxHeartbeats 4000000 in
set_option maxRecDepth 100000 in
theorem kX12_letter {post : tq_St → Int32 → Prop} {M : tq_St} {p0 : Int32} {p1 : Int32} (h : wpX12_letter post M p0 p1) : tq_mI l yX12_letter (tq_ws yX12_letter cX12_letter 5 (some .int)) 2 42 D cy z H0 ad N S M [.ref (ad 64 0), .int p0, .int p1] post := by
  unfold wpX12_letter at h
  refine Met.ofW (cc := cX12_letter) (maxL := 5) (ret := (some .int)) (by decide) rfl ?_
  intro p e s m args below meth c s₁ B hml hv
  obtain ⟨rfl, hW, hK, hG⟩ := hv
  have hx := B.exec
  have hb := B.bytes
  have hr := B.returns
  have hts := atoms_spec (ws := (tq_ws yX12_letter cX12_letter 5 (some .int))) B.pre
  have hw : ∀ w ∈ tq_W, w.before _ s = true := fun w h => hts w (List.mem_cons_of_mem _ h)
  have hown : s.vm.findClass RX12 = some m.cls := findClass_of_methodNamed B.named
  have hlocks := B.notSynchronized
  have C : tq_At p s m meth c [.ref (ad 64 0), .int p0, .int p1].toArray cX12_letter 5 ((some .int)) ((tq_ws yX12_letter cX12_letter 5 (some .int))) RX12 D cy z ad := ⟨hx, hb, hr, hml, hown, hts, hlocks, hK, hG⟩
  have hS : va_S (fun q => z ≤ q) s.heap s.heap [] := va_S.rf
  have hl := lv_entry ([.ref (ad 64 0), .int p0, .int p1]) (n := 5) (Nat.le_of_ble_eq_true rfl)
  rw [lg_entry_eq]
  generalize (lg_sl ([.ref (ad 64 0), .int p0, .int p1]) ++ List.replicate (5 - (lg_sl ([.ref (ad 64 0), .int p0, .int p1])).length) Slot.unset).toArray = ls at hl ⊢
  have hl : lv_has ls 5 [(0, .ref (ad 64 0)), (1, .int p0), (2, .int p1)] := hl
  have hW : tq_wd D cy z H0 ad N (tq_mix S M) s.heap := hW
  refine lv_iload_n hx hb dX12_letter_0 rfl (lv_at hl 1 rfl) ?_
  refine tq_callSi (As := [.int p0]) (rest := []) (kX12_isPlace h) ⟨hx, hb, hml, hown, hts⟩ (va_cwS 1 hts (tq_goodS tw_1670 tw_1671 tw_125 tw_1672) rfl rfl rfl (by decide +kernel) ⟨Nat.le_of_ble_eq_true rfl, Nat.le_of_ble_eq_true rfl⟩) hK hG hW hS rfl hl.1 rfl (Nat.le_of_ble_eq_true rfl) dX12_letter_1 ⟨Nat.le_of_ble_eq_true rfl, Nat.le_of_ble_eq_true rfl⟩ (fun r2 M1 H locs h hW hS => ?_)
  refine lv_if_eq (tgt := 14) hx hb dX12_letter_4 (by decide) (fun c3 => ?_) (fun c3 => ?_)
  · have h := h.1 c3
    exact bX12_letter_14 C  _  _ _ _ h hW hS (lv_sub hl [] rfl)
  · have h := h.2 c3
    refine lv_iload_n hx hb dX12_letter_7 rfl (lv_at hl 2 rfl) ?_
    refine tq_callSi (As := [.int p1]) (rest := []) (kX12_isPlace h) ⟨hx, hb, hml, hown, hts⟩ (va_cwS 1 hts (tq_goodS tw_1670 tw_1671 tw_125 tw_1672) rfl rfl rfl (by decide +kernel) ⟨Nat.le_of_ble_eq_true rfl, Nat.le_of_ble_eq_true rfl⟩) hK hG hW hS rfl hl.1 rfl (Nat.le_of_ble_eq_true rfl) dX12_letter_8 ⟨Nat.le_of_ble_eq_true rfl, Nat.le_of_ble_eq_true rfl⟩ (fun r5 M4 H locs h hW hS => ?_)
    refine lv_if_ne (tgt := 16) hx hb dX12_letter_11 (by decide) (fun c6 => ?_) (fun c6 => ?_)
    · have h := h.1 c6
      refine lv_iload_n hx hb dX12_letter_16 rfl (lv_at hl 1 rfl) ?_
      refine lv_iload_n hx hb dX12_letter_17 rfl (lv_at hl 2 rfl) ?_
      refine lv_icmp_ne (tgt := 24) hx hb dX12_letter_18 (by decide) (fun c7 => ?_) (fun c7 => ?_)
      · have h := h.1 c7
        refine lv_aload_n hx hb dX12_letter_24 rfl (lv_at hl 0 rfl) ?_
        refine tqm_get (v := .int (M4 64 0 9)) hx hb hw tq_inX12 hown hK hW (by decide) (tq_mk_64 (by decide)) rfl 9 (by decide) (hw _ tw_1417) (fun _ h9 => h9) rfl dX12_letter_25 ?_
        refine lv_sipush (v := 150) hx hb dX12_letter_28 (by decide) ?_
        refine lv_icmp_ne (tgt := 37) hx hb dX12_letter_31 (by decide) (fun c8 => ?_) (fun c8 => ?_)
        · have h := h.1 c8
          refine lv_aload_n hx hb dX12_letter_37 rfl (lv_at hl 0 rfl) ?_
          refine lv_iconst (v := 1) hx hb dX12_letter_38 (by decide) ?_
          refine lv_iload_n hx hb dX12_letter_39 rfl (lv_at hl 1 rfl) ?_
          refine lv_iload_n hx hb dX12_letter_40 rfl (lv_at hl 2 rfl) ?_
          refine tq_callVi (As := [.int 1, .int p0, .int p1]) (rest := []) (kX12_write h) ⟨hx, hb, hml, hown, hts⟩ (cwV 3 hts (tq_goodV tw_1759 tw_1761 tw_67 tw_125 tw_1762) rfl rfl rfl (by decide +kernel) ⟨Nat.le_of_ble_eq_true rfl, Nat.le_of_ble_eq_true rfl⟩) hK hG hW hS rfl hl.1 rfl (Nat.le_of_ble_eq_true rfl) dX12_letter_41 ⟨Nat.le_of_ble_eq_true rfl, Nat.le_of_ble_eq_true rfl⟩ (fun r10 M9 H locs h hW hS => ?_)
          refine lv_istore_n (lv' := [(3, .int r10), (0, .ref (ad 64 0)), (1, .int p0), (2, .int p1)]) hx hb dX12_letter_44 rfl hl (by decide) rfl (fun ls hl => ?_)
          refine lv_iconst (v := 0) hx hb dX12_letter_45 (by decide) ?_
          refine lv_istore (lv' := [(4, .int 0), (3, .int r10), (0, .ref (ad 64 0)), (1, .int p0), (2, .int p1)]) hx hb dX12_letter_46 hl (by decide) rfl (fun ls hl => ?_)
          obtain ⟨nq, h⟩ := h
          exact bX12_letter_48 C  nq _ _ _ _ _ _ _ h hW hS (lv_sub hl [2, 3, 1, 0] rfl)
        · have h := h.2 c8
          refine lv_bipush (v := (-4)) hx hb dX12_letter_34 (by decide) ?_
          exact W.iret (v := (-4)) hx hb hr (fun t ht hWm => ⟨⟨_, M4, rfl, h, tq_pe ht hW⟩, hS.F ht⟩) hS.2.2 dX12_letter_36
      · have h := h.2 c7
        refine lv_bipush (v := (-2)) hx hb dX12_letter_21 (by decide) ?_
        exact W.iret (v := (-2)) hx hb hr (fun t ht hWm => ⟨⟨_, M4, rfl, h, tq_pe ht hW⟩, hS.F ht⟩) hS.2.2 dX12_letter_23
    · have h := h.2 c6
      exact bX12_letter_14 C  _  _ _ _ h hW hS (lv_sub hl [] rfl)
-- isShip
def wpX12_isShip (post : tq_St → Int32 → Prop) (M : tq_St) (p0 : Int32) : Prop :=
  wpX12_in (fun M1 r2 => narrow .boolean (.int r2) = .int r2 ∧ post M1 r2) M p0 0 ((M 64 0 21) - 1)
set_option maxHeartbeats 4000000 in
set_option maxRecDepth 100000 in
theorem kX12_isShip {post : tq_St → Int32 → Prop} {M : tq_St} {p0 : Int32} (h : wpX12_isShip post M p0) : tq_mI l yX12_isShip (tq_ws yX12_isShip cX12_isShip 2 (some .boolean)) 1 22 D cy z H0 ad N S M [.ref (ad 64 0), .int p0] post := by
  unfold wpX12_isShip at h
  refine Met.ofW (cc := cX12_isShip) (maxL := 2) (ret := (some .boolean)) (by decide) rfl ?_
  intro p e s m args below meth c s₁ B hml hv
  obtain ⟨rfl, hW, hK, hG⟩ := hv
  have hx := B.exec
  have hb := B.bytes
  have hr := B.returns
  have hts := atoms_spec (ws := (tq_ws yX12_isShip cX12_isShip 2 (some .boolean))) B.pre
  have hw : ∀ w ∈ tq_W, w.before _ s = true := fun w h => hts w (List.mem_cons_of_mem _ h)
  have hown : s.vm.findClass RX12 = some m.cls := findClass_of_methodNamed B.named
  have hlocks := B.notSynchronized
  have C : tq_At p s m meth c [.ref (ad 64 0), .int p0].toArray cX12_isShip 2 ((some .boolean)) ((tq_ws yX12_isShip cX12_isShip 2 (some .boolean))) RX12 D cy z ad := ⟨hx, hb, hr, hml, hown, hts, hlocks, hK, hG⟩
  have hS : va_S (fun q => z ≤ q) s.heap s.heap [] := va_S.rf
  have hl := lv_entry ([.ref (ad 64 0), .int p0]) (n := 2) (Nat.le_of_ble_eq_true rfl)
  rw [lg_entry_eq]
  generalize (lg_sl ([.ref (ad 64 0), .int p0]) ++ List.replicate (2 - (lg_sl ([.ref (ad 64 0), .int p0])).length) Slot.unset).toArray = ls at hl ⊢
  have hl : lv_has ls 2 [(0, .ref (ad 64 0)), (1, .int p0)] := hl
  have hW : tq_wd D cy z H0 ad N (tq_mix S M) s.heap := hW
  refine lv_iload_n hx hb dX12_isShip_0 rfl (lv_at hl 1 rfl) ?_
  refine lv_iconst (v := 0) hx hb dX12_isShip_1 (by decide) ?_
  refine lv_aload_n hx hb dX12_isShip_2 rfl (lv_at hl 0 rfl) ?_
  refine tqm_get (v := .int (M 64 0 21)) hx hb hw tq_inX12 hown hK hW (by decide) (tq_mk_64 (by decide)) rfl 21 (by decide) (hw _ tw_1429) (fun _ h9 => h9) rfl dX12_isShip_3 ?_
  refine lv_iconst (v := 1) hx hb dX12_isShip_6 (by decide) ?_
  refine lv_isub hx hb dX12_isShip_7 ?_
  refine tq_callSi (As := [.int p0, .int 0, .int ((M 64 0 21) - 1)]) (rest := []) (kX12_in h) ⟨hx, hb, hml, hown, hts⟩ (va_cwS 3 hts (tq_goodS tw_1648 tw_1649 tw_125 tw_1650) rfl rfl rfl (by decide +kernel) ⟨Nat.le_of_ble_eq_true rfl, Nat.le_of_ble_eq_true rfl⟩) hK hG hW hS rfl hl.1 rfl (Nat.le_of_ble_eq_true rfl) dX12_isShip_8 ⟨Nat.le_of_ble_eq_true rfl, Nat.le_of_ble_eq_true rfl⟩ (fun r2 M1 H locs h hW hS => ?_)
  obtain ⟨b3, h⟩ := h
  exact W.zret (v := r2) hx hb hr b3 (fun t ht hWm => ⟨⟨_, M1, rfl, h, tq_pe ht hW⟩, hS.F ht⟩) hS.2.2 dX12_isShip_11
-- copy
def wbX12_copy_16 (post : tq_St → Int32 → Prop)  (M : tq_St) : Prop :=
  post M ((-1))
def wbX12_copy_43 (post : tq_St → Int32 → Prop)  (M : tq_St) : Prop :=
  post M ((-3))
def wpX12_copy (post : tq_St → Int32 → Prop) (M : tq_St) (p0 : Int32) (p1 : Int32) : Prop :=
  wpX12_isPaper (fun M1 r2 => (r2 = 0 → (wbX12_copy_16 post M1 )) ∧ (¬ r2 = 0 → (wpX12_isShip (fun M4 r5 => (¬ r5 = 0 → (vp_in p1 8 ∧ (((M4 124 0 p1.toNatClampNeg) < 0 → (wbX12_copy_43 post M4 )) ∧ (¬ (M4 124 0 p1.toNatClampNeg) < 0 → (vp_in p0 150 ∧ (vp_in (M4 124 0 p1.toNatClampNeg) 5 ∧ ((0 ≤ (M4 115 p0.toNatClampNeg ((M4 124 0 p1.toNatClampNeg).toNatClampNeg)) → ((¬ (M4 114 0 p0.toNatClampNeg) = 3 → (∀ M13, M13 = tq_up M4 114 0 p0.toNatClampNeg ((M4 114 0 p0.toNatClampNeg) + 1) → (∀ M14, M14 = tq_up M13 120 p0.toNatClampNeg p1.toNatClampNeg ((M13 120 p0.toNatClampNeg p1.toNatClampNeg) + 1) → (post M14 (M14 114 0 p0.toNatClampNeg))))) ∧ ((M4 114 0 p0.toNatClampNeg) = 3 → (post M4 ((-4)))))) ∧ (¬ 0 ≤ (M4 115 p0.toNatClampNeg ((M4 124 0 p1.toNatClampNeg).toNatClampNeg)) → (wbX12_copy_43 post M4 ))))))))) ∧ (r5 = 0 → (wbX12_copy_16 post M4 ))) M1 p1))) M p0
set_option maxHeartbeats 4000000 in
set_option maxRecDepth 100000 in
theorem bX12_copy_16 {p : Program} {e : Env} {s : State} {m : MethodId} {args : Array Value} {below : List Frame} {meth : Method} {c : Code} {post : tq_St → Int32 → Prop} (C : tq_At p s m meth c args cX12_copy 3 ((some .int)) ((tq_ws yX12_copy cX12_copy 3 (some .int))) RX12 D cy z ad)  : ∀ (M : tq_St)  (H : Heap) (locs : List Loc) (ls : Array Slot), wbX12_copy_16 post   M  → tq_wd D cy z H0 ad N (tq_mix S M) H → va_S (fun q => z ≤ q) s.heap H locs → lv_has ls 3 [] → W p l e (tq_rm 2 43) s m args below meth c H locs 0 0 (MQ below (va_Qi (fun r u => post u r) (tq_P D cy z H0 ad N S) (fun q => z ≤ q)) args s 0 0 (fun q => z ≤ q)) (F0 m 16 ls []) := by
  obtain ⟨hx, hb, hr, hml, hown, hts, hlocks, hK, hG⟩ := id C
  have hw : ∀ w ∈ tq_W, w.before args s = true := fun w h => hts w (List.mem_cons_of_mem _ h)
  intro M  H locs ls h hW hS hl
  unfold wbX12_copy_16 at h
  refine lv_iconst (v := (-1)) hx hb dX12_copy_16 (by decide) ?_
  exact W.iret (v := (-1)) hx hb hr (fun t ht hWm => ⟨⟨_, M, rfl, h, tq_pe ht hW⟩, hS.F ht⟩) hS.2.2 dX12_copy_17
set_option maxHeartbeats 4000000 in
set_option maxRecDepth 100000 in
theorem bX12_copy_43 {p : Program} {e : Env} {s : State} {m : MethodId} {args : Array Value} {below : List Frame} {meth : Method} {c : Code} {post : tq_St → Int32 → Prop} (C : tq_At p s m meth c args cX12_copy 3 ((some .int)) ((tq_ws yX12_copy cX12_copy 3 (some .int))) RX12 D cy z ad)  : ∀ (M : tq_St)  (H : Heap) (locs : List Loc) (ls : Array Slot), wbX12_copy_43 post   M  → tq_wd D cy z H0 ad N (tq_mix S M) H → va_S (fun q => z ≤ q) s.heap H locs → lv_has ls 3 [] → W p l e (tq_rm 2 43) s m args below meth c H locs 0 0 (MQ below (va_Qi (fun r u => post u r) (tq_P D cy z H0 ad N S) (fun q => z ≤ q)) args s 0 0 (fun q => z ≤ q)) (F0 m 43 ls []) := by
  obtain ⟨hx, hb, hr, hml, hown, hts, hlocks, hK, hG⟩ := id C
  have hw : ∀ w ∈ tq_W, w.before args s = true := fun w h => hts w (List.mem_cons_of_mem _ h)
  intro M  H locs ls h hW hS hl
  unfold wbX12_copy_43 at h
  refine lv_bipush (v := (-3)) hx hb dX12_copy_43 (by decide) ?_
  exact W.iret (v := (-3)) hx hb hr (fun t ht hWm => ⟨⟨_, M, rfl, h, tq_pe ht hW⟩, hS.F ht⟩) hS.2.2 dX12_copy_45
set_option maxHeartbeats 4000000 in
set_option maxRecDepth 100000 in
theorem kX12_copy {post : tq_St → Int32 → Prop} {M : tq_St} {p0 : Int32} {p1 : Int32} (h : wpX12_copy post M p0 p1) : tq_mI l yX12_copy (tq_ws yX12_copy cX12_copy 3 (some .int)) 2 43 D cy z H0 ad N S M [.ref (ad 64 0), .int p0, .int p1] post := by
  unfold wpX12_copy at h
  refine Met.ofW (cc := cX12_copy) (maxL := 3) (ret := (some .int)) (by decide) rfl ?_
  intro p e s m args below meth c s₁ B hml hv
  obtain ⟨rfl, hW, hK, hG⟩ := hv
  have hx := B.exec
  have hb := B.bytes
  have hr := B.returns
  have hts := atoms_spec (ws := (tq_ws yX12_copy cX12_copy 3 (some .int))) B.pre
  have hw : ∀ w ∈ tq_W, w.before _ s = true := fun w h => hts w (List.mem_cons_of_mem _ h)
  have hown : s.vm.findClass RX12 = some m.cls := findClass_of_methodNamed B.named
  have hlocks := B.notSynchronized
  have C : tq_At p s m meth c [.ref (ad 64 0), .int p0, .int p1].toArray cX12_copy 3 ((some .int)) ((tq_ws yX12_copy cX12_copy 3 (some .int))) RX12 D cy z ad := ⟨hx, hb, hr, hml, hown, hts, hlocks, hK, hG⟩
  have hS : va_S (fun q => z ≤ q) s.heap s.heap [] := va_S.rf
  have hl := lv_entry ([.ref (ad 64 0), .int p0, .int p1]) (n := 3) (Nat.le_of_ble_eq_true rfl)
  rw [lg_entry_eq]
  generalize (lg_sl ([.ref (ad 64 0), .int p0, .int p1]) ++ List.replicate (3 - (lg_sl ([.ref (ad 64 0), .int p0, .int p1])).length) Slot.unset).toArray = ls at hl ⊢
  have hl : lv_has ls 3 [(0, .ref (ad 64 0)), (1, .int p0), (2, .int p1)] := hl
  have hW : tq_wd D cy z H0 ad N (tq_mix S M) s.heap := hW
  refine lv_aload_n hx hb dX12_copy_0 rfl (lv_at hl 0 rfl) ?_
  refine lv_iload_n hx hb dX12_copy_1 rfl (lv_at hl 1 rfl) ?_
  refine tq_callVi (As := [.int p0]) (rest := []) (kX12_isPaper h) ⟨hx, hb, hml, hown, hts⟩ (cwV 1 hts (tq_goodV tw_1771 tw_1773 tw_68 tw_125 tw_1774) rfl rfl rfl (by decide +kernel) ⟨Nat.le_of_ble_eq_true rfl, Nat.le_of_ble_eq_true rfl⟩) hK hG hW hS rfl hl.1 rfl (Nat.le_of_ble_eq_true rfl) dX12_copy_2 ⟨Nat.le_of_ble_eq_true rfl, Nat.le_of_ble_eq_true rfl⟩ (fun r2 M1 H locs h hW hS => ?_)
  refine lv_if_eq (tgt := 16) hx hb dX12_copy_5 (by decide) (fun c3 => ?_) (fun c3 => ?_)
  · have h := h.1 c3
    exact bX12_copy_16 C  _  _ _ _ h hW hS (lv_sub hl [] rfl)
  · have h := h.2 c3
    refine lv_aload_n hx hb dX12_copy_8 rfl (lv_at hl 0 rfl) ?_
    refine lv_iload_n hx hb dX12_copy_9 rfl (lv_at hl 2 rfl) ?_
    refine tq_callVi (As := [.int p1]) (rest := []) (kX12_isShip h) ⟨hx, hb, hml, hown, hts⟩ (cwV 1 hts (tq_goodV tw_1775 tw_1777 tw_69 tw_125 tw_1778) rfl rfl rfl (by decide +kernel) ⟨Nat.le_of_ble_eq_true rfl, Nat.le_of_ble_eq_true rfl⟩) hK hG hW hS rfl hl.1 rfl (Nat.le_of_ble_eq_true rfl) dX12_copy_10 ⟨Nat.le_of_ble_eq_true rfl, Nat.le_of_ble_eq_true rfl⟩ (fun r5 M4 H locs h hW hS => ?_)
    refine lv_if_ne (tgt := 18) hx hb dX12_copy_13 (by decide) (fun c6 => ?_) (fun c6 => ?_)
    · have h := h.1 c6
      refine lv_aload_n hx hb dX12_copy_18 rfl (lv_at hl 0 rfl) ?_
      refine tqm_get (v := .ref (ad 124 0)) hx hb hw tq_inX12 hown hK hW (by decide) (tq_mk_64 (by decide)) rfl 24 (by decide) (hw _ tw_1432) (fun _ h9 => h9) rfl dX12_copy_19 ?_
      refine lv_iload_n hx hb dX12_copy_22 rfl (lv_at hl 2 rfl) ?_
      obtain ⟨b7, h⟩ := h
      refine tqm_iald (jn := p1.toNatClampNeg) hx hb hK hW (by decide) (tq_mk_124 (by decide)) b7 rfl dX12_copy_23 ?_
      refine lv_if_lt (tgt := 43) hx hb dX12_copy_24 (by decide) (fun c8 => ?_) (fun c8 => ?_)
      · have h := h.1 c8
        exact bX12_copy_43 C  _  _ _ _ h hW hS (lv_sub hl [] rfl)
      · have h := h.2 c8
        refine lv_aload_n hx hb dX12_copy_27 rfl (lv_at hl 0 rfl) ?_
        refine tqm_get (v := .ref (ad 215 0)) hx hb hw tq_inX12 hown hK hW (by decide) (tq_mk_64 (by decide)) rfl 15 (by decide) (hw _ tw_1423) (fun _ h9 => h9) rfl dX12_copy_28 ?_
        refine lv_iload_n hx hb dX12_copy_31 rfl (lv_at hl 1 rfl) ?_
        obtain ⟨b9, h⟩ := h
        refine tqm_aald (jn := p0.toNatClampNeg) (v := .ref (ad 115 p0.toNatClampNeg)) hx hb hK hW (by decide) (tq_mk_215 (by decide)) 2 rfl rfl b9 rfl rfl dX12_copy_32 ?_
        refine lv_aload_n hx hb dX12_copy_33 rfl (lv_at hl 0 rfl) ?_
        refine tqm_get (v := .ref (ad 124 0)) hx hb hw tq_inX12 hown hK hW (by decide) (tq_mk_64 (by decide)) rfl 24 (by decide) (hw _ tw_1432) (fun _ h9 => h9) rfl dX12_copy_34 ?_
        refine lv_iload_n hx hb dX12_copy_37 rfl (lv_at hl 2 rfl) ?_
        refine tqm_iald (jn := p1.toNatClampNeg) hx hb hK hW (by decide) (tq_mk_124 (by decide)) b7 rfl dX12_copy_38 ?_
        obtain ⟨b10, h⟩ := h
        refine tqm_iald (jn := (M4 124 0 p1.toNatClampNeg).toNatClampNeg) hx hb hK hW (by decide) (tq_mk_115 (tq_lt b9)) b10 rfl dX12_copy_39 ?_
        refine lv_if_ge (tgt := 46) hx hb dX12_copy_40 (by decide) (fun c11 => ?_) (fun c11 => ?_)
        · have h := h.1 c11
          refine lv_aload_n hx hb dX12_copy_46 rfl (lv_at hl 0 rfl) ?_
          refine tqm_get (v := .ref (ad 114 0)) hx hb hw tq_inX12 hown hK hW (by decide) (tq_mk_64 (by decide)) rfl 14 (by decide) (hw _ tw_1422) (fun _ h9 => h9) rfl dX12_copy_47 ?_
          refine lv_iload_n hx hb dX12_copy_50 rfl (lv_at hl 1 rfl) ?_
          refine tqm_iald (jn := p0.toNatClampNeg) hx hb hK hW (by decide) (tq_mk_114 (by decide)) b9 rfl dX12_copy_51 ?_
          refine lv_iconst (v := 3) hx hb dX12_copy_52 (by decide) ?_
          refine lv_icmp_ne (tgt := 59) hx hb dX12_copy_53 (by decide) (fun c12 => ?_) (fun c12 => ?_)
          · have h := h.1 c12
            refine lv_aload_n hx hb dX12_copy_59 rfl (lv_at hl 0 rfl) ?_
            refine tqm_get (v := .ref (ad 114 0)) hx hb hw tq_inX12 hown hK hW (by decide) (tq_mk_64 (by decide)) rfl 14 (by decide) (hw _ tw_1422) (fun _ h9 => h9) rfl dX12_copy_60 ?_
            refine lv_iload_n hx hb dX12_copy_63 rfl (lv_at hl 1 rfl) ?_
            refine lv_dup2_11 hx hb dX12_copy_64 rfl rfl ?_
            refine tqm_iald (jn := p0.toNatClampNeg) hx hb hK hW (by decide) (tq_mk_114 (by decide)) b9 rfl dX12_copy_65 ?_
            refine lv_iconst (v := 1) hx hb dX12_copy_66 (by decide) ?_
            refine lv_iadd hx hb dX12_copy_67 ?_
            refine tqm_iast (jn := p0.toNatClampNeg) hx hb hK hW hS (by decide) (tq_mk_114 (by decide)) b9 rfl (tq_mk_114 (by decide)) dX12_copy_68 (fun H locs hW hS => ?_)
            generalize eM13 : tq_up M4 114 0 p0.toNatClampNeg ((M4 114 0 p0.toNatClampNeg) + 1) = M13 at hW
            have h := h M13 eM13.symm
            refine lv_aload_n hx hb dX12_copy_69 rfl (lv_at hl 0 rfl) ?_
            refine tqm_get (v := .ref (ad 220 0)) hx hb hw tq_inX12 hown hK hW (by decide) (tq_mk_64 (by decide)) rfl 20 (by decide) (hw _ tw_1428) (fun _ h9 => h9) rfl dX12_copy_70 ?_
            refine lv_iload_n hx hb dX12_copy_73 rfl (lv_at hl 1 rfl) ?_
            refine tqm_aald (jn := p0.toNatClampNeg) (v := .ref (ad 120 p0.toNatClampNeg)) hx hb hK hW (by decide) (tq_mk_220 (by decide)) 2 rfl rfl b9 rfl rfl dX12_copy_74 ?_
            refine lv_iload_n hx hb dX12_copy_75 rfl (lv_at hl 2 rfl) ?_
            refine lv_dup2_11 hx hb dX12_copy_76 rfl rfl ?_
            refine tqm_iald (jn := p1.toNatClampNeg) hx hb hK hW (by decide) (tq_mk_120 (tq_lt b9)) b7 rfl dX12_copy_77 ?_
            refine lv_iconst (v := 1) hx hb dX12_copy_78 (by decide) ?_
            refine lv_iadd hx hb dX12_copy_79 ?_
            refine tqm_iast (jn := p1.toNatClampNeg) hx hb hK hW hS (by decide) (tq_mk_120 (tq_lt b9)) b7 rfl (tq_mk_120 (tq_lt b9)) dX12_copy_80 (fun H locs hW hS => ?_)
            generalize eM14 : tq_up M13 120 p0.toNatClampNeg p1.toNatClampNeg ((M13 120 p0.toNatClampNeg p1.toNatClampNeg) + 1) = M14 at hW
            have h := h M14 eM14.symm
            refine lv_aload_n hx hb dX12_copy_81 rfl (lv_at hl 0 rfl) ?_
            refine tqm_get (v := .ref (ad 114 0)) hx hb hw tq_inX12 hown hK hW (by decide) (tq_mk_64 (by decide)) rfl 14 (by decide) (hw _ tw_1422) (fun _ h9 => h9) rfl dX12_copy_82 ?_
            refine lv_iload_n hx hb dX12_copy_85 rfl (lv_at hl 1 rfl) ?_
            refine tqm_iald (jn := p0.toNatClampNeg) hx hb hK hW (by decide) (tq_mk_114 (by decide)) b9 rfl dX12_copy_86 ?_
            exact W.iret (v := M14 114 0 p0.toNatClampNeg) hx hb hr (fun t ht hWm => ⟨⟨_, M14, rfl, h, tq_pe ht hW⟩, hS.F ht⟩) hS.2.2 dX12_copy_87
          · have h := h.2 c12
            refine lv_bipush (v := (-4)) hx hb dX12_copy_56 (by decide) ?_
            exact W.iret (v := (-4)) hx hb hr (fun t ht hWm => ⟨⟨_, M4, rfl, h, tq_pe ht hW⟩, hS.F ht⟩) hS.2.2 dX12_copy_58
        · have h := h.2 c11
          exact bX12_copy_43 C  _  _ _ _ h hW hS (lv_sub hl [] rfl)
    · have h := h.2 c6
      exact bX12_copy_16 C  _  _ _ _ h hW hS (lv_sub hl [] rfl)
-- known
def wbX12_known_28 (post : tq_St → Int32 → Prop)  (M : tq_St) (y0 : Int32) : Prop :=
  post M y0
def wbX12_known_26 (post : tq_St → Int32 → Prop)  (M : tq_St) : Prop :=
  wbX12_known_28 post M ((-5))
def wpX12_known (post : tq_St → Int32 → Prop) (M : tq_St) (p0 : Int32) (p1 : Int32) : Prop :=
  wpX12_isPaper (fun M1 r2 => (r2 = 0 → (wbX12_known_26 post M1 )) ∧ (¬ r2 = 0 → (wpX12_isPlace (fun M4 r5 => (r5 = 0 → (wbX12_known_26 post M4 )) ∧ (¬ r5 = 0 → (vp_in p0 150 ∧ (vp_in p1 5 ∧ (wbX12_known_28 post M4 (M4 115 p0.toNatClampNeg p1.toNatClampNeg)))))) M1 p1))) M p0
set_option maxHeartbeats 4000000 in
set_option maxRecDepth 100000 in
theorem bX12_known_28 {p : Program} {e : Env} {s : State} {m : MethodId} {args : Array Value} {below : List Frame} {meth : Method} {c : Code} {post : tq_St → Int32 → Prop} (C : tq_At p s m meth c args cX12_known 3 ((some .int)) ((tq_ws yX12_known cX12_known 3 (some .int))) RX12 D cy z ad)  : ∀ (M : tq_St) (y0 : Int32) (H : Heap) (locs : List Loc) (ls : Array Slot), wbX12_known_28 post   M y0 → tq_wd D cy z H0 ad N (tq_mix S M) H → va_S (fun q => z ≤ q) s.heap H locs → lv_has ls 3 [] → W p l e (tq_rm 2 43) s m args below meth c H locs 0 0 (MQ below (va_Qi (fun r u => post u r) (tq_P D cy z H0 ad N S) (fun q => z ≤ q)) args s 0 0 (fun q => z ≤ q)) (F0 m 28 ls [.int y0]) := by
  obtain ⟨hx, hb, hr, hml, hown, hts, hlocks, hK, hG⟩ := id C
  have hw : ∀ w ∈ tq_W, w.before args s = true := fun w h => hts w (List.mem_cons_of_mem _ h)
  intro M y0 H locs ls h hW hS hl
  unfold wbX12_known_28 at h
  exact W.iret (v := y0) hx hb hr (fun t ht hWm => ⟨⟨_, M, rfl, h, tq_pe ht hW⟩, hS.F ht⟩) hS.2.2 dX12_known_28
set_option maxHeartbeats 4000000 in
set_option maxRecDepth 100000 in
theorem bX12_known_26 {p : Program} {e : Env} {s : State} {m : MethodId} {args : Array Value} {below : List Frame} {meth : Method} {c : Code} {post : tq_St → Int32 → Prop} (C : tq_At p s m meth c args cX12_known 3 ((some .int)) ((tq_ws yX12_known cX12_known 3 (some .int))) RX12 D cy z ad)  : ∀ (M : tq_St)  (H : Heap) (locs : List Loc) (ls : Array Slot), wbX12_known_26 post   M  → tq_wd D cy z H0 ad N (tq_mix S M) H → va_S (fun q => z ≤ q) s.heap H locs → lv_has ls 3 [] → W p l e (tq_rm 2 43) s m args below meth c H locs 0 0 (MQ below (va_Qi (fun r u => post u r) (tq_P D cy z H0 ad N S) (fun q => z ≤ q)) args s 0 0 (fun q => z ≤ q)) (F0 m 26 ls []) := by
  obtain ⟨hx, hb, hr, hml, hown, hts, hlocks, hK, hG⟩ := id C
  have hw : ∀ w ∈ tq_W, w.before args s = true := fun w h => hts w (List.mem_cons_of_mem _ h)
  intro M  H locs ls h hW hS hl
  unfold wbX12_known_26 at h
  refine lv_bipush (v := (-5)) hx hb dX12_known_26 (by decide) ?_
  exact bX12_known_28 C  _ _ _ _ _ h hW hS (lv_sub hl [] rfl)
set_option maxHeartbeats 4000000 in
set_option maxRecDepth 100000 in
theorem kX12_known {post : tq_St → Int32 → Prop} {M : tq_St} {p0 : Int32} {p1 : Int32} (h : wpX12_known post M p0 p1) : tq_mI l yX12_known (tq_ws yX12_known cX12_known 3 (some .int)) 2 43 D cy z H0 ad N S M [.ref (ad 64 0), .int p0, .int p1] post := by
  unfold wpX12_known at h
  refine Met.ofW (cc := cX12_known) (maxL := 3) (ret := (some .int)) (by decide) rfl ?_
  intro p e s m args below meth c s₁ B hml hv
  obtain ⟨rfl, hW, hK, hG⟩ := hv
  have hx := B.exec
  have hb := B.bytes
  have hr := B.returns
  have hts := atoms_spec (ws := (tq_ws yX12_known cX12_known 3 (some .int))) B.pre
  have hw : ∀ w ∈ tq_W, w.before _ s = true := fun w h => hts w (List.mem_cons_of_mem _ h)
  have hown : s.vm.findClass RX12 = some m.cls := findClass_of_methodNamed B.named
  have hlocks := B.notSynchronized
  have C : tq_At p s m meth c [.ref (ad 64 0), .int p0, .int p1].toArray cX12_known 3 ((some .int)) ((tq_ws yX12_known cX12_known 3 (some .int))) RX12 D cy z ad := ⟨hx, hb, hr, hml, hown, hts, hlocks, hK, hG⟩
  have hS : va_S (fun q => z ≤ q) s.heap s.heap [] := va_S.rf
  have hl := lv_entry ([.ref (ad 64 0), .int p0, .int p1]) (n := 3) (Nat.le_of_ble_eq_true rfl)
  rw [lg_entry_eq]
  generalize (lg_sl ([.ref (ad 64 0), .int p0, .int p1]) ++ List.replicate (3 - (lg_sl ([.ref (ad 64 0), .int p0, .int p1])).length) Slot.unset).toArray = ls at hl ⊢
  have hl : lv_has ls 3 [(0, .ref (ad 64 0)), (1, .int p0), (2, .int p1)] := hl
  have hW : tq_wd D cy z H0 ad N (tq_mix S M) s.heap := hW
  refine lv_aload_n hx hb dX12_known_0 rfl (lv_at hl 0 rfl) ?_
  refine lv_iload_n hx hb dX12_known_1 rfl (lv_at hl 1 rfl) ?_
  refine tq_callVi (As := [.int p0]) (rest := []) (kX12_isPaper h) ⟨hx, hb, hml, hown, hts⟩ (cwV 1 hts (tq_goodV tw_1771 tw_1773 tw_68 tw_125 tw_1774) rfl rfl rfl (by decide +kernel) ⟨Nat.le_of_ble_eq_true rfl, Nat.le_of_ble_eq_true rfl⟩) hK hG hW hS rfl hl.1 rfl (Nat.le_of_ble_eq_true rfl) dX12_known_2 ⟨Nat.le_of_ble_eq_true rfl, Nat.le_of_ble_eq_true rfl⟩ (fun r2 M1 H locs h hW hS => ?_)
  refine lv_if_eq (tgt := 26) hx hb dX12_known_5 (by decide) (fun c3 => ?_) (fun c3 => ?_)
  · have h := h.1 c3
    exact bX12_known_26 C  _  _ _ _ h hW hS (lv_sub hl [] rfl)
  · have h := h.2 c3
    refine lv_iload_n hx hb dX12_known_8 rfl (lv_at hl 2 rfl) ?_
    refine tq_callSi (As := [.int p1]) (rest := []) (kX12_isPlace h) ⟨hx, hb, hml, hown, hts⟩ (va_cwS 1 hts (tq_goodS tw_1670 tw_1671 tw_125 tw_1672) rfl rfl rfl (by decide +kernel) ⟨Nat.le_of_ble_eq_true rfl, Nat.le_of_ble_eq_true rfl⟩) hK hG hW hS rfl hl.1 rfl (Nat.le_of_ble_eq_true rfl) dX12_known_9 ⟨Nat.le_of_ble_eq_true rfl, Nat.le_of_ble_eq_true rfl⟩ (fun r5 M4 H locs h hW hS => ?_)
    refine lv_if_eq (tgt := 26) hx hb dX12_known_12 (by decide) (fun c6 => ?_) (fun c6 => ?_)
    · have h := h.1 c6
      exact bX12_known_26 C  _  _ _ _ h hW hS (lv_sub hl [] rfl)
    · have h := h.2 c6
      refine lv_aload_n hx hb dX12_known_15 rfl (lv_at hl 0 rfl) ?_
      refine tqm_get (v := .ref (ad 215 0)) hx hb hw tq_inX12 hown hK hW (by decide) (tq_mk_64 (by decide)) rfl 15 (by decide) (hw _ tw_1423) (fun _ h9 => h9) rfl dX12_known_16 ?_
      refine lv_iload_n hx hb dX12_known_19 rfl (lv_at hl 1 rfl) ?_
      obtain ⟨b7, h⟩ := h
      refine tqm_aald (jn := p0.toNatClampNeg) (v := .ref (ad 115 p0.toNatClampNeg)) hx hb hK hW (by decide) (tq_mk_215 (by decide)) 2 rfl rfl b7 rfl rfl dX12_known_20 ?_
      refine lv_iload_n hx hb dX12_known_21 rfl (lv_at hl 2 rfl) ?_
      obtain ⟨b8, h⟩ := h
      refine tqm_iald (jn := p1.toNatClampNeg) hx hb hK hW (by decide) (tq_mk_115 (tq_lt b7)) b8 rfl dX12_known_22 ?_
      refine lv_goto (tgt := 28) hx hb dX12_known_23 (by decide) ?_
      exact bX12_known_28 C  _ _ _ _ _ h hW hS (lv_sub hl [] rfl)
