variable {l : Launch} {D : va_G} {cy : Nat → ClassId} {z : Nat} {H0 : Heap} {ad : Nat → Nat → Nat} {N : tq_Nn} {S : tq_St}
-- numberHere
def wbX12_numberHere_18 (post : tq_St → Int32 → Prop)  (M : tq_St) : Prop :=
  wpX12_wrong (fun M8 r9 => narrow .boolean (.int r9) = .int r9 ∧ post M8 r9) M 
def wbX12_numberHere_88 (post : tq_St → Int32 → Prop)  (M : tq_St) : Prop :=
  post M 1
def wbX12_numberHere_30 (post : tq_St → Int32 → Prop) : Nat → tq_St → Int32 → Prop
  | 0, _, _ => False
  | n + 1, M, x1 =>
    (4 ≤ x1 → (wbX12_numberHere_88 post M )) ∧ (¬ 4 ≤ x1 → (wpX12_here (fun M12 r13 => (r13 < 48 → (wbX12_numberHere_88 post M12 )) ∧ (¬ r13 < 48 → (wpX12_here (fun M15 r16 => (57 < r16 → (wbX12_numberHere_88 post M15 )) ∧ (¬ 57 < r16 → (wpX12_here (fun M18 r19 => ∀ M20, M20 = tq_up M18 64 0 69 (((10 * (M15 64 0 69)) + r19) - 48) → (∀ M21, M21 = tq_up M20 64 0 67 ((M20 64 0 67) + 1) → ((wbX12_numberHere_30 post n) M21 (x1 + 1)))) M15 ))) M12 ))) M ))
def wpX12_numberHere (post : tq_St → Int32 → Prop) (M : tq_St)  : Prop :=
  wpX12_here (fun M1 r2 => (r2 < 48 → (wbX12_numberHere_18 post M1 )) ∧ (¬ r2 < 48 → (wpX12_here (fun M4 r5 => (r5 ≤ 57 → (∀ M7, M7 = tq_up M4 64 0 69 0 → (∃ nq, wbX12_numberHere_30 post nq M7 0))) ∧ (¬ r5 ≤ 57 → (wbX12_numberHere_18 post M4 ))) M1 ))) M 
set_option maxHeartbeats 4000000 in
set_option maxRecDepth 100000 in
theorem bX12_numberHere_18 {p : Program} {e : Env} {s : State} {m : MethodId} {args : Array Value} {below : List Frame} {meth : Method} {c : Code} {post : tq_St → Int32 → Prop} (C : tq_At p s m meth c args cX12_numberHere 2 ((some .boolean)) ((tq_ws yX12_numberHere cX12_numberHere 2 (some .boolean))) RX12 D cy z ad)  : ∀ (M : tq_St)  (H : Heap) (locs : List Loc) (ls : Array Slot), wbX12_numberHere_18 post   M  → tq_wd D cy z H0 ad N (tq_mix S M) H → va_S (fun q => z ≤ q) s.heap H locs → lv_has ls 2 [(0, .ref (ad 64 0))] → W p l e (tq_rm 1 20) s m args below meth c H locs 0 0 (MQ below (va_Qi (fun r u => post u r) (tq_P D cy z H0 ad N S) (fun q => z ≤ q)) args s 0 0 (fun q => z ≤ q)) (F0 m 18 ls []) := by
  obtain ⟨hx, hb, hr, hml, hown, hts, hlocks, hK, hG⟩ := id C
  have hw : ∀ w ∈ tq_W, w.before args s = true := fun w h => hts w (List.mem_cons_of_mem _ h)
  intro M  H locs ls h hW hS hl
  unfold wbX12_numberHere_18 at h
  refine lv_aload_n hx hb dX12_numberHere_18 rfl (lv_at hl 0 rfl) ?_
  refine tq_callVi (As := []) (rest := []) (kX12_wrong h) ⟨hx, hb, hml, hown, hts⟩ (cwV 0 hts (tq_goodV tw_1732 tw_1734 tw_63 tw_125 tw_1735) rfl rfl rfl (by decide +kernel) ⟨Nat.le_of_ble_eq_true rfl, Nat.le_of_ble_eq_true rfl⟩) hK hG hW hS rfl hl.1 rfl (Nat.le_of_ble_eq_true rfl) dX12_numberHere_19 ⟨Nat.le_of_ble_eq_true rfl, Nat.le_of_ble_eq_true rfl⟩ (fun r9 M8 H locs h hW hS => ?_)
  obtain ⟨b10, h⟩ := h
  exact W.zret (v := r9) hx hb hr b10 (fun t ht hWm => ⟨⟨_, M8, rfl, h, tq_pe ht hW⟩, hS.F ht⟩) hS.2.2 dX12_numberHere_22
set_option maxHeartbeats 4000000 in
set_option maxRecDepth 100000 in
theorem bX12_numberHere_88 {p : Program} {e : Env} {s : State} {m : MethodId} {args : Array Value} {below : List Frame} {meth : Method} {c : Code} {post : tq_St → Int32 → Prop} (C : tq_At p s m meth c args cX12_numberHere 2 ((some .boolean)) ((tq_ws yX12_numberHere cX12_numberHere 2 (some .boolean))) RX12 D cy z ad)  : ∀ (M : tq_St)  (H : Heap) (locs : List Loc) (ls : Array Slot), wbX12_numberHere_88 post   M  → tq_wd D cy z H0 ad N (tq_mix S M) H → va_S (fun q => z ≤ q) s.heap H locs → lv_has ls 2 [] → W p l e (tq_rm 1 20) s m args below meth c H locs 0 0 (MQ below (va_Qi (fun r u => post u r) (tq_P D cy z H0 ad N S) (fun q => z ≤ q)) args s 0 0 (fun q => z ≤ q)) (F0 m 88 ls []) := by
  obtain ⟨hx, hb, hr, hml, hown, hts, hlocks, hK, hG⟩ := id C
  have hw : ∀ w ∈ tq_W, w.before args s = true := fun w h => hts w (List.mem_cons_of_mem _ h)
  intro M  H locs ls h hW hS hl
  unfold wbX12_numberHere_88 at h
  refine lv_iconst (v := 1) hx hb dX12_numberHere_88 (by decide) ?_
  exact W.zret (v := 1) hx hb hr rfl (fun t ht hWm => ⟨⟨_, M, rfl, h, tq_pe ht hW⟩, hS.F ht⟩) hS.2.2 dX12_numberHere_89
set_option maxHeartbeats 4000000 in
set_option maxRecDepth 100000 in
theorem bX12_numberHere_30 {p : Program} {e : Env} {s : State} {m : MethodId} {args : Array Value} {below : List Frame} {meth : Method} {c : Code} {post : tq_St → Int32 → Prop} (C : tq_At p s m meth c args cX12_numberHere 2 ((some .boolean)) ((tq_ws yX12_numberHere cX12_numberHere 2 (some .boolean))) RX12 D cy z ad)  : ∀ n : Nat, ∀ (M : tq_St) (x1 : Int32) (H : Heap) (locs : List Loc) (ls : Array Slot), wbX12_numberHere_30 post   n M x1 → tq_wd D cy z H0 ad N (tq_mix S M) H → va_S (fun q => z ≤ q) s.heap H locs → lv_has ls 2 [(0, .ref (ad 64 0)), (1, .int x1)] → W p l e (tq_rm 1 20) s m args below meth c H locs 0 0 (MQ below (va_Qi (fun r u => post u r) (tq_P D cy z H0 ad N S) (fun q => z ≤ q)) args s 0 0 (fun q => z ≤ q)) (F0 m 30 ls []) := by
  obtain ⟨hx, hb, hr, hml, hown, hts, hlocks, hK, hG⟩ := id C
  have hw : ∀ w ∈ tq_W, w.before args s = true := fun w h => hts w (List.mem_cons_of_mem _ h)
  intro n
  induction n with
  | zero =>
    intro M x1 H locs ls h
    exact absurd h (by unfold wbX12_numberHere_30; exact id)
  | succ n ih =>
    intro M x1 H locs ls h hW hS hl
    unfold wbX12_numberHere_30 at h
    refine lv_iload_n hx hb dX12_numberHere_30 rfl (lv_at hl 1 rfl) ?_
    refine lv_iconst (v := 4) hx hb dX12_numberHere_31 (by decide) ?_
    refine lv_icmp_ge (tgt := 88) hx hb dX12_numberHere_32 (by decide) (fun c11 => ?_) (fun c11 => ?_)
    · have h := h.1 c11
      exact bX12_numberHere_88 C  _  _ _ _ h hW hS (lv_sub hl [] rfl)
    · have h := h.2 c11
      refine lv_aload_n hx hb dX12_numberHere_35 rfl (lv_at hl 0 rfl) ?_
      refine tq_callVi (As := []) (rest := []) (kX12_here h) ⟨hx, hb, hml, hown, hts⟩ (cwV 0 hts (tq_goodV tw_1716 tw_1718 tw_61 tw_125 tw_1719) rfl rfl rfl (by decide +kernel) ⟨Nat.le_of_ble_eq_true rfl, Nat.le_of_ble_eq_true rfl⟩) hK hG hW hS rfl hl.1 rfl (Nat.le_of_ble_eq_true rfl) dX12_numberHere_36 ⟨Nat.le_of_ble_eq_true rfl, Nat.le_of_ble_eq_true rfl⟩ (fun r13 M12 H locs h hW hS => ?_)
      refine lv_bipush (v := 48) hx hb dX12_numberHere_39 (by decide) ?_
      refine lv_icmp_lt (tgt := 88) hx hb dX12_numberHere_41 (by decide) (fun c14 => ?_) (fun c14 => ?_)
      · have h := h.1 c14
        exact bX12_numberHere_88 C  _  _ _ _ h hW hS (lv_sub hl [] rfl)
      · have h := h.2 c14
        refine lv_aload_n hx hb dX12_numberHere_44 rfl (lv_at hl 0 rfl) ?_
        refine tq_callVi (As := []) (rest := []) (kX12_here h) ⟨hx, hb, hml, hown, hts⟩ (cwV 0 hts (tq_goodV tw_1716 tw_1718 tw_61 tw_125 tw_1719) rfl rfl rfl (by decide +kernel) ⟨Nat.le_of_ble_eq_true rfl, Nat.le_of_ble_eq_true rfl⟩) hK hG hW hS rfl hl.1 rfl (Nat.le_of_ble_eq_true rfl) dX12_numberHere_45 ⟨Nat.le_of_ble_eq_true rfl, Nat.le_of_ble_eq_true rfl⟩ (fun r16 M15 H locs h hW hS => ?_)
        refine lv_bipush (v := 57) hx hb dX12_numberHere_48 (by decide) ?_
        refine lv_icmp_gt (tgt := 88) hx hb dX12_numberHere_50 (by decide) (fun c17 => ?_) (fun c17 => ?_)
        · have h := h.1 c17
          exact bX12_numberHere_88 C  _  _ _ _ h hW hS (lv_sub hl [] rfl)
        · have h := h.2 c17
          refine lv_aload_n hx hb dX12_numberHere_53 rfl (lv_at hl 0 rfl) ?_
          refine lv_bipush (v := 10) hx hb dX12_numberHere_54 (by decide) ?_
          refine lv_aload_n hx hb dX12_numberHere_56 rfl (lv_at hl 0 rfl) ?_
          refine tqm_get (v := .int (M15 64 0 69)) hx hb hw tq_inX12 hown hK hW (by decide) (tq_mk_64 (by decide)) rfl 69 (by decide) (hw _ tw_1477) (fun _ h9 => h9) rfl dX12_numberHere_57 ?_
          refine lv_imul hx hb dX12_numberHere_60 ?_
          refine lv_aload_n hx hb dX12_numberHere_61 rfl (lv_at hl 0 rfl) ?_
          refine tq_callVi (As := []) (rest := [.int (10 * (M15 64 0 69)), .ref (ad 64 0)]) (kX12_here h) ⟨hx, hb, hml, hown, hts⟩ (cwV 0 hts (tq_goodV tw_1716 tw_1718 tw_61 tw_125 tw_1719) rfl rfl rfl (by decide +kernel) ⟨Nat.le_of_ble_eq_true rfl, Nat.le_of_ble_eq_true rfl⟩) hK hG hW hS rfl hl.1 rfl (Nat.le_of_ble_eq_true rfl) dX12_numberHere_62 ⟨Nat.le_of_ble_eq_true rfl, Nat.le_of_ble_eq_true rfl⟩ (fun r19 M18 H locs h hW hS => ?_)
          refine lv_iadd hx hb dX12_numberHere_65 ?_
          refine lv_bipush (v := 48) hx hb dX12_numberHere_66 (by decide) ?_
          refine lv_isub hx hb dX12_numberHere_68 ?_
          refine tqm_put hx hb hw tq_inX12 tyX12 tyX12_ok nmX12 hown hK hW hS (by decide) (tq_mk_64 (by decide)) rfl 69 (by decide) (hw _ tw_1477) (fun _ h9 => h9) rfl rfl rfl rfl (tq_mk_64 (by decide)) dX12_numberHere_69 (fun H locs hW hS => ?_)
          generalize eM20 : tq_up M18 64 0 69 (((10 * (M15 64 0 69)) + r19) - 48) = M20 at hW
          have h := h M20 eM20.symm
          refine lv_aload_n hx hb dX12_numberHere_72 rfl (lv_at hl 0 rfl) ?_
          refine lv_dup hx hb dX12_numberHere_73 rfl ?_
          refine tqm_get (v := .int (M20 64 0 67)) hx hb hw tq_inX12 hown hK hW (by decide) (tq_mk_64 (by decide)) rfl 67 (by decide) (hw _ tw_1475) (fun _ h9 => h9) rfl dX12_numberHere_74 ?_
          refine lv_iconst (v := 1) hx hb dX12_numberHere_77 (by decide) ?_
          refine lv_iadd hx hb dX12_numberHere_78 ?_
          refine tqm_put hx hb hw tq_inX12 tyX12 tyX12_ok nmX12 hown hK hW hS (by decide) (tq_mk_64 (by decide)) rfl 67 (by decide) (hw _ tw_1475) (fun _ h9 => h9) rfl rfl rfl rfl (tq_mk_64 (by decide)) dX12_numberHere_79 (fun H locs hW hS => ?_)
          generalize eM21 : tq_up M20 64 0 67 ((M20 64 0 67) + 1) = M21 at hW
          have h := h M21 eM21.symm
          refine lv_iinc (v := x1 + 1) (lv' := [(1, .int (x1 + 1)), (0, .ref (ad 64 0))]) hx hb dX12_numberHere_82 hl (k := 1) rfl rfl (by decide) rfl (fun ls hl => ?_)
          refine lv_goto (tgt := 30) hx hb dX12_numberHere_85 (by decide) ?_
          exact ih _ _ _ _ _ h hW hS (lv_sub hl [1, 0] rfl)
set_option maxHeartbeats 4000000 in
set_option maxRecDepth 100000 in
theorem kX12_numberHere {post : tq_St → Int32 → Prop} {M : tq_St}  (h : wpX12_numberHere post M ) : tq_mI l yX12_numberHere (tq_ws yX12_numberHere cX12_numberHere 2 (some .boolean)) 1 20 D cy z H0 ad N S M [.ref (ad 64 0)] post := by
  unfold wpX12_numberHere at h
  refine Met.ofW (cc := cX12_numberHere) (maxL := 2) (ret := (some .boolean)) (by decide) rfl ?_
  intro p e s m args below meth c s₁ B hml hv
  obtain ⟨rfl, hW, hK, hG⟩ := hv
  have hx := B.exec
  have hb := B.bytes
  have hr := B.returns
  have hts := atoms_spec (ws := (tq_ws yX12_numberHere cX12_numberHere 2 (some .boolean))) B.pre
  have hw : ∀ w ∈ tq_W, w.before _ s = true := fun w h => hts w (List.mem_cons_of_mem _ h)
  have hown : s.vm.findClass RX12 = some m.cls := findClass_of_methodNamed B.named
  have hlocks := B.notSynchronized
  have C : tq_At p s m meth c [.ref (ad 64 0)].toArray cX12_numberHere 2 ((some .boolean)) ((tq_ws yX12_numberHere cX12_numberHere 2 (some .boolean))) RX12 D cy z ad := ⟨hx, hb, hr, hml, hown, hts, hlocks, hK, hG⟩
  have hS : va_S (fun q => z ≤ q) s.heap s.heap [] := va_S.rf
  have hl := lv_entry ([.ref (ad 64 0)]) (n := 2) (Nat.le_of_ble_eq_true rfl)
  rw [lg_entry_eq]
  generalize (lg_sl ([.ref (ad 64 0)]) ++ List.replicate (2 - (lg_sl ([.ref (ad 64 0)])).length) Slot.unset).toArray = ls at hl ⊢
  have hl : lv_has ls 2 [(0, .ref (ad 64 0))] := hl
  have hW : tq_wd D cy z H0 ad N (tq_mix S M) s.heap := hW
  refine lv_aload_n hx hb dX12_numberHere_0 rfl (lv_at hl 0 rfl) ?_
  refine tq_callVi (As := []) (rest := []) (kX12_here h) ⟨hx, hb, hml, hown, hts⟩ (cwV 0 hts (tq_goodV tw_1716 tw_1718 tw_61 tw_125 tw_1719) rfl rfl rfl (by decide +kernel) ⟨Nat.le_of_ble_eq_true rfl, Nat.le_of_ble_eq_true rfl⟩) hK hG hW hS rfl hl.1 rfl (Nat.le_of_ble_eq_true rfl) dX12_numberHere_1 ⟨Nat.le_of_ble_eq_true rfl, Nat.le_of_ble_eq_true rfl⟩ (fun r2 M1 H locs h hW hS => ?_)
  refine lv_bipush (v := 48) hx hb dX12_numberHere_4 (by decide) ?_
  refine lv_icmp_lt (tgt := 18) hx hb dX12_numberHere_6 (by decide) (fun c3 => ?_) (fun c3 => ?_)
  · have h := h.1 c3
    exact bX12_numberHere_18 C  _  _ _ _ h hW hS (lv_sub hl [0] rfl)
  · have h := h.2 c3
    refine lv_aload_n hx hb dX12_numberHere_9 rfl (lv_at hl 0 rfl) ?_
    refine tq_callVi (As := []) (rest := []) (kX12_here h) ⟨hx, hb, hml, hown, hts⟩ (cwV 0 hts (tq_goodV tw_1716 tw_1718 tw_61 tw_125 tw_1719) rfl rfl rfl (by decide +kernel) ⟨Nat.le_of_ble_eq_true rfl, Nat.le_of_ble_eq_true rfl⟩) hK hG hW hS rfl hl.1 rfl (Nat.le_of_ble_eq_true rfl) dX12_numberHere_10 ⟨Nat.le_of_ble_eq_true rfl, Nat.le_of_ble_eq_true rfl⟩ (fun r5 M4 H locs h hW hS => ?_)
    refine lv_bipush (v := 57) hx hb dX12_numberHere_13 (by decide) ?_
    refine lv_icmp_le (tgt := 23) hx hb dX12_numberHere_15 (by decide) (fun c6 => ?_) (fun c6 => ?_)
    · have h := h.1 c6
      refine lv_aload_n hx hb dX12_numberHere_23 rfl (lv_at hl 0 rfl) ?_
      refine lv_iconst (v := 0) hx hb dX12_numberHere_24 (by decide) ?_
      refine tqm_put hx hb hw tq_inX12 tyX12 tyX12_ok nmX12 hown hK hW hS (by decide) (tq_mk_64 (by decide)) rfl 69 (by decide) (hw _ tw_1477) (fun _ h9 => h9) rfl rfl rfl rfl (tq_mk_64 (by decide)) dX12_numberHere_25 (fun H locs hW hS => ?_)
      generalize eM7 : tq_up M4 64 0 69 0 = M7 at hW
      have h := h M7 eM7.symm
      refine lv_iconst (v := 0) hx hb dX12_numberHere_28 (by decide) ?_
      refine lv_istore_n (lv' := [(1, .int 0), (0, .ref (ad 64 0))]) hx hb dX12_numberHere_29 rfl hl (by decide) rfl (fun ls hl => ?_)
      obtain ⟨nq, h⟩ := h
      exact bX12_numberHere_30 C  nq _ _ _ _ _ h hW hS (lv_sub hl [1, 0] rfl)
    · have h := h.2 c6
      exact bX12_numberHere_18 C  _  _ _ _ h hW hS (lv_sub hl [0] rfl)
-- actHere
def wbX12_actHere_172 (post : tq_St → Int32 → Prop)  (M : tq_St) : Prop :=
  wpX12_numberHere (fun M27 r28 => (¬ r28 = 0 → (∀ M30, M30 = tq_up M27 170 0 2 (M27 64 0 69) → (post M30 1))) ∧ (r28 = 0 → (post M27 0))) M 
def wbX12_actHere_122 (post : tq_St → Int32 → Prop)  (M : tq_St) (x3 : Nat) (y0 : Int32) (y1 : Int32) : Prop :=
  vp_in y1 4 ∧ (∀ M14, M14 = tq_up M 170 0 y1.toNatClampNeg y0 → (∀ M15, M15 = tq_up M14 170 0 1 ((-1)) → (wpX12_word (fun M16 r17 => (¬ r17 = 0 → ((3 ≤ (M16 170 0 0) → (wbX12_actHere_172 post M16 )) ∧ (¬ 3 ≤ (M16 170 0 0) → (wpX12_sortHere (fun M20 r21 => (¬ r21 = 0 → (∀ M23, M23 = tq_up M20 170 0 1 (M20 64 0 69) → (wpX12_word (fun M24 r25 => (¬ r25 = 0 → (wbX12_actHere_172 post M24 )) ∧ (r25 = 0 → (post M24 0))) M23 0))) ∧ (r21 = 0 → (post M20 0))) M16 )))) ∧ (r17 = 0 → (post M16 0))) M15 x3)))
def wbX12_actHere_68 (post : tq_St → Int32 → Prop)  (M : tq_St) (x2 : Int32) (y0 : Nat) : Prop :=
  (¬ x2 = 98 → ((¬ x2 = 97 → ((¬ x2 = 108 → ((¬ x2 = 115 → ((¬ x2 = 100 → (wbX12_actHere_122 post M y0 5 0)) ∧ (x2 = 100 → (wbX12_actHere_122 post M y0 4 0)))) ∧ (x2 = 115 → (wbX12_actHere_122 post M y0 3 0)))) ∧ (x2 = 108 → (wbX12_actHere_122 post M y0 2 0)))) ∧ (x2 = 97 → (wbX12_actHere_122 post M y0 1 0)))) ∧ (x2 = 98 → (wbX12_actHere_122 post M y0 0 0))
def wpX12_actHere (post : tq_St → Int32 → Prop) (M : tq_St)  : Prop :=
  wpX12_here (fun M1 r2 => (¬ r2 = 98 → ((¬ r2 = 97 → ((¬ r2 = 108 → ((¬ r2 = 115 → ((¬ r2 = 100 → (wbX12_actHere_68 post M1 r2 7)) ∧ (r2 = 100 → (wbX12_actHere_68 post M1 r2 21)))) ∧ (r2 = 115 → (wbX12_actHere_68 post M1 r2 20)))) ∧ (r2 = 108 → (wbX12_actHere_68 post M1 r2 19)))) ∧ (r2 = 97 → (wbX12_actHere_68 post M1 r2 18)))) ∧ (r2 = 98 → (wbX12_actHere_68 post M1 r2 17))) M 
set_option maxHeartbeats 4000000 in
set_option maxRecDepth 100000 in
theorem bX12_actHere_172 {p : Program} {e : Env} {s : State} {m : MethodId} {args : Array Value} {below : List Frame} {meth : Method} {c : Code} {post : tq_St → Int32 → Prop} (C : tq_At p s m meth c args cX12_actHere 4 ((some .boolean)) ((tq_ws yX12_actHere cX12_actHere 4 (some .boolean))) RX12 D cy z ad)  : ∀ (M : tq_St)  (H : Heap) (locs : List Loc) (ls : Array Slot), wbX12_actHere_172 post   M  → tq_wd D cy z H0 ad N (tq_mix S M) H → va_S (fun q => z ≤ q) s.heap H locs → lv_has ls 4 [(0, .ref (ad 64 0)), (1, .ref (ad 170 0))] → W p l e (tq_rm 5 107) s m args below meth c H locs 0 0 (MQ below (va_Qi (fun r u => post u r) (tq_P D cy z H0 ad N S) (fun q => z ≤ q)) args s 0 0 (fun q => z ≤ q)) (F0 m 172 ls []) := by
  obtain ⟨hx, hb, hr, hml, hown, hts, hlocks, hK, hG⟩ := id C
  have hw : ∀ w ∈ tq_W, w.before args s = true := fun w h => hts w (List.mem_cons_of_mem _ h)
  intro M  H locs ls h hW hS hl
  unfold wbX12_actHere_172 at h
  refine lv_aload_n hx hb dX12_actHere_172 rfl (lv_at hl 0 rfl) ?_
  refine tq_callVi (As := []) (rest := []) (kX12_numberHere h) ⟨hx, hb, hml, hown, hts⟩ (cwV 0 hts (tq_goodV tw_1741 tw_1743 tw_65 tw_125 tw_1744) rfl rfl rfl (by decide +kernel) ⟨Nat.le_of_ble_eq_true rfl, Nat.le_of_ble_eq_true rfl⟩) hK hG hW hS rfl hl.1 rfl (Nat.le_of_ble_eq_true rfl) dX12_actHere_173 ⟨Nat.le_of_ble_eq_true rfl, Nat.le_of_ble_eq_true rfl⟩ (fun r28 M27 H locs h hW hS => ?_)
  refine lv_if_ne (tgt := 181) hx hb dX12_actHere_176 (by decide) (fun c29 => ?_) (fun c29 => ?_)
  · have h := h.1 c29
    refine lv_aload_n hx hb dX12_actHere_181 rfl (lv_at hl 1 rfl) ?_
    refine lv_iconst (v := 2) hx hb dX12_actHere_182 (by decide) ?_
    refine lv_aload_n hx hb dX12_actHere_183 rfl (lv_at hl 0 rfl) ?_
    refine tqm_get (v := .int (M27 64 0 69)) hx hb hw tq_inX12 hown hK hW (by decide) (tq_mk_64 (by decide)) rfl 69 (by decide) (hw _ tw_1477) (fun _ h9 => h9) rfl dX12_actHere_184 ?_
    refine tqm_iast (jn := 2) hx hb hK hW hS (by decide) (tq_mk_170 (by decide)) (by unfold vp_in; decide) (by decide) (tq_mk_170 (by decide)) dX12_actHere_187 (fun H locs hW hS => ?_)
    generalize eM30 : tq_up M27 170 0 2 (M27 64 0 69) = M30 at hW
    have h := h M30 eM30.symm
    refine lv_iconst (v := 1) hx hb dX12_actHere_188 (by decide) ?_
    exact W.zret (v := 1) hx hb hr rfl (fun t ht hWm => ⟨⟨_, M30, rfl, h, tq_pe ht hW⟩, hS.F ht⟩) hS.2.2 dX12_actHere_189
  · have h := h.2 c29
    refine lv_iconst (v := 0) hx hb dX12_actHere_179 (by decide) ?_
    exact W.zret (v := 0) hx hb hr rfl (fun t ht hWm => ⟨⟨_, M27, rfl, h, tq_pe ht hW⟩, hS.F ht⟩) hS.2.2 dX12_actHere_180
set_option maxHeartbeats 4000000 in
set_option maxRecDepth 100000 in
theorem bX12_actHere_122 {p : Program} {e : Env} {s : State} {m : MethodId} {args : Array Value} {below : List Frame} {meth : Method} {c : Code} {post : tq_St → Int32 → Prop} (C : tq_At p s m meth c args cX12_actHere 4 ((some .boolean)) ((tq_ws yX12_actHere cX12_actHere 4 (some .boolean))) RX12 D cy z ad)  : ∀ (M : tq_St) (x3 : Nat) (y0 : Int32) (y1 : Int32) (H : Heap) (locs : List Loc) (ls : Array Slot), wbX12_actHere_122 post   M x3 y0 y1 → tq_wd D cy z H0 ad N (tq_mix S M) H → va_S (fun q => z ≤ q) s.heap H locs → lv_has ls 4 [(0, .ref (ad 64 0)), (1, .ref (ad 170 0)), (3, .ref (ad 61 x3))] → W p l e (tq_rm 5 107) s m args below meth c H locs 0 0 (MQ below (va_Qi (fun r u => post u r) (tq_P D cy z H0 ad N S) (fun q => z ≤ q)) args s 0 0 (fun q => z ≤ q)) (F0 m 122 ls [.int y0, .int y1, .ref (ad 170 0)]) := by
  obtain ⟨hx, hb, hr, hml, hown, hts, hlocks, hK, hG⟩ := id C
  have hw : ∀ w ∈ tq_W, w.before args s = true := fun w h => hts w (List.mem_cons_of_mem _ h)
  intro M x3 y0 y1 H locs ls h hW hS hl
  unfold wbX12_actHere_122 at h
  obtain ⟨b13, h⟩ := h
  refine tqm_iast (jn := y1.toNatClampNeg) hx hb hK hW hS (by decide) (tq_mk_170 (by decide)) b13 rfl (tq_mk_170 (by decide)) dX12_actHere_122 (fun H locs hW hS => ?_)
  generalize eM14 : tq_up M 170 0 y1.toNatClampNeg y0 = M14 at hW
  have h := h M14 eM14.symm
  refine lv_aload_n hx hb dX12_actHere_123 rfl (lv_at hl 1 rfl) ?_
  refine lv_iconst (v := 1) hx hb dX12_actHere_124 (by decide) ?_
  refine lv_iconst (v := (-1)) hx hb dX12_actHere_125 (by decide) ?_
  refine tqm_iast (jn := 1) hx hb hK hW hS (by decide) (tq_mk_170 (by decide)) (by unfold vp_in; decide) (by decide) (tq_mk_170 (by decide)) dX12_actHere_126 (fun H locs hW hS => ?_)
  generalize eM15 : tq_up M14 170 0 1 ((-1)) = M15 at hW
  have h := h M15 eM15.symm
  refine lv_aload_n hx hb dX12_actHere_127 rfl (lv_at hl 0 rfl) ?_
  refine lv_aload_n hx hb dX12_actHere_128 rfl (lv_at hl 2 rfl) ?_
  refine tq_callVi (As := [.ref (ad 61 x3)]) (rest := []) (kX12_word h) ⟨hx, hb, hml, hown, hts⟩ (cwV 1 hts (tq_goodV tw_1726 tw_1728 tw_62 tw_125 tw_1729) rfl rfl rfl (by decide +kernel) ⟨Nat.le_of_ble_eq_true rfl, Nat.le_of_ble_eq_true rfl⟩) hK hG hW hS rfl hl.1 rfl (Nat.le_of_ble_eq_true rfl) dX12_actHere_129 ⟨Nat.le_of_ble_eq_true rfl, Nat.le_of_ble_eq_true rfl⟩ (fun r17 M16 H locs h hW hS => ?_)
  refine lv_if_ne (tgt := 137) hx hb dX12_actHere_132 (by decide) (fun c18 => ?_) (fun c18 => ?_)
  · have h := h.1 c18
    refine lv_aload_n hx hb dX12_actHere_137 rfl (lv_at hl 1 rfl) ?_
    refine lv_iconst (v := 0) hx hb dX12_actHere_138 (by decide) ?_
    refine tqm_iald (jn := 0) hx hb hK hW (by decide) (tq_mk_170 (by decide)) (by unfold vp_in; decide) (by decide) dX12_actHere_139 ?_
    refine lv_iconst (v := 3) hx hb dX12_actHere_140 (by decide) ?_
    refine lv_icmp_ge (tgt := 172) hx hb dX12_actHere_141 (by decide) (fun c19 => ?_) (fun c19 => ?_)
    · have h := h.1 c19
      exact bX12_actHere_172 C  _  _ _ _ h hW hS (lv_sub hl [0, 1] rfl)
    · have h := h.2 c19
      refine lv_aload_n hx hb dX12_actHere_144 rfl (lv_at hl 0 rfl) ?_
      refine tq_callVi (As := []) (rest := []) (kX12_sortHere h) ⟨hx, hb, hml, hown, hts⟩ (cwV 0 hts (tq_goodV tw_1736 tw_1738 tw_64 tw_125 tw_1739) rfl rfl rfl (by decide +kernel) ⟨Nat.le_of_ble_eq_true rfl, Nat.le_of_ble_eq_true rfl⟩) hK hG hW hS rfl hl.1 rfl (Nat.le_of_ble_eq_true rfl) dX12_actHere_145 ⟨Nat.le_of_ble_eq_true rfl, Nat.le_of_ble_eq_true rfl⟩ (fun r21 M20 H locs h hW hS => ?_)
      refine lv_if_ne (tgt := 153) hx hb dX12_actHere_148 (by decide) (fun c22 => ?_) (fun c22 => ?_)
      · have h := h.1 c22
        refine lv_aload_n hx hb dX12_actHere_153 rfl (lv_at hl 1 rfl) ?_
        refine lv_iconst (v := 1) hx hb dX12_actHere_154 (by decide) ?_
        refine lv_aload_n hx hb dX12_actHere_155 rfl (lv_at hl 0 rfl) ?_
        refine tqm_get (v := .int (M20 64 0 69)) hx hb hw tq_inX12 hown hK hW (by decide) (tq_mk_64 (by decide)) rfl 69 (by decide) (hw _ tw_1477) (fun _ h9 => h9) rfl dX12_actHere_156 ?_
        refine tqm_iast (jn := 1) hx hb hK hW hS (by decide) (tq_mk_170 (by decide)) (by unfold vp_in; decide) (by decide) (tq_mk_170 (by decide)) dX12_actHere_159 (fun H locs hW hS => ?_)
        generalize eM23 : tq_up M20 170 0 1 (M20 64 0 69) = M23 at hW
        have h := h M23 eM23.symm
        refine lv_aload_n hx hb dX12_actHere_160 rfl (lv_at hl 0 rfl) ?_
        refine tq_ldcwS hx hb hown (hG.2.1 ("TwoSeasModel", 278, " ", 0) (by decide)) dX12_actHere_161 ?_
        refine tq_callVi (As := [.ref (ad 61 0)]) (rest := []) (kX12_word h) ⟨hx, hb, hml, hown, hts⟩ (cwV 1 hts (tq_goodV tw_1726 tw_1728 tw_62 tw_125 tw_1729) rfl rfl rfl (by decide +kernel) ⟨Nat.le_of_ble_eq_true rfl, Nat.le_of_ble_eq_true rfl⟩) hK hG hW hS rfl hl.1 rfl (Nat.le_of_ble_eq_true rfl) dX12_actHere_164 ⟨Nat.le_of_ble_eq_true rfl, Nat.le_of_ble_eq_true rfl⟩ (fun r25 M24 H locs h hW hS => ?_)
        refine lv_if_ne (tgt := 172) hx hb dX12_actHere_167 (by decide) (fun c26 => ?_) (fun c26 => ?_)
        · have h := h.1 c26
          exact bX12_actHere_172 C  _  _ _ _ h hW hS (lv_sub hl [0, 1] rfl)
        · have h := h.2 c26
          refine lv_iconst (v := 0) hx hb dX12_actHere_170 (by decide) ?_
          exact W.zret (v := 0) hx hb hr rfl (fun t ht hWm => ⟨⟨_, M24, rfl, h, tq_pe ht hW⟩, hS.F ht⟩) hS.2.2 dX12_actHere_171
      · have h := h.2 c22
        refine lv_iconst (v := 0) hx hb dX12_actHere_151 (by decide) ?_
        exact W.zret (v := 0) hx hb hr rfl (fun t ht hWm => ⟨⟨_, M20, rfl, h, tq_pe ht hW⟩, hS.F ht⟩) hS.2.2 dX12_actHere_152
  · have h := h.2 c18
    refine lv_iconst (v := 0) hx hb dX12_actHere_135 (by decide) ?_
    exact W.zret (v := 0) hx hb hr rfl (fun t ht hWm => ⟨⟨_, M16, rfl, h, tq_pe ht hW⟩, hS.F ht⟩) hS.2.2 dX12_actHere_136
set_option maxHeartbeats 4000000 in
set_option maxRecDepth 100000 in
theorem bX12_actHere_68 {p : Program} {e : Env} {s : State} {m : MethodId} {args : Array Value} {below : List Frame} {meth : Method} {c : Code} {post : tq_St → Int32 → Prop} (C : tq_At p s m meth c args cX12_actHere 4 ((some .boolean)) ((tq_ws yX12_actHere cX12_actHere 4 (some .boolean))) RX12 D cy z ad)  : ∀ (M : tq_St) (x2 : Int32) (y0 : Nat) (H : Heap) (locs : List Loc) (ls : Array Slot), wbX12_actHere_68 post   M x2 y0 → tq_wd D cy z H0 ad N (tq_mix S M) H → va_S (fun q => z ≤ q) s.heap H locs → lv_has ls 4 [(0, .ref (ad 64 0)), (1, .ref (ad 170 0)), (2, .int x2)] → W p l e (tq_rm 5 107) s m args below meth c H locs 0 0 (MQ below (va_Qi (fun r u => post u r) (tq_P D cy z H0 ad N S) (fun q => z ≤ q)) args s 0 0 (fun q => z ≤ q)) (F0 m 68 ls [.ref (ad 61 y0)]) := by
  obtain ⟨hx, hb, hr, hml, hown, hts, hlocks, hK, hG⟩ := id C
  have hw : ∀ w ∈ tq_W, w.before args s = true := fun w h => hts w (List.mem_cons_of_mem _ h)
  intro M x2 y0 H locs ls h hW hS hl
  unfold wbX12_actHere_68 at h
  refine lv_astore_n (lv' := [(3, .ref (ad 61 y0)), (0, .ref (ad 64 0)), (1, .ref (ad 170 0)), (2, .int x2)]) hx hb dX12_actHere_68 rfl hl (by decide) rfl (fun ls hl => ?_)
  refine lv_aload_n hx hb dX12_actHere_69 rfl (lv_at hl 2 rfl) ?_
  refine lv_iconst (v := 0) hx hb dX12_actHere_70 (by decide) ?_
  refine lv_iload_n hx hb dX12_actHere_71 rfl (lv_at hl 3 rfl) ?_
  refine lv_bipush (v := 98) hx hb dX12_actHere_72 (by decide) ?_
  refine lv_icmp_ne (tgt := 81) hx hb dX12_actHere_74 (by decide) (fun c8 => ?_) (fun c8 => ?_)
  · have h := h.1 c8
    refine lv_iload_n hx hb dX12_actHere_81 rfl (lv_at hl 3 rfl) ?_
    refine lv_bipush (v := 97) hx hb dX12_actHere_82 (by decide) ?_
    refine lv_icmp_ne (tgt := 91) hx hb dX12_actHere_84 (by decide) (fun c9 => ?_) (fun c9 => ?_)
    · have h := h.1 c9
      refine lv_iload_n hx hb dX12_actHere_91 rfl (lv_at hl 3 rfl) ?_
      refine lv_bipush (v := 108) hx hb dX12_actHere_92 (by decide) ?_
      refine lv_icmp_ne (tgt := 101) hx hb dX12_actHere_94 (by decide) (fun c10 => ?_) (fun c10 => ?_)
      · have h := h.1 c10
        refine lv_iload_n hx hb dX12_actHere_101 rfl (lv_at hl 3 rfl) ?_
        refine lv_bipush (v := 115) hx hb dX12_actHere_102 (by decide) ?_
        refine lv_icmp_ne (tgt := 111) hx hb dX12_actHere_104 (by decide) (fun c11 => ?_) (fun c11 => ?_)
        · have h := h.1 c11
          refine lv_iload_n hx hb dX12_actHere_111 rfl (lv_at hl 3 rfl) ?_
          refine lv_bipush (v := 100) hx hb dX12_actHere_112 (by decide) ?_
          refine lv_icmp_ne (tgt := 121) hx hb dX12_actHere_114 (by decide) (fun c12 => ?_) (fun c12 => ?_)
          · have h := h.1 c12
            refine lv_iconst (v := 5) hx hb dX12_actHere_121 (by decide) ?_
            exact bX12_actHere_122 C  _ _ _ _ _ _ _ h hW hS (lv_sub hl [1, 2, 0] rfl)
          · have h := h.2 c12
            refine lv_iconst (v := 4) hx hb dX12_actHere_117 (by decide) ?_
            refine lv_goto (tgt := 122) hx hb dX12_actHere_118 (by decide) ?_
            exact bX12_actHere_122 C  _ _ _ _ _ _ _ h hW hS (lv_sub hl [1, 2, 0] rfl)
        · have h := h.2 c11
          refine lv_iconst (v := 3) hx hb dX12_actHere_107 (by decide) ?_
          refine lv_goto (tgt := 122) hx hb dX12_actHere_108 (by decide) ?_
          exact bX12_actHere_122 C  _ _ _ _ _ _ _ h hW hS (lv_sub hl [1, 2, 0] rfl)
      · have h := h.2 c10
        refine lv_iconst (v := 2) hx hb dX12_actHere_97 (by decide) ?_
        refine lv_goto (tgt := 122) hx hb dX12_actHere_98 (by decide) ?_
        exact bX12_actHere_122 C  _ _ _ _ _ _ _ h hW hS (lv_sub hl [1, 2, 0] rfl)
    · have h := h.2 c9
      refine lv_iconst (v := 1) hx hb dX12_actHere_87 (by decide) ?_
      refine lv_goto (tgt := 122) hx hb dX12_actHere_88 (by decide) ?_
      exact bX12_actHere_122 C  _ _ _ _ _ _ _ h hW hS (lv_sub hl [1, 2, 0] rfl)
  · have h := h.2 c8
    refine lv_iconst (v := 0) hx hb dX12_actHere_77 (by decide) ?_
    refine lv_goto (tgt := 122) hx hb dX12_actHere_78 (by decide) ?_
    exact bX12_actHere_122 C  _ _ _ _ _ _ _ h hW hS (lv_sub hl [1, 2, 0] rfl)
set_option maxHeartbeats 4000000 in
set_option maxRecDepth 100000 in
theorem kX12_actHere {post : tq_St → Int32 → Prop} {M : tq_St}  (h : wpX12_actHere post M ) : tq_mI l yX12_actHere (tq_ws yX12_actHere cX12_actHere 4 (some .boolean)) 5 107 D cy z H0 ad N S M [.ref (ad 64 0), .ref (ad 170 0)] post := by
  unfold wpX12_actHere at h
  refine Met.ofW (cc := cX12_actHere) (maxL := 4) (ret := (some .boolean)) (by decide) rfl ?_
  intro p e s m args below meth c s₁ B hml hv
  obtain ⟨rfl, hW, hK, hG⟩ := hv
  have hx := B.exec
  have hb := B.bytes
  have hr := B.returns
  have hts := atoms_spec (ws := (tq_ws yX12_actHere cX12_actHere 4 (some .boolean))) B.pre
  have hw : ∀ w ∈ tq_W, w.before _ s = true := fun w h => hts w (List.mem_cons_of_mem _ h)
  have hown : s.vm.findClass RX12 = some m.cls := findClass_of_methodNamed B.named
  have hlocks := B.notSynchronized
  have C : tq_At p s m meth c [.ref (ad 64 0), .ref (ad 170 0)].toArray cX12_actHere 4 ((some .boolean)) ((tq_ws yX12_actHere cX12_actHere 4 (some .boolean))) RX12 D cy z ad := ⟨hx, hb, hr, hml, hown, hts, hlocks, hK, hG⟩
  have hS : va_S (fun q => z ≤ q) s.heap s.heap [] := va_S.rf
  have hl := lv_entry ([.ref (ad 64 0), .ref (ad 170 0)]) (n := 4) (Nat.le_of_ble_eq_true rfl)
  rw [lg_entry_eq]
  generalize (lg_sl ([.ref (ad 64 0), .ref (ad 170 0)]) ++ List.replicate (4 - (lg_sl ([.ref (ad 64 0), .ref (ad 170 0)])).length) Slot.unset).toArray = ls at hl ⊢
  have hl : lv_has ls 4 [(0, .ref (ad 64 0)), (1, .ref (ad 170 0))] := hl
  have hW : tq_wd D cy z H0 ad N (tq_mix S M) s.heap := hW
  refine lv_aload_n hx hb dX12_actHere_0 rfl (lv_at hl 0 rfl) ?_
  refine tq_callVi (As := []) (rest := []) (kX12_here h) ⟨hx, hb, hml, hown, hts⟩ (cwV 0 hts (tq_goodV tw_1716 tw_1718 tw_61 tw_125 tw_1719) rfl rfl rfl (by decide +kernel) ⟨Nat.le_of_ble_eq_true rfl, Nat.le_of_ble_eq_true rfl⟩) hK hG hW hS rfl hl.1 rfl (Nat.le_of_ble_eq_true rfl) dX12_actHere_1 ⟨Nat.le_of_ble_eq_true rfl, Nat.le_of_ble_eq_true rfl⟩ (fun r2 M1 H locs h hW hS => ?_)
  refine lv_istore_n (lv' := [(2, .int r2), (0, .ref (ad 64 0)), (1, .ref (ad 170 0))]) hx hb dX12_actHere_4 rfl hl (by decide) rfl (fun ls hl => ?_)
  refine lv_iload_n hx hb dX12_actHere_5 rfl (lv_at hl 0 rfl) ?_
  refine lv_bipush (v := 98) hx hb dX12_actHere_6 (by decide) ?_
  refine lv_icmp_ne (tgt := 17) hx hb dX12_actHere_8 (by decide) (fun c3 => ?_) (fun c3 => ?_)
  · have h := h.1 c3
    refine lv_iload_n hx hb dX12_actHere_17 rfl (lv_at hl 0 rfl) ?_
    refine lv_bipush (v := 97) hx hb dX12_actHere_18 (by decide) ?_
    refine lv_icmp_ne (tgt := 29) hx hb dX12_actHere_20 (by decide) (fun c4 => ?_) (fun c4 => ?_)
    · have h := h.1 c4
      refine lv_iload_n hx hb dX12_actHere_29 rfl (lv_at hl 0 rfl) ?_
      refine lv_bipush (v := 108) hx hb dX12_actHere_30 (by decide) ?_
      refine lv_icmp_ne (tgt := 41) hx hb dX12_actHere_32 (by decide) (fun c5 => ?_) (fun c5 => ?_)
      · have h := h.1 c5
        refine lv_iload_n hx hb dX12_actHere_41 rfl (lv_at hl 0 rfl) ?_
        refine lv_bipush (v := 115) hx hb dX12_actHere_42 (by decide) ?_
        refine lv_icmp_ne (tgt := 53) hx hb dX12_actHere_44 (by decide) (fun c6 => ?_) (fun c6 => ?_)
        · have h := h.1 c6
          refine lv_iload_n hx hb dX12_actHere_53 rfl (lv_at hl 0 rfl) ?_
          refine lv_bipush (v := 100) hx hb dX12_actHere_54 (by decide) ?_
          refine lv_icmp_ne (tgt := 65) hx hb dX12_actHere_56 (by decide) (fun c7 => ?_) (fun c7 => ?_)
          · have h := h.1 c7
            refine tq_ldcwS hx hb hown (hG.2.1 ("TwoSeasModel", 269, "keep ", 7) (by decide)) dX12_actHere_65 ?_
            exact bX12_actHere_68 C  _ _ _ _ _ _ h hW hS (lv_sub hl [1, 2, 0] rfl)
          · have h := h.2 c7
            refine tq_ldcwS hx hb hown (hG.2.1 ("TwoSeasModel", 267, "draw ", 21) (by decide)) dX12_actHere_59 ?_
            refine lv_goto (tgt := 68) hx hb dX12_actHere_62 (by decide) ?_
            exact bX12_actHere_68 C  _ _ _ _ _ _ h hW hS (lv_sub hl [1, 2, 0] rfl)
        · have h := h.2 c6
          refine tq_ldcwS hx hb hown (hG.2.1 ("TwoSeasModel", 265, "sail ", 20) (by decide)) dX12_actHere_47 ?_
          refine lv_goto (tgt := 68) hx hb dX12_actHere_50 (by decide) ?_
          exact bX12_actHere_68 C  _ _ _ _ _ _ h hW hS (lv_sub hl [1, 2, 0] rfl)
      · have h := h.2 c5
        refine tq_ldcwS hx hb hown (hG.2.1 ("TwoSeasModel", 263, "lade ", 19) (by decide)) dX12_actHere_35 ?_
        refine lv_goto (tgt := 68) hx hb dX12_actHere_38 (by decide) ?_
        exact bX12_actHere_68 C  _ _ _ _ _ _ h hW hS (lv_sub hl [1, 2, 0] rfl)
    · have h := h.2 c4
      refine tq_ldcwS hx hb hown (hG.2.1 ("TwoSeasModel", 261, "advance ", 18) (by decide)) dX12_actHere_23 ?_
      refine lv_goto (tgt := 68) hx hb dX12_actHere_26 (by decide) ?_
      exact bX12_actHere_68 C  _ _ _ _ _ _ h hW hS (lv_sub hl [1, 2, 0] rfl)
  · have h := h.2 c3
    refine tq_ldcwS hx hb hown (hG.2.1 ("TwoSeasModel", 259, "buy ", 17) (by decide)) dX12_actHere_11 ?_
    refine lv_goto (tgt := 68) hx hb dX12_actHere_14 (by decide) ?_
    exact bX12_actHere_68 C  _ _ _ _ _ _ h hW hS (lv_sub hl [1, 2, 0] rfl)
