variable {l : Launch} {D : va_G} {cy : Nat → ClassId} {z : Nat} {H0 : Heap} {ad : Nat → Nat → Nat} {N : tq_Nn} {S : tq_St}
-- act
def wbX12_act_39 (post : tq_St → Int32 → Prop)  (M : tq_St) (y0 : Int32) : Prop :=
  post M y0
def wbX12_act_38 (post : tq_St → Int32 → Prop)  (M : tq_St) : Prop :=
  wbX12_act_39 post M 0
def wpX12_act (post : tq_St → Int32 → Prop) (M : tq_St) (p0 : Int32) (p1 : Int32) (p2 : Int32) : Prop :=
  ∀ M1, M1 = tq_up M 64 0 66 0 → (wpX12_isPaper (fun M2 r3 => (r3 = 0 → (wbX12_act_38 post M2 )) ∧ (¬ r3 = 0 → (wpX12_in (fun M5 r6 => (r6 = 0 → (wbX12_act_38 post M5 )) ∧ (¬ r6 = 0 → (vp_in p0 150 ∧ (wpX12_run 16 (fun M9 r10 => wbX12_act_39 post M9 r10) M5 p0 (M5 110 0 p0.toNatClampNeg) p1 p2)))) M2 p1 0 2))) M1 p0)
set_option maxHeartbeats 4000000 in
set_option maxRecDepth 100000 in
theorem bX12_act_39 {p : Program} {e : Env} {s : State} {m : MethodId} {args : Array Value} {below : List Frame} {meth : Method} {c : Code} {post : tq_St → Int32 → Prop} (C : tq_At p s m meth c args cX12_act 4 ((some .int)) ((tq_ws yX12_act cX12_act 4 (some .int))) RX12 D cy z ad)  : ∀ (M : tq_St) (y0 : Int32) (H : Heap) (locs : List Loc) (ls : Array Slot), wbX12_act_39 post   M y0 → tq_wd D cy z H0 ad N (tq_mix S M) H → va_S (fun q => z ≤ q) s.heap H locs → lv_has ls 4 [] → W p l e (tq_rm 19 728) s m args below meth c H locs 0 0 (MQ below (va_Qi (fun r u => post u r) (tq_P D cy z H0 ad N S) (fun q => z ≤ q)) args s 0 0 (fun q => z ≤ q)) (F0 m 39 ls [.int y0]) := by
  obtain ⟨hx, hb, hr, hml, hown, hts, hlocks, hK, hG⟩ := id C
  have hw : ∀ w ∈ tq_W, w.before args s = true := fun w h => hts w (List.mem_cons_of_mem _ h)
  intro M y0 H locs ls h hW hS hl
  unfold wbX12_act_39 at h
  exact W.iret (v := y0) hx hb hr (fun t ht hWm => ⟨⟨_, M, rfl, h, tq_pe ht hW⟩, hS.F ht⟩) hS.2.2 dX12_act_39
set_option maxHeartbeats 4000000 in
set_option maxRecDepth 100000 in
theorem bX12_act_38 {p : Program} {e : Env} {s : State} {m : MethodId} {args : Array Value} {below : List Frame} {meth : Method} {c : Code} {post : tq_St → Int32 → Prop} (C : tq_At p s m meth c args cX12_act 4 ((some .int)) ((tq_ws yX12_act cX12_act 4 (some .int))) RX12 D cy z ad)  : ∀ (M : tq_St)  (H : Heap) (locs : List Loc) (ls : Array Slot), wbX12_act_38 post   M  → tq_wd D cy z H0 ad N (tq_mix S M) H → va_S (fun q => z ≤ q) s.heap H locs → lv_has ls 4 [] → W p l e (tq_rm 19 728) s m args below meth c H locs 0 0 (MQ below (va_Qi (fun r u => post u r) (tq_P D cy z H0 ad N S) (fun q => z ≤ q)) args s 0 0 (fun q => z ≤ q)) (F0 m 38 ls []) := by
  obtain ⟨hx, hb, hr, hml, hown, hts, hlocks, hK, hG⟩ := id C
  have hw : ∀ w ∈ tq_W, w.before args s = true := fun w h => hts w (List.mem_cons_of_mem _ h)
  intro M  H locs ls h hW hS hl
  unfold wbX12_act_38 at h
  refine lv_iconst (v := 0) hx hb dX12_act_38 (by decide) ?_
  exact bX12_act_39 C  _ _ _ _ _ h hW hS (lv_sub hl [] rfl)
set_option maxHeartbeats 4000000 in
set_option maxRecDepth 100000 in
theorem kX12_act {post : tq_St → Int32 → Prop} {M : tq_St} {p0 : Int32} {p1 : Int32} {p2 : Int32} (h : wpX12_act post M p0 p1 p2) : tq_mI l yX12_act (tq_ws yX12_act cX12_act 4 (some .int)) 19 728 D cy z H0 ad N S M [.ref (ad 64 0), .int p0, .int p1, .int p2] post := by
  unfold wpX12_act at h
  refine Met.ofW (cc := cX12_act) (maxL := 4) (ret := (some .int)) (by decide) rfl ?_
  intro p e s m args below meth c s₁ B hml hv
  obtain ⟨rfl, hW, hK, hG⟩ := hv
  have hx := B.exec
  have hb := B.bytes
  have hr := B.returns
  have hts := atoms_spec (ws := (tq_ws yX12_act cX12_act 4 (some .int))) B.pre
  have hw : ∀ w ∈ tq_W, w.before _ s = true := fun w h => hts w (List.mem_cons_of_mem _ h)
  have hown : s.vm.findClass RX12 = some m.cls := findClass_of_methodNamed B.named
  have hlocks := B.notSynchronized
  have C : tq_At p s m meth c [.ref (ad 64 0), .int p0, .int p1, .int p2].toArray cX12_act 4 ((some .int)) ((tq_ws yX12_act cX12_act 4 (some .int))) RX12 D cy z ad := ⟨hx, hb, hr, hml, hown, hts, hlocks, hK, hG⟩
  have hS : va_S (fun q => z ≤ q) s.heap s.heap [] := va_S.rf
  have hl := lv_entry ([.ref (ad 64 0), .int p0, .int p1, .int p2]) (n := 4) (Nat.le_of_ble_eq_true rfl)
  rw [lg_entry_eq]
  generalize (lg_sl ([.ref (ad 64 0), .int p0, .int p1, .int p2]) ++ List.replicate (4 - (lg_sl ([.ref (ad 64 0), .int p0, .int p1, .int p2])).length) Slot.unset).toArray = ls at hl ⊢
  have hl : lv_has ls 4 [(0, .ref (ad 64 0)), (1, .int p0), (2, .int p1), (3, .int p2)] := hl
  have hW : tq_wd D cy z H0 ad N (tq_mix S M) s.heap := hW
  refine lv_aload_n hx hb dX12_act_0 rfl (lv_at hl 0 rfl) ?_
  refine lv_iconst (v := 0) hx hb dX12_act_1 (by decide) ?_
  refine tqm_put hx hb hw tq_inX12 tyX12 tyX12_ok nmX12 hown hK hW hS (by decide) (tq_mk_64 (by decide)) rfl 66 (by decide) (hw _ tw_1474) (fun _ h9 => h9) rfl rfl rfl rfl (tq_mk_64 (by decide)) dX12_act_2 (fun H locs hW hS => ?_)
  generalize eM1 : tq_up M 64 0 66 0 = M1 at hW
  have h := h M1 eM1.symm
  refine lv_aload_n hx hb dX12_act_5 rfl (lv_at hl 0 rfl) ?_
  refine lv_iload_n hx hb dX12_act_6 rfl (lv_at hl 1 rfl) ?_
  refine tq_callVi (As := [.int p0]) (rest := []) (kX12_isPaper h) ⟨hx, hb, hml, hown, hts⟩ (cwV 1 hts (tq_goodV tw_1771 tw_1773 tw_68 tw_125 tw_1774) rfl rfl rfl (by decide +kernel) ⟨Nat.le_of_ble_eq_true rfl, Nat.le_of_ble_eq_true rfl⟩) hK hG hW hS rfl hl.1 rfl (Nat.le_of_ble_eq_true rfl) dX12_act_7 ⟨Nat.le_of_ble_eq_true rfl, Nat.le_of_ble_eq_true rfl⟩ (fun r3 M2 H locs h hW hS => ?_)
  refine lv_if_eq (tgt := 38) hx hb dX12_act_10 (by decide) (fun c4 => ?_) (fun c4 => ?_)
  · have h := h.1 c4
    exact bX12_act_38 C  _  _ _ _ h hW hS (lv_sub hl [] rfl)
  · have h := h.2 c4
    refine lv_iload_n hx hb dX12_act_13 rfl (lv_at hl 2 rfl) ?_
    refine lv_iconst (v := 0) hx hb dX12_act_14 (by decide) ?_
    refine lv_iconst (v := 2) hx hb dX12_act_15 (by decide) ?_
    refine tq_callSi (As := [.int p1, .int 0, .int 2]) (rest := []) (kX12_in h) ⟨hx, hb, hml, hown, hts⟩ (va_cwS 3 hts (tq_goodS tw_1648 tw_1649 tw_125 tw_1650) rfl rfl rfl (by decide +kernel) ⟨Nat.le_of_ble_eq_true rfl, Nat.le_of_ble_eq_true rfl⟩) hK hG hW hS rfl hl.1 rfl (Nat.le_of_ble_eq_true rfl) dX12_act_16 ⟨Nat.le_of_ble_eq_true rfl, Nat.le_of_ble_eq_true rfl⟩ (fun r6 M5 H locs h hW hS => ?_)
    refine lv_if_eq (tgt := 38) hx hb dX12_act_19 (by decide) (fun c7 => ?_) (fun c7 => ?_)
    · have h := h.1 c7
      exact bX12_act_38 C  _  _ _ _ h hW hS (lv_sub hl [] rfl)
    · have h := h.2 c7
      refine lv_aload_n hx hb dX12_act_22 rfl (lv_at hl 0 rfl) ?_
      refine lv_iload_n hx hb dX12_act_23 rfl (lv_at hl 1 rfl) ?_
      refine lv_aload_n hx hb dX12_act_24 rfl (lv_at hl 0 rfl) ?_
      refine tqm_get (v := .ref (ad 110 0)) hx hb hw tq_inX12 hown hK hW (by decide) (tq_mk_64 (by decide)) rfl 10 (by decide) (hw _ tw_1418) (fun _ h9 => h9) rfl dX12_act_25 ?_
      refine lv_iload_n hx hb dX12_act_28 rfl (lv_at hl 1 rfl) ?_
      obtain ⟨b8, h⟩ := h
      refine tqm_iald (jn := p0.toNatClampNeg) hx hb hK hW (by decide) (tq_mk_110 (by decide)) b8 rfl dX12_act_29 ?_
      refine lv_iload_n hx hb dX12_act_30 rfl (lv_at hl 2 rfl) ?_
      refine lv_iload_n hx hb dX12_act_31 rfl (lv_at hl 3 rfl) ?_
      refine tq_callVi (As := [.int p0, .int (M5 110 0 p0.toNatClampNeg), .int p1, .int p2]) (rest := []) (kX12_run 16 h) ⟨hx, hb, hml, hown, hts⟩ (cwV 4 hts (tq_goodV tw_2095 tw_2097 tw_113 tw_125 tw_2098) rfl rfl rfl (by decide +kernel) ⟨Nat.le_of_ble_eq_true rfl, Nat.le_of_ble_eq_true rfl⟩) hK hG hW hS rfl hl.1 rfl (Nat.le_of_ble_eq_true rfl) dX12_act_32 ⟨Nat.le_of_ble_eq_true rfl, Nat.le_of_ble_eq_true rfl⟩ (fun r10 M9 H locs h hW hS => ?_)
      refine lv_goto (tgt := 39) hx hb dX12_act_35 (by decide) ?_
      exact bX12_act_39 C  _ _ _ _ _ h hW hS (lv_sub hl [] rfl)
-- trace
def wbX12_trace_29 (post : tq_St → Int32 → Prop)  (M : tq_St) (y0 : Int32) : Prop :=
  post M y0
def wpX12_trace (post : tq_St → Int32 → Prop) (M : tq_St) (p0 : Int32) : Prop :=
  wpX12_in (fun M1 r2 => (r2 = 0 → (wbX12_trace_29 post M1 ((-1)))) ∧ (¬ r2 = 0 → (vp_in p0 20 ∧ (wbX12_trace_29 post M1 (M1 165 0 p0.toNatClampNeg))))) M p0 0 ((if 20 < (M 64 0 66) then 20 else (M 64 0 66)) - 1)
set_option maxHeartbeats 4000000 in
set_option maxRecDepth 100000 in
theorem bX12_trace_29 {p : Program} {e : Env} {s : State} {m : MethodId} {args : Array Value} {below : List Frame} {meth : Method} {c : Code} {post : tq_St → Int32 → Prop} (C : tq_At p s m meth c args cX12_trace 2 ((some .int)) ((tq_ws yX12_trace cX12_trace 2 (some .int))) RX12 D cy z ad)  : ∀ (M : tq_St) (y0 : Int32) (H : Heap) (locs : List Loc) (ls : Array Slot), wbX12_trace_29 post   M y0 → tq_wd D cy z H0 ad N (tq_mix S M) H → va_S (fun q => z ≤ q) s.heap H locs → lv_has ls 2 [] → W p l e (tq_rm 1 22) s m args below meth c H locs 0 0 (MQ below (va_Qi (fun r u => post u r) (tq_P D cy z H0 ad N S) (fun q => z ≤ q)) args s 0 0 (fun q => z ≤ q)) (F0 m 29 ls [.int y0]) := by
  obtain ⟨hx, hb, hr, hml, hown, hts, hlocks, hK, hG⟩ := id C
  have hw : ∀ w ∈ tq_W, w.before args s = true := fun w h => hts w (List.mem_cons_of_mem _ h)
  intro M y0 H locs ls h hW hS hl
  unfold wbX12_trace_29 at h
  exact W.iret (v := y0) hx hb hr (fun t ht hWm => ⟨⟨_, M, rfl, h, tq_pe ht hW⟩, hS.F ht⟩) hS.2.2 dX12_trace_29
set_option maxHeartbeats 4000000 in
set_option maxRecDepth 100000 in
theorem kX12_trace {post : tq_St → Int32 → Prop} {M : tq_St} {p0 : Int32} (h : wpX12_trace post M p0) : tq_mI l yX12_trace (tq_ws yX12_trace cX12_trace 2 (some .int)) 1 22 D cy z H0 ad N S M [.ref (ad 64 0), .int p0] post := by
  unfold wpX12_trace at h
  refine Met.ofW (cc := cX12_trace) (maxL := 2) (ret := (some .int)) (by decide) rfl ?_
  intro p e s m args below meth c s₁ B hml hv
  obtain ⟨rfl, hW, hK, hG⟩ := hv
  have hx := B.exec
  have hb := B.bytes
  have hr := B.returns
  have hts := atoms_spec (ws := (tq_ws yX12_trace cX12_trace 2 (some .int))) B.pre
  have hw : ∀ w ∈ tq_W, w.before _ s = true := fun w h => hts w (List.mem_cons_of_mem _ h)
  have hown : s.vm.findClass RX12 = some m.cls := findClass_of_methodNamed B.named
  have hlocks := B.notSynchronized
  have C : tq_At p s m meth c [.ref (ad 64 0), .int p0].toArray cX12_trace 2 ((some .int)) ((tq_ws yX12_trace cX12_trace 2 (some .int))) RX12 D cy z ad := ⟨hx, hb, hr, hml, hown, hts, hlocks, hK, hG⟩
  have hS : va_S (fun q => z ≤ q) s.heap s.heap [] := va_S.rf
  have hl := lv_entry ([.ref (ad 64 0), .int p0]) (n := 2) (Nat.le_of_ble_eq_true rfl)
  rw [lg_entry_eq]
  generalize (lg_sl ([.ref (ad 64 0), .int p0]) ++ List.replicate (2 - (lg_sl ([.ref (ad 64 0), .int p0])).length) Slot.unset).toArray = ls at hl ⊢
  have hl : lv_has ls 2 [(0, .ref (ad 64 0)), (1, .int p0)] := hl
  have hW : tq_wd D cy z H0 ad N (tq_mix S M) s.heap := hW
  refine lv_iload_n hx hb dX12_trace_0 rfl (lv_at hl 1 rfl) ?_
  refine lv_iconst (v := 0) hx hb dX12_trace_1 (by decide) ?_
  refine lv_aload_n hx hb dX12_trace_2 rfl (lv_at hl 0 rfl) ?_
  refine tqm_get (v := .int (M 64 0 66)) hx hb hw tq_inX12 hown hK hW (by decide) (tq_mk_64 (by decide)) rfl 66 (by decide) (hw _ tw_1474) (fun _ h9 => h9) rfl dX12_trace_3 ?_
  refine lv_bipush (v := 20) hx hb dX12_trace_6 (by decide) ?_
  refine va_mmin hx hb (hml.trans hl.1.symm) hown (hw _ tw_1981) (hw _ tw_797) (hw _ tw_132) (hw _ tw_798) (Nat.le_of_ble_eq_true rfl) (Nat.le_of_ble_eq_true rfl) (Nat.zero_le _) (Nat.zero_le _) dX12_trace_8 ?_
  refine lv_iconst (v := 1) hx hb dX12_trace_11 (by decide) ?_
  refine lv_isub hx hb dX12_trace_12 ?_
  refine tq_callSi (As := [.int p0, .int 0, .int ((if 20 < (M 64 0 66) then 20 else (M 64 0 66)) - 1)]) (rest := []) (kX12_in h) ⟨hx, hb, hml, hown, hts⟩ (va_cwS 3 hts (tq_goodS tw_1648 tw_1649 tw_125 tw_1650) rfl rfl rfl (by decide +kernel) ⟨Nat.le_of_ble_eq_true rfl, Nat.le_of_ble_eq_true rfl⟩) hK hG hW hS rfl hl.1 rfl (Nat.le_of_ble_eq_true rfl) dX12_trace_13 ⟨Nat.le_of_ble_eq_true rfl, Nat.le_of_ble_eq_true rfl⟩ (fun r2 M1 H locs h hW hS => ?_)
  refine lv_if_eq (tgt := 28) hx hb dX12_trace_16 (by decide) (fun c3 => ?_) (fun c3 => ?_)
  · have h := h.1 c3
    refine lv_iconst (v := (-1)) hx hb dX12_trace_28 (by decide) ?_
    exact bX12_trace_29 C  _ _ _ _ _ h hW hS (lv_sub hl [] rfl)
  · have h := h.2 c3
    refine lv_aload_n hx hb dX12_trace_19 rfl (lv_at hl 0 rfl) ?_
    refine tqm_get (v := .ref (ad 165 0)) hx hb hw tq_inX12 hown hK hW (by decide) (tq_mk_64 (by decide)) rfl 65 (by decide) (hw _ tw_1473) (fun _ h9 => h9) rfl dX12_trace_20 ?_
    refine lv_iload_n hx hb dX12_trace_23 rfl (lv_at hl 1 rfl) ?_
    obtain ⟨b4, h⟩ := h
    refine tqm_iald (jn := p0.toNatClampNeg) hx hb hK hW (by decide) (tq_mk_165 (by decide)) b4 rfl dX12_trace_24 ?_
    refine lv_goto (tgt := 29) hx hb dX12_trace_25 (by decide) ?_
    exact bX12_trace_29 C  _ _ _ _ _ h hW hS (lv_sub hl [] rfl)
-- taken
def wbX12_taken_31 (post : tq_St → Int32 → Prop) : Nat → tq_St → Int32 → Int32 → Int32 → Prop
  | 0, _, _, _, _ => False
  | n + 1, M, x1, x2, x3 =>
    (x3 < 0 → (post M ((-13)))) ∧ (¬ x3 < 0 → ((¬ x3 = x2 → (wpX12_above (fun M10 r11 => (wbX12_taken_31 post n) M10 x1 x2 r11) M x3)) ∧ (x3 = x2 → (vp_in x1 150 ∧ (post M (M 110 0 x1.toNatClampNeg))))))
def wpX12_taken (post : tq_St → Int32 → Prop) (M : tq_St) (p0 : Int32) (p1 : Int32) : Prop :=
  wpX12_in (fun M1 r2 => (¬ r2 = 0 → (wpX12_isPaper (fun M4 r5 => (¬ r5 = 0 → (vp_in p0 150 ∧ (∃ nq, wbX12_taken_31 post nq M4 p0 p1 (M4 110 0 p0.toNatClampNeg)))) ∧ (r5 = 0 → (post M4 ((-11))))) M1 p0)) ∧ (r2 = 0 → (post M1 ((-2))))) M p1 0 6
set_option maxHeartbeats 4000000 in
set_option maxRecDepth 100000 in
theorem bX12_taken_31 {p : Program} {e : Env} {s : State} {m : MethodId} {args : Array Value} {below : List Frame} {meth : Method} {c : Code} {post : tq_St → Int32 → Prop} (C : tq_At p s m meth c args cX12_taken 4 ((some .int)) ((tq_ws yX12_taken cX12_taken 4 (some .int))) RX12 D cy z ad)  : ∀ n : Nat, ∀ (M : tq_St) (x1 : Int32) (x2 : Int32) (x3 : Int32) (H : Heap) (locs : List Loc) (ls : Array Slot), wbX12_taken_31 post   n M x1 x2 x3 → tq_wd D cy z H0 ad N (tq_mix S M) H → va_S (fun q => z ≤ q) s.heap H locs → lv_has ls 4 [(0, .ref (ad 64 0)), (1, .int x1), (2, .int x2), (3, .int x3)] → W p l e (tq_rm 2 43) s m args below meth c H locs 0 0 (MQ below (va_Qi (fun r u => post u r) (tq_P D cy z H0 ad N S) (fun q => z ≤ q)) args s 0 0 (fun q => z ≤ q)) (F0 m 31 ls []) := by
  obtain ⟨hx, hb, hr, hml, hown, hts, hlocks, hK, hG⟩ := id C
  have hw : ∀ w ∈ tq_W, w.before args s = true := fun w h => hts w (List.mem_cons_of_mem _ h)
  intro n
  induction n with
  | zero =>
    intro M x1 x2 x3 H locs ls h
    exact absurd h (by unfold wbX12_taken_31; exact id)
  | succ n ih =>
    intro M x1 x2 x3 H locs ls h hW hS hl
    unfold wbX12_taken_31 at h
    refine lv_iload_n hx hb dX12_taken_31 rfl (lv_at hl 3 rfl) ?_
    refine lv_if_lt (tgt := 55) hx hb dX12_taken_32 (by decide) (fun c8 => ?_) (fun c8 => ?_)
    · have h := h.1 c8
      refine lv_bipush (v := (-13)) hx hb dX12_taken_55 (by decide) ?_
      exact W.iret (v := (-13)) hx hb hr (fun t ht hWm => ⟨⟨_, M, rfl, h, tq_pe ht hW⟩, hS.F ht⟩) hS.2.2 dX12_taken_57
    · have h := h.2 c8
      refine lv_iload_n hx hb dX12_taken_35 rfl (lv_at hl 3 rfl) ?_
      refine lv_iload_n hx hb dX12_taken_36 rfl (lv_at hl 2 rfl) ?_
      refine lv_icmp_ne (tgt := 47) hx hb dX12_taken_37 (by decide) (fun c9 => ?_) (fun c9 => ?_)
      · have h := h.1 c9
        refine lv_iload_n hx hb dX12_taken_47 rfl (lv_at hl 3 rfl) ?_
        refine tq_callSi (As := [.int x3]) (rest := []) (kX12_above h) ⟨hx, hb, hml, hown, hts⟩ (va_cwS 1 hts (tq_goodS tw_2102 tw_2103 tw_125 tw_2104) rfl rfl rfl (by decide +kernel) ⟨Nat.le_of_ble_eq_true rfl, Nat.le_of_ble_eq_true rfl⟩) hK hG hW hS rfl hl.1 rfl (Nat.le_of_ble_eq_true rfl) dX12_taken_48 ⟨Nat.le_of_ble_eq_true rfl, Nat.le_of_ble_eq_true rfl⟩ (fun r11 M10 H locs h hW hS => ?_)
        refine lv_istore_n (lv' := [(3, .int r11), (0, .ref (ad 64 0)), (1, .int x1), (2, .int x2)]) hx hb dX12_taken_51 rfl hl (by decide) rfl (fun ls hl => ?_)
        refine lv_goto (tgt := 31) hx hb dX12_taken_52 (by decide) ?_
        exact ih _ _ _ _ _ _ _ h hW hS (lv_sub hl [1, 2, 3, 0] rfl)
      · have h := h.2 c9
        refine lv_aload_n hx hb dX12_taken_40 rfl (lv_at hl 0 rfl) ?_
        refine tqm_get (v := .ref (ad 110 0)) hx hb hw tq_inX12 hown hK hW (by decide) (tq_mk_64 (by decide)) rfl 10 (by decide) (hw _ tw_1418) (fun _ h9 => h9) rfl dX12_taken_41 ?_
        refine lv_iload_n hx hb dX12_taken_44 rfl (lv_at hl 1 rfl) ?_
        obtain ⟨b12, h⟩ := h
        refine tqm_iald (jn := x1.toNatClampNeg) hx hb hK hW (by decide) (tq_mk_110 (by decide)) b12 rfl dX12_taken_45 ?_
        exact W.iret (v := M 110 0 x1.toNatClampNeg) hx hb hr (fun t ht hWm => ⟨⟨_, M, rfl, h, tq_pe ht hW⟩, hS.F ht⟩) hS.2.2 dX12_taken_46
set_option maxHeartbeats 4000000 in
set_option maxRecDepth 100000 in
theorem kX12_taken {post : tq_St → Int32 → Prop} {M : tq_St} {p0 : Int32} {p1 : Int32} (h : wpX12_taken post M p0 p1) : tq_mI l yX12_taken (tq_ws yX12_taken cX12_taken 4 (some .int)) 2 43 D cy z H0 ad N S M [.ref (ad 64 0), .int p0, .int p1] post := by
  unfold wpX12_taken at h
  refine Met.ofW (cc := cX12_taken) (maxL := 4) (ret := (some .int)) (by decide) rfl ?_
  intro p e s m args below meth c s₁ B hml hv
  obtain ⟨rfl, hW, hK, hG⟩ := hv
  have hx := B.exec
  have hb := B.bytes
  have hr := B.returns
  have hts := atoms_spec (ws := (tq_ws yX12_taken cX12_taken 4 (some .int))) B.pre
  have hw : ∀ w ∈ tq_W, w.before _ s = true := fun w h => hts w (List.mem_cons_of_mem _ h)
  have hown : s.vm.findClass RX12 = some m.cls := findClass_of_methodNamed B.named
  have hlocks := B.notSynchronized
  have C : tq_At p s m meth c [.ref (ad 64 0), .int p0, .int p1].toArray cX12_taken 4 ((some .int)) ((tq_ws yX12_taken cX12_taken 4 (some .int))) RX12 D cy z ad := ⟨hx, hb, hr, hml, hown, hts, hlocks, hK, hG⟩
  have hS : va_S (fun q => z ≤ q) s.heap s.heap [] := va_S.rf
  have hl := lv_entry ([.ref (ad 64 0), .int p0, .int p1]) (n := 4) (Nat.le_of_ble_eq_true rfl)
  rw [lg_entry_eq]
  generalize (lg_sl ([.ref (ad 64 0), .int p0, .int p1]) ++ List.replicate (4 - (lg_sl ([.ref (ad 64 0), .int p0, .int p1])).length) Slot.unset).toArray = ls at hl ⊢
  have hl : lv_has ls 4 [(0, .ref (ad 64 0)), (1, .int p0), (2, .int p1)] := hl
  have hW : tq_wd D cy z H0 ad N (tq_mix S M) s.heap := hW
  refine lv_iload_n hx hb dX12_taken_0 rfl (lv_at hl 2 rfl) ?_
  refine lv_iconst (v := 0) hx hb dX12_taken_1 (by decide) ?_
  refine lv_bipush (v := 6) hx hb dX12_taken_2 (by decide) ?_
  refine tq_callSi (As := [.int p1, .int 0, .int 6]) (rest := []) (kX12_in h) ⟨hx, hb, hml, hown, hts⟩ (va_cwS 3 hts (tq_goodS tw_1648 tw_1649 tw_125 tw_1650) rfl rfl rfl (by decide +kernel) ⟨Nat.le_of_ble_eq_true rfl, Nat.le_of_ble_eq_true rfl⟩) hK hG hW hS rfl hl.1 rfl (Nat.le_of_ble_eq_true rfl) dX12_taken_4 ⟨Nat.le_of_ble_eq_true rfl, Nat.le_of_ble_eq_true rfl⟩ (fun r2 M1 H locs h hW hS => ?_)
  refine lv_if_ne (tgt := 13) hx hb dX12_taken_7 (by decide) (fun c3 => ?_) (fun c3 => ?_)
  · have h := h.1 c3
    refine lv_aload_n hx hb dX12_taken_13 rfl (lv_at hl 0 rfl) ?_
    refine lv_iload_n hx hb dX12_taken_14 rfl (lv_at hl 1 rfl) ?_
    refine tq_callVi (As := [.int p0]) (rest := []) (kX12_isPaper h) ⟨hx, hb, hml, hown, hts⟩ (cwV 1 hts (tq_goodV tw_1771 tw_1773 tw_68 tw_125 tw_1774) rfl rfl rfl (by decide +kernel) ⟨Nat.le_of_ble_eq_true rfl, Nat.le_of_ble_eq_true rfl⟩) hK hG hW hS rfl hl.1 rfl (Nat.le_of_ble_eq_true rfl) dX12_taken_15 ⟨Nat.le_of_ble_eq_true rfl, Nat.le_of_ble_eq_true rfl⟩ (fun r5 M4 H locs h hW hS => ?_)
    refine lv_if_ne (tgt := 24) hx hb dX12_taken_18 (by decide) (fun c6 => ?_) (fun c6 => ?_)
    · have h := h.1 c6
      refine lv_aload_n hx hb dX12_taken_24 rfl (lv_at hl 0 rfl) ?_
      refine tqm_get (v := .ref (ad 110 0)) hx hb hw tq_inX12 hown hK hW (by decide) (tq_mk_64 (by decide)) rfl 10 (by decide) (hw _ tw_1418) (fun _ h9 => h9) rfl dX12_taken_25 ?_
      refine lv_iload_n hx hb dX12_taken_28 rfl (lv_at hl 1 rfl) ?_
      obtain ⟨b7, h⟩ := h
      refine tqm_iald (jn := p0.toNatClampNeg) hx hb hK hW (by decide) (tq_mk_110 (by decide)) b7 rfl dX12_taken_29 ?_
      refine lv_istore_n (lv' := [(3, .int (M4 110 0 p0.toNatClampNeg)), (0, .ref (ad 64 0)), (1, .int p0), (2, .int p1)]) hx hb dX12_taken_30 rfl hl (by decide) rfl (fun ls hl => ?_)
      obtain ⟨nq, h⟩ := h
      exact bX12_taken_31 C  nq _ _ _ _ _ _ _ h hW hS (lv_sub hl [1, 2, 3, 0] rfl)
    · have h := h.2 c6
      refine lv_bipush (v := (-11)) hx hb dX12_taken_21 (by decide) ?_
      exact W.iret (v := (-11)) hx hb hr (fun t ht hWm => ⟨⟨_, M4, rfl, h, tq_pe ht hW⟩, hS.F ht⟩) hS.2.2 dX12_taken_23
  · have h := h.2 c3
    refine lv_bipush (v := (-2)) hx hb dX12_taken_10 (by decide) ?_
    exact W.iret (v := (-2)) hx hb hr (fun t ht hWm => ⟨⟨_, M1, rfl, h, tq_pe ht hW⟩, hS.F ht⟩) hS.2.2 dX12_taken_12
-- count
def wbX12_count_123 (post : tq_St → Int32 → Prop) (L99 : tq_St → Int32 → Int32 → Prop) (M : tq_St) (x3 : Int32) (y0 : Int32) (y1 : Int32) : Prop :=
  L99 M (y1 + y0) (x3 + 1)
def wbX12_count_99 (post : tq_St → Int32 → Prop) : Nat → tq_St → Int32 → Int32 → Prop
  | 0, _, _, _ => False
  | n + 1, M, x2, x3 =>
    ((M 64 0 21) ≤ x3 → (post M x2)) ∧ (¬ (M 64 0 21) ≤ x3 → (vp_in x3 8 ∧ ((¬ (M 124 0 x3.toNatClampNeg) = ((-1)) → (wbX12_count_123 post  (wbX12_count_99 post n) M x3 0 x2)) ∧ ((M 124 0 x3.toNatClampNeg) = ((-1)) → (wbX12_count_123 post  (wbX12_count_99 post n) M x3 1 x2)))))
def wpX12_count (post : tq_St → Int32 → Prop) (M : tq_St) (p0 : Int32) : Prop :=
  (p0 = 0 → (post M (M 64 0 6))) ∧ (¬ p0 = 0 → ((p0 = 1 → (post M (M 64 0 9))) ∧ (¬ p0 = 1 → ((p0 = 2 → (post M (M 64 0 21))) ∧ (¬ p0 = 2 → ((p0 = 3 → (post M (M 64 0 31))) ∧ (¬ p0 = 3 → ((p0 = 4 → (post M (M 64 0 0))) ∧ (¬ p0 = 4 → ((p0 = 5 → (post M (M 64 0 43))) ∧ (¬ p0 = 5 → ((p0 = 6 → (post M (M 64 0 61))) ∧ (¬ p0 = 6 → ((p0 = 7 → (∃ nq, wbX12_count_99 post nq M 0 0)) ∧ (¬ p0 = 7 → ((p0 = 8 → (post M (M 64 0 55))) ∧ (¬ p0 = 8 → ((p0 = 9 → (post M (M 64 0 58))) ∧ (¬ p0 = 9 → ((p0 = 10 → (post M (M 64 0 66))) ∧ (¬ p0 = 10 → (post M ((-2))))))))))))))))))))))))
set_option maxHeartbeats 4000000 in
set_option maxRecDepth 100000 in
theorem bX12_count_123 {p : Program} {e : Env} {s : State} {m : MethodId} {args : Array Value} {below : List Frame} {meth : Method} {c : Code} {post : tq_St → Int32 → Prop} (C : tq_At p s m meth c args cX12_count 4 ((some .int)) ((tq_ws yX12_count cX12_count 4 (some .int))) RX12 D cy z ad) {L99 : tq_St → Int32 → Int32 → Prop} (hL99 : ∀ (M : tq_St) (x2 : Int32) (x3 : Int32) (H : Heap) (locs : List Loc) (ls : Array Slot), L99 M x2 x3 → tq_wd D cy z H0 ad N (tq_mix S M) H → va_S (fun q => z ≤ q) s.heap H locs → lv_has ls 4 [(0, .ref (ad 64 0)), (2, .int x2), (3, .int x3)] → W p l e (tq_rm 0 0) s m args below meth c H locs 0 0 (MQ below (va_Qi (fun r u => post u r) (tq_P D cy z H0 ad N S) (fun q => z ≤ q)) args s 0 0 (fun q => z ≤ q)) (F0 m 99 ls [])) : ∀ (M : tq_St) (x3 : Int32) (y0 : Int32) (y1 : Int32) (H : Heap) (locs : List Loc) (ls : Array Slot), wbX12_count_123 post  L99 M x3 y0 y1 → tq_wd D cy z H0 ad N (tq_mix S M) H → va_S (fun q => z ≤ q) s.heap H locs → lv_has ls 4 [(0, .ref (ad 64 0)), (3, .int x3)] → W p l e (tq_rm 0 0) s m args below meth c H locs 0 0 (MQ below (va_Qi (fun r u => post u r) (tq_P D cy z H0 ad N S) (fun q => z ≤ q)) args s 0 0 (fun q => z ≤ q)) (F0 m 123 ls [.int y0, .int y1]) := by
  obtain ⟨hx, hb, hr, hml, hown, hts, hlocks, hK, hG⟩ := id C
  have hw : ∀ w ∈ tq_W, w.before args s = true := fun w h => hts w (List.mem_cons_of_mem _ h)
  intro M x3 y0 y1 H locs ls h hW hS hl
  unfold wbX12_count_123 at h
  refine lv_iadd hx hb dX12_count_123 ?_
  refine lv_istore_n (lv' := [(2, .int (y1 + y0)), (0, .ref (ad 64 0)), (3, .int x3)]) hx hb dX12_count_124 rfl hl (by decide) rfl (fun ls hl => ?_)
  refine lv_iinc (v := x3 + 1) (lv' := [(3, .int (x3 + 1)), (2, .int (y1 + y0)), (0, .ref (ad 64 0))]) hx hb dX12_count_125 hl (k := 2) rfl rfl (by decide) rfl (fun ls hl => ?_)
  refine lv_goto (tgt := 99) hx hb dX12_count_128 (by decide) ?_
  exact hL99 _ _ _ _ _ _ h hW hS (lv_sub hl [2, 1, 0] rfl)
set_option maxHeartbeats 4000000 in
set_option maxRecDepth 100000 in
theorem bX12_count_99 {p : Program} {e : Env} {s : State} {m : MethodId} {args : Array Value} {below : List Frame} {meth : Method} {c : Code} {post : tq_St → Int32 → Prop} (C : tq_At p s m meth c args cX12_count 4 ((some .int)) ((tq_ws yX12_count cX12_count 4 (some .int))) RX12 D cy z ad)  : ∀ n : Nat, ∀ (M : tq_St) (x2 : Int32) (x3 : Int32) (H : Heap) (locs : List Loc) (ls : Array Slot), wbX12_count_99 post   n M x2 x3 → tq_wd D cy z H0 ad N (tq_mix S M) H → va_S (fun q => z ≤ q) s.heap H locs → lv_has ls 4 [(0, .ref (ad 64 0)), (2, .int x2), (3, .int x3)] → W p l e (tq_rm 0 0) s m args below meth c H locs 0 0 (MQ below (va_Qi (fun r u => post u r) (tq_P D cy z H0 ad N S) (fun q => z ≤ q)) args s 0 0 (fun q => z ≤ q)) (F0 m 99 ls []) := by
  obtain ⟨hx, hb, hr, hml, hown, hts, hlocks, hK, hG⟩ := id C
  have hw : ∀ w ∈ tq_W, w.before args s = true := fun w h => hts w (List.mem_cons_of_mem _ h)
  intro n
  induction n with
  | zero =>
    intro M x2 x3 H locs ls h
    exact absurd h (by unfold wbX12_count_99; exact id)
  | succ n ih =>
    intro M x2 x3 H locs ls h hW hS hl
    unfold wbX12_count_99 at h
    refine lv_iload_n hx hb dX12_count_99 rfl (lv_at hl 2 rfl) ?_
    refine lv_aload_n hx hb dX12_count_100 rfl (lv_at hl 0 rfl) ?_
    refine tqm_get (v := .int (M 64 0 21)) hx hb hw tq_inX12 hown hK hW (by decide) (tq_mk_64 (by decide)) rfl 21 (by decide) (hw _ tw_1429) (fun _ h9 => h9) rfl dX12_count_101 ?_
    refine lv_icmp_ge (tgt := 131) hx hb dX12_count_104 (by decide) (fun c12 => ?_) (fun c12 => ?_)
    · have h := h.1 c12
      refine lv_iload_n hx hb dX12_count_131 rfl (lv_at hl 1 rfl) ?_
      exact W.iret (v := x2) hx hb hr (fun t ht hWm => ⟨⟨_, M, rfl, h, tq_pe ht hW⟩, hS.F ht⟩) hS.2.2 dX12_count_132
    · have h := h.2 c12
      refine lv_iload_n hx hb dX12_count_107 rfl (lv_at hl 1 rfl) ?_
      refine lv_aload_n hx hb dX12_count_108 rfl (lv_at hl 0 rfl) ?_
      refine tqm_get (v := .ref (ad 124 0)) hx hb hw tq_inX12 hown hK hW (by decide) (tq_mk_64 (by decide)) rfl 24 (by decide) (hw _ tw_1432) (fun _ h9 => h9) rfl dX12_count_109 ?_
      refine lv_iload_n hx hb dX12_count_112 rfl (lv_at hl 2 rfl) ?_
      obtain ⟨b13, h⟩ := h
      refine tqm_iald (jn := x3.toNatClampNeg) hx hb hK hW (by decide) (tq_mk_124 (by decide)) b13 rfl dX12_count_113 ?_
      refine lv_iconst (v := (-1)) hx hb dX12_count_114 (by decide) ?_
      refine lv_icmp_ne (tgt := 122) hx hb dX12_count_115 (by decide) (fun c14 => ?_) (fun c14 => ?_)
      · have h := h.1 c14
        refine lv_iconst (v := 0) hx hb dX12_count_122 (by decide) ?_
        exact bX12_count_123 C (fun M9 a09 a19 H9 q9 ls9 h9 hW9 hS9 hl9 => ih M9 a09 a19 H9 q9 ls9 h9 hW9 hS9 hl9) _ _ _ _ _ _ _ h hW hS (lv_sub hl [0, 2] rfl)
      · have h := h.2 c14
        refine lv_iconst (v := 1) hx hb dX12_count_118 (by decide) ?_
        refine lv_goto (tgt := 123) hx hb dX12_count_119 (by decide) ?_
        exact bX12_count_123 C (fun M9 a09 a19 H9 q9 ls9 h9 hW9 hS9 hl9 => ih M9 a09 a19 H9 q9 ls9 h9 hW9 hS9 hl9) _ _ _ _ _ _ _ h hW hS (lv_sub hl [0, 2] rfl)
set_option maxHeartbeats 4000000 in
set_option maxRecDepth 100000 in
theorem kX12_count {post : tq_St → Int32 → Prop} {M : tq_St} {p0 : Int32} (h : wpX12_count post M p0) : tq_mI l yX12_count (tq_ws yX12_count cX12_count 4 (some .int)) 0 0 D cy z H0 ad N S M [.ref (ad 64 0), .int p0] post := by
  unfold wpX12_count at h
  refine Met.ofW (cc := cX12_count) (maxL := 4) (ret := (some .int)) (by decide) rfl ?_
  intro p e s m args below meth c s₁ B hml hv
  obtain ⟨rfl, hW, hK, hG⟩ := hv
  have hx := B.exec
  have hb := B.bytes
  have hr := B.returns
  have hts := atoms_spec (ws := (tq_ws yX12_count cX12_count 4 (some .int))) B.pre
  have hw : ∀ w ∈ tq_W, w.before _ s = true := fun w h => hts w (List.mem_cons_of_mem _ h)
  have hown : s.vm.findClass RX12 = some m.cls := findClass_of_methodNamed B.named
  have hlocks := B.notSynchronized
  have C : tq_At p s m meth c [.ref (ad 64 0), .int p0].toArray cX12_count 4 ((some .int)) ((tq_ws yX12_count cX12_count 4 (some .int))) RX12 D cy z ad := ⟨hx, hb, hr, hml, hown, hts, hlocks, hK, hG⟩
  have hS : va_S (fun q => z ≤ q) s.heap s.heap [] := va_S.rf
  have hl := lv_entry ([.ref (ad 64 0), .int p0]) (n := 4) (Nat.le_of_ble_eq_true rfl)
  rw [lg_entry_eq]
  generalize (lg_sl ([.ref (ad 64 0), .int p0]) ++ List.replicate (4 - (lg_sl ([.ref (ad 64 0), .int p0])).length) Slot.unset).toArray = ls at hl ⊢
  have hl : lv_has ls 4 [(0, .ref (ad 64 0)), (1, .int p0)] := hl
  have hW : tq_wd D cy z H0 ad N (tq_mix S M) s.heap := hW
  refine lv_iload_n hx hb dX12_count_0 rfl (lv_at hl 1 rfl) ?_
  by_cases c1 : p0 = 0
  · have h := h.1 c1
    refine W.eq (g2 := F0 m 1 ls (.int 0 :: [])) (by rw [c1]) ?_
    refine lv_tableIn (tgt := 60) hx hb dX12_count_1 (by decide) (by decide) rfl (by decide) ?_
    refine lv_aload_n hx hb dX12_count_60 rfl (lv_at hl 0 rfl) ?_
    refine tqm_get (v := .int (M 64 0 6)) hx hb hw tq_inX12 hown hK hW (by decide) (tq_mk_64 (by decide)) rfl 6 (by decide) (hw _ tw_1414) (fun _ h9 => h9) rfl dX12_count_61 ?_
    exact W.iret (v := M 64 0 6) hx hb hr (fun t ht hWm => ⟨⟨_, M, rfl, h, tq_pe ht hW⟩, hS.F ht⟩) hS.2.2 dX12_count_64
  · have h := h.2 c1
    by_cases c2 : p0 = 1
    · have h := h.1 c2
      refine W.eq (g2 := F0 m 1 ls (.int 1 :: [])) (by rw [c2]) ?_
      refine lv_tableIn (tgt := 65) hx hb dX12_count_1 (by decide) (by decide) rfl (by decide) ?_
      refine lv_aload_n hx hb dX12_count_65 rfl (lv_at hl 0 rfl) ?_
      refine tqm_get (v := .int (M 64 0 9)) hx hb hw tq_inX12 hown hK hW (by decide) (tq_mk_64 (by decide)) rfl 9 (by decide) (hw _ tw_1417) (fun _ h9 => h9) rfl dX12_count_66 ?_
      exact W.iret (v := M 64 0 9) hx hb hr (fun t ht hWm => ⟨⟨_, M, rfl, h, tq_pe ht hW⟩, hS.F ht⟩) hS.2.2 dX12_count_69
    · have h := h.2 c2
      by_cases c3 : p0 = 2
      · have h := h.1 c3
        refine W.eq (g2 := F0 m 1 ls (.int 2 :: [])) (by rw [c3]) ?_
        refine lv_tableIn (tgt := 70) hx hb dX12_count_1 (by decide) (by decide) rfl (by decide) ?_
        refine lv_aload_n hx hb dX12_count_70 rfl (lv_at hl 0 rfl) ?_
        refine tqm_get (v := .int (M 64 0 21)) hx hb hw tq_inX12 hown hK hW (by decide) (tq_mk_64 (by decide)) rfl 21 (by decide) (hw _ tw_1429) (fun _ h9 => h9) rfl dX12_count_71 ?_
        exact W.iret (v := M 64 0 21) hx hb hr (fun t ht hWm => ⟨⟨_, M, rfl, h, tq_pe ht hW⟩, hS.F ht⟩) hS.2.2 dX12_count_74
      · have h := h.2 c3
        by_cases c4 : p0 = 3
        · have h := h.1 c4
          refine W.eq (g2 := F0 m 1 ls (.int 3 :: [])) (by rw [c4]) ?_
          refine lv_tableIn (tgt := 75) hx hb dX12_count_1 (by decide) (by decide) rfl (by decide) ?_
          refine lv_aload_n hx hb dX12_count_75 rfl (lv_at hl 0 rfl) ?_
          refine tqm_get (v := .int (M 64 0 31)) hx hb hw tq_inX12 hown hK hW (by decide) (tq_mk_64 (by decide)) rfl 31 (by decide) (hw _ tw_1439) (fun _ h9 => h9) rfl dX12_count_76 ?_
          exact W.iret (v := M 64 0 31) hx hb hr (fun t ht hWm => ⟨⟨_, M, rfl, h, tq_pe ht hW⟩, hS.F ht⟩) hS.2.2 dX12_count_79
        · have h := h.2 c4
          by_cases c5 : p0 = 4
          · have h := h.1 c5
            refine W.eq (g2 := F0 m 1 ls (.int 4 :: [])) (by rw [c5]) ?_
            refine lv_tableIn (tgt := 80) hx hb dX12_count_1 (by decide) (by decide) rfl (by decide) ?_
            refine lv_aload_n hx hb dX12_count_80 rfl (lv_at hl 0 rfl) ?_
            refine tqm_get (v := .int (M 64 0 0)) hx hb hw tq_inX12 hown hK hW (by decide) (tq_mk_64 (by decide)) rfl 0 (by decide) (hw _ tw_1408) (fun _ h9 => h9) rfl dX12_count_81 ?_
            exact W.iret (v := M 64 0 0) hx hb hr (fun t ht hWm => ⟨⟨_, M, rfl, h, tq_pe ht hW⟩, hS.F ht⟩) hS.2.2 dX12_count_84
          · have h := h.2 c5
            by_cases c6 : p0 = 5
            · have h := h.1 c6
              refine W.eq (g2 := F0 m 1 ls (.int 5 :: [])) (by rw [c6]) ?_
              refine lv_tableIn (tgt := 85) hx hb dX12_count_1 (by decide) (by decide) rfl (by decide) ?_
              refine lv_aload_n hx hb dX12_count_85 rfl (lv_at hl 0 rfl) ?_
              refine tqm_get (v := .int (M 64 0 43)) hx hb hw tq_inX12 hown hK hW (by decide) (tq_mk_64 (by decide)) rfl 43 (by decide) (hw _ tw_1451) (fun _ h9 => h9) rfl dX12_count_86 ?_
              exact W.iret (v := M 64 0 43) hx hb hr (fun t ht hWm => ⟨⟨_, M, rfl, h, tq_pe ht hW⟩, hS.F ht⟩) hS.2.2 dX12_count_89
            · have h := h.2 c6
              by_cases c7 : p0 = 6
              · have h := h.1 c7
                refine W.eq (g2 := F0 m 1 ls (.int 6 :: [])) (by rw [c7]) ?_
                refine lv_tableIn (tgt := 90) hx hb dX12_count_1 (by decide) (by decide) rfl (by decide) ?_
                refine lv_aload_n hx hb dX12_count_90 rfl (lv_at hl 0 rfl) ?_
                refine tqm_get (v := .int (M 64 0 61)) hx hb hw tq_inX12 hown hK hW (by decide) (tq_mk_64 (by decide)) rfl 61 (by decide) (hw _ tw_1469) (fun _ h9 => h9) rfl dX12_count_91 ?_
                exact W.iret (v := M 64 0 61) hx hb hr (fun t ht hWm => ⟨⟨_, M, rfl, h, tq_pe ht hW⟩, hS.F ht⟩) hS.2.2 dX12_count_94
              · have h := h.2 c7
                by_cases c8 : p0 = 7
                · have h := h.1 c8
                  refine W.eq (g2 := F0 m 1 ls (.int 7 :: [])) (by rw [c8]) ?_
                  refine lv_tableIn (tgt := 95) hx hb dX12_count_1 (by decide) (by decide) rfl (by decide) ?_
                  refine lv_iconst (v := 0) hx hb dX12_count_95 (by decide) ?_
                  refine lv_istore_n (lv' := [(2, .int 0), (0, .ref (ad 64 0)), (1, .int p0)]) hx hb dX12_count_96 rfl hl (by decide) rfl (fun ls hl => ?_)
                  refine lv_iconst (v := 0) hx hb dX12_count_97 (by decide) ?_
                  refine lv_istore_n (lv' := [(3, .int 0), (2, .int 0), (0, .ref (ad 64 0)), (1, .int p0)]) hx hb dX12_count_98 rfl hl (by decide) rfl (fun ls hl => ?_)
                  obtain ⟨nq, h⟩ := h
                  exact bX12_count_99 C  nq _ _ _ _ _ _ h hW hS (lv_sub hl [2, 1, 0] rfl)
                · have h := h.2 c8
                  by_cases c9 : p0 = 8
                  · have h := h.1 c9
                    refine W.eq (g2 := F0 m 1 ls (.int 8 :: [])) (by rw [c9]) ?_
                    refine lv_tableIn (tgt := 133) hx hb dX12_count_1 (by decide) (by decide) rfl (by decide) ?_
                    refine lv_aload_n hx hb dX12_count_133 rfl (lv_at hl 0 rfl) ?_
                    refine tqm_get (v := .int (M 64 0 55)) hx hb hw tq_inX12 hown hK hW (by decide) (tq_mk_64 (by decide)) rfl 55 (by decide) (hw _ tw_1463) (fun _ h9 => h9) rfl dX12_count_134 ?_
                    exact W.iret (v := M 64 0 55) hx hb hr (fun t ht hWm => ⟨⟨_, M, rfl, h, tq_pe ht hW⟩, hS.F ht⟩) hS.2.2 dX12_count_137
                  · have h := h.2 c9
                    by_cases c10 : p0 = 9
                    · have h := h.1 c10
                      refine W.eq (g2 := F0 m 1 ls (.int 9 :: [])) (by rw [c10]) ?_
                      refine lv_tableIn (tgt := 138) hx hb dX12_count_1 (by decide) (by decide) rfl (by decide) ?_
                      refine lv_aload_n hx hb dX12_count_138 rfl (lv_at hl 0 rfl) ?_
                      refine tqm_get (v := .int (M 64 0 58)) hx hb hw tq_inX12 hown hK hW (by decide) (tq_mk_64 (by decide)) rfl 58 (by decide) (hw _ tw_1466) (fun _ h9 => h9) rfl dX12_count_139 ?_
                      exact W.iret (v := M 64 0 58) hx hb hr (fun t ht hWm => ⟨⟨_, M, rfl, h, tq_pe ht hW⟩, hS.F ht⟩) hS.2.2 dX12_count_142
                    · have h := h.2 c10
                      by_cases c11 : p0 = 10
                      · have h := h.1 c11
                        refine W.eq (g2 := F0 m 1 ls (.int 10 :: [])) (by rw [c11]) ?_
                        refine lv_tableIn (tgt := 143) hx hb dX12_count_1 (by decide) (by decide) rfl (by decide) ?_
                        refine lv_aload_n hx hb dX12_count_143 rfl (lv_at hl 0 rfl) ?_
                        refine tqm_get (v := .int (M 64 0 66)) hx hb hw tq_inX12 hown hK hW (by decide) (tq_mk_64 (by decide)) rfl 66 (by decide) (hw _ tw_1474) (fun _ h9 => h9) rfl dX12_count_144 ?_
                        exact W.iret (v := M 64 0 66) hx hb hr (fun t ht hWm => ⟨⟨_, M, rfl, h, tq_pe ht hW⟩, hS.F ht⟩) hS.2.2 dX12_count_147
                      · have h := h.2 c11
                        refine lv_tableOut (tgt := 148) hx hb dX12_count_1 (tq_out11 c1 c2 c3 c4 c5 c6 c7 c8 c9 c10 c11) (by decide) ?_
                        refine lv_bipush (v := (-2)) hx hb dX12_count_148 (by decide) ?_
                        exact W.iret (v := (-2)) hx hb hr (fun t ht hWm => ⟨⟨_, M, rfl, h, tq_pe ht hW⟩, hS.F ht⟩) hS.2.2 dX12_count_150
-- sheet
def wbX12_sheet_28 (post : tq_St → Int32 → Prop)  (M : tq_St) : Prop :=
  post M ((-2))
def wbX12_sheet_67 (post : tq_St → Int32 → Prop) : Nat → tq_St → Int32 → Int32 → Prop
  | 0, _, _, _ => False
  | n + 1, M, x1, x4 =>
    (64 ≤ x4 → (post M 1)) ∧ (¬ 64 ≤ x4 → (vp_in x1 3 ∧ (vp_in x4 64 ∧ (∀ M19, M19 = tq_up M 163 x1.toNatClampNeg x4.toNatClampNeg 0 → ((wbX12_sheet_67 post n) M19 x1 (x4 + 1))))))
def wbX12_sheet_63 (post : tq_St → Int32 → Prop)  (M : tq_St) (x1 : Int32) (y0 : Int32) (y1 : Int32) : Prop :=
  vp_in y1 3 ∧ (∀ M15, M15 = tq_up M 164 0 y1.toNatClampNeg y0 → (∃ nq, wbX12_sheet_67 post nq M15 x1 0))
def wbX12_sheet_42 (post : tq_St → Int32 → Prop)  (M : tq_St) (x1 : Int32) (x2 : Int32) (x3 : Int32) : Prop :=
  vp_in x1 3 ∧ (∀ M12, M12 = tq_up M 162 0 x1.toNatClampNeg x2 → ((0 ≤ x2 → (wbX12_sheet_63 post M12 x1 x3 x1)) ∧ (¬ 0 ≤ x2 → (wbX12_sheet_63 post M12 x1 0 x1))))
def wbX12_sheet_31 (post : tq_St → Int32 → Prop)  (M : tq_St) (x1 : Int32) (x2 : Int32) (x3 : Int32) : Prop :=
  (x2 < 0 → (wbX12_sheet_42 post M x1 x2 x3)) ∧ (¬ x2 < 0 → ((0 ≤ x3 → (wbX12_sheet_42 post M x1 x2 x3)) ∧ (¬ 0 ≤ x3 → (post M ((-14))))))
def wpX12_sheet (post : tq_St → Int32 → Prop) (M : tq_St) (p0 : Int32) (p1 : Int32) (p2 : Int32) : Prop :=
  wpX12_in (fun M1 r2 => (r2 = 0 → (wbX12_sheet_28 post M1 )) ∧ (¬ r2 = 0 → (wpX12_in (fun M4 r5 => (r5 = 0 → (wbX12_sheet_28 post M4 )) ∧ (¬ r5 = 0 → ((p1 < 0 → (wbX12_sheet_31 post M4 p0 p1 p2)) ∧ (¬ p1 < 0 → ((p2 ≤ 64 → (wbX12_sheet_31 post M4 p0 p1 p2)) ∧ (¬ p2 ≤ 64 → (wbX12_sheet_28 post M4 ))))))) M1 p1 (-1) 2))) M p0 0 2
set_option maxHeartbeats 4000000 in
set_option maxRecDepth 100000 in
theorem bX12_sheet_28 {p : Program} {e : Env} {s : State} {m : MethodId} {args : Array Value} {below : List Frame} {meth : Method} {c : Code} {post : tq_St → Int32 → Prop} (C : tq_At p s m meth c args cX12_sheet 5 ((some .int)) ((tq_ws yX12_sheet cX12_sheet 5 (some .int))) RX12 D cy z ad)  : ∀ (M : tq_St)  (H : Heap) (locs : List Loc) (ls : Array Slot), wbX12_sheet_28 post   M  → tq_wd D cy z H0 ad N (tq_mix S M) H → va_S (fun q => z ≤ q) s.heap H locs → lv_has ls 5 [] → W p l e (tq_rm 1 22) s m args below meth c H locs 0 0 (MQ below (va_Qi (fun r u => post u r) (tq_P D cy z H0 ad N S) (fun q => z ≤ q)) args s 0 0 (fun q => z ≤ q)) (F0 m 28 ls []) := by
  obtain ⟨hx, hb, hr, hml, hown, hts, hlocks, hK, hG⟩ := id C
  have hw : ∀ w ∈ tq_W, w.before args s = true := fun w h => hts w (List.mem_cons_of_mem _ h)
  intro M  H locs ls h hW hS hl
  unfold wbX12_sheet_28 at h
  refine lv_bipush (v := (-2)) hx hb dX12_sheet_28 (by decide) ?_
  exact W.iret (v := (-2)) hx hb hr (fun t ht hWm => ⟨⟨_, M, rfl, h, tq_pe ht hW⟩, hS.F ht⟩) hS.2.2 dX12_sheet_30
set_option maxHeartbeats 4000000 in
set_option maxRecDepth 100000 in
theorem bX12_sheet_67 {p : Program} {e : Env} {s : State} {m : MethodId} {args : Array Value} {below : List Frame} {meth : Method} {c : Code} {post : tq_St → Int32 → Prop} (C : tq_At p s m meth c args cX12_sheet 5 ((some .int)) ((tq_ws yX12_sheet cX12_sheet 5 (some .int))) RX12 D cy z ad)  : ∀ n : Nat, ∀ (M : tq_St) (x1 : Int32) (x4 : Int32) (H : Heap) (locs : List Loc) (ls : Array Slot), wbX12_sheet_67 post   n M x1 x4 → tq_wd D cy z H0 ad N (tq_mix S M) H → va_S (fun q => z ≤ q) s.heap H locs → lv_has ls 5 [(0, .ref (ad 64 0)), (1, .int x1), (4, .int x4)] → W p l e (tq_rm 1 22) s m args below meth c H locs 0 0 (MQ below (va_Qi (fun r u => post u r) (tq_P D cy z H0 ad N S) (fun q => z ≤ q)) args s 0 0 (fun q => z ≤ q)) (F0 m 67 ls []) := by
  obtain ⟨hx, hb, hr, hml, hown, hts, hlocks, hK, hG⟩ := id C
  have hw : ∀ w ∈ tq_W, w.before args s = true := fun w h => hts w (List.mem_cons_of_mem _ h)
  intro n
  induction n with
  | zero =>
    intro M x1 x4 H locs ls h
    exact absurd h (by unfold wbX12_sheet_67; exact id)
  | succ n ih =>
    intro M x1 x4 H locs ls h hW hS hl
    unfold wbX12_sheet_67 at h
    refine lv_iload hx hb dX12_sheet_67 (lv_at hl 2 rfl) ?_
    refine lv_bipush (v := 64) hx hb dX12_sheet_69 (by decide) ?_
    refine lv_icmp_ge (tgt := 90) hx hb dX12_sheet_71 (by decide) (fun c16 => ?_) (fun c16 => ?_)
    · have h := h.1 c16
      refine lv_iconst (v := 1) hx hb dX12_sheet_90 (by decide) ?_
      exact W.iret (v := 1) hx hb hr (fun t ht hWm => ⟨⟨_, M, rfl, h, tq_pe ht hW⟩, hS.F ht⟩) hS.2.2 dX12_sheet_91
    · have h := h.2 c16
      refine lv_aload_n hx hb dX12_sheet_74 rfl (lv_at hl 0 rfl) ?_
      refine tqm_get (v := .ref (ad 263 0)) hx hb hw tq_inX12 hown hK hW (by decide) (tq_mk_64 (by decide)) rfl 63 (by decide) (hw _ tw_1471) (fun _ h9 => h9) rfl dX12_sheet_75 ?_
      refine lv_iload_n hx hb dX12_sheet_78 rfl (lv_at hl 1 rfl) ?_
      obtain ⟨b17, h⟩ := h
      refine tqm_aald (jn := x1.toNatClampNeg) (v := .ref (ad 163 x1.toNatClampNeg)) hx hb hK hW (by decide) (tq_mk_263 (by decide)) 2 rfl rfl b17 rfl rfl dX12_sheet_79 ?_
      refine lv_iload hx hb dX12_sheet_80 (lv_at hl 2 rfl) ?_
      refine lv_iconst (v := 0) hx hb dX12_sheet_82 (by decide) ?_
      obtain ⟨b18, h⟩ := h
      refine tqm_iast (jn := x4.toNatClampNeg) hx hb hK hW hS (by decide) (tq_mk_163 (tq_lt b17)) b18 rfl (tq_mk_163 (tq_lt b17)) dX12_sheet_83 (fun H locs hW hS => ?_)
      generalize eM19 : tq_up M 163 x1.toNatClampNeg x4.toNatClampNeg 0 = M19 at hW
      have h := h M19 eM19.symm
      refine lv_iinc (v := x4 + 1) (lv' := [(4, .int (x4 + 1)), (0, .ref (ad 64 0)), (1, .int x1)]) hx hb dX12_sheet_84 hl (k := 2) rfl rfl (by decide) rfl (fun ls hl => ?_)
      refine lv_goto (tgt := 67) hx hb dX12_sheet_87 (by decide) ?_
      exact ih _ _ _ _ _ _ h hW hS (lv_sub hl [1, 2, 0] rfl)
set_option maxHeartbeats 4000000 in
set_option maxRecDepth 100000 in
theorem bX12_sheet_63 {p : Program} {e : Env} {s : State} {m : MethodId} {args : Array Value} {below : List Frame} {meth : Method} {c : Code} {post : tq_St → Int32 → Prop} (C : tq_At p s m meth c args cX12_sheet 5 ((some .int)) ((tq_ws yX12_sheet cX12_sheet 5 (some .int))) RX12 D cy z ad)  : ∀ (M : tq_St) (x1 : Int32) (y0 : Int32) (y1 : Int32) (H : Heap) (locs : List Loc) (ls : Array Slot), wbX12_sheet_63 post   M x1 y0 y1 → tq_wd D cy z H0 ad N (tq_mix S M) H → va_S (fun q => z ≤ q) s.heap H locs → lv_has ls 5 [(0, .ref (ad 64 0)), (1, .int x1)] → W p l e (tq_rm 1 22) s m args below meth c H locs 0 0 (MQ below (va_Qi (fun r u => post u r) (tq_P D cy z H0 ad N S) (fun q => z ≤ q)) args s 0 0 (fun q => z ≤ q)) (F0 m 63 ls [.int y0, .int y1, .ref (ad 164 0)]) := by
  obtain ⟨hx, hb, hr, hml, hown, hts, hlocks, hK, hG⟩ := id C
  have hw : ∀ w ∈ tq_W, w.before args s = true := fun w h => hts w (List.mem_cons_of_mem _ h)
  intro M x1 y0 y1 H locs ls h hW hS hl
  unfold wbX12_sheet_63 at h
  obtain ⟨b14, h⟩ := h
  refine tqm_iast (jn := y1.toNatClampNeg) hx hb hK hW hS (by decide) (tq_mk_164 (by decide)) b14 rfl (tq_mk_164 (by decide)) dX12_sheet_63 (fun H locs hW hS => ?_)
  generalize eM15 : tq_up M 164 0 y1.toNatClampNeg y0 = M15 at hW
  have h := h M15 eM15.symm
  refine lv_iconst (v := 0) hx hb dX12_sheet_64 (by decide) ?_
  refine lv_istore (lv' := [(4, .int 0), (0, .ref (ad 64 0)), (1, .int x1)]) hx hb dX12_sheet_65 hl (by decide) rfl (fun ls hl => ?_)
  obtain ⟨nq, h⟩ := h
  exact bX12_sheet_67 C  nq _ _ _ _ _ _ h hW hS (lv_sub hl [1, 2, 0] rfl)
set_option maxHeartbeats 4000000 in
set_option maxRecDepth 100000 in
theorem bX12_sheet_42 {p : Program} {e : Env} {s : State} {m : MethodId} {args : Array Value} {below : List Frame} {meth : Method} {c : Code} {post : tq_St → Int32 → Prop} (C : tq_At p s m meth c args cX12_sheet 5 ((some .int)) ((tq_ws yX12_sheet cX12_sheet 5 (some .int))) RX12 D cy z ad)  : ∀ (M : tq_St) (x1 : Int32) (x2 : Int32) (x3 : Int32) (H : Heap) (locs : List Loc) (ls : Array Slot), wbX12_sheet_42 post   M x1 x2 x3 → tq_wd D cy z H0 ad N (tq_mix S M) H → va_S (fun q => z ≤ q) s.heap H locs → lv_has ls 5 [(0, .ref (ad 64 0)), (1, .int x1), (2, .int x2), (3, .int x3)] → W p l e (tq_rm 1 22) s m args below meth c H locs 0 0 (MQ below (va_Qi (fun r u => post u r) (tq_P D cy z H0 ad N S) (fun q => z ≤ q)) args s 0 0 (fun q => z ≤ q)) (F0 m 42 ls []) := by
  obtain ⟨hx, hb, hr, hml, hown, hts, hlocks, hK, hG⟩ := id C
  have hw : ∀ w ∈ tq_W, w.before args s = true := fun w h => hts w (List.mem_cons_of_mem _ h)
  intro M x1 x2 x3 H locs ls h hW hS hl
  unfold wbX12_sheet_42 at h
  refine lv_aload_n hx hb dX12_sheet_42 rfl (lv_at hl 0 rfl) ?_
  refine tqm_get (v := .ref (ad 162 0)) hx hb hw tq_inX12 hown hK hW (by decide) (tq_mk_64 (by decide)) rfl 62 (by decide) (hw _ tw_1470) (fun _ h9 => h9) rfl dX12_sheet_43 ?_
  refine lv_iload_n hx hb dX12_sheet_46 rfl (lv_at hl 1 rfl) ?_
  refine lv_iload_n hx hb dX12_sheet_47 rfl (lv_at hl 2 rfl) ?_
  obtain ⟨b11, h⟩ := h
  refine tqm_iast (jn := x1.toNatClampNeg) hx hb hK hW hS (by decide) (tq_mk_162 (by decide)) b11 rfl (tq_mk_162 (by decide)) dX12_sheet_48 (fun H locs hW hS => ?_)
  generalize eM12 : tq_up M 162 0 x1.toNatClampNeg x2 = M12 at hW
  have h := h M12 eM12.symm
  refine lv_aload_n hx hb dX12_sheet_49 rfl (lv_at hl 0 rfl) ?_
  refine tqm_get (v := .ref (ad 164 0)) hx hb hw tq_inX12 hown hK hW (by decide) (tq_mk_64 (by decide)) rfl 64 (by decide) (hw _ tw_1472) (fun _ h9 => h9) rfl dX12_sheet_50 ?_
  refine lv_iload_n hx hb dX12_sheet_53 rfl (lv_at hl 1 rfl) ?_
  refine lv_iload_n hx hb dX12_sheet_54 rfl (lv_at hl 2 rfl) ?_
  refine lv_if_ge (tgt := 62) hx hb dX12_sheet_55 (by decide) (fun c13 => ?_) (fun c13 => ?_)
  · have h := h.1 c13
    refine lv_iload_n hx hb dX12_sheet_62 rfl (lv_at hl 3 rfl) ?_
    exact bX12_sheet_63 C  _ _ _ _ _ _ _ h hW hS (lv_sub hl [0, 1] rfl)
  · have h := h.2 c13
    refine lv_iconst (v := 0) hx hb dX12_sheet_58 (by decide) ?_
    refine lv_goto (tgt := 63) hx hb dX12_sheet_59 (by decide) ?_
    exact bX12_sheet_63 C  _ _ _ _ _ _ _ h hW hS (lv_sub hl [0, 1] rfl)
set_option maxHeartbeats 4000000 in
set_option maxRecDepth 100000 in
theorem bX12_sheet_31 {p : Program} {e : Env} {s : State} {m : MethodId} {args : Array Value} {below : List Frame} {meth : Method} {c : Code} {post : tq_St → Int32 → Prop} (C : tq_At p s m meth c args cX12_sheet 5 ((some .int)) ((tq_ws yX12_sheet cX12_sheet 5 (some .int))) RX12 D cy z ad)  : ∀ (M : tq_St) (x1 : Int32) (x2 : Int32) (x3 : Int32) (H : Heap) (locs : List Loc) (ls : Array Slot), wbX12_sheet_31 post   M x1 x2 x3 → tq_wd D cy z H0 ad N (tq_mix S M) H → va_S (fun q => z ≤ q) s.heap H locs → lv_has ls 5 [(0, .ref (ad 64 0)), (1, .int x1), (2, .int x2), (3, .int x3)] → W p l e (tq_rm 1 22) s m args below meth c H locs 0 0 (MQ below (va_Qi (fun r u => post u r) (tq_P D cy z H0 ad N S) (fun q => z ≤ q)) args s 0 0 (fun q => z ≤ q)) (F0 m 31 ls []) := by
  obtain ⟨hx, hb, hr, hml, hown, hts, hlocks, hK, hG⟩ := id C
  have hw : ∀ w ∈ tq_W, w.before args s = true := fun w h => hts w (List.mem_cons_of_mem _ h)
  intro M x1 x2 x3 H locs ls h hW hS hl
  unfold wbX12_sheet_31 at h
  refine lv_iload_n hx hb dX12_sheet_31 rfl (lv_at hl 2 rfl) ?_
  refine lv_if_lt (tgt := 42) hx hb dX12_sheet_32 (by decide) (fun c9 => ?_) (fun c9 => ?_)
  · have h := h.1 c9
    exact bX12_sheet_42 C  _ _ _ _ _ _ _ h hW hS (lv_sub hl [0, 1, 2, 3] rfl)
  · have h := h.2 c9
    refine lv_iload_n hx hb dX12_sheet_35 rfl (lv_at hl 3 rfl) ?_
    refine lv_if_ge (tgt := 42) hx hb dX12_sheet_36 (by decide) (fun c10 => ?_) (fun c10 => ?_)
    · have h := h.1 c10
      exact bX12_sheet_42 C  _ _ _ _ _ _ _ h hW hS (lv_sub hl [0, 1, 2, 3] rfl)
    · have h := h.2 c10
      refine lv_bipush (v := (-14)) hx hb dX12_sheet_39 (by decide) ?_
      exact W.iret (v := (-14)) hx hb hr (fun t ht hWm => ⟨⟨_, M, rfl, h, tq_pe ht hW⟩, hS.F ht⟩) hS.2.2 dX12_sheet_41
set_option maxHeartbeats 4000000 in
set_option maxRecDepth 100000 in
theorem kX12_sheet {post : tq_St → Int32 → Prop} {M : tq_St} {p0 : Int32} {p1 : Int32} {p2 : Int32} (h : wpX12_sheet post M p0 p1 p2) : tq_mI l yX12_sheet (tq_ws yX12_sheet cX12_sheet 5 (some .int)) 1 22 D cy z H0 ad N S M [.ref (ad 64 0), .int p0, .int p1, .int p2] post := by
  unfold wpX12_sheet at h
  refine Met.ofW (cc := cX12_sheet) (maxL := 5) (ret := (some .int)) (by decide) rfl ?_
  intro p e s m args below meth c s₁ B hml hv
  obtain ⟨rfl, hW, hK, hG⟩ := hv
  have hx := B.exec
  have hb := B.bytes
  have hr := B.returns
  have hts := atoms_spec (ws := (tq_ws yX12_sheet cX12_sheet 5 (some .int))) B.pre
  have hw : ∀ w ∈ tq_W, w.before _ s = true := fun w h => hts w (List.mem_cons_of_mem _ h)
  have hown : s.vm.findClass RX12 = some m.cls := findClass_of_methodNamed B.named
  have hlocks := B.notSynchronized
  have C : tq_At p s m meth c [.ref (ad 64 0), .int p0, .int p1, .int p2].toArray cX12_sheet 5 ((some .int)) ((tq_ws yX12_sheet cX12_sheet 5 (some .int))) RX12 D cy z ad := ⟨hx, hb, hr, hml, hown, hts, hlocks, hK, hG⟩
  have hS : va_S (fun q => z ≤ q) s.heap s.heap [] := va_S.rf
  have hl := lv_entry ([.ref (ad 64 0), .int p0, .int p1, .int p2]) (n := 5) (Nat.le_of_ble_eq_true rfl)
  rw [lg_entry_eq]
  generalize (lg_sl ([.ref (ad 64 0), .int p0, .int p1, .int p2]) ++ List.replicate (5 - (lg_sl ([.ref (ad 64 0), .int p0, .int p1, .int p2])).length) Slot.unset).toArray = ls at hl ⊢
  have hl : lv_has ls 5 [(0, .ref (ad 64 0)), (1, .int p0), (2, .int p1), (3, .int p2)] := hl
  have hW : tq_wd D cy z H0 ad N (tq_mix S M) s.heap := hW
  refine lv_iload_n hx hb dX12_sheet_0 rfl (lv_at hl 1 rfl) ?_
  refine lv_iconst (v := 0) hx hb dX12_sheet_1 (by decide) ?_
  refine lv_iconst (v := 2) hx hb dX12_sheet_2 (by decide) ?_
  refine tq_callSi (As := [.int p0, .int 0, .int 2]) (rest := []) (kX12_in h) ⟨hx, hb, hml, hown, hts⟩ (va_cwS 3 hts (tq_goodS tw_1648 tw_1649 tw_125 tw_1650) rfl rfl rfl (by decide +kernel) ⟨Nat.le_of_ble_eq_true rfl, Nat.le_of_ble_eq_true rfl⟩) hK hG hW hS rfl hl.1 rfl (Nat.le_of_ble_eq_true rfl) dX12_sheet_3 ⟨Nat.le_of_ble_eq_true rfl, Nat.le_of_ble_eq_true rfl⟩ (fun r2 M1 H locs h hW hS => ?_)
  refine lv_if_eq (tgt := 28) hx hb dX12_sheet_6 (by decide) (fun c3 => ?_) (fun c3 => ?_)
  · have h := h.1 c3
    exact bX12_sheet_28 C  _  _ _ _ h hW hS (lv_sub hl [] rfl)
  · have h := h.2 c3
    refine lv_iload_n hx hb dX12_sheet_9 rfl (lv_at hl 2 rfl) ?_
    refine lv_iconst (v := (-1)) hx hb dX12_sheet_10 (by decide) ?_
    refine lv_iconst (v := 2) hx hb dX12_sheet_11 (by decide) ?_
    refine tq_callSi (As := [.int p1, .int ((-1)), .int 2]) (rest := []) (kX12_in h) ⟨hx, hb, hml, hown, hts⟩ (va_cwS 3 hts (tq_goodS tw_1648 tw_1649 tw_125 tw_1650) rfl rfl rfl (by decide +kernel) ⟨Nat.le_of_ble_eq_true rfl, Nat.le_of_ble_eq_true rfl⟩) hK hG hW hS rfl hl.1 rfl (Nat.le_of_ble_eq_true rfl) dX12_sheet_12 ⟨Nat.le_of_ble_eq_true rfl, Nat.le_of_ble_eq_true rfl⟩ (fun r5 M4 H locs h hW hS => ?_)
    refine lv_if_eq (tgt := 28) hx hb dX12_sheet_15 (by decide) (fun c6 => ?_) (fun c6 => ?_)
    · have h := h.1 c6
      exact bX12_sheet_28 C  _  _ _ _ h hW hS (lv_sub hl [] rfl)
    · have h := h.2 c6
      refine lv_iload_n hx hb dX12_sheet_18 rfl (lv_at hl 2 rfl) ?_
      refine lv_if_lt (tgt := 31) hx hb dX12_sheet_19 (by decide) (fun c7 => ?_) (fun c7 => ?_)
      · have h := h.1 c7
        exact bX12_sheet_31 C  _ _ _ _ _ _ _ h hW hS (lv_sub hl [0, 1, 2, 3] rfl)
      · have h := h.2 c7
        refine lv_iload_n hx hb dX12_sheet_22 rfl (lv_at hl 3 rfl) ?_
        refine lv_bipush (v := 64) hx hb dX12_sheet_23 (by decide) ?_
        refine lv_icmp_le (tgt := 31) hx hb dX12_sheet_25 (by decide) (fun c8 => ?_) (fun c8 => ?_)
        · have h := h.1 c8
          exact bX12_sheet_31 C  _ _ _ _ _ _ _ h hW hS (lv_sub hl [0, 1, 2, 3] rfl)
        · have h := h.2 c8
          exact bX12_sheet_28 C  _  _ _ _ h hW hS (lv_sub hl [] rfl)
-- cut
def wbX12_cut_20 (post : tq_St → Int32 → Prop)  (M : tq_St) (y0 : Int32) : Prop :=
  post M y0
def wpX12_cut (post : tq_St → Int32 → Prop) (M : tq_St) (p0 : Int32) (p1 : Int32) : Prop :=
  (¬ p0 = 0 → ((¬ p0 = 1 → (wbX12_cut_20 post M p1)) ∧ (p0 = 1 → (wbX12_cut_20 post M p1.toInt16.toInt32)))) ∧ (p0 = 0 → (wbX12_cut_20 post M p1.toInt8.toInt32))
set_option maxHeartbeats 4000000 in
set_option maxRecDepth 100000 in
theorem bX12_cut_20 {p : Program} {e : Env} {s : State} {m : MethodId} {args : Array Value} {below : List Frame} {meth : Method} {c : Code} {post : tq_St → Int32 → Prop} (C : tq_At p s m meth c args cX12_cut 2 ((some .int)) ((tq_ws yX12_cut cX12_cut 2 (some .int))) RX12 D cy z ad)  : ∀ (M : tq_St) (y0 : Int32) (H : Heap) (locs : List Loc) (ls : Array Slot), wbX12_cut_20 post   M y0 → tq_wd D cy z H0 ad N (tq_mix S M) H → va_S (fun q => z ≤ q) s.heap H locs → lv_has ls 2 [] → W p l e (tq_rm 0 0) s m args below meth c H locs 0 0 (MQ below (va_Qi (fun r u => post u r) (tq_P D cy z H0 ad N S) (fun q => z ≤ q)) args s 0 0 (fun q => z ≤ q)) (F0 m 20 ls [.int y0]) := by
  obtain ⟨hx, hb, hr, hml, hown, hts, hlocks, hK, hG⟩ := id C
  have hw : ∀ w ∈ tq_W, w.before args s = true := fun w h => hts w (List.mem_cons_of_mem _ h)
  intro M y0 H locs ls h hW hS hl
  unfold wbX12_cut_20 at h
  exact W.iret (v := y0) hx hb hr (fun t ht hWm => ⟨⟨_, M, rfl, h, tq_pe ht hW⟩, hS.F ht⟩) hS.2.2 dX12_cut_20
set_option maxHeartbeats 4000000 in
set_option maxRecDepth 100000 in
theorem kX12_cut {post : tq_St → Int32 → Prop} {M : tq_St} {p0 : Int32} {p1 : Int32} (h : wpX12_cut post M p0 p1) : tq_mI l yX12_cut (tq_ws yX12_cut cX12_cut 2 (some .int)) 0 0 D cy z H0 ad N S M [.int p0, .int p1] post := by
  unfold wpX12_cut at h
  refine Met.ofW (cc := cX12_cut) (maxL := 2) (ret := (some .int)) (by decide) rfl ?_
  intro p e s m args below meth c s₁ B hml hv
  obtain ⟨rfl, hW, hK, hG⟩ := hv
  have hx := B.exec
  have hb := B.bytes
  have hr := B.returns
  have hts := atoms_spec (ws := (tq_ws yX12_cut cX12_cut 2 (some .int))) B.pre
  have hw : ∀ w ∈ tq_W, w.before _ s = true := fun w h => hts w (List.mem_cons_of_mem _ h)
  have hown : s.vm.findClass RX12 = some m.cls := findClass_of_methodNamed B.named
  have hlocks := B.notSynchronized
  have C : tq_At p s m meth c [.int p0, .int p1].toArray cX12_cut 2 ((some .int)) ((tq_ws yX12_cut cX12_cut 2 (some .int))) RX12 D cy z ad := ⟨hx, hb, hr, hml, hown, hts, hlocks, hK, hG⟩
  have hS : va_S (fun q => z ≤ q) s.heap s.heap [] := va_S.rf
  have hl := lv_entry ([.int p0, .int p1]) (n := 2) (Nat.le_of_ble_eq_true rfl)
  rw [lg_entry_eq]
  generalize (lg_sl ([.int p0, .int p1]) ++ List.replicate (2 - (lg_sl ([.int p0, .int p1])).length) Slot.unset).toArray = ls at hl ⊢
  have hl : lv_has ls 2 [(0, .int p0), (1, .int p1)] := hl
  have hW : tq_wd D cy z H0 ad N (tq_mix S M) s.heap := hW
  refine lv_iload_n hx hb dX12_cut_0 rfl (lv_at hl 0 rfl) ?_
  refine lv_if_ne (tgt := 9) hx hb dX12_cut_1 (by decide) (fun c1 => ?_) (fun c1 => ?_)
  · have h := h.1 c1
    refine lv_iload_n hx hb dX12_cut_9 rfl (lv_at hl 0 rfl) ?_
    refine lv_iconst (v := 1) hx hb dX12_cut_10 (by decide) ?_
    refine lv_icmp_ne (tgt := 19) hx hb dX12_cut_11 (by decide) (fun c2 => ?_) (fun c2 => ?_)
    · have h := h.1 c2
      refine lv_iload_n hx hb dX12_cut_19 rfl (lv_at hl 1 rfl) ?_
      exact bX12_cut_20 C  _ _ _ _ _ h hW hS (lv_sub hl [] rfl)
    · have h := h.2 c2
      refine lv_iload_n hx hb dX12_cut_14 rfl (lv_at hl 1 rfl) ?_
      refine lv_i2s (v := p1.toInt16.toInt32) hx hb dX12_cut_15 rfl ?_
      refine lv_goto (tgt := 20) hx hb dX12_cut_16 (by decide) ?_
      exact bX12_cut_20 C  _ _ _ _ _ h hW hS (lv_sub hl [] rfl)
  · have h := h.2 c1
    refine lv_iload_n hx hb dX12_cut_4 rfl (lv_at hl 1 rfl) ?_
    refine lv_i2b (v := p1.toInt8.toInt32) hx hb dX12_cut_5 rfl ?_
    refine lv_goto (tgt := 20) hx hb dX12_cut_6 (by decide) ?_
    exact bX12_cut_20 C  _ _ _ _ _ h hW hS (lv_sub hl [] rfl)
