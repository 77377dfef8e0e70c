variable {l : Launch} {D : va_G} {cy : Nat → ClassId} {z : Nat} {H0 : Heap} {ad : Nat → Nat → Nat} {N : tq_Nn} {S : tq_St}
-- cell
def wpX12_cell (post : tq_St → Int32 → Prop) (M : tq_St) (p0 : Int32) (p1 : Int32) (p2 : Int32) : Prop :=
  wpX12_in (fun M1 r2 => (¬ r2 = 0 → (vp_in p0 3 ∧ ((0 ≤ (M1 162 0 p0.toNatClampNeg) → (wpX12_in (fun M6 r7 => (¬ r7 = 0 → (wpX12_cut (fun M9 r10 => vp_in p1 64 ∧ (∀ M12, M12 = tq_up M9 163 p0.toNatClampNeg p1.toNatClampNeg r10 → (post M12 1))) M6 (M6 162 0 p0.toNatClampNeg) p2)) ∧ (r7 = 0 → (post M6 ((-12))))) M1 p1 0 ((M1 164 0 p0.toNatClampNeg) - 1))) ∧ (¬ 0 ≤ (M1 162 0 p0.toNatClampNeg) → (post M1 ((-11))))))) ∧ (r2 = 0 → (post M1 ((-2))))) M p0 0 2
set_option maxHeartbeats 4000000 in
set_option maxRecDepth 100000 in
theorem kX12_cell {post : tq_St → Int32 → Prop} {M : tq_St} {p0 : Int32} {p1 : Int32} {p2 : Int32} (h : wpX12_cell post M p0 p1 p2) : tq_mI l yX12_cell (tq_ws yX12_cell cX12_cell 4 (some .int)) 1 22 D cy z H0 ad N S M [.ref (ad 64 0), .int p0, .int p1, .int p2] post := by
  unfold wpX12_cell at h
  refine Met.ofW (cc := cX12_cell) (maxL := 4) (ret := (some .int)) (by decide) rfl ?_
  intro p e s m args below meth c s₁ B hml hv
  obtain ⟨rfl, hW, hK, hG⟩ := hv
  have hx := B.exec
  have hb := B.bytes
  have hr := B.returns
  have hts := atoms_spec (ws := (tq_ws yX12_cell cX12_cell 4 (some .int))) B.pre
  have hw : ∀ w ∈ tq_W, w.before _ s = true := fun w h => hts w (List.mem_cons_of_mem _ h)
  have hown : s.vm.findClass RX12 = some m.cls := findClass_of_methodNamed B.named
  have hlocks := B.notSynchronized
  have C : tq_At p s m meth c [.ref (ad 64 0), .int p0, .int p1, .int p2].toArray cX12_cell 4 ((some .int)) ((tq_ws yX12_cell cX12_cell 4 (some .int))) RX12 D cy z ad := ⟨hx, hb, hr, hml, hown, hts, hlocks, hK, hG⟩
  have hS : va_S (fun q => z ≤ q) s.heap s.heap [] := va_S.rf
  have hl := lv_entry ([.ref (ad 64 0), .int p0, .int p1, .int p2]) (n := 4) (Nat.le_of_ble_eq_true rfl)
  rw [lg_entry_eq]
  generalize (lg_sl ([.ref (ad 64 0), .int p0, .int p1, .int p2]) ++ List.replicate (4 - (lg_sl ([.ref (ad 64 0), .int p0, .int p1, .int p2])).length) Slot.unset).toArray = ls at hl ⊢
  have hl : lv_has ls 4 [(0, .ref (ad 64 0)), (1, .int p0), (2, .int p1), (3, .int p2)] := hl
  have hW : tq_wd D cy z H0 ad N (tq_mix S M) s.heap := hW
  refine lv_iload_n hx hb dX12_cell_0 rfl (lv_at hl 1 rfl) ?_
  refine lv_iconst (v := 0) hx hb dX12_cell_1 (by decide) ?_
  refine lv_iconst (v := 2) hx hb dX12_cell_2 (by decide) ?_
  refine tq_callSi (As := [.int p0, .int 0, .int 2]) (rest := []) (kX12_in h) ⟨hx, hb, hml, hown, hts⟩ (va_cwS 3 hts (tq_goodS tw_1648 tw_1649 tw_125 tw_1650) rfl rfl rfl (by decide +kernel) ⟨Nat.le_of_ble_eq_true rfl, Nat.le_of_ble_eq_true rfl⟩) hK hG hW hS rfl hl.1 rfl (Nat.le_of_ble_eq_true rfl) dX12_cell_3 ⟨Nat.le_of_ble_eq_true rfl, Nat.le_of_ble_eq_true rfl⟩ (fun r2 M1 H locs h hW hS => ?_)
  refine lv_if_ne (tgt := 12) hx hb dX12_cell_6 (by decide) (fun c3 => ?_) (fun c3 => ?_)
  · have h := h.1 c3
    refine lv_aload_n hx hb dX12_cell_12 rfl (lv_at hl 0 rfl) ?_
    refine tqm_get (v := .ref (ad 162 0)) hx hb hw tq_inX12 hown hK hW (by decide) (tq_mk_64 (by decide)) rfl 62 (by decide) (hw _ tw_1470) (fun _ h9 => h9) rfl dX12_cell_13 ?_
    refine lv_iload_n hx hb dX12_cell_16 rfl (lv_at hl 1 rfl) ?_
    obtain ⟨b4, h⟩ := h
    refine tqm_iald (jn := p0.toNatClampNeg) hx hb hK hW (by decide) (tq_mk_162 (by decide)) b4 rfl dX12_cell_17 ?_
    refine lv_if_ge (tgt := 24) hx hb dX12_cell_18 (by decide) (fun c5 => ?_) (fun c5 => ?_)
    · have h := h.1 c5
      refine lv_iload_n hx hb dX12_cell_24 rfl (lv_at hl 2 rfl) ?_
      refine lv_iconst (v := 0) hx hb dX12_cell_25 (by decide) ?_
      refine lv_aload_n hx hb dX12_cell_26 rfl (lv_at hl 0 rfl) ?_
      refine tqm_get (v := .ref (ad 164 0)) hx hb hw tq_inX12 hown hK hW (by decide) (tq_mk_64 (by decide)) rfl 64 (by decide) (hw _ tw_1472) (fun _ h9 => h9) rfl dX12_cell_27 ?_
      refine lv_iload_n hx hb dX12_cell_30 rfl (lv_at hl 1 rfl) ?_
      refine tqm_iald (jn := p0.toNatClampNeg) hx hb hK hW (by decide) (tq_mk_164 (by decide)) b4 rfl dX12_cell_31 ?_
      refine lv_iconst (v := 1) hx hb dX12_cell_32 (by decide) ?_
      refine lv_isub hx hb dX12_cell_33 ?_
      refine tq_callSi (As := [.int p1, .int 0, .int ((M1 164 0 p0.toNatClampNeg) - 1)]) (rest := []) (kX12_in h) ⟨hx, hb, hml, hown, hts⟩ (va_cwS 3 hts (tq_goodS tw_1648 tw_1649 tw_125 tw_1650) rfl rfl rfl (by decide +kernel) ⟨Nat.le_of_ble_eq_true rfl, Nat.le_of_ble_eq_true rfl⟩) hK hG hW hS rfl hl.1 rfl (Nat.le_of_ble_eq_true rfl) dX12_cell_34 ⟨Nat.le_of_ble_eq_true rfl, Nat.le_of_ble_eq_true rfl⟩ (fun r7 M6 H locs h hW hS => ?_)
      refine lv_if_ne (tgt := 43) hx hb dX12_cell_37 (by decide) (fun c8 => ?_) (fun c8 => ?_)
      · have h := h.1 c8
        refine lv_aload_n hx hb dX12_cell_43 rfl (lv_at hl 0 rfl) ?_
        refine tqm_get (v := .ref (ad 263 0)) hx hb hw tq_inX12 hown hK hW (by decide) (tq_mk_64 (by decide)) rfl 63 (by decide) (hw _ tw_1471) (fun _ h9 => h9) rfl dX12_cell_44 ?_
        refine lv_iload_n hx hb dX12_cell_47 rfl (lv_at hl 1 rfl) ?_
        refine tqm_aald (jn := p0.toNatClampNeg) (v := .ref (ad 163 p0.toNatClampNeg)) hx hb hK hW (by decide) (tq_mk_263 (by decide)) 2 rfl rfl b4 rfl rfl dX12_cell_48 ?_
        refine lv_iload_n hx hb dX12_cell_49 rfl (lv_at hl 2 rfl) ?_
        refine lv_aload_n hx hb dX12_cell_50 rfl (lv_at hl 0 rfl) ?_
        refine tqm_get (v := .ref (ad 162 0)) hx hb hw tq_inX12 hown hK hW (by decide) (tq_mk_64 (by decide)) rfl 62 (by decide) (hw _ tw_1470) (fun _ h9 => h9) rfl dX12_cell_51 ?_
        refine lv_iload_n hx hb dX12_cell_54 rfl (lv_at hl 1 rfl) ?_
        refine tqm_iald (jn := p0.toNatClampNeg) hx hb hK hW (by decide) (tq_mk_162 (by decide)) b4 rfl dX12_cell_55 ?_
        refine lv_iload_n hx hb dX12_cell_56 rfl (lv_at hl 3 rfl) ?_
        refine tq_callSi (As := [.int (M6 162 0 p0.toNatClampNeg), .int p2]) (rest := [.int p1, .ref (ad 163 p0.toNatClampNeg)]) (kX12_cut h) ⟨hx, hb, hml, hown, hts⟩ (va_cwS 2 hts (tq_goodS tw_2125 tw_2126 tw_125 tw_2127) rfl rfl rfl (by decide +kernel) ⟨Nat.le_of_ble_eq_true rfl, Nat.le_of_ble_eq_true rfl⟩) hK hG hW hS rfl hl.1 rfl (Nat.le_of_ble_eq_true rfl) dX12_cell_57 ⟨Nat.le_of_ble_eq_true rfl, Nat.le_of_ble_eq_true rfl⟩ (fun r10 M9 H locs h hW hS => ?_)
        obtain ⟨b11, h⟩ := h
        refine tqm_iast (jn := p1.toNatClampNeg) hx hb hK hW hS (by decide) (tq_mk_163 (tq_lt b4)) b11 rfl (tq_mk_163 (tq_lt b4)) dX12_cell_60 (fun H locs hW hS => ?_)
        generalize eM12 : tq_up M9 163 p0.toNatClampNeg p1.toNatClampNeg r10 = M12 at hW
        have h := h M12 eM12.symm
        refine lv_iconst (v := 1) hx hb dX12_cell_61 (by decide) ?_
        exact W.iret (v := 1) hx hb hr (fun t ht hWm => ⟨⟨_, M12, rfl, h, tq_pe ht hW⟩, hS.F ht⟩) hS.2.2 dX12_cell_62
      · have h := h.2 c8
        refine lv_bipush (v := (-12)) hx hb dX12_cell_40 (by decide) ?_
        exact W.iret (v := (-12)) hx hb hr (fun t ht hWm => ⟨⟨_, M6, rfl, h, tq_pe ht hW⟩, hS.F ht⟩) hS.2.2 dX12_cell_42
    · have h := h.2 c5
      refine lv_bipush (v := (-11)) hx hb dX12_cell_21 (by decide) ?_
      exact W.iret (v := (-11)) hx hb hr (fun t ht hWm => ⟨⟨_, M1, rfl, h, tq_pe ht hW⟩, hS.F ht⟩) hS.2.2 dX12_cell_23
  · have h := h.2 c3
    refine lv_bipush (v := (-2)) hx hb dX12_cell_9 (by decide) ?_
    exact W.iret (v := (-2)) hx hb hr (fun t ht hWm => ⟨⟨_, M1, rfl, h, tq_pe ht hW⟩, hS.F ht⟩) hS.2.2 dX12_cell_11
-- carry
def wbX12_carry_18 (post : tq_St → Int32 → Prop)  (M : tq_St) : Prop :=
  post M ((-2))
def wbX12_carry_39 (post : tq_St → Int32 → Prop)  (M : tq_St) : Prop :=
  post M ((-11))
def wbX12_carry_109 (post : tq_St → Int32 → Prop)  (M : tq_St) : Prop :=
  post M ((-12))
def wpX12_carry (post : tq_St → Int32 → Prop) (M : tq_St) (p0 : Int32) (p1 : Int32) (p2 : Int32) (p3 : Int32) (p4 : Int32) : Prop :=
  wpX12_in (fun M1 r2 => (r2 = 0 → (wbX12_carry_18 post M1 )) ∧ (¬ r2 = 0 → (wpX12_in (fun M4 r5 => (¬ r5 = 0 → (vp_in p0 3 ∧ (((M4 162 0 p0.toNatClampNeg) < 0 → (wbX12_carry_39 post M4 )) ∧ (¬ (M4 162 0 p0.toNatClampNeg) < 0 → (vp_in p2 3 ∧ ((0 ≤ (M4 162 0 p2.toNatClampNeg) → (((M4 162 0 p0.toNatClampNeg) = (M4 162 0 p2.toNatClampNeg) → ((p4 < 0 → (wbX12_carry_109 post M4 )) ∧ (¬ p4 < 0 → ((p1 < 0 → (wbX12_carry_109 post M4 )) ∧ (¬ p1 < 0 → ((p3 < 0 → (wbX12_carry_109 post M4 )) ∧ (¬ p3 < 0 → ((0 < (lg_cmp (p1.toInt64 + p4.toInt64) ((M4 164 0 p0.toNatClampNeg).toInt64)) → (wbX12_carry_109 post M4 )) ∧ (¬ 0 < (lg_cmp (p1.toInt64 + p4.toInt64) ((M4 164 0 p0.toNatClampNeg).toInt64)) → (((lg_cmp (p3.toInt64 + p4.toInt64) ((M4 164 0 p2.toNatClampNeg).toInt64)) ≤ 0 → (¬ p1 < 0 ∧ ¬ p3 < 0 ∧ ¬ p4 < 0 ∧ p1.toNatClampNeg + p4.toNatClampNeg ≤ 64 ∧ p3.toNatClampNeg + p4.toNatClampNeg ≤ 64 ∧ (∀ M22, M22 = tq_cp M4 163 p2.toNatClampNeg (va_cpy (M4 163 p0.toNatClampNeg) (M4 163 p2.toNatClampNeg) p1.toNatClampNeg p3.toNatClampNeg p4.toNatClampNeg) → (post M22 p4)))) ∧ (¬ (lg_cmp (p3.toInt64 + p4.toInt64) ((M4 164 0 p2.toNatClampNeg).toInt64)) ≤ 0 → (wbX12_carry_109 post M4 )))))))))))) ∧ (¬ (M4 162 0 p0.toNatClampNeg) = (M4 162 0 p2.toNatClampNeg) → (post M4 ((-13)))))) ∧ (¬ 0 ≤ (M4 162 0 p2.toNatClampNeg) → (wbX12_carry_39 post M4 )))))))) ∧ (r5 = 0 → (wbX12_carry_18 post M4 ))) M1 p2 0 2))) M p0 0 2
set_option maxHeartbeats 4000000 in
set_option maxRecDepth 100000 in
theorem bX12_carry_18 {p : Program} {e : Env} {s : State} {m : MethodId} {args : Array Value} {below : List Frame} {meth : Method} {c : Code} {post : tq_St → Int32 → Prop} (C : tq_At p s m meth c args cX12_carry 6 ((some .int)) ((tq_ws yX12_carry cX12_carry 6 (some .int))) RX12 D cy z ad)  : ∀ (M : tq_St)  (H : Heap) (locs : List Loc) (ls : Array Slot), wbX12_carry_18 post   M  → tq_wd D cy z H0 ad N (tq_mix S M) H → va_S (fun q => z ≤ q) s.heap H locs → lv_has ls 6 [] → W p l e (tq_rm 1 48) s m args below meth c H locs 0 0 (MQ below (va_Qi (fun r u => post u r) (tq_P D cy z H0 ad N S) (fun q => z ≤ q)) args s 0 0 (fun q => z ≤ q)) (F0 m 18 ls []) := by
  obtain ⟨hx, hb, hr, hml, hown, hts, hlocks, hK, hG⟩ := id C
  have hw : ∀ w ∈ tq_W, w.before args s = true := fun w h => hts w (List.mem_cons_of_mem _ h)
  intro M  H locs ls h hW hS hl
  unfold wbX12_carry_18 at h
  refine lv_bipush (v := (-2)) hx hb dX12_carry_18 (by decide) ?_
  exact W.iret (v := (-2)) hx hb hr (fun t ht hWm => ⟨⟨_, M, rfl, h, tq_pe ht hW⟩, hS.F ht⟩) hS.2.2 dX12_carry_20
set_option maxHeartbeats 4000000 in
set_option maxRecDepth 100000 in
theorem bX12_carry_39 {p : Program} {e : Env} {s : State} {m : MethodId} {args : Array Value} {below : List Frame} {meth : Method} {c : Code} {post : tq_St → Int32 → Prop} (C : tq_At p s m meth c args cX12_carry 6 ((some .int)) ((tq_ws yX12_carry cX12_carry 6 (some .int))) RX12 D cy z ad)  : ∀ (M : tq_St)  (H : Heap) (locs : List Loc) (ls : Array Slot), wbX12_carry_39 post   M  → tq_wd D cy z H0 ad N (tq_mix S M) H → va_S (fun q => z ≤ q) s.heap H locs → lv_has ls 6 [] → W p l e (tq_rm 1 48) s m args below meth c H locs 0 0 (MQ below (va_Qi (fun r u => post u r) (tq_P D cy z H0 ad N S) (fun q => z ≤ q)) args s 0 0 (fun q => z ≤ q)) (F0 m 39 ls []) := by
  obtain ⟨hx, hb, hr, hml, hown, hts, hlocks, hK, hG⟩ := id C
  have hw : ∀ w ∈ tq_W, w.before args s = true := fun w h => hts w (List.mem_cons_of_mem _ h)
  intro M  H locs ls h hW hS hl
  unfold wbX12_carry_39 at h
  refine lv_bipush (v := (-11)) hx hb dX12_carry_39 (by decide) ?_
  exact W.iret (v := (-11)) hx hb hr (fun t ht hWm => ⟨⟨_, M, rfl, h, tq_pe ht hW⟩, hS.F ht⟩) hS.2.2 dX12_carry_41
set_option maxHeartbeats 4000000 in
set_option maxRecDepth 100000 in
theorem bX12_carry_109 {p : Program} {e : Env} {s : State} {m : MethodId} {args : Array Value} {below : List Frame} {meth : Method} {c : Code} {post : tq_St → Int32 → Prop} (C : tq_At p s m meth c args cX12_carry 6 ((some .int)) ((tq_ws yX12_carry cX12_carry 6 (some .int))) RX12 D cy z ad)  : ∀ (M : tq_St)  (H : Heap) (locs : List Loc) (ls : Array Slot), wbX12_carry_109 post   M  → tq_wd D cy z H0 ad N (tq_mix S M) H → va_S (fun q => z ≤ q) s.heap H locs → lv_has ls 6 [] → W p l e (tq_rm 1 48) s m args below meth c H locs 0 0 (MQ below (va_Qi (fun r u => post u r) (tq_P D cy z H0 ad N S) (fun q => z ≤ q)) args s 0 0 (fun q => z ≤ q)) (F0 m 109 ls []) := by
  obtain ⟨hx, hb, hr, hml, hown, hts, hlocks, hK, hG⟩ := id C
  have hw : ∀ w ∈ tq_W, w.before args s = true := fun w h => hts w (List.mem_cons_of_mem _ h)
  intro M  H locs ls h hW hS hl
  unfold wbX12_carry_109 at h
  refine lv_bipush (v := (-12)) hx hb dX12_carry_109 (by decide) ?_
  exact W.iret (v := (-12)) hx hb hr (fun t ht hWm => ⟨⟨_, M, rfl, h, tq_pe ht hW⟩, hS.F ht⟩) hS.2.2 dX12_carry_111
set_option maxHeartbeats 4000000 in
set_option maxRecDepth 100000 in
theorem kX12_carry {post : tq_St → Int32 → Prop} {M : tq_St} {p0 : Int32} {p1 : Int32} {p2 : Int32} {p3 : Int32} {p4 : Int32} (h : wpX12_carry post M p0 p1 p2 p3 p4) : tq_mI l yX12_carry (tq_ws yX12_carry cX12_carry 6 (some .int)) 1 48 D cy z H0 ad N S M [.ref (ad 64 0), .int p0, .int p1, .int p2, .int p3, .int p4] post := by
  unfold wpX12_carry at h
  refine Met.ofW (cc := cX12_carry) (maxL := 6) (ret := (some .int)) (by decide) rfl ?_
  intro p e s m args below meth c s₁ B hml hv
  obtain ⟨rfl, hW, hK, hG⟩ := hv
  have hx := B.exec
  have hb := B.bytes
  have hr := B.returns
  have hts := atoms_spec (ws := (tq_ws yX12_carry cX12_carry 6 (some .int))) B.pre
  have hw : ∀ w ∈ tq_W, w.before _ s = true := fun w h => hts w (List.mem_cons_of_mem _ h)
  have hown : s.vm.findClass RX12 = some m.cls := findClass_of_methodNamed B.named
  have hlocks := B.notSynchronized
  have C : tq_At p s m meth c [.ref (ad 64 0), .int p0, .int p1, .int p2, .int p3, .int p4].toArray cX12_carry 6 ((some .int)) ((tq_ws yX12_carry cX12_carry 6 (some .int))) RX12 D cy z ad := ⟨hx, hb, hr, hml, hown, hts, hlocks, hK, hG⟩
  have hS : va_S (fun q => z ≤ q) s.heap s.heap [] := va_S.rf
  have hl := lv_entry ([.ref (ad 64 0), .int p0, .int p1, .int p2, .int p3, .int p4]) (n := 6) (Nat.le_of_ble_eq_true rfl)
  rw [lg_entry_eq]
  generalize (lg_sl ([.ref (ad 64 0), .int p0, .int p1, .int p2, .int p3, .int p4]) ++ List.replicate (6 - (lg_sl ([.ref (ad 64 0), .int p0, .int p1, .int p2, .int p3, .int p4])).length) Slot.unset).toArray = ls at hl ⊢
  have hl : lv_has ls 6 [(0, .ref (ad 64 0)), (1, .int p0), (2, .int p1), (3, .int p2), (4, .int p3), (5, .int p4)] := hl
  have hW : tq_wd D cy z H0 ad N (tq_mix S M) s.heap := hW
  refine lv_iload_n hx hb dX12_carry_0 rfl (lv_at hl 1 rfl) ?_
  refine lv_iconst (v := 0) hx hb dX12_carry_1 (by decide) ?_
  refine lv_iconst (v := 2) hx hb dX12_carry_2 (by decide) ?_
  refine tq_callSi (As := [.int p0, .int 0, .int 2]) (rest := []) (kX12_in h) ⟨hx, hb, hml, hown, hts⟩ (va_cwS 3 hts (tq_goodS tw_1648 tw_1649 tw_125 tw_1650) rfl rfl rfl (by decide +kernel) ⟨Nat.le_of_ble_eq_true rfl, Nat.le_of_ble_eq_true rfl⟩) hK hG hW hS rfl hl.1 rfl (Nat.le_of_ble_eq_true rfl) dX12_carry_3 ⟨Nat.le_of_ble_eq_true rfl, Nat.le_of_ble_eq_true rfl⟩ (fun r2 M1 H locs h hW hS => ?_)
  refine lv_if_eq (tgt := 18) hx hb dX12_carry_6 (by decide) (fun c3 => ?_) (fun c3 => ?_)
  · have h := h.1 c3
    exact bX12_carry_18 C  _  _ _ _ h hW hS (lv_sub hl [] rfl)
  · have h := h.2 c3
    refine lv_iload_n hx hb dX12_carry_9 rfl (lv_at hl 3 rfl) ?_
    refine lv_iconst (v := 0) hx hb dX12_carry_10 (by decide) ?_
    refine lv_iconst (v := 2) hx hb dX12_carry_11 (by decide) ?_
    refine tq_callSi (As := [.int p2, .int 0, .int 2]) (rest := []) (kX12_in h) ⟨hx, hb, hml, hown, hts⟩ (va_cwS 3 hts (tq_goodS tw_1648 tw_1649 tw_125 tw_1650) rfl rfl rfl (by decide +kernel) ⟨Nat.le_of_ble_eq_true rfl, Nat.le_of_ble_eq_true rfl⟩) hK hG hW hS rfl hl.1 rfl (Nat.le_of_ble_eq_true rfl) dX12_carry_12 ⟨Nat.le_of_ble_eq_true rfl, Nat.le_of_ble_eq_true rfl⟩ (fun r5 M4 H locs h hW hS => ?_)
    refine lv_if_ne (tgt := 21) hx hb dX12_carry_15 (by decide) (fun c6 => ?_) (fun c6 => ?_)
    · have h := h.1 c6
      refine lv_aload_n hx hb dX12_carry_21 rfl (lv_at hl 0 rfl) ?_
      refine tqm_get (v := .ref (ad 162 0)) hx hb hw tq_inX12 hown hK hW (by decide) (tq_mk_64 (by decide)) rfl 62 (by decide) (hw _ tw_1470) (fun _ h9 => h9) rfl dX12_carry_22 ?_
      refine lv_iload_n hx hb dX12_carry_25 rfl (lv_at hl 1 rfl) ?_
      obtain ⟨b7, h⟩ := h
      refine tqm_iald (jn := p0.toNatClampNeg) hx hb hK hW (by decide) (tq_mk_162 (by decide)) b7 rfl dX12_carry_26 ?_
      refine lv_if_lt (tgt := 39) hx hb dX12_carry_27 (by decide) (fun c8 => ?_) (fun c8 => ?_)
      · have h := h.1 c8
        exact bX12_carry_39 C  _  _ _ _ h hW hS (lv_sub hl [] rfl)
      · have h := h.2 c8
        refine lv_aload_n hx hb dX12_carry_30 rfl (lv_at hl 0 rfl) ?_
        refine tqm_get (v := .ref (ad 162 0)) hx hb hw tq_inX12 hown hK hW (by decide) (tq_mk_64 (by decide)) rfl 62 (by decide) (hw _ tw_1470) (fun _ h9 => h9) rfl dX12_carry_31 ?_
        refine lv_iload_n hx hb dX12_carry_34 rfl (lv_at hl 3 rfl) ?_
        obtain ⟨b9, h⟩ := h
        refine tqm_iald (jn := p2.toNatClampNeg) hx hb hK hW (by decide) (tq_mk_162 (by decide)) b9 rfl dX12_carry_35 ?_
        refine lv_if_ge (tgt := 42) hx hb dX12_carry_36 (by decide) (fun c10 => ?_) (fun c10 => ?_)
        · have h := h.1 c10
          refine lv_aload_n hx hb dX12_carry_42 rfl (lv_at hl 0 rfl) ?_
          refine tqm_get (v := .ref (ad 162 0)) hx hb hw tq_inX12 hown hK hW (by decide) (tq_mk_64 (by decide)) rfl 62 (by decide) (hw _ tw_1470) (fun _ h9 => h9) rfl dX12_carry_43 ?_
          refine lv_iload_n hx hb dX12_carry_46 rfl (lv_at hl 1 rfl) ?_
          refine tqm_iald (jn := p0.toNatClampNeg) hx hb hK hW (by decide) (tq_mk_162 (by decide)) b7 rfl dX12_carry_47 ?_
          refine lv_aload_n hx hb dX12_carry_48 rfl (lv_at hl 0 rfl) ?_
          refine tqm_get (v := .ref (ad 162 0)) hx hb hw tq_inX12 hown hK hW (by decide) (tq_mk_64 (by decide)) rfl 62 (by decide) (hw _ tw_1470) (fun _ h9 => h9) rfl dX12_carry_49 ?_
          refine lv_iload_n hx hb dX12_carry_52 rfl (lv_at hl 3 rfl) ?_
          refine tqm_iald (jn := p2.toNatClampNeg) hx hb hK hW (by decide) (tq_mk_162 (by decide)) b9 rfl dX12_carry_53 ?_
          refine lv_icmp_eq (tgt := 60) hx hb dX12_carry_54 (by decide) (fun c11 => ?_) (fun c11 => ?_)
          · have h := h.1 c11
            refine lv_iload hx hb dX12_carry_60 (lv_at hl 5 rfl) ?_
            refine lv_if_lt (tgt := 109) hx hb dX12_carry_62 (by decide) (fun c12 => ?_) (fun c12 => ?_)
            · have h := h.1 c12
              exact bX12_carry_109 C  _  _ _ _ h hW hS (lv_sub hl [] rfl)
            · have h := h.2 c12
              refine lv_iload_n hx hb dX12_carry_65 rfl (lv_at hl 2 rfl) ?_
              refine lv_if_lt (tgt := 109) hx hb dX12_carry_66 (by decide) (fun c13 => ?_) (fun c13 => ?_)
              · have h := h.1 c13
                exact bX12_carry_109 C  _  _ _ _ h hW hS (lv_sub hl [] rfl)
              · have h := h.2 c13
                refine lv_iload hx hb dX12_carry_69 (lv_at hl 4 rfl) ?_
                refine lv_if_lt (tgt := 109) hx hb dX12_carry_71 (by decide) (fun c14 => ?_) (fun c14 => ?_)
                · have h := h.1 c14
                  exact bX12_carry_109 C  _  _ _ _ h hW hS (lv_sub hl [] rfl)
                · have h := h.2 c14
                  refine lv_iload_n hx hb dX12_carry_74 rfl (lv_at hl 2 rfl) ?_
                  refine lv_i2l (v := p1.toInt64) hx hb dX12_carry_75 rfl ?_
                  refine lv_iload hx hb dX12_carry_76 (lv_at hl 5 rfl) ?_
                  refine lv_i2l (v := p4.toInt64) hx hb dX12_carry_78 rfl ?_
                  refine lv_ladd hx hb dX12_carry_79 ?_
                  refine lv_aload_n hx hb dX12_carry_80 rfl (lv_at hl 0 rfl) ?_
                  refine tqm_get (v := .ref (ad 164 0)) hx hb hw tq_inX12 hown hK hW (by decide) (tq_mk_64 (by decide)) rfl 64 (by decide) (hw _ tw_1472) (fun _ h9 => h9) rfl dX12_carry_81 ?_
                  refine lv_iload_n hx hb dX12_carry_84 rfl (lv_at hl 1 rfl) ?_
                  refine tqm_iald (jn := p0.toNatClampNeg) hx hb hK hW (by decide) (tq_mk_164 (by decide)) b7 rfl dX12_carry_85 ?_
                  refine lv_i2l (v := (M4 164 0 p0.toNatClampNeg).toInt64) hx hb dX12_carry_86 rfl ?_
                  refine W.lcmp hx hb dX12_carry_87 ?_
                  refine lv_if_gt (tgt := 109) hx hb dX12_carry_88 (by decide) (fun c15 => ?_) (fun c15 => ?_)
                  · have h := h.1 c15
                    exact bX12_carry_109 C  _  _ _ _ h hW hS (lv_sub hl [] rfl)
                  · have h := h.2 c15
                    refine lv_iload hx hb dX12_carry_91 (lv_at hl 4 rfl) ?_
                    refine lv_i2l (v := p3.toInt64) hx hb dX12_carry_93 rfl ?_
                    refine lv_iload hx hb dX12_carry_94 (lv_at hl 5 rfl) ?_
                    refine lv_i2l (v := p4.toInt64) hx hb dX12_carry_96 rfl ?_
                    refine lv_ladd hx hb dX12_carry_97 ?_
                    refine lv_aload_n hx hb dX12_carry_98 rfl (lv_at hl 0 rfl) ?_
                    refine tqm_get (v := .ref (ad 164 0)) hx hb hw tq_inX12 hown hK hW (by decide) (tq_mk_64 (by decide)) rfl 64 (by decide) (hw _ tw_1472) (fun _ h9 => h9) rfl dX12_carry_99 ?_
                    refine lv_iload_n hx hb dX12_carry_102 rfl (lv_at hl 3 rfl) ?_
                    refine tqm_iald (jn := p2.toNatClampNeg) hx hb hK hW (by decide) (tq_mk_164 (by decide)) b9 rfl dX12_carry_103 ?_
                    refine lv_i2l (v := (M4 164 0 p2.toNatClampNeg).toInt64) hx hb dX12_carry_104 rfl ?_
                    refine W.lcmp hx hb dX12_carry_105 ?_
                    refine lv_if_le (tgt := 112) hx hb dX12_carry_106 (by decide) (fun c16 => ?_) (fun c16 => ?_)
                    · have h := h.1 c16
                      refine lv_aload_n hx hb dX12_carry_112 rfl (lv_at hl 0 rfl) ?_
                      refine tqm_get (v := .ref (ad 263 0)) hx hb hw tq_inX12 hown hK hW (by decide) (tq_mk_64 (by decide)) rfl 63 (by decide) (hw _ tw_1471) (fun _ h9 => h9) rfl dX12_carry_113 ?_
                      refine lv_iload_n hx hb dX12_carry_116 rfl (lv_at hl 1 rfl) ?_
                      refine tqm_aald (jn := p0.toNatClampNeg) (v := .ref (ad 163 p0.toNatClampNeg)) hx hb hK hW (by decide) (tq_mk_263 (by decide)) 2 rfl rfl b7 rfl rfl dX12_carry_117 ?_
                      refine lv_iload_n hx hb dX12_carry_118 rfl (lv_at hl 2 rfl) ?_
                      refine lv_aload_n hx hb dX12_carry_119 rfl (lv_at hl 0 rfl) ?_
                      refine tqm_get (v := .ref (ad 263 0)) hx hb hw tq_inX12 hown hK hW (by decide) (tq_mk_64 (by decide)) rfl 63 (by decide) (hw _ tw_1471) (fun _ h9 => h9) rfl dX12_carry_120 ?_
                      refine lv_iload_n hx hb dX12_carry_123 rfl (lv_at hl 3 rfl) ?_
                      refine tqm_aald (jn := p2.toNatClampNeg) (v := .ref (ad 163 p2.toNatClampNeg)) hx hb hK hW (by decide) (tq_mk_263 (by decide)) 2 rfl rfl b9 rfl rfl dX12_carry_124 ?_
                      refine lv_iload hx hb dX12_carry_125 (lv_at hl 4 rfl) ?_
                      refine lv_iload hx hb dX12_carry_127 (lv_at hl 5 rfl) ?_
                      obtain ⟨b17, h⟩ := h
                      obtain ⟨b18, h⟩ := h
                      obtain ⟨b19, h⟩ := h
                      obtain ⟨b20, h⟩ := h
                      obtain ⟨b21, h⟩ := h
                      refine tqm_copy hx hb (hml.trans hl.1.symm) hown (hw _ tw_1756) (hw _ tw_801) (hw _ tw_800) (hw _ tw_135) hK hW hS (by decide) (by decide) (tq_mk_163 (tq_lt b7)) (fun f => tq_mk_163 (tq_lt b9)) b17 b18 b19 b20 b21 (Nat.le_of_ble_eq_true rfl) (Nat.le_of_ble_eq_true rfl) dX12_carry_129 (fun H locs hW hS => ?_)
                      generalize eM22 : tq_cp M4 163 p2.toNatClampNeg (va_cpy (M4 163 p0.toNatClampNeg) (M4 163 p2.toNatClampNeg) p1.toNatClampNeg p3.toNatClampNeg p4.toNatClampNeg) = M22 at hW
                      have h := h M22 eM22.symm
                      refine lv_iload hx hb dX12_carry_132 (lv_at hl 5 rfl) ?_
                      exact W.iret (v := p4) hx hb hr (fun t ht hWm => ⟨⟨_, M22, rfl, h, tq_pe ht hW⟩, hS.F ht⟩) hS.2.2 dX12_carry_134
                    · have h := h.2 c16
                      exact bX12_carry_109 C  _  _ _ _ h hW hS (lv_sub hl [] rfl)
          · have h := h.2 c11
            refine lv_bipush (v := (-13)) hx hb dX12_carry_57 (by decide) ?_
            exact W.iret (v := (-13)) hx hb hr (fun t ht hWm => ⟨⟨_, M4, rfl, h, tq_pe ht hW⟩, hS.F ht⟩) hS.2.2 dX12_carry_59
        · have h := h.2 c10
          exact bX12_carry_39 C  _  _ _ _ h hW hS (lv_sub hl [] rfl)
    · have h := h.2 c6
      exact bX12_carry_18 C  _  _ _ _ h hW hS (lv_sub hl [] rfl)
