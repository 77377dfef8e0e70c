variable {l : Launch} {D : va_G} {cy : Nat → ClassId} {z : Nat} {H0 : Heap} {ad : Nat → Nat → Nat} {N : tq_Nn} {M : tq_St}
-- X6 readField
def wbX6_readField_74 (N : tq_Nn) (post : tq_St → Int32 → Prop)  (S : tq_St) (y0 : Int32) : Prop :=
  post S y0
def wbX6_readField_62 (N : tq_Nn) (post : tq_St → Int32 → Prop)  (S : tq_St) (x1 : Int32) (y0 : Nat) : Prop :=
  wpX6_expect N (fun S16 => (x1 = 0 → (wbX6_readField_74 N post S16 3)) ∧ (¬ x1 = 0 → (wbX6_readField_74 N post S16 1))) S y0
def wpX6_readField (N : tq_Nn) (post : tq_St → Int32 → Prop) (S : tq_St)  : Prop :=
  wpX6_takes N (fun S1 r2 => (r2 = 0 → (wpX6_takes N (fun S4 r5 => (r5 = 0 → (wpX6_takes N (fun S7 r8 => (r8 = 0 → (wpX6_expect N (fun S10 => post S10 4) S7 15)) ∧ (¬ r8 = 0 → (wpX6_takes N (fun S11 r12 => (r12 = 0 → (wbX6_readField_62 N post S11 r12 14)) ∧ (¬ r12 = 0 → (wbX6_readField_62 N post S11 r12 13))) S7 116))) S4 115)) ∧ (¬ r5 = 0 → (wpX6_expect N (fun S14 => post S14 2) S4 12))) S1 98)) ∧ (¬ r2 = 0 → (wpX6_expect N (fun S15 => post S15 0) S1 11))) S 112
set_option maxHeartbeats 4000000 in
set_option maxRecDepth 100000 in
theorem bX6_readField_74 {p : Program} {e : Env} {s : State} {m : MethodId} {args : Array Value} {below : List Frame} {meth : Method} {c : Code} {post : tq_St → Int32 → Prop} (C : tq_At p s m meth c args cX6_readField 2 ((some .int)) ((tq_ws yX6_readField cX6_readField 2 (some .int))) RX6 D cy z ad)  : ∀ (S : tq_St) (y0 : Int32) (H : Heap) (locs : List Loc) (ls : Array Slot), wbX6_readField_74 N post   S y0 → tq_wd D cy z H0 ad N (tq_mix S M) H → va_S (fun q => z ≤ q) s.heap H locs → lv_has ls 2 [] → W p l e (tq_rm 5 107) s m args below meth c H locs 0 0 (MQ below (va_Qi (fun r u => post u r) (fun u => tq_P D cy z H0 ad N u M) (fun q => z ≤ q)) args s 0 0 (fun q => z ≤ q)) (F0 m 74 ls [.int y0]) := by
  obtain ⟨hx, hb, hr, hml, hown, hts, hlocks, hK, hG⟩ := id C
  have hw : ∀ w ∈ tq_W, w.before args s = true := fun w h => hts w (List.mem_cons_of_mem _ h)
  intro S y0 H locs ls h hW hS hl
  unfold wbX6_readField_74 at h
  exact W.iret (v := y0) hx hb hr (fun t ht hWm => ⟨⟨_, S, rfl, h, tq_pe ht hW⟩, hS.F ht⟩) hS.2.2 dX6_readField_74
set_option maxHeartbeats 4000000 in
set_option maxRecDepth 100000 in
theorem bX6_readField_62 {p : Program} {e : Env} {s : State} {m : MethodId} {args : Array Value} {below : List Frame} {meth : Method} {c : Code} {post : tq_St → Int32 → Prop} (C : tq_At p s m meth c args cX6_readField 2 ((some .int)) ((tq_ws yX6_readField cX6_readField 2 (some .int))) RX6 D cy z ad)  : ∀ (S : tq_St) (x1 : Int32) (y0 : Nat) (H : Heap) (locs : List Loc) (ls : Array Slot), wbX6_readField_62 N post   S x1 y0 → tq_wd D cy z H0 ad N (tq_mix S M) H → va_S (fun q => z ≤ q) s.heap H locs → lv_has ls 2 [(1, .int x1)] → W p l e (tq_rm 5 107) s m args below meth c H locs 0 0 (MQ below (va_Qi (fun r u => post u r) (fun u => tq_P D cy z H0 ad N u M) (fun q => z ≤ q)) args s 0 0 (fun q => z ≤ q)) (F0 m 62 ls [.ref (ad 61 y0), .ref (ad 3 0)]) := by
  obtain ⟨hx, hb, hr, hml, hown, hts, hlocks, hK, hG⟩ := id C
  have hw : ∀ w ∈ tq_W, w.before args s = true := fun w h => hts w (List.mem_cons_of_mem _ h)
  intro S x1 y0 H locs ls h hW hS hl
  unfold wbX6_readField_62 at h
  refine tqc_callVv (As := [.ref (ad 61 y0)]) (rest := []) (kX6_expect h) ⟨hx, hb, hml, hown, hts⟩ (cwV 1 hts (tq_goodV tw_577 tw_579 tw_5 tw_119 tw_580) rfl rfl rfl (by decide +kernel) ⟨(Nat.le_of_ble_eq_true rfl), (Nat.le_of_ble_eq_true rfl)⟩) (tq_recvC hK hW (by decide) (tq_mk_3 (by decide)) rfl) hK hG hW hS rfl hl.1 rfl (Nat.le_of_ble_eq_true rfl) dX6_readField_62 ⟨(Nat.le_of_ble_eq_true rfl), (Nat.le_of_ble_eq_true rfl)⟩ (fun S16 H locs h hW hS => ?_)
  refine lv_iload_n hx hb dX6_readField_65 rfl (lv_at hl 0 rfl) ?_
  refine lv_if_eq (tgt := 73) hx hb dX6_readField_66 (by decide) (fun c17 => ?_) (fun c17 => ?_)
  · have h := h.1 c17
    refine lv_iconst (v := 3) hx hb dX6_readField_73 (by decide) ?_
    exact bX6_readField_74 C  _ _ _ _ _ h hW hS (lv_sub hl [] rfl)
  · have h := h.2 c17
    refine lv_iconst (v := 1) hx hb dX6_readField_69 (by decide) ?_
    refine lv_goto (tgt := 74) hx hb dX6_readField_70 (by decide) ?_
    exact bX6_readField_74 C  _ _ _ _ _ h hW hS (lv_sub hl [] rfl)
set_option maxHeartbeats 4000000 in
set_option maxRecDepth 100000 in
theorem kX6_readField {post : tq_St → Int32 → Prop} {S : tq_St}  (h : wpX6_readField N post S ) : tq_sI l yX6_readField (tq_ws yX6_readField cX6_readField 2 (some .int)) 5 107 D cy z H0 ad N M S [.ref (ad 3 0)] post := by
  unfold wpX6_readField at h
  refine Met.ofW (cc := cX6_readField) (maxL := 2) (ret := (some .int)) (by decide) rfl ?_
  intro p e s m args below meth c s₁ B hml hv
  obtain ⟨rfl, hW, hK, hG⟩ := hv
  have hx := B.exec
  have hb := B.bytes
  have hr := B.returns
  have hts := atoms_spec (ws := (tq_ws yX6_readField cX6_readField 2 (some .int))) B.pre
  have hw : ∀ w ∈ tq_W, w.before _ s = true := fun w h => hts w (List.mem_cons_of_mem _ h)
  have hown : s.vm.findClass RX6 = some m.cls := findClass_of_methodNamed B.named
  have hlocks := B.notSynchronized
  have C : tq_At p s m meth c [.ref (ad 3 0)].toArray cX6_readField 2 ((some .int)) ((tq_ws yX6_readField cX6_readField 2 (some .int))) RX6 D cy z ad := ⟨hx, hb, hr, hml, hown, hts, hlocks, hK, hG⟩
  have hS : va_S (fun q => z ≤ q) s.heap s.heap [] := va_S.rf
  have hl := lv_entry ([.ref (ad 3 0)]) (n := 2) (Nat.le_of_ble_eq_true rfl)
  rw [lg_entry_eq]
  generalize (lg_sl ([.ref (ad 3 0)]) ++ List.replicate (2 - (lg_sl ([.ref (ad 3 0)])).length) Slot.unset).toArray = ls at hl ⊢
  have hl : lv_has ls 2 [(0, .ref (ad 3 0))] := hl
  have hW : tq_wd D cy z H0 ad N (tq_mix S M) s.heap := hW
  refine lv_aload_n hx hb dX6_readField_0 rfl (lv_at hl 0 rfl) ?_
  refine lv_bipush (v := 112) hx hb dX6_readField_1 (by decide) ?_
  refine tqc_callVi (As := [.int 112]) (rest := []) (kX6_takes h) ⟨hx, hb, hml, hown, hts⟩ (cwV 1 hts (tq_goodV tw_572 tw_574 tw_4 tw_119 tw_575) rfl rfl rfl (by decide +kernel) ⟨(Nat.le_of_ble_eq_true rfl), (Nat.le_of_ble_eq_true rfl)⟩) (tq_recvC hK hW (by decide) (tq_mk_3 (by decide)) rfl) hK hG hW hS rfl hl.1 rfl (Nat.le_of_ble_eq_true rfl) dX6_readField_3 ⟨(Nat.le_of_ble_eq_true rfl), (Nat.le_of_ble_eq_true rfl)⟩ (fun r2 S1 H locs h hW hS => ?_)
  refine lv_if_eq (tgt := 17) hx hb dX6_readField_6 (by decide) (fun c3 => ?_) (fun c3 => ?_)
  · have h := h.1 c3
    refine lv_aload_n hx hb dX6_readField_17 rfl (lv_at hl 0 rfl) ?_
    refine lv_bipush (v := 98) hx hb dX6_readField_18 (by decide) ?_
    refine tqc_callVi (As := [.int 98]) (rest := []) (kX6_takes h) ⟨hx, hb, hml, hown, hts⟩ (cwV 1 hts (tq_goodV tw_572 tw_574 tw_4 tw_119 tw_575) rfl rfl rfl (by decide +kernel) ⟨(Nat.le_of_ble_eq_true rfl), (Nat.le_of_ble_eq_true rfl)⟩) (tq_recvC hK hW (by decide) (tq_mk_3 (by decide)) rfl) hK hG hW hS rfl hl.1 rfl (Nat.le_of_ble_eq_true rfl) dX6_readField_20 ⟨(Nat.le_of_ble_eq_true rfl), (Nat.le_of_ble_eq_true rfl)⟩ (fun r5 S4 H locs h hW hS => ?_)
    refine lv_if_eq (tgt := 34) hx hb dX6_readField_23 (by decide) (fun c6 => ?_) (fun c6 => ?_)
    · have h := h.1 c6
      refine lv_aload_n hx hb dX6_readField_34 rfl (lv_at hl 0 rfl) ?_
      refine lv_bipush (v := 115) hx hb dX6_readField_35 (by decide) ?_
      refine tqc_callVi (As := [.int 115]) (rest := []) (kX6_takes h) ⟨hx, hb, hml, hown, hts⟩ (cwV 1 hts (tq_goodV tw_572 tw_574 tw_4 tw_119 tw_575) rfl rfl rfl (by decide +kernel) ⟨(Nat.le_of_ble_eq_true rfl), (Nat.le_of_ble_eq_true rfl)⟩) (tq_recvC hK hW (by decide) (tq_mk_3 (by decide)) rfl) hK hG hW hS rfl hl.1 rfl (Nat.le_of_ble_eq_true rfl) dX6_readField_37 ⟨(Nat.le_of_ble_eq_true rfl), (Nat.le_of_ble_eq_true rfl)⟩ (fun r8 S7 H locs h hW hS => ?_)
      refine lv_if_eq (tgt := 75) hx hb dX6_readField_40 (by decide) (fun c9 => ?_) (fun c9 => ?_)
      · have h := h.1 c9
        refine lv_aload_n hx hb dX6_readField_75 rfl (lv_at hl 0 rfl) ?_
        refine va_ldcS hx hb hown (hG.2.1 ("TwoSeas$Reader", 122, "day", 15) (by decide)) dX6_readField_76 ?_
        refine tqc_callVv (As := [.ref (ad 61 15)]) (rest := []) (kX6_expect h) ⟨hx, hb, hml, hown, hts⟩ (cwV 1 hts (tq_goodV tw_577 tw_579 tw_5 tw_119 tw_580) rfl rfl rfl (by decide +kernel) ⟨(Nat.le_of_ble_eq_true rfl), (Nat.le_of_ble_eq_true rfl)⟩) (tq_recvC hK hW (by decide) (tq_mk_3 (by decide)) rfl) hK hG hW hS rfl hl.1 rfl (Nat.le_of_ble_eq_true rfl) dX6_readField_78 ⟨(Nat.le_of_ble_eq_true rfl), (Nat.le_of_ble_eq_true rfl)⟩ (fun S10 H locs h hW hS => ?_)
        refine lv_iconst (v := 4) hx hb dX6_readField_81 (by decide) ?_
        exact W.iret (v := 4) hx hb hr (fun t ht hWm => ⟨⟨_, S10, rfl, h, tq_pe ht hW⟩, hS.F ht⟩) hS.2.2 dX6_readField_82
      · have h := h.2 c9
        refine lv_aload_n hx hb dX6_readField_43 rfl (lv_at hl 0 rfl) ?_
        refine lv_bipush (v := 116) hx hb dX6_readField_44 (by decide) ?_
        refine tqc_callVi (As := [.int 116]) (rest := []) (kX6_takes h) ⟨hx, hb, hml, hown, hts⟩ (cwV 1 hts (tq_goodV tw_572 tw_574 tw_4 tw_119 tw_575) rfl rfl rfl (by decide +kernel) ⟨(Nat.le_of_ble_eq_true rfl), (Nat.le_of_ble_eq_true rfl)⟩) (tq_recvC hK hW (by decide) (tq_mk_3 (by decide)) rfl) hK hG hW hS rfl hl.1 rfl (Nat.le_of_ble_eq_true rfl) dX6_readField_46 ⟨(Nat.le_of_ble_eq_true rfl), (Nat.le_of_ble_eq_true rfl)⟩ (fun r12 S11 H locs h hW hS => ?_)
        refine lv_istore_n (lv' := [(1, .int r12), (0, .ref (ad 3 0))]) hx hb dX6_readField_49 rfl hl (by decide) rfl (fun ls hl => ?_)
        refine lv_aload_n hx hb dX6_readField_50 rfl (lv_at hl 1 rfl) ?_
        refine lv_iload_n hx hb dX6_readField_51 rfl (lv_at hl 0 rfl) ?_
        refine lv_if_eq (tgt := 60) hx hb dX6_readField_52 (by decide) (fun c13 => ?_) (fun c13 => ?_)
        · have h := h.1 c13
          refine va_ldcS hx hb hown (hG.2.1 ("TwoSeas$Reader", 120, "hips", 14) (by decide)) dX6_readField_60 ?_
          exact bX6_readField_62 C  _ _ _ _ _ _ h hW hS (lv_sub hl [0] rfl)
        · have h := h.2 c13
          refine va_ldcS hx hb hown (hG.2.1 ("TwoSeas$Reader", 118, "ock", 13) (by decide)) dX6_readField_55 ?_
          refine lv_goto (tgt := 62) hx hb dX6_readField_57 (by decide) ?_
          exact bX6_readField_62 C  _ _ _ _ _ _ h hW hS (lv_sub hl [0] rfl)
    · have h := h.2 c6
      refine lv_aload_n hx hb dX6_readField_26 rfl (lv_at hl 0 rfl) ?_
      refine va_ldcS hx hb hown (hG.2.1 ("TwoSeas$Reader", 116, "ullion", 12) (by decide)) dX6_readField_27 ?_
      refine tqc_callVv (As := [.ref (ad 61 12)]) (rest := []) (kX6_expect h) ⟨hx, hb, hml, hown, hts⟩ (cwV 1 hts (tq_goodV tw_577 tw_579 tw_5 tw_119 tw_580) rfl rfl rfl (by decide +kernel) ⟨(Nat.le_of_ble_eq_true rfl), (Nat.le_of_ble_eq_true rfl)⟩) (tq_recvC hK hW (by decide) (tq_mk_3 (by decide)) rfl) hK hG hW hS rfl hl.1 rfl (Nat.le_of_ble_eq_true rfl) dX6_readField_29 ⟨(Nat.le_of_ble_eq_true rfl), (Nat.le_of_ble_eq_true rfl)⟩ (fun S14 H locs h hW hS => ?_)
      refine lv_iconst (v := 2) hx hb dX6_readField_32 (by decide) ?_
      exact W.iret (v := 2) hx hb hr (fun t ht hWm => ⟨⟨_, S14, rfl, h, tq_pe ht hW⟩, hS.F ht⟩) hS.2.2 dX6_readField_33
  · have h := h.2 c3
    refine lv_aload_n hx hb dX6_readField_9 rfl (lv_at hl 0 rfl) ?_
    refine va_ldcS hx hb hown (hG.2.1 ("TwoSeas$Reader", 114, "rice", 11) (by decide)) dX6_readField_10 ?_
    refine tqc_callVv (As := [.ref (ad 61 11)]) (rest := []) (kX6_expect h) ⟨hx, hb, hml, hown, hts⟩ (cwV 1 hts (tq_goodV tw_577 tw_579 tw_5 tw_119 tw_580) rfl rfl rfl (by decide +kernel) ⟨(Nat.le_of_ble_eq_true rfl), (Nat.le_of_ble_eq_true rfl)⟩) (tq_recvC hK hW (by decide) (tq_mk_3 (by decide)) rfl) hK hG hW hS rfl hl.1 rfl (Nat.le_of_ble_eq_true rfl) dX6_readField_12 ⟨(Nat.le_of_ble_eq_true rfl), (Nat.le_of_ble_eq_true rfl)⟩ (fun S15 H locs h hW hS => ?_)
    refine lv_iconst (v := 0) hx hb dX6_readField_15 (by decide) ?_
    exact W.iret (v := 0) hx hb hr (fun t ht hWm => ⟨⟨_, S15, rfl, h, tq_pe ht hW⟩, hS.F ht⟩) hS.2.2 dX6_readField_16
-- X6 readSign
def wpX6_readSign (N : tq_Nn) (post : tq_St → Int32 → Prop) (S : tq_St)  : Prop :=
  wpX6_takes N (fun S1 r2 => (r2 = 0 → (wpX6_takes N (fun S4 r5 => (r5 = 0 → (wpX6_expect N (fun S7 => post S7 0) S4 16)) ∧ (¬ r5 = 0 → (post S4 1))) S1 62)) ∧ (¬ r2 = 0 → (post S1 ((-1))))) S 60
set_option maxHeartbeats 4000000 in
set_option maxRecDepth 100000 in
theorem kX6_readSign {post : tq_St → Int32 → Prop} {S : tq_St}  (h : wpX6_readSign N post S ) : tq_sI l yX6_readSign (tq_ws yX6_readSign cX6_readSign 1 (some .int)) 5 107 D cy z H0 ad N M S [.ref (ad 3 0)] post := by
  unfold wpX6_readSign at h
  refine Met.ofW (cc := cX6_readSign) (maxL := 1) (ret := (some .int)) (by decide) rfl ?_
  intro p e s m args below meth c s₁ B hml hv
  obtain ⟨rfl, hW, hK, hG⟩ := hv
  have hx := B.exec
  have hb := B.bytes
  have hr := B.returns
  have hts := atoms_spec (ws := (tq_ws yX6_readSign cX6_readSign 1 (some .int))) B.pre
  have hw : ∀ w ∈ tq_W, w.before _ s = true := fun w h => hts w (List.mem_cons_of_mem _ h)
  have hown : s.vm.findClass RX6 = some m.cls := findClass_of_methodNamed B.named
  have hlocks := B.notSynchronized
  have C : tq_At p s m meth c [.ref (ad 3 0)].toArray cX6_readSign 1 ((some .int)) ((tq_ws yX6_readSign cX6_readSign 1 (some .int))) RX6 D cy z ad := ⟨hx, hb, hr, hml, hown, hts, hlocks, hK, hG⟩
  have hS : va_S (fun q => z ≤ q) s.heap s.heap [] := va_S.rf
  have hl := lv_entry ([.ref (ad 3 0)]) (n := 1) (Nat.le_of_ble_eq_true rfl)
  rw [lg_entry_eq]
  generalize (lg_sl ([.ref (ad 3 0)]) ++ List.replicate (1 - (lg_sl ([.ref (ad 3 0)])).length) Slot.unset).toArray = ls at hl ⊢
  have hl : lv_has ls 1 [(0, .ref (ad 3 0))] := hl
  have hW : tq_wd D cy z H0 ad N (tq_mix S M) s.heap := hW
  refine lv_aload_n hx hb dX6_readSign_0 rfl (lv_at hl 0 rfl) ?_
  refine lv_bipush (v := 60) hx hb dX6_readSign_1 (by decide) ?_
  refine tqc_callVi (As := [.int 60]) (rest := []) (kX6_takes h) ⟨hx, hb, hml, hown, hts⟩ (cwV 1 hts (tq_goodV tw_572 tw_574 tw_4 tw_119 tw_575) rfl rfl rfl (by decide +kernel) ⟨(Nat.le_of_ble_eq_true rfl), (Nat.le_of_ble_eq_true rfl)⟩) (tq_recvC hK hW (by decide) (tq_mk_3 (by decide)) rfl) hK hG hW hS rfl hl.1 rfl (Nat.le_of_ble_eq_true rfl) dX6_readSign_3 ⟨(Nat.le_of_ble_eq_true rfl), (Nat.le_of_ble_eq_true rfl)⟩ (fun r2 S1 H locs h hW hS => ?_)
  refine lv_if_eq (tgt := 11) hx hb dX6_readSign_6 (by decide) (fun c3 => ?_) (fun c3 => ?_)
  · have h := h.1 c3
    refine lv_aload_n hx hb dX6_readSign_11 rfl (lv_at hl 0 rfl) ?_
    refine lv_bipush (v := 62) hx hb dX6_readSign_12 (by decide) ?_
    refine tqc_callVi (As := [.int 62]) (rest := []) (kX6_takes h) ⟨hx, hb, hml, hown, hts⟩ (cwV 1 hts (tq_goodV tw_572 tw_574 tw_4 tw_119 tw_575) rfl rfl rfl (by decide +kernel) ⟨(Nat.le_of_ble_eq_true rfl), (Nat.le_of_ble_eq_true rfl)⟩) (tq_recvC hK hW (by decide) (tq_mk_3 (by decide)) rfl) hK hG hW hS rfl hl.1 rfl (Nat.le_of_ble_eq_true rfl) dX6_readSign_14 ⟨(Nat.le_of_ble_eq_true rfl), (Nat.le_of_ble_eq_true rfl)⟩ (fun r5 S4 H locs h hW hS => ?_)
    refine lv_if_eq (tgt := 22) hx hb dX6_readSign_17 (by decide) (fun c6 => ?_) (fun c6 => ?_)
    · have h := h.1 c6
      refine lv_aload_n hx hb dX6_readSign_22 rfl (lv_at hl 0 rfl) ?_
      refine va_ldcS hx hb hown (hG.2.1 ("TwoSeas$Reader", 124, "=", 16) (by decide)) dX6_readSign_23 ?_
      refine tqc_callVv (As := [.ref (ad 61 16)]) (rest := []) (kX6_expect h) ⟨hx, hb, hml, hown, hts⟩ (cwV 1 hts (tq_goodV tw_577 tw_579 tw_5 tw_119 tw_580) rfl rfl rfl (by decide +kernel) ⟨(Nat.le_of_ble_eq_true rfl), (Nat.le_of_ble_eq_true rfl)⟩) (tq_recvC hK hW (by decide) (tq_mk_3 (by decide)) rfl) hK hG hW hS rfl hl.1 rfl (Nat.le_of_ble_eq_true rfl) dX6_readSign_25 ⟨(Nat.le_of_ble_eq_true rfl), (Nat.le_of_ble_eq_true rfl)⟩ (fun S7 H locs h hW hS => ?_)
      refine lv_iconst (v := 0) hx hb dX6_readSign_28 (by decide) ?_
      exact W.iret (v := 0) hx hb hr (fun t ht hWm => ⟨⟨_, S7, rfl, h, tq_pe ht hW⟩, hS.F ht⟩) hS.2.2 dX6_readSign_29
    · have h := h.2 c6
      refine lv_iconst (v := 1) hx hb dX6_readSign_20 (by decide) ?_
      exact W.iret (v := 1) hx hb hr (fun t ht hWm => ⟨⟨_, S4, rfl, h, tq_pe ht hW⟩, hS.F ht⟩) hS.2.2 dX6_readSign_21
  · have h := h.2 c3
    refine lv_iconst (v := (-1)) hx hb dX6_readSign_9 (by decide) ?_
    exact W.iret (v := (-1)) hx hb hr (fun t ht hWm => ⟨⟨_, S1, rfl, h, tq_pe ht hW⟩, hS.F ht⟩) hS.2.2 dX6_readSign_10
-- X11 holds
def wbX11_holds_45 (N : tq_Nn) (post : tq_St → Int32 → Prop)  (S : tq_St) (y0 : Int32) : Prop :=
  post S y0
def wpX11_holds (N : tq_Nn) (post : tq_St → Int32 → Prop) (S : tq_St) (p0 : Int32) (p1 : Int32) : Prop :=
  wpX11_isInForce N (fun S1 r2 => (¬ r2 = 0 → (vp_in p0 5 ∧ (tq_gok N S1 38 39 p0.toNatClampNeg p1 ∧ (N 10 (tq_el S1 38 39 p0.toNatClampNeg p1) = 1 ∧ (wpX11_testsHold N (fun S9 r10 => (r10 = 0 → (wbX11_holds_45 N post S9 0)) ∧ (¬ r10 = 0 → (wbX11_holds_45 N post S9 1))) S1 (tq_el S1 38 39 p0.toNatClampNeg p1) p0.toNatClampNeg))))) ∧ (r2 = 0 → (post S1 ((-1))))) S p0 p1
set_option maxHeartbeats 4000000 in
set_option maxRecDepth 100000 in
theorem bX11_holds_45 {p : Program} {e : Env} {s : State} {m : MethodId} {args : Array Value} {below : List Frame} {meth : Method} {c : Code} {post : tq_St → Int32 → Prop} (C : tq_At p s m meth c args cX11_holds 3 ((some .int)) ((tq_ws yX11_holds cX11_holds 3 (some .int))) RX11 D cy z ad)  : ∀ (S : tq_St) (y0 : Int32) (H : Heap) (locs : List Loc) (ls : Array Slot), wbX11_holds_45 N post   S y0 → tq_wd D cy z H0 ad N (tq_mix S M) H → va_S (fun q => z ≤ q) s.heap H locs → lv_has ls 3 [] → W p l e (tq_rm 6 134) s m args below meth c H locs 0 0 (MQ below (va_Qi (fun r u => post u r) (fun u => tq_P D cy z H0 ad N u M) (fun q => z ≤ q)) args s 0 0 (fun q => z ≤ q)) (F0 m 45 ls [.int y0]) := by
  obtain ⟨hx, hb, hr, hml, hown, hts, hlocks, hK, hG⟩ := id C
  have hw : ∀ w ∈ tq_W, w.before args s = true := fun w h => hts w (List.mem_cons_of_mem _ h)
  intro S y0 H locs ls h hW hS hl
  unfold wbX11_holds_45 at h
  exact W.iret (v := y0) hx hb hr (fun t ht hWm => ⟨⟨_, S, rfl, h, tq_pe ht hW⟩, hS.F ht⟩) hS.2.2 dX11_holds_45
set_option maxHeartbeats 4000000 in
set_option maxRecDepth 100000 in
theorem kX11_holds {post : tq_St → Int32 → Prop} {S : tq_St} {p0 : Int32} {p1 : Int32} (h : wpX11_holds N post S p0 p1) : tq_sI l yX11_holds (tq_ws yX11_holds cX11_holds 3 (some .int)) 6 134 D cy z H0 ad N M S [.ref (ad 1 0), .int p0, .int p1] post := by
  unfold wpX11_holds at h
  refine Met.ofW (cc := cX11_holds) (maxL := 3) (ret := (some .int)) (by decide) rfl ?_
  intro p e s m args below meth c s₁ B hml hv
  obtain ⟨rfl, hW, hK, hG⟩ := hv
  have hx := B.exec
  have hb := B.bytes
  have hr := B.returns
  have hts := atoms_spec (ws := (tq_ws yX11_holds cX11_holds 3 (some .int))) B.pre
  have hw : ∀ w ∈ tq_W, w.before _ s = true := fun w h => hts w (List.mem_cons_of_mem _ h)
  have hown : s.vm.findClass RX11 = some m.cls := findClass_of_methodNamed B.named
  have hlocks := B.notSynchronized
  have C : tq_At p s m meth c [.ref (ad 1 0), .int p0, .int p1].toArray cX11_holds 3 ((some .int)) ((tq_ws yX11_holds cX11_holds 3 (some .int))) RX11 D cy z ad := ⟨hx, hb, hr, hml, hown, hts, hlocks, hK, hG⟩
  have hS : va_S (fun q => z ≤ q) s.heap s.heap [] := va_S.rf
  have hl := lv_entry ([.ref (ad 1 0), .int p0, .int p1]) (n := 3) (Nat.le_of_ble_eq_true rfl)
  rw [lg_entry_eq]
  generalize (lg_sl ([.ref (ad 1 0), .int p0, .int p1]) ++ List.replicate (3 - (lg_sl ([.ref (ad 1 0), .int p0, .int p1])).length) Slot.unset).toArray = ls at hl ⊢
  have hl : lv_has ls 3 [(0, .ref (ad 1 0)), (1, .int p0), (2, .int p1)] := hl
  have hW : tq_wd D cy z H0 ad N (tq_mix S M) s.heap := hW
  refine lv_aload_n hx hb dX11_holds_0 rfl (lv_at hl 0 rfl) ?_
  refine lv_iload_n hx hb dX11_holds_1 rfl (lv_at hl 1 rfl) ?_
  refine lv_iload_n hx hb dX11_holds_2 rfl (lv_at hl 2 rfl) ?_
  refine tqc_callVi (As := [.int p0, .int p1]) (rest := []) (kX11_isInForce h) ⟨hx, hb, hml, hown, hts⟩ (cwV 2 hts (tq_goodV tw_862 tw_864 tw_20 tw_115 tw_865) rfl rfl rfl (by decide +kernel) ⟨(Nat.le_of_ble_eq_true rfl), (Nat.le_of_ble_eq_true rfl)⟩) (tq_recvC hK hW (by decide) (tq_mk_1 (by decide)) rfl) hK hG hW hS rfl hl.1 rfl (Nat.le_of_ble_eq_true rfl) dX11_holds_3 ⟨(Nat.le_of_ble_eq_true rfl), (Nat.le_of_ble_eq_true rfl)⟩ (fun r2 S1 H locs h hW hS => ?_)
  refine lv_if_ne (tgt := 11) hx hb dX11_holds_6 (by decide) (fun c3 => ?_) (fun c3 => ?_)
  · have h := h.1 c3
    refine lv_aload_n hx hb dX11_holds_11 rfl (lv_at hl 0 rfl) ?_
    refine lv_aload_n hx hb dX11_holds_12 rfl (lv_at hl 0 rfl) ?_
    refine tqc_get (v := .ref (ad 12 0)) hx hb hw tq_inX11 hown hK hW (by decide) (tq_mk_1 (by decide)) rfl 1 (by decide) (hw _ tw_338) (fun _ h9 => h9) rfl dX11_holds_13 ?_
    refine lv_iload_n hx hb dX11_holds_16 rfl (lv_at hl 1 rfl) ?_
    obtain ⟨b4, h⟩ := h
    refine tqc_aald (jn := p0.toNatClampNeg) (v := .ref (ad 2 p0.toNatClampNeg)) hx hb hK hW (by decide) (tq_mk_12 (by decide)) 3 rfl rfl b4 rfl rfl dX11_holds_17 ?_
    refine tqc_get (v := .ref (ad 38 p0.toNatClampNeg)) hx hb hw tq_inX5 hown hK hW (by decide) (tq_mk_2 (tq_lt b4)) rfl 13 (by decide) (hw _ tw_277) (fun _ h9 => h9) rfl dX11_holds_18 ?_
    refine lv_iload_n hx hb dX11_holds_21 rfl (lv_at hl 2 rfl) ?_
    obtain ⟨b7, h⟩ := h
    refine tqc_callVr (kr := 10) (As := [.int p1]) (rest := [.ref (ad 1 0)]) (kJl_get (kd := 39) (post := fun u i => u = S1 ∧ i = tq_el S1 38 39 p0.toNatClampNeg p1) (by decide) (by decide) (tq_mk_38 (tq_lt b4)) (fun q9 => tq_mk_39 q9) b7 ⟨rfl, rfl⟩) ⟨hx, hb, hml, hown, hts⟩ (cwV 1 hts (tq_goodV tw_827 tw_828 tw_829 tw_118 tw_830) rfl rfl rfl (by decide +kernel) ⟨(Nat.le_of_ble_eq_true rfl), (Nat.le_of_ble_eq_true rfl)⟩) (tq_recvL hK hW (by decide) (tq_mk_38 (tq_lt b4))) hK hG hW hS rfl hl.1 rfl (Nat.le_of_ble_eq_true rfl) dX11_holds_22 ⟨(Nat.le_of_ble_eq_true rfl), (Nat.le_of_ble_eq_true rfl)⟩ (fun i6 S5 H locs q9 hW hS => ?_)
    rw [q9.1] at hW
    rw [q9.2]
    obtain ⟨b8, h⟩ := h
    refine va_castS hx hb hown (hw _ tw_866) (hK.1 5 _ rfl).2 (tq_recvC hK hW (by decide) (tq_mk_10 b8) rfl) dX11_holds_25 ?_
    refine lv_aload_n hx hb dX11_holds_28 rfl (lv_at hl 0 rfl) ?_
    refine tqc_get (v := .ref (ad 12 0)) hx hb hw tq_inX11 hown hK hW (by decide) (tq_mk_1 (by decide)) rfl 1 (by decide) (hw _ tw_338) (fun _ h9 => h9) rfl dX11_holds_29 ?_
    refine lv_iload_n hx hb dX11_holds_32 rfl (lv_at hl 1 rfl) ?_
    refine tqc_aald (jn := p0.toNatClampNeg) (v := .ref (ad 2 p0.toNatClampNeg)) hx hb hK hW (by decide) (tq_mk_12 (by decide)) 3 rfl rfl b4 rfl rfl dX11_holds_33 ?_
    refine tqc_callVi (As := [.ref (ad 10 (tq_el S1 38 39 p0.toNatClampNeg p1)), .ref (ad 2 p0.toNatClampNeg)]) (rest := []) (kX11_testsHold h) ⟨hx, hb, hml, hown, hts⟩ (cwV 2 hts (tq_goodV tw_871 tw_873 tw_21 tw_115 tw_874) rfl rfl rfl (by decide +kernel) ⟨(Nat.le_of_ble_eq_true rfl), (Nat.le_of_ble_eq_true rfl)⟩) (tq_recvC hK hW (by decide) (tq_mk_1 (by decide)) rfl) hK hG hW hS rfl hl.1 rfl (Nat.le_of_ble_eq_true rfl) dX11_holds_34 ⟨(Nat.le_of_ble_eq_true rfl), (Nat.le_of_ble_eq_true rfl)⟩ (fun r10 S9 H locs h hW hS => ?_)
    refine lv_if_eq (tgt := 44) hx hb dX11_holds_37 (by decide) (fun c11 => ?_) (fun c11 => ?_)
    · have h := h.1 c11
      refine lv_iconst (v := 0) hx hb dX11_holds_44 (by decide) ?_
      exact bX11_holds_45 C  _ _ _ _ _ h hW hS (lv_sub hl [] rfl)
    · have h := h.2 c11
      refine lv_iconst (v := 1) hx hb dX11_holds_40 (by decide) ?_
      refine lv_goto (tgt := 45) hx hb dX11_holds_41 (by decide) ?_
      exact bX11_holds_45 C  _ _ _ _ _ h hW hS (lv_sub hl [] rfl)
  · have h := h.2 c3
    refine lv_iconst (v := (-1)) hx hb dX11_holds_9 (by decide) ?_
    exact W.iret (v := (-1)) hx hb hr (fun t ht hWm => ⟨⟨_, S1, rfl, h, tq_pe ht hW⟩, hS.F ht⟩) hS.2.2 dX11_holds_10
-- X11 buyBales
def wbX11_buyBales_56 (N : tq_Nn) (post : tq_St → Prop)  (S : tq_St) : Prop :=
  post S
def wpX11_buyBales (N : tq_Nn) (post : tq_St → Prop) (S : tq_St) (p0 : Nat) (p1 : Nat) : Prop :=
  p1 < 5 ∧ (N 10 p0 = 1 ∧ (vp_in (S 10 p0 3) 4 ∧ (wpX5_purchase N (fun S4 r5 => vp_in (S4 10 p0 3) 4 ∧ ((((S4 30 p1 ((S4 10 p0 3).toNatClampNeg)) - (S 30 p1 ((S 10 p0 3).toNatClampNeg))) ≤ 0 → (wbX11_buyBales_56 N post S4 )) ∧ (¬ ((S4 30 p1 ((S4 10 p0 3).toNatClampNeg)) - (S 30 p1 ((S 10 p0 3).toNatClampNeg))) ≤ 0 → (wpX11_enterFor N (fun S8 => wbX11_buyBales_56 N post S8 ) S4 p0 p1 ((S4 30 p1 ((S4 10 p0 3).toNatClampNeg)) - (S 30 p1 ((S 10 p0 3).toNatClampNeg))) r5)))) S p1 (S 10 p0 3) (S 10 p0 4) (S 2 p1 8))))
set_option maxHeartbeats 4000000 in
set_option maxRecDepth 100000 in
theorem bX11_buyBales_56 {p : Program} {e : Env} {s : State} {m : MethodId} {args : Array Value} {below : List Frame} {meth : Method} {c : Code} {post : tq_St → Prop} (C : tq_At p s m meth c args cX11_buyBales 6 (none) ((tq_ws yX11_buyBales cX11_buyBales 6 none)) RX11 D cy z ad)  : ∀ (S : tq_St)  (H : Heap) (locs : List Loc) (ls : Array Slot), wbX11_buyBales_56 N post   S  → tq_wd D cy z H0 ad N (tq_mix S M) H → va_S (fun q => z ≤ q) s.heap H locs → lv_has ls 6 [] → W p l e (tq_rm 2 52) s m args below meth c H locs 0 0 (MQ below (va_Qv (fun u => post u) (fun u => tq_P D cy z H0 ad N u M) (fun q => z ≤ q)) args s 0 0 (fun q => z ≤ q)) (F0 m 56 ls []) := by
  obtain ⟨hx, hb, hr, hml, hown, hts, hlocks, hK, hG⟩ := id C
  have hw : ∀ w ∈ tq_W, w.before args s = true := fun w h => hts w (List.mem_cons_of_mem _ h)
  intro S  H locs ls h hW hS hl
  unfold wbX11_buyBales_56 at h
  exact W.vret hx hb hr (fun t ht hWm => ⟨⟨S, rfl, h, tq_pe ht hW⟩, hS.F ht⟩) hS.2.2 dX11_buyBales_56
set_option maxHeartbeats 4000000 in
set_option maxRecDepth 100000 in
theorem kX11_buyBales {post : tq_St → Prop} {S : tq_St} {p0 : Nat} {p1 : Nat} (h : wpX11_buyBales N post S p0 p1) : tq_sV l yX11_buyBales (tq_ws yX11_buyBales cX11_buyBales 6 none) 2 52 D cy z H0 ad N M S [.ref (ad 1 0), .ref (ad 10 p0), .ref (ad 2 p1)] post := by
  unfold wpX11_buyBales at h
  refine Met.ofW (cc := cX11_buyBales) (maxL := 6) (ret := none) (by decide) rfl ?_
  intro p e s m args below meth c s₁ B hml hv
  obtain ⟨rfl, hW, hK, hG⟩ := hv
  have hx := B.exec
  have hb := B.bytes
  have hr := B.returns
  have hts := atoms_spec (ws := (tq_ws yX11_buyBales cX11_buyBales 6 none)) B.pre
  have hw : ∀ w ∈ tq_W, w.before _ s = true := fun w h => hts w (List.mem_cons_of_mem _ h)
  have hown : s.vm.findClass RX11 = some m.cls := findClass_of_methodNamed B.named
  have hlocks := B.notSynchronized
  have C : tq_At p s m meth c [.ref (ad 1 0), .ref (ad 10 p0), .ref (ad 2 p1)].toArray cX11_buyBales 6 (none) ((tq_ws yX11_buyBales cX11_buyBales 6 none)) RX11 D cy z ad := ⟨hx, hb, hr, hml, hown, hts, hlocks, hK, hG⟩
  have hS : va_S (fun q => z ≤ q) s.heap s.heap [] := va_S.rf
  have hl := lv_entry ([.ref (ad 1 0), .ref (ad 10 p0), .ref (ad 2 p1)]) (n := 6) (Nat.le_of_ble_eq_true rfl)
  rw [lg_entry_eq]
  generalize (lg_sl ([.ref (ad 1 0), .ref (ad 10 p0), .ref (ad 2 p1)]) ++ List.replicate (6 - (lg_sl ([.ref (ad 1 0), .ref (ad 10 p0), .ref (ad 2 p1)])).length) Slot.unset).toArray = ls at hl ⊢
  have hl : lv_has ls 6 [(0, .ref (ad 1 0)), (1, .ref (ad 10 p0)), (2, .ref (ad 2 p1))] := hl
  have hW : tq_wd D cy z H0 ad N (tq_mix S M) s.heap := hW
  refine lv_aload_n hx hb dX11_buyBales_0 rfl (lv_at hl 2 rfl) ?_
  obtain ⟨b1, h⟩ := h
  refine tqc_get (v := .ref (ad 30 p1)) hx hb hw tq_inX5 hown hK hW (by decide) (tq_mk_2 b1) rfl 2 (by decide) (hw _ tw_258) (fun _ h9 => h9) rfl dX11_buyBales_1 ?_
  refine lv_aload_n hx hb dX11_buyBales_4 rfl (lv_at hl 1 rfl) ?_
  obtain ⟨b2, h⟩ := h
  refine tqc_get (v := .int (S 10 p0 3)) hx hb hw tq_inX4 hown hK hW (by decide) (tq_mk_10 b2) rfl 3 (by decide) (hw _ tw_669) (fun _ h9 => h9) rfl dX11_buyBales_5 ?_
  obtain ⟨b3, h⟩ := h
  refine tqc_iald (jn := (S 10 p0 3).toNatClampNeg) hx hb hK hW (by decide) (tq_mk_30 b1) b3 rfl dX11_buyBales_8 ?_
  refine lv_istore_n (lv' := [(3, .int (S 30 p1 ((S 10 p0 3).toNatClampNeg))), (0, .ref (ad 1 0)), (1, .ref (ad 10 p0)), (2, .ref (ad 2 p1))]) hx hb dX11_buyBales_9 rfl hl (by decide) rfl (fun ls hl => ?_)
  refine lv_aload_n hx hb dX11_buyBales_10 rfl (lv_at hl 3 rfl) ?_
  refine lv_aload_n hx hb dX11_buyBales_11 rfl (lv_at hl 2 rfl) ?_
  refine tqc_get (v := .int (S 10 p0 3)) hx hb hw tq_inX4 hown hK hW (by decide) (tq_mk_10 b2) rfl 3 (by decide) (hw _ tw_669) (fun _ h9 => h9) rfl dX11_buyBales_12 ?_
  refine lv_aload_n hx hb dX11_buyBales_15 rfl (lv_at hl 2 rfl) ?_
  refine tqc_get (v := .int (S 10 p0 4)) hx hb hw tq_inX4 hown hK hW (by decide) (tq_mk_10 b2) rfl 4 (by decide) (hw _ tw_671) (fun _ h9 => h9) rfl dX11_buyBales_16 ?_
  refine lv_aload_n hx hb dX11_buyBales_19 rfl (lv_at hl 3 rfl) ?_
  refine tqc_get (v := .int (S 2 p1 8)) hx hb hw tq_inX5 hown hK hW (by decide) (tq_mk_2 b1) rfl 8 (by decide) (hw _ tw_268) (fun _ h9 => h9) rfl dX11_buyBales_20 ?_
  refine tqc_callVi (As := [.int (S 10 p0 3), .int (S 10 p0 4), .int (S 2 p1 8)]) (rest := []) (kX5_purchase h) ⟨hx, hb, hml, hown, hts⟩ (cwV 3 hts (tq_goodV tw_1144 tw_1145 tw_1146 tw_122 tw_1147) rfl rfl rfl (by decide +kernel) ⟨(Nat.le_of_ble_eq_true rfl), (Nat.le_of_ble_eq_true rfl)⟩) (tq_recvC hK hW (by decide) (tq_mk_2 b1) rfl) hK hG hW hS rfl hl.1 rfl (Nat.le_of_ble_eq_true rfl) dX11_buyBales_23 ⟨(Nat.le_of_ble_eq_true rfl), (Nat.le_of_ble_eq_true rfl)⟩ (fun r5 S4 H locs h hW hS => ?_)
  refine lv_istore (lv' := [(4, .int r5), (3, .int (S 30 p1 ((S 10 p0 3).toNatClampNeg))), (0, .ref (ad 1 0)), (1, .ref (ad 10 p0)), (2, .ref (ad 2 p1))]) hx hb dX11_buyBales_26 hl (by decide) rfl (fun ls hl => ?_)
  refine lv_aload_n hx hb dX11_buyBales_28 rfl (lv_at hl 4 rfl) ?_
  refine tqc_get (v := .ref (ad 30 p1)) hx hb hw tq_inX5 hown hK hW (by decide) (tq_mk_2 b1) rfl 2 (by decide) (hw _ tw_258) (fun _ h9 => h9) rfl dX11_buyBales_29 ?_
  refine lv_aload_n hx hb dX11_buyBales_32 rfl (lv_at hl 3 rfl) ?_
  refine tqc_get (v := .int (S4 10 p0 3)) hx hb hw tq_inX4 hown hK hW (by decide) (tq_mk_10 b2) rfl 3 (by decide) (hw _ tw_669) (fun _ h9 => h9) rfl dX11_buyBales_33 ?_
  obtain ⟨b6, h⟩ := h
  refine tqc_iald (jn := (S4 10 p0 3).toNatClampNeg) hx hb hK hW (by decide) (tq_mk_30 b1) b6 rfl dX11_buyBales_36 ?_
  refine lv_iload_n hx hb dX11_buyBales_37 rfl (lv_at hl 1 rfl) ?_
  refine lv_isub hx hb dX11_buyBales_38 ?_
  refine lv_istore (lv' := [(5, .int ((S4 30 p1 ((S4 10 p0 3).toNatClampNeg)) - (S 30 p1 ((S 10 p0 3).toNatClampNeg)))), (4, .int r5), (3, .int (S 30 p1 ((S 10 p0 3).toNatClampNeg))), (0, .ref (ad 1 0)), (1, .ref (ad 10 p0)), (2, .ref (ad 2 p1))]) hx hb dX11_buyBales_39 hl (by decide) rfl (fun ls hl => ?_)
  refine lv_iload hx hb dX11_buyBales_41 (lv_at hl 0 rfl) ?_
  refine lv_if_le (tgt := 56) hx hb dX11_buyBales_43 (by decide) (fun c7 => ?_) (fun c7 => ?_)
  · have h := h.1 c7
    exact bX11_buyBales_56 C  _  _ _ _ h hW hS (lv_sub hl [] rfl)
  · have h := h.2 c7
    refine lv_aload_n hx hb dX11_buyBales_46 rfl (lv_at hl 3 rfl) ?_
    refine lv_aload_n hx hb dX11_buyBales_47 rfl (lv_at hl 4 rfl) ?_
    refine lv_aload_n hx hb dX11_buyBales_48 rfl (lv_at hl 5 rfl) ?_
    refine lv_iload hx hb dX11_buyBales_49 (lv_at hl 0 rfl) ?_
    refine lv_iload hx hb dX11_buyBales_51 (lv_at hl 1 rfl) ?_
    refine tqc_callVv (As := [.ref (ad 10 p0), .ref (ad 2 p1), .int ((S4 30 p1 ((S4 10 p0 3).toNatClampNeg)) - (S 30 p1 ((S 10 p0 3).toNatClampNeg))), .int r5]) (rest := []) (kX11_enterFor h) ⟨hx, hb, hml, hown, hts⟩ (cwV 4 hts (tq_goodV tw_1149 tw_1151 tw_38 tw_115 tw_1152) rfl rfl rfl (by decide +kernel) ⟨(Nat.le_of_ble_eq_true rfl), (Nat.le_of_ble_eq_true rfl)⟩) (tq_recvC hK hW (by decide) (tq_mk_1 (by decide)) rfl) hK hG hW hS rfl hl.1 rfl (Nat.le_of_ble_eq_true rfl) dX11_buyBales_53 ⟨(Nat.le_of_ble_eq_true rfl), (Nat.le_of_ble_eq_true rfl)⟩ (fun S8 H locs h hW hS => ?_)
    exact bX11_buyBales_56 C  _  _ _ _ h hW hS (lv_sub hl [] rfl)
-- X11 giveAdvance
def wbX11_giveAdvance_61 (N : tq_Nn) (post : tq_St → Prop)  (S : tq_St) : Prop :=
  post S
def wpX11_giveAdvance (N : tq_Nn) (post : tq_St → Prop) (S : tq_St) (p0 : Nat) (p1 : Nat) : Prop :=
  N 10 p0 = 1 ∧ (p1 < 5 ∧ wpX5_priceOf N (fun S3 r4 => ((S 10 p0 4) = 0 → (wbX11_giveAdvance_61 N post S3 )) ∧ (¬ (S 10 p0 4) = 0 → (vp_in (S 10 p0 3) 4 ∧ ((0 < (S3 35 p1 ((S 10 p0 3).toNatClampNeg)) → (wbX11_giveAdvance_61 N post S3 )) ∧ (¬ 0 < (S3 35 p1 ((S 10 p0 3).toNatClampNeg)) → (((lg_cmp (((((S 10 p0 4).toInt64) * r4.toInt64) * ((9))) / ((10))) (((S3 2 p1 1) - (S3 2 p1 8)).toInt64)) ≤ 0 → ((∀ S9, S9 = tq_up S3 2 p1 1 ((S3 2 p1 1) - ((((((S 10 p0 4).toInt64) * r4.toInt64) * ((9))) / ((10))).toInt32)) → (∀ S10, S10 = tq_up S9 33 p1 ((S 10 p0 3).toNatClampNeg) (S9 1 0 0) → (∀ S11, S11 = tq_up S10 34 p1 ((S 10 p0 3).toNatClampNeg) (S 10 p0 4) → (∀ S12, S12 = tq_up S11 35 p1 ((S 10 p0 3).toNatClampNeg) (S 10 p0 4) → (wpX11_enterFor N (fun S13 => post S13) S12 p0 p1 (S 10 p0 4) ((((((S 10 p0 4).toInt64) * r4.toInt64) * ((9))) / ((10))).toInt32)))))))) ∧ (¬ (lg_cmp (((((S 10 p0 4).toInt64) * r4.toInt64) * ((9))) / ((10))) (((S3 2 p1 1) - (S3 2 p1 8)).toInt64)) ≤ 0 → (wbX11_giveAdvance_61 N post S3 )))))))) S p1 (S 10 p0 3))
set_option maxHeartbeats 4000000 in
set_option maxRecDepth 100000 in
theorem bX11_giveAdvance_61 {p : Program} {e : Env} {s : State} {m : MethodId} {args : Array Value} {below : List Frame} {meth : Method} {c : Code} {post : tq_St → Prop} (C : tq_At p s m meth c args cX11_giveAdvance 7 (none) ((tq_ws yX11_giveAdvance cX11_giveAdvance 7 none)) RX11 D cy z ad)  : ∀ (S : tq_St)  (H : Heap) (locs : List Loc) (ls : Array Slot), wbX11_giveAdvance_61 N post   S  → tq_wd D cy z H0 ad N (tq_mix S M) H → va_S (fun q => z ≤ q) s.heap H locs → lv_has ls 7 [] → W p l e (tq_rm 2 52) s m args below meth c H locs 0 0 (MQ below (va_Qv (fun u => post u) (fun u => tq_P D cy z H0 ad N u M) (fun q => z ≤ q)) args s 0 0 (fun q => z ≤ q)) (F0 m 61 ls []) := by
  obtain ⟨hx, hb, hr, hml, hown, hts, hlocks, hK, hG⟩ := id C
  have hw : ∀ w ∈ tq_W, w.before args s = true := fun w h => hts w (List.mem_cons_of_mem _ h)
  intro S  H locs ls h hW hS hl
  unfold wbX11_giveAdvance_61 at h
  exact W.vret hx hb hr (fun t ht hWm => ⟨⟨S, rfl, h, tq_pe ht hW⟩, hS.F ht⟩) hS.2.2 dX11_giveAdvance_61
set_option maxHeartbeats 4000000 in
set_option maxRecDepth 100000 in
theorem kX11_giveAdvance {post : tq_St → Prop} {S : tq_St} {p0 : Nat} {p1 : Nat} (h : wpX11_giveAdvance N post S p0 p1) : tq_sV l yX11_giveAdvance (tq_ws yX11_giveAdvance cX11_giveAdvance 7 none) 2 52 D cy z H0 ad N M S [.ref (ad 1 0), .ref (ad 10 p0), .ref (ad 2 p1)] post := by
  unfold wpX11_giveAdvance at h
  refine Met.ofW (cc := cX11_giveAdvance) (maxL := 7) (ret := none) (by decide) rfl ?_
  intro p e s m args below meth c s₁ B hml hv
  obtain ⟨rfl, hW, hK, hG⟩ := hv
  have hx := B.exec
  have hb := B.bytes
  have hr := B.returns
  have hts := atoms_spec (ws := (tq_ws yX11_giveAdvance cX11_giveAdvance 7 none)) B.pre
  have hw : ∀ w ∈ tq_W, w.before _ s = true := fun w h => hts w (List.mem_cons_of_mem _ h)
  have hown : s.vm.findClass RX11 = some m.cls := findClass_of_methodNamed B.named
  have hlocks := B.notSynchronized
  have C : tq_At p s m meth c [.ref (ad 1 0), .ref (ad 10 p0), .ref (ad 2 p1)].toArray cX11_giveAdvance 7 (none) ((tq_ws yX11_giveAdvance cX11_giveAdvance 7 none)) RX11 D cy z ad := ⟨hx, hb, hr, hml, hown, hts, hlocks, hK, hG⟩
  have hS : va_S (fun q => z ≤ q) s.heap s.heap [] := va_S.rf
  have hl := lv_entry ([.ref (ad 1 0), .ref (ad 10 p0), .ref (ad 2 p1)]) (n := 7) (Nat.le_of_ble_eq_true rfl)
  rw [lg_entry_eq]
  generalize (lg_sl ([.ref (ad 1 0), .ref (ad 10 p0), .ref (ad 2 p1)]) ++ List.replicate (7 - (lg_sl ([.ref (ad 1 0), .ref (ad 10 p0), .ref (ad 2 p1)])).length) Slot.unset).toArray = ls at hl ⊢
  have hl : lv_has ls 7 [(0, .ref (ad 1 0)), (1, .ref (ad 10 p0)), (2, .ref (ad 2 p1))] := hl
  have hW : tq_wd D cy z H0 ad N (tq_mix S M) s.heap := hW
  refine lv_aload_n hx hb dX11_giveAdvance_0 rfl (lv_at hl 1 rfl) ?_
  obtain ⟨b1, h⟩ := h
  refine tqc_get (v := .int (S 10 p0 3)) hx hb hw tq_inX4 hown hK hW (by decide) (tq_mk_10 b1) rfl 3 (by decide) (hw _ tw_669) (fun _ h9 => h9) rfl dX11_giveAdvance_1 ?_
  refine lv_istore_n (lv' := [(3, .int (S 10 p0 3)), (0, .ref (ad 1 0)), (1, .ref (ad 10 p0)), (2, .ref (ad 2 p1))]) hx hb dX11_giveAdvance_4 rfl hl (by decide) rfl (fun ls hl => ?_)
  refine lv_aload_n hx hb dX11_giveAdvance_5 rfl (lv_at hl 2 rfl) ?_
  refine tqc_get (v := .int (S 10 p0 4)) hx hb hw tq_inX4 hown hK hW (by decide) (tq_mk_10 b1) rfl 4 (by decide) (hw _ tw_671) (fun _ h9 => h9) rfl dX11_giveAdvance_6 ?_
  refine lv_istore (lv' := [(4, .int (S 10 p0 4)), (3, .int (S 10 p0 3)), (0, .ref (ad 1 0)), (1, .ref (ad 10 p0)), (2, .ref (ad 2 p1))]) hx hb dX11_giveAdvance_9 hl (by decide) rfl (fun ls hl => ?_)
  refine lv_iload hx hb dX11_giveAdvance_11 (lv_at hl 0 rfl) ?_
  refine lv_i2l (v := (S 10 p0 4).toInt64) hx hb dX11_giveAdvance_13 rfl ?_
  refine lv_aload_n hx hb dX11_giveAdvance_14 rfl (lv_at hl 4 rfl) ?_
  refine lv_iload_n hx hb dX11_giveAdvance_15 rfl (lv_at hl 1 rfl) ?_
  obtain ⟨b2, h⟩ := h
  refine tqc_callVi (As := [.int (S 10 p0 3)]) (rest := [.long ((S 10 p0 4).toInt64)]) (kX5_priceOf h) ⟨hx, hb, hml, hown, hts⟩ (cwV 1 hts (tq_goodV tw_419 tw_420 tw_421 tw_122 tw_422) rfl rfl rfl (by decide +kernel) ⟨(Nat.le_of_ble_eq_true rfl), (Nat.le_of_ble_eq_true rfl)⟩) (tq_recvC hK hW (by decide) (tq_mk_2 b2) rfl) hK hG hW hS rfl hl.1 rfl (Nat.le_of_ble_eq_true rfl) dX11_giveAdvance_16 ⟨(Nat.le_of_ble_eq_true rfl), (Nat.le_of_ble_eq_true rfl)⟩ (fun r4 S3 H locs h hW hS => ?_)
  refine lv_i2l (v := r4.toInt64) hx hb dX11_giveAdvance_19 rfl ?_
  refine lv_lmul hx hb dX11_giveAdvance_20 ?_
  refine lv_ldc2 hx hb hown (hw _ tw_1161) dX11_giveAdvance_21 ?_
  refine lv_lmul hx hb dX11_giveAdvance_24 ?_
  refine lv_ldc2 hx hb hown (hw _ tw_1162) dX11_giveAdvance_25 ?_
  refine lv_ldiv hx hb dX11_giveAdvance_28 (by decide) ?_
  refine lv_lstore (lv' := [(5, .long (((((S 10 p0 4).toInt64) * r4.toInt64) * ((9))) / ((10)))), (4, .int (S 10 p0 4)), (3, .int (S 10 p0 3)), (0, .ref (ad 1 0)), (1, .ref (ad 10 p0)), (2, .ref (ad 2 p1))]) hx hb dX11_giveAdvance_29 hl (by decide) rfl (fun ls hl => ?_)
  refine lv_iload hx hb dX11_giveAdvance_31 (lv_at hl 1 rfl) ?_
  refine lv_if_eq (tgt := 61) hx hb dX11_giveAdvance_33 (by decide) (fun c5 => ?_) (fun c5 => ?_)
  · have h := h.1 c5
    exact bX11_giveAdvance_61 C  _  _ _ _ h hW hS (lv_sub hl [] rfl)
  · have h := h.2 c5
    refine lv_aload_n hx hb dX11_giveAdvance_36 rfl (lv_at hl 5 rfl) ?_
    refine tqc_get (v := .ref (ad 35 p1)) hx hb hw tq_inX5 hown hK hW (by decide) (tq_mk_2 b2) rfl 11 (by decide) (hw _ tw_274) (fun _ h9 => h9) rfl dX11_giveAdvance_37 ?_
    refine lv_iload_n hx hb dX11_giveAdvance_40 rfl (lv_at hl 2 rfl) ?_
    obtain ⟨b6, h⟩ := h
    refine tqc_iald (jn := (S 10 p0 3).toNatClampNeg) hx hb hK hW (by decide) (tq_mk_35 b2) b6 rfl dX11_giveAdvance_41 ?_
    refine lv_if_gt (tgt := 61) hx hb dX11_giveAdvance_42 (by decide) (fun c7 => ?_) (fun c7 => ?_)
    · have h := h.1 c7
      exact bX11_giveAdvance_61 C  _  _ _ _ h hW hS (lv_sub hl [] rfl)
    · have h := h.2 c7
      refine lv_lload hx hb dX11_giveAdvance_45 (lv_at hl 0 rfl) ?_
      refine lv_aload_n hx hb dX11_giveAdvance_47 rfl (lv_at hl 5 rfl) ?_
      refine tqc_get (v := .int (S3 2 p1 1)) hx hb hw tq_inX5 hown hK hW (by decide) (tq_mk_2 b2) rfl 1 (by decide) (hw _ tw_255) (fun _ h9 => h9) rfl dX11_giveAdvance_48 ?_
      refine lv_aload_n hx hb dX11_giveAdvance_51 rfl (lv_at hl 5 rfl) ?_
      refine tqc_get (v := .int (S3 2 p1 8)) hx hb hw tq_inX5 hown hK hW (by decide) (tq_mk_2 b2) rfl 8 (by decide) (hw _ tw_268) (fun _ h9 => h9) rfl dX11_giveAdvance_52 ?_
      refine lv_isub hx hb dX11_giveAdvance_55 ?_
      refine lv_i2l (v := ((S3 2 p1 1) - (S3 2 p1 8)).toInt64) hx hb dX11_giveAdvance_56 rfl ?_
      refine W.lcmp hx hb dX11_giveAdvance_57 ?_
      refine lv_if_le (tgt := 62) hx hb dX11_giveAdvance_58 (by decide) (fun c8 => ?_) (fun c8 => ?_)
      · have h := h.1 c8
        refine lv_aload_n hx hb dX11_giveAdvance_62 rfl (lv_at hl 5 rfl) ?_
        refine lv_dup hx hb dX11_giveAdvance_63 rfl ?_
        refine tqc_get (v := .int (S3 2 p1 1)) hx hb hw tq_inX5 hown hK hW (by decide) (tq_mk_2 b2) rfl 1 (by decide) (hw _ tw_255) (fun _ h9 => h9) rfl dX11_giveAdvance_64 ?_
        refine lv_lload hx hb dX11_giveAdvance_67 (lv_at hl 0 rfl) ?_
        refine lv_l2i (v := (((((S 10 p0 4).toInt64) * r4.toInt64) * ((9))) / ((10))).toInt32) hx hb dX11_giveAdvance_69 rfl ?_
        refine lv_isub hx hb dX11_giveAdvance_70 ?_
        refine tqc_put hx hb hw tq_inX5 tyX5 tyX5_ok nmX5 hown hK hW hS (by decide) (tq_mk_2 b2) rfl 1 (by decide) (hw _ tw_255) (fun _ h9 => h9) rfl rfl rfl rfl (tq_mk_2 b2) dX11_giveAdvance_71 (fun H locs hW hS => ?_)
        generalize eS9 : tq_up S3 2 p1 1 ((S3 2 p1 1) - ((((((S 10 p0 4).toInt64) * r4.toInt64) * ((9))) / ((10))).toInt32)) = S9 at hW
        have h := h S9 eS9.symm
        refine lv_aload_n hx hb dX11_giveAdvance_74 rfl (lv_at hl 5 rfl) ?_
        refine tqc_get (v := .ref (ad 33 p1)) hx hb hw tq_inX5 hown hK hW (by decide) (tq_mk_2 b2) rfl 9 (by decide) (hw _ tw_270) (fun _ h9 => h9) rfl dX11_giveAdvance_75 ?_
        refine lv_iload_n hx hb dX11_giveAdvance_78 rfl (lv_at hl 2 rfl) ?_
        refine lv_aload_n hx hb dX11_giveAdvance_79 rfl (lv_at hl 3 rfl) ?_
        refine tqc_get (v := .int (S9 1 0 0)) hx hb hw tq_inX11 hown hK hW (by decide) (tq_mk_1 (by decide)) rfl 0 (by decide) (hw _ tw_337) (fun _ h9 => h9) rfl dX11_giveAdvance_80 ?_
        refine tqc_iast (jn := (S 10 p0 3).toNatClampNeg) hx hb hK hW hS (by decide) (tq_mk_33 b2) b6 rfl (tq_mk_33 b2) dX11_giveAdvance_83 (fun H locs hW hS => ?_)
        generalize eS10 : tq_up S9 33 p1 ((S 10 p0 3).toNatClampNeg) (S9 1 0 0) = S10 at hW
        have h := h S10 eS10.symm
        refine lv_aload_n hx hb dX11_giveAdvance_84 rfl (lv_at hl 5 rfl) ?_
        refine tqc_get (v := .ref (ad 34 p1)) hx hb hw tq_inX5 hown hK hW (by decide) (tq_mk_2 b2) rfl 10 (by decide) (hw _ tw_272) (fun _ h9 => h9) rfl dX11_giveAdvance_85 ?_
        refine lv_iload_n hx hb dX11_giveAdvance_88 rfl (lv_at hl 2 rfl) ?_
        refine lv_iload hx hb dX11_giveAdvance_89 (lv_at hl 1 rfl) ?_
        refine tqc_iast (jn := (S 10 p0 3).toNatClampNeg) hx hb hK hW hS (by decide) (tq_mk_34 b2) b6 rfl (tq_mk_34 b2) dX11_giveAdvance_91 (fun H locs hW hS => ?_)
        generalize eS11 : tq_up S10 34 p1 ((S 10 p0 3).toNatClampNeg) (S 10 p0 4) = S11 at hW
        have h := h S11 eS11.symm
        refine lv_aload_n hx hb dX11_giveAdvance_92 rfl (lv_at hl 5 rfl) ?_
        refine tqc_get (v := .ref (ad 35 p1)) hx hb hw tq_inX5 hown hK hW (by decide) (tq_mk_2 b2) rfl 11 (by decide) (hw _ tw_274) (fun _ h9 => h9) rfl dX11_giveAdvance_93 ?_
        refine lv_iload_n hx hb dX11_giveAdvance_96 rfl (lv_at hl 2 rfl) ?_
        refine lv_iload hx hb dX11_giveAdvance_97 (lv_at hl 1 rfl) ?_
        refine tqc_iast (jn := (S 10 p0 3).toNatClampNeg) hx hb hK hW hS (by decide) (tq_mk_35 b2) b6 rfl (tq_mk_35 b2) dX11_giveAdvance_99 (fun H locs hW hS => ?_)
        generalize eS12 : tq_up S11 35 p1 ((S 10 p0 3).toNatClampNeg) (S 10 p0 4) = S12 at hW
        have h := h S12 eS12.symm
        refine lv_aload_n hx hb dX11_giveAdvance_100 rfl (lv_at hl 3 rfl) ?_
        refine lv_aload_n hx hb dX11_giveAdvance_101 rfl (lv_at hl 4 rfl) ?_
        refine lv_aload_n hx hb dX11_giveAdvance_102 rfl (lv_at hl 5 rfl) ?_
        refine lv_iload hx hb dX11_giveAdvance_103 (lv_at hl 1 rfl) ?_
        refine lv_lload hx hb dX11_giveAdvance_105 (lv_at hl 0 rfl) ?_
        refine lv_l2i (v := (((((S 10 p0 4).toInt64) * r4.toInt64) * ((9))) / ((10))).toInt32) hx hb dX11_giveAdvance_107 rfl ?_
        refine tqc_callVv (As := [.ref (ad 10 p0), .ref (ad 2 p1), .int (S 10 p0 4), .int ((((((S 10 p0 4).toInt64) * r4.toInt64) * ((9))) / ((10))).toInt32)]) (rest := []) (kX11_enterFor h) ⟨hx, hb, hml, hown, hts⟩ (cwV 4 hts (tq_goodV tw_1149 tw_1151 tw_38 tw_115 tw_1152) rfl rfl rfl (by decide +kernel) ⟨(Nat.le_of_ble_eq_true rfl), (Nat.le_of_ble_eq_true rfl)⟩) (tq_recvC hK hW (by decide) (tq_mk_1 (by decide)) rfl) hK hG hW hS rfl hl.1 rfl (Nat.le_of_ble_eq_true rfl) dX11_giveAdvance_108 ⟨(Nat.le_of_ble_eq_true rfl), (Nat.le_of_ble_eq_true rfl)⟩ (fun S13 H locs h hW hS => ?_)
        exact W.vret hx hb hr (fun t ht hWm => ⟨⟨S13, rfl, h, tq_pe ht hW⟩, hS.F ht⟩) hS.2.2 dX11_giveAdvance_111
      · have h := h.2 c8
        exact bX11_giveAdvance_61 C  _  _ _ _ h hW hS (lv_sub hl [] rfl)
