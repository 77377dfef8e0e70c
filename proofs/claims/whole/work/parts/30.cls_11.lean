variable {l : Launch} {D : va_G} {cy : Nat → ClassId} {z : Nat} {H0 : Heap} {ad : Nat → Nat → Nat} {N : Nat → Nat} {M : tq_St}
-- X11 bill
def wpX11_bill (N : Nat → Nat) (post : tq_St → Int32 → Prop) (S : tq_St) (p0 : Int32) (p1 : Int32) : Prop :=
  wpX11_billAt N (fun S1 => post S1 ((-5))) (fun S1 i2 => (p1 = 0 → (i2 < N 7 ∧ ¬ S1 7 i2 13 = 0 ∧ (post S1 (S1 7 i2 10)))) ∧ (¬ p1 = 0 → ((p1 = 1 → (i2 < N 7 ∧ ¬ S1 7 i2 13 = 0 ∧ (post S1 (S1 7 i2 11)))) ∧ (¬ p1 = 1 → ((p1 = 2 → (i2 < N 7 ∧ ¬ S1 7 i2 13 = 0 ∧ (post S1 (S1 7 i2 12)))) ∧ (¬ p1 = 2 → (post S1 ((-5))))))))) S p0
set_option maxHeartbeats 4000000 in
set_option maxRecDepth 100000 in
theorem kX11_bill {post : tq_St → Int32 → Prop} {S : tq_St} {p0 : Int32} {p1 : Int32} (h : wpX11_bill N post S p0 p1) : tq_sI l yX11_bill (tq_ws yX11_bill cX11_bill 4 (some .int)) 4 87 D cy z H0 ad N M S [.ref (ad 1 0), .int p0, .int p1] post := by
  unfold wpX11_bill at h
  refine Met.ofW (cc := cX11_bill) (maxL := 4) (ret := (some .int)) (by decide) rfl ?_
  intro p e s m args below meth c s₁ B hml hv
  obtain ⟨rfl, hW, hK, hG⟩ := hv
  have hx := B.exec
  have hb := B.bytes
  have hr := B.returns
  have hts := atoms_spec (ws := (tq_ws yX11_bill cX11_bill 4 (some .int))) B.pre
  have hw : ∀ w ∈ tq_W, w.before _ s = true := fun w h => hts w (List.mem_cons_of_mem _ h)
  have hown : s.vm.findClass RX11 = some m.cls := findClass_of_methodNamed B.named
  have hlocks := B.notSynchronized
  have C : tq_At p s m meth c [.ref (ad 1 0), .int p0, .int p1].toArray cX11_bill 4 ((some .int)) ((tq_ws yX11_bill cX11_bill 4 (some .int))) RX11 D cy z ad := ⟨hx, hb, hr, hml, hown, hts, hlocks, hK, hG⟩
  have hS : va_S (fun q => z ≤ q) s.heap s.heap [] := va_S.rf
  have hl := lv_entry ([.ref (ad 1 0), .int p0, .int p1]) (n := 4) (Nat.le_of_ble_eq_true rfl)
  rw [lg_entry_eq]
  generalize (lg_sl ([.ref (ad 1 0), .int p0, .int p1]) ++ List.replicate (4 - (lg_sl ([.ref (ad 1 0), .int p0, .int p1])).length) Slot.unset).toArray = ls at hl ⊢
  have hl : lv_has ls 4 [(0, .ref (ad 1 0)), (1, .int p0), (2, .int p1)] := hl
  have hW : tq_wd D cy z H0 ad N (tq_mix S M) s.heap := hW
  refine lv_aload_n hx hb dX11_bill_0 rfl (lv_at hl 0 rfl) ?_
  refine lv_iload_n hx hb dX11_bill_1 rfl (lv_at hl 1 rfl) ?_
  refine tqc_callVn (As := [.int p0]) (rest := []) (kX11_billAt h) ⟨hx, hb, hml, hown, hts⟩ (cwV 1 hts (tq_goodV tw_1232 tw_1234 tw_47 tw_115 tw_1235) rfl rfl rfl (by decide +kernel) ⟨(Nat.le_of_ble_eq_true rfl), (Nat.le_of_ble_eq_true rfl)⟩) (tq_recvC hK hW (by decide) (tq_mk_1 (by decide)) rfl) hK hG hW hS rfl hl.1 rfl (Nat.le_of_ble_eq_true rfl) dX11_bill_2 ⟨(Nat.le_of_ble_eq_true rfl), (Nat.le_of_ble_eq_true rfl)⟩ (fun S1 H locs h hW hS => ?_) (fun i2 S1 H locs h hW hS => ?_)
  ·
    refine lv_astore_nN (lv' := [(3, .null), (0, .ref (ad 1 0)), (1, .int p0), (2, .int p1)]) hx hb dX11_bill_5 rfl hl (by decide) rfl (fun ls hl => ?_)
    refine lv_aload_nN hx hb dX11_bill_6 rfl (lv_at hl 0 rfl) ?_
    refine lv_ifnonnullN hx hb dX11_bill_7 ?_
    refine lv_bipush (v := (-5)) hx hb dX11_bill_10 (by decide) ?_
    exact W.iret (v := (-5)) hx hb hr (fun t ht hWm => ⟨⟨_, S1, rfl, h, tq_pe ht hW⟩, hS.F ht⟩) hS.2.2 dX11_bill_12
  ·
    refine lv_astore_n (lv' := [(3, .ref (ad 7 i2)), (0, .ref (ad 1 0)), (1, .int p0), (2, .int p1)]) hx hb dX11_bill_5 rfl hl (by decide) rfl (fun ls hl => ?_)
    refine lv_aload_n hx hb dX11_bill_6 rfl (lv_at hl 0 rfl) ?_
    refine lv_ifnonnull (tgt := 13) hx hb dX11_bill_7 (by decide) ?_
    refine lv_iload_n hx hb dX11_bill_13 rfl (lv_at hl 3 rfl) ?_
    by_cases c3 : p1 = 0
    · have h := h.1 c3
      refine W.eq (g2 := F0 m 14 ls (.int 0 :: [])) (by rw [c3]) ?_
      refine lv_tableIn (tgt := 40) hx hb dX11_bill_14 (by decide) (by decide) rfl (by decide) ?_
      refine lv_aload_n hx hb dX11_bill_40 rfl (lv_at hl 0 rfl) ?_
      obtain ⟨b4, h⟩ := h
      obtain ⟨b5, h⟩ := h
      refine tqc_getB (v := .int (S1 7 i2 10)) hx hb hw tq_inX1 hown hK hW b4 b5 10 (by decide) (hw _ tw_1194) (fun _ h9 => h9) rfl dX11_bill_41 ?_
      exact W.iret (v := S1 7 i2 10) hx hb hr (fun t ht hWm => ⟨⟨_, S1, rfl, h, tq_pe ht hW⟩, hS.F ht⟩) hS.2.2 dX11_bill_44
    · have h := h.2 c3
      by_cases c6 : p1 = 1
      · have h := h.1 c6
        refine W.eq (g2 := F0 m 14 ls (.int 1 :: [])) (by rw [c6]) ?_
        refine lv_tableIn (tgt := 45) hx hb dX11_bill_14 (by decide) (by decide) rfl (by decide) ?_
        refine lv_aload_n hx hb dX11_bill_45 rfl (lv_at hl 0 rfl) ?_
        obtain ⟨b7, h⟩ := h
        obtain ⟨b8, h⟩ := h
        refine tqc_getB (v := .int (S1 7 i2 11)) hx hb hw tq_inX1 hown hK hW b7 b8 11 (by decide) (hw _ tw_1196) (fun _ h9 => h9) rfl dX11_bill_46 ?_
        exact W.iret (v := S1 7 i2 11) hx hb hr (fun t ht hWm => ⟨⟨_, S1, rfl, h, tq_pe ht hW⟩, hS.F ht⟩) hS.2.2 dX11_bill_49
      · have h := h.2 c6
        by_cases c9 : p1 = 2
        · have h := h.1 c9
          refine W.eq (g2 := F0 m 14 ls (.int 2 :: [])) (by rw [c9]) ?_
          refine lv_tableIn (tgt := 50) hx hb dX11_bill_14 (by decide) (by decide) rfl (by decide) ?_
          refine lv_aload_n hx hb dX11_bill_50 rfl (lv_at hl 0 rfl) ?_
          obtain ⟨b10, h⟩ := h
          obtain ⟨b11, h⟩ := h
          refine tqc_getB (v := .int (S1 7 i2 12)) hx hb hw tq_inX1 hown hK hW b10 b11 12 (by decide) (hw _ tw_1198) (fun _ h9 => h9) rfl dX11_bill_51 ?_
          exact W.iret (v := S1 7 i2 12) hx hb hr (fun t ht hWm => ⟨⟨_, S1, rfl, h, tq_pe ht hW⟩, hS.F ht⟩) hS.2.2 dX11_bill_54
        · have h := h.2 c9
          refine lv_tableOut (tgt := 55) hx hb dX11_bill_14 (tq_out3 c3 c6 c9) (by decide) ?_
          refine lv_bipush (v := (-5)) hx hb dX11_bill_55 (by decide) ?_
          exact W.iret (v := (-5)) hx hb hr (fun t ht hWm => ⟨⟨_, S1, rfl, h, tq_pe ht hW⟩, hS.F ht⟩) hS.2.2 dX11_bill_57
-- X11 refuse
def wbX11_refuse_28 (N : Nat → Nat) (post : tq_St → Int32 → Prop)  (S : tq_St) : Prop :=
  post S ((-3))
def wpX11_refuse (N : Nat → Nat) (post : tq_St → Int32 → Prop) (S : tq_St) (p0 : Int32) : Prop :=
  wpX11_billAt N (fun S1 => post S1 ((-1))) (fun S1 i2 => i2 < N 7 ∧ ¬ S1 7 i2 13 = 0 ∧ (((S1 50 i2 0) < 0 → (wbX11_refuse_28 N post S1 )) ∧ (¬ (S1 50 i2 0) < 0 → (wpX1_isOpen N (fun S6 r7 => (¬ r7 = 0 → (¬ S6 7 i2 13 = 0 ∧ wpX1_settle N (fun S10 => ¬ S10 7 i2 13 = 0 ∧ (post S10 (S10 7 i2 12))) S6 i2 3 (S6 1 0 0))) ∧ (r7 = 0 → (wbX11_refuse_28 N post S6 ))) S1 i2)))) S p0
set_option maxHeartbeats 4000000 in
set_option maxRecDepth 100000 in
theorem bX11_refuse_28 {p : Program} {e : Env} {s : State} {m : MethodId} {args : Array Value} {below : List Frame} {meth : Method} {c : Code} {post : tq_St → Int32 → Prop} (C : tq_At p s m meth c args cX11_refuse 3 ((some .int)) ((tq_ws yX11_refuse cX11_refuse 3 (some .int))) RX11 D cy z ad)  : ∀ (S : tq_St)  (H : Heap) (locs : List Loc) (ls : Array Slot), wbX11_refuse_28 N post   S  → tq_wd D cy z H0 ad N (tq_mix S M) H → va_S (fun q => z ≤ q) s.heap H locs → lv_has ls 3 [] → W p l e (tq_rm 4 87) s m args below meth c H locs 0 0 (MQ below (va_Qi (fun r u => post u r) (fun u => tq_P D cy z H0 ad N u M) (fun q => z ≤ q)) args s 0 0 (fun q => z ≤ q)) (F0 m 28 ls []) := by
  obtain ⟨hx, hb, hr, hml, hown, hts, hlocks, hK, hG⟩ := id C
  have hw : ∀ w ∈ tq_W, w.before args s = true := fun w h => hts w (List.mem_cons_of_mem _ h)
  intro S  H locs ls h hW hS hl
  unfold wbX11_refuse_28 at h
  refine lv_bipush (v := (-3)) hx hb dX11_refuse_28 (by decide) ?_
  exact W.iret (v := (-3)) hx hb hr (fun t ht hWm => ⟨⟨_, S, rfl, h, tq_pe ht hW⟩, hS.F ht⟩) hS.2.2 dX11_refuse_30
set_option maxHeartbeats 4000000 in
set_option maxRecDepth 100000 in
theorem kX11_refuse {post : tq_St → Int32 → Prop} {S : tq_St} {p0 : Int32} (h : wpX11_refuse N post S p0) : tq_sI l yX11_refuse (tq_ws yX11_refuse cX11_refuse 3 (some .int)) 4 87 D cy z H0 ad N M S [.ref (ad 1 0), .int p0] post := by
  unfold wpX11_refuse at h
  refine Met.ofW (cc := cX11_refuse) (maxL := 3) (ret := (some .int)) (by decide) rfl ?_
  intro p e s m args below meth c s₁ B hml hv
  obtain ⟨rfl, hW, hK, hG⟩ := hv
  have hx := B.exec
  have hb := B.bytes
  have hr := B.returns
  have hts := atoms_spec (ws := (tq_ws yX11_refuse cX11_refuse 3 (some .int))) B.pre
  have hw : ∀ w ∈ tq_W, w.before _ s = true := fun w h => hts w (List.mem_cons_of_mem _ h)
  have hown : s.vm.findClass RX11 = some m.cls := findClass_of_methodNamed B.named
  have hlocks := B.notSynchronized
  have C : tq_At p s m meth c [.ref (ad 1 0), .int p0].toArray cX11_refuse 3 ((some .int)) ((tq_ws yX11_refuse cX11_refuse 3 (some .int))) RX11 D cy z ad := ⟨hx, hb, hr, hml, hown, hts, hlocks, hK, hG⟩
  have hS : va_S (fun q => z ≤ q) s.heap s.heap [] := va_S.rf
  have hl := lv_entry ([.ref (ad 1 0), .int p0]) (n := 3) (Nat.le_of_ble_eq_true rfl)
  rw [lg_entry_eq]
  generalize (lg_sl ([.ref (ad 1 0), .int p0]) ++ List.replicate (3 - (lg_sl ([.ref (ad 1 0), .int p0])).length) Slot.unset).toArray = ls at hl ⊢
  have hl : lv_has ls 3 [(0, .ref (ad 1 0)), (1, .int p0)] := hl
  have hW : tq_wd D cy z H0 ad N (tq_mix S M) s.heap := hW
  refine lv_aload_n hx hb dX11_refuse_0 rfl (lv_at hl 0 rfl) ?_
  refine lv_iload_n hx hb dX11_refuse_1 rfl (lv_at hl 1 rfl) ?_
  refine tqc_callVn (As := [.int p0]) (rest := []) (kX11_billAt h) ⟨hx, hb, hml, hown, hts⟩ (cwV 1 hts (tq_goodV tw_1232 tw_1234 tw_47 tw_115 tw_1235) rfl rfl rfl (by decide +kernel) ⟨(Nat.le_of_ble_eq_true rfl), (Nat.le_of_ble_eq_true rfl)⟩) (tq_recvC hK hW (by decide) (tq_mk_1 (by decide)) rfl) hK hG hW hS rfl hl.1 rfl (Nat.le_of_ble_eq_true rfl) dX11_refuse_2 ⟨(Nat.le_of_ble_eq_true rfl), (Nat.le_of_ble_eq_true rfl)⟩ (fun S1 H locs h hW hS => ?_) (fun i2 S1 H locs h hW hS => ?_)
  ·
    refine lv_astore_nN (lv' := [(2, .null), (0, .ref (ad 1 0)), (1, .int p0)]) hx hb dX11_refuse_5 rfl hl (by decide) rfl (fun ls hl => ?_)
    refine lv_aload_nN hx hb dX11_refuse_6 rfl (lv_at hl 0 rfl) ?_
    refine lv_ifnonnullN hx hb dX11_refuse_7 ?_
    refine lv_iconst (v := (-1)) hx hb dX11_refuse_10 (by decide) ?_
    exact W.iret (v := (-1)) hx hb hr (fun t ht hWm => ⟨⟨_, S1, rfl, h, tq_pe ht hW⟩, hS.F ht⟩) hS.2.2 dX11_refuse_11
  ·
    refine lv_astore_n (lv' := [(2, .ref (ad 7 i2)), (0, .ref (ad 1 0)), (1, .int p0)]) hx hb dX11_refuse_5 rfl hl (by decide) rfl (fun ls hl => ?_)
    refine lv_aload_n hx hb dX11_refuse_6 rfl (lv_at hl 0 rfl) ?_
    refine lv_ifnonnull (tgt := 12) hx hb dX11_refuse_7 (by decide) ?_
    refine lv_aload_n hx hb dX11_refuse_12 rfl (lv_at hl 0 rfl) ?_
    obtain ⟨b3, h⟩ := h
    obtain ⟨b4, h⟩ := h
    refine tqc_getB (v := .ref (ad 50 i2)) hx hb hw tq_inX1 hown hK hW b3 b4 5 (by decide) (hw _ tw_526) (fun x h9 => u_same (hw _ tw_527) x h9) rfl dX11_refuse_13 ?_
    refine lv_iconst (v := 0) hx hb dX11_refuse_16 (by decide) ?_
    refine tqc_iald (jn := 0) hx hb hK hW (by decide) (tq_mk_50 b3) (by unfold vp_in; decide) (by decide) dX11_refuse_17 ?_
    refine lv_if_lt (tgt := 28) hx hb dX11_refuse_18 (by decide) (fun c5 => ?_) (fun c5 => ?_)
    · have h := h.1 c5
      exact bX11_refuse_28 C  _  _ _ _ h hW hS (lv_sub hl [] rfl)
    · have h := h.2 c5
      refine lv_aload_n hx hb dX11_refuse_21 rfl (lv_at hl 0 rfl) ?_
      refine tqc_callVi (As := []) (rest := []) (kX1_isOpen h) ⟨hx, hb, hml, hown, hts⟩ (cwV 0 hts (tq_goodV tw_1184 tw_1185 tw_1186 tw_140 tw_1187) rfl rfl rfl (by decide +kernel) ⟨(Nat.le_of_ble_eq_true rfl), (Nat.le_of_ble_eq_true rfl)⟩) (tq_recvC hK hW (by decide) (tq_mk_7b b3 b4) rfl) hK hG hW hS rfl hl.1 rfl (Nat.le_of_ble_eq_true rfl) dX11_refuse_22 ⟨(Nat.le_of_ble_eq_true rfl), (Nat.le_of_ble_eq_true rfl)⟩ (fun r7 S6 H locs h hW hS => ?_)
      refine lv_if_ne (tgt := 31) hx hb dX11_refuse_25 (by decide) (fun c8 => ?_) (fun c8 => ?_)
      · have h := h.1 c8
        refine lv_aload_n hx hb dX11_refuse_31 rfl (lv_at hl 0 rfl) ?_
        refine lv_iconst (v := 3) hx hb dX11_refuse_32 (by decide) ?_
        refine lv_aload_n hx hb dX11_refuse_33 rfl (lv_at hl 1 rfl) ?_
        refine tqc_get (v := .int (S6 1 0 0)) hx hb hw tq_inX11 hown hK hW (by decide) (tq_mk_1 (by decide)) rfl 0 (by decide) (hw _ tw_337) (fun _ h9 => h9) rfl dX11_refuse_34 ?_
        obtain ⟨b9, h⟩ := h
        refine tqc_callVv (As := [.int 3, .int (S6 1 0 0)]) (rest := []) (kX1_settle h) ⟨hx, hb, hml, hown, hts⟩ (cwV 2 hts (tq_goodV tw_1119 tw_1120 tw_1121 tw_140 tw_1122) rfl rfl rfl (by decide +kernel) ⟨(Nat.le_of_ble_eq_true rfl), (Nat.le_of_ble_eq_true rfl)⟩) (tq_recvC hK hW (by decide) (tq_mk_7b b3 b9) rfl) hK hG hW hS rfl hl.1 rfl (Nat.le_of_ble_eq_true rfl) dX11_refuse_37 ⟨(Nat.le_of_ble_eq_true rfl), (Nat.le_of_ble_eq_true rfl)⟩ (fun S10 H locs h hW hS => ?_)
        refine lv_aload_n hx hb dX11_refuse_40 rfl (lv_at hl 0 rfl) ?_
        obtain ⟨b11, h⟩ := h
        refine tqc_getB (v := .int (S10 7 i2 12)) hx hb hw tq_inX1 hown hK hW b3 b11 12 (by decide) (hw _ tw_1198) (fun _ h9 => h9) rfl dX11_refuse_41 ?_
        exact W.iret (v := S10 7 i2 12) hx hb hr (fun t ht hWm => ⟨⟨_, S10, rfl, h, tq_pe ht hW⟩, hS.F ht⟩) hS.2.2 dX11_refuse_44
      · have h := h.2 c8
        exact bX11_refuse_28 C  _  _ _ _ h hW hS (lv_sub hl [] rfl)
-- X11 wants
def wbX11_wants_16 (N : Nat → Nat) (post : tq_St → Int32 → Prop)  (S : tq_St) : Prop :=
  post S ((-1))
def wbX11_wants_40 (N : Nat → Nat) (post : tq_St → Int32 → Prop)  (S : tq_St) : Prop :=
  post S ((-2))
def wpX11_wants (N : Nat → Nat) (post : tq_St → Int32 → Prop) (S : tq_St) (p0 : Int32) (p1 : Int32) (p2 : Int32) (p3 : Int32) : Prop :=
  wpX11_within N (fun S1 r2 => (r2 = 0 → (wbX11_wants_16 N post S1 )) ∧ (¬ r2 = 0 → (wpX11_isSort N (fun S4 r5 => (¬ r5 = 0 → (wpX11_within N (fun S7 r8 => (r8 = 0 → (wbX11_wants_40 N post S7 )) ∧ (¬ r8 = 0 → (wpX11_within N (fun S10 r11 => (¬ r11 = 0 → (vp_in p0 6 ∧ (vp_in p1 4 ∧ (∀ S15, S15 = tq_up S10 43 p0.toNatClampNeg p1.toNatClampNeg p2 → (∀ S16, S16 = tq_up S15 45 p0.toNatClampNeg p1.toNatClampNeg p3 → (post S16 (S10 43 p0.toNatClampNeg p1.toNatClampNeg))))))) ∧ (r11 = 0 → (wbX11_wants_40 N post S10 ))) S7 p3 0 999))) S4 p2 0 99)) ∧ (r5 = 0 → (wbX11_wants_16 N post S4 ))) S1 p1))) S p0 0 5
set_option maxHeartbeats 4000000 in
set_option maxRecDepth 100000 in
theorem bX11_wants_16 {p : Program} {e : Env} {s : State} {m : MethodId} {args : Array Value} {below : List Frame} {meth : Method} {c : Code} {post : tq_St → Int32 → Prop} (C : tq_At p s m meth c args cX11_wants 6 ((some .int)) ((tq_ws yX11_wants cX11_wants 6 (some .int))) RX11 D cy z ad)  : ∀ (S : tq_St)  (H : Heap) (locs : List Loc) (ls : Array Slot), wbX11_wants_16 N post   S  → tq_wd D cy z H0 ad N (tq_mix S M) H → va_S (fun q => z ≤ q) s.heap H locs → lv_has ls 6 [] → W p l e (tq_rm 1 22) s m args below meth c H locs 0 0 (MQ below (va_Qi (fun r u => post u r) (fun u => tq_P D cy z H0 ad N u M) (fun q => z ≤ q)) args s 0 0 (fun q => z ≤ q)) (F0 m 16 ls []) := by
  obtain ⟨hx, hb, hr, hml, hown, hts, hlocks, hK, hG⟩ := id C
  have hw : ∀ w ∈ tq_W, w.before args s = true := fun w h => hts w (List.mem_cons_of_mem _ h)
  intro S  H locs ls h hW hS hl
  unfold wbX11_wants_16 at h
  refine lv_iconst (v := (-1)) hx hb dX11_wants_16 (by decide) ?_
  exact W.iret (v := (-1)) hx hb hr (fun t ht hWm => ⟨⟨_, S, rfl, h, tq_pe ht hW⟩, hS.F ht⟩) hS.2.2 dX11_wants_17
set_option maxHeartbeats 4000000 in
set_option maxRecDepth 100000 in
theorem bX11_wants_40 {p : Program} {e : Env} {s : State} {m : MethodId} {args : Array Value} {below : List Frame} {meth : Method} {c : Code} {post : tq_St → Int32 → Prop} (C : tq_At p s m meth c args cX11_wants 6 ((some .int)) ((tq_ws yX11_wants cX11_wants 6 (some .int))) RX11 D cy z ad)  : ∀ (S : tq_St)  (H : Heap) (locs : List Loc) (ls : Array Slot), wbX11_wants_40 N post   S  → tq_wd D cy z H0 ad N (tq_mix S M) H → va_S (fun q => z ≤ q) s.heap H locs → lv_has ls 6 [] → W p l e (tq_rm 1 22) s m args below meth c H locs 0 0 (MQ below (va_Qi (fun r u => post u r) (fun u => tq_P D cy z H0 ad N u M) (fun q => z ≤ q)) args s 0 0 (fun q => z ≤ q)) (F0 m 40 ls []) := by
  obtain ⟨hx, hb, hr, hml, hown, hts, hlocks, hK, hG⟩ := id C
  have hw : ∀ w ∈ tq_W, w.before args s = true := fun w h => hts w (List.mem_cons_of_mem _ h)
  intro S  H locs ls h hW hS hl
  unfold wbX11_wants_40 at h
  refine lv_bipush (v := (-2)) hx hb dX11_wants_40 (by decide) ?_
  exact W.iret (v := (-2)) hx hb hr (fun t ht hWm => ⟨⟨_, S, rfl, h, tq_pe ht hW⟩, hS.F ht⟩) hS.2.2 dX11_wants_42
set_option maxHeartbeats 4000000 in
set_option maxRecDepth 100000 in
theorem kX11_wants {post : tq_St → Int32 → Prop} {S : tq_St} {p0 : Int32} {p1 : Int32} {p2 : Int32} {p3 : Int32} (h : wpX11_wants N post S p0 p1 p2 p3) : tq_sI l yX11_wants (tq_ws yX11_wants cX11_wants 6 (some .int)) 1 22 D cy z H0 ad N M S [.ref (ad 1 0), .int p0, .int p1, .int p2, .int p3] post := by
  unfold wpX11_wants at h
  refine Met.ofW (cc := cX11_wants) (maxL := 6) (ret := (some .int)) (by decide) rfl ?_
  intro p e s m args below meth c s₁ B hml hv
  obtain ⟨rfl, hW, hK, hG⟩ := hv
  have hx := B.exec
  have hb := B.bytes
  have hr := B.returns
  have hts := atoms_spec (ws := (tq_ws yX11_wants cX11_wants 6 (some .int))) B.pre
  have hw : ∀ w ∈ tq_W, w.before _ s = true := fun w h => hts w (List.mem_cons_of_mem _ h)
  have hown : s.vm.findClass RX11 = some m.cls := findClass_of_methodNamed B.named
  have hlocks := B.notSynchronized
  have C : tq_At p s m meth c [.ref (ad 1 0), .int p0, .int p1, .int p2, .int p3].toArray cX11_wants 6 ((some .int)) ((tq_ws yX11_wants cX11_wants 6 (some .int))) RX11 D cy z ad := ⟨hx, hb, hr, hml, hown, hts, hlocks, hK, hG⟩
  have hS : va_S (fun q => z ≤ q) s.heap s.heap [] := va_S.rf
  have hl := lv_entry ([.ref (ad 1 0), .int p0, .int p1, .int p2, .int p3]) (n := 6) (Nat.le_of_ble_eq_true rfl)
  rw [lg_entry_eq]
  generalize (lg_sl ([.ref (ad 1 0), .int p0, .int p1, .int p2, .int p3]) ++ List.replicate (6 - (lg_sl ([.ref (ad 1 0), .int p0, .int p1, .int p2, .int p3])).length) Slot.unset).toArray = ls at hl ⊢
  have hl : lv_has ls 6 [(0, .ref (ad 1 0)), (1, .int p0), (2, .int p1), (3, .int p2), (4, .int p3)] := hl
  have hW : tq_wd D cy z H0 ad N (tq_mix S M) s.heap := hW
  refine lv_iload_n hx hb dX11_wants_0 rfl (lv_at hl 1 rfl) ?_
  refine lv_iconst (v := 0) hx hb dX11_wants_1 (by decide) ?_
  refine lv_iconst (v := 5) hx hb dX11_wants_2 (by decide) ?_
  refine tqc_callSi (As := [.int p0, .int 0, .int 5]) (rest := []) (kX11_within h) ⟨hx, hb, hml, hown, hts⟩ (va_cwS 3 hts (tq_goodS tw_405 tw_406 tw_115 tw_407) rfl rfl rfl (by decide +kernel) ⟨(Nat.le_of_ble_eq_true rfl), (Nat.le_of_ble_eq_true rfl)⟩) hK hG hW hS rfl hl.1 rfl (Nat.le_of_ble_eq_true rfl) dX11_wants_3 ⟨(Nat.le_of_ble_eq_true rfl), (Nat.le_of_ble_eq_true rfl)⟩ (fun r2 S1 H locs h hW hS => ?_)
  refine lv_if_eq (tgt := 16) hx hb dX11_wants_6 (by decide) (fun c3 => ?_) (fun c3 => ?_)
  · have h := h.1 c3
    exact bX11_wants_16 C  _  _ _ _ h hW hS (lv_sub hl [] rfl)
  · have h := h.2 c3
    refine lv_iload_n hx hb dX11_wants_9 rfl (lv_at hl 2 rfl) ?_
    refine tqc_callSi (As := [.int p1]) (rest := []) (kX11_isSort h) ⟨hx, hb, hml, hown, hts⟩ (va_cwS 1 hts (tq_goodS tw_412 tw_413 tw_115 tw_414) rfl rfl rfl (by decide +kernel) ⟨(Nat.le_of_ble_eq_true rfl), (Nat.le_of_ble_eq_true rfl)⟩) hK hG hW hS rfl hl.1 rfl (Nat.le_of_ble_eq_true rfl) dX11_wants_10 ⟨(Nat.le_of_ble_eq_true rfl), (Nat.le_of_ble_eq_true rfl)⟩ (fun r5 S4 H locs h hW hS => ?_)
    refine lv_if_ne (tgt := 18) hx hb dX11_wants_13 (by decide) (fun c6 => ?_) (fun c6 => ?_)
    · have h := h.1 c6
      refine lv_iload_n hx hb dX11_wants_18 rfl (lv_at hl 3 rfl) ?_
      refine lv_iconst (v := 0) hx hb dX11_wants_19 (by decide) ?_
      refine lv_bipush (v := 99) hx hb dX11_wants_20 (by decide) ?_
      refine tqc_callSi (As := [.int p2, .int 0, .int 99]) (rest := []) (kX11_within h) ⟨hx, hb, hml, hown, hts⟩ (va_cwS 3 hts (tq_goodS tw_405 tw_406 tw_115 tw_407) rfl rfl rfl (by decide +kernel) ⟨(Nat.le_of_ble_eq_true rfl), (Nat.le_of_ble_eq_true rfl)⟩) hK hG hW hS rfl hl.1 rfl (Nat.le_of_ble_eq_true rfl) dX11_wants_22 ⟨(Nat.le_of_ble_eq_true rfl), (Nat.le_of_ble_eq_true rfl)⟩ (fun r8 S7 H locs h hW hS => ?_)
      refine lv_if_eq (tgt := 40) hx hb dX11_wants_25 (by decide) (fun c9 => ?_) (fun c9 => ?_)
      · have h := h.1 c9
        exact bX11_wants_40 C  _  _ _ _ h hW hS (lv_sub hl [] rfl)
      · have h := h.2 c9
        refine lv_iload hx hb dX11_wants_28 (lv_at hl 4 rfl) ?_
        refine lv_iconst (v := 0) hx hb dX11_wants_30 (by decide) ?_
        refine lv_sipush (v := 999) hx hb dX11_wants_31 (by decide) ?_
        refine tqc_callSi (As := [.int p3, .int 0, .int 999]) (rest := []) (kX11_within h) ⟨hx, hb, hml, hown, hts⟩ (va_cwS 3 hts (tq_goodS tw_405 tw_406 tw_115 tw_407) rfl rfl rfl (by decide +kernel) ⟨(Nat.le_of_ble_eq_true rfl), (Nat.le_of_ble_eq_true rfl)⟩) hK hG hW hS rfl hl.1 rfl (Nat.le_of_ble_eq_true rfl) dX11_wants_34 ⟨(Nat.le_of_ble_eq_true rfl), (Nat.le_of_ble_eq_true rfl)⟩ (fun r11 S10 H locs h hW hS => ?_)
        refine lv_if_ne (tgt := 43) hx hb dX11_wants_37 (by decide) (fun c12 => ?_) (fun c12 => ?_)
        · have h := h.1 c12
          refine lv_aload_n hx hb dX11_wants_43 rfl (lv_at hl 0 rfl) ?_
          refine tqc_get (v := .ref (ad 4 0)) hx hb hw tq_inX11 hown hK hW (by decide) (tq_mk_1 (by decide)) rfl 13 (by decide) (hw _ tw_350) (fun _ h9 => h9) rfl dX11_wants_44 ?_
          refine tqc_get (v := .ref (ad 42 0)) hx hb hw tq_inX2 hown hK hW (by decide) (tq_mk_4 (by decide)) rfl 0 (by decide) (hw _ tw_207) (fun _ h9 => h9) rfl dX11_wants_47 ?_
          refine lv_iload_n hx hb dX11_wants_50 rfl (lv_at hl 1 rfl) ?_
          obtain ⟨b13, h⟩ := h
          refine tqc_aald (jn := p0.toNatClampNeg) (v := .ref (ad 43 p0.toNatClampNeg)) hx hb hK hW (by decide) (tq_mk_42 (by decide)) 2 rfl rfl b13 rfl rfl dX11_wants_51 ?_
          refine lv_iload_n hx hb dX11_wants_52 rfl (lv_at hl 2 rfl) ?_
          obtain ⟨b14, h⟩ := h
          refine tqc_iald (jn := p1.toNatClampNeg) hx hb hK hW (by decide) (tq_mk_43 (tq_lt b13)) b14 rfl dX11_wants_53 ?_
          refine lv_istore (lv' := [(5, .int (S10 43 p0.toNatClampNeg p1.toNatClampNeg)), (0, .ref (ad 1 0)), (1, .int p0), (2, .int p1), (3, .int p2), (4, .int p3)]) hx hb dX11_wants_54 hl (by decide) rfl (fun ls hl => ?_)
          refine lv_aload_n hx hb dX11_wants_56 rfl (lv_at hl 1 rfl) ?_
          refine tqc_get (v := .ref (ad 4 0)) hx hb hw tq_inX11 hown hK hW (by decide) (tq_mk_1 (by decide)) rfl 13 (by decide) (hw _ tw_350) (fun _ h9 => h9) rfl dX11_wants_57 ?_
          refine tqc_get (v := .ref (ad 42 0)) hx hb hw tq_inX2 hown hK hW (by decide) (tq_mk_4 (by decide)) rfl 0 (by decide) (hw _ tw_207) (fun _ h9 => h9) rfl dX11_wants_60 ?_
          refine lv_iload_n hx hb dX11_wants_63 rfl (lv_at hl 2 rfl) ?_
          refine tqc_aald (jn := p0.toNatClampNeg) (v := .ref (ad 43 p0.toNatClampNeg)) hx hb hK hW (by decide) (tq_mk_42 (by decide)) 2 rfl rfl b13 rfl rfl dX11_wants_64 ?_
          refine lv_iload_n hx hb dX11_wants_65 rfl (lv_at hl 3 rfl) ?_
          refine lv_iload_n hx hb dX11_wants_66 rfl (lv_at hl 4 rfl) ?_
          refine tqc_iast (jn := p1.toNatClampNeg) hx hb hK hW hS (by decide) (tq_mk_43 (tq_lt b13)) b14 rfl (tq_mk_43 (tq_lt b13)) dX11_wants_67 (fun H locs hW hS => ?_)
          generalize eS15 : tq_up S10 43 p0.toNatClampNeg p1.toNatClampNeg p2 = S15 at hW
          have h := h S15 eS15.symm
          refine lv_aload_n hx hb dX11_wants_68 rfl (lv_at hl 1 rfl) ?_
          refine tqc_get (v := .ref (ad 4 0)) hx hb hw tq_inX11 hown hK hW (by decide) (tq_mk_1 (by decide)) rfl 13 (by decide) (hw _ tw_350) (fun _ h9 => h9) rfl dX11_wants_69 ?_
          refine tqc_get (v := .ref (ad 44 0)) hx hb hw tq_inX2 hown hK hW (by decide) (tq_mk_4 (by decide)) rfl 1 (by decide) (hw _ tw_209) (fun _ h9 => h9) rfl dX11_wants_72 ?_
          refine lv_iload_n hx hb dX11_wants_75 rfl (lv_at hl 2 rfl) ?_
          refine tqc_aald (jn := p0.toNatClampNeg) (v := .ref (ad 45 p0.toNatClampNeg)) hx hb hK hW (by decide) (tq_mk_44 (by decide)) 2 rfl rfl b13 rfl rfl dX11_wants_76 ?_
          refine lv_iload_n hx hb dX11_wants_77 rfl (lv_at hl 3 rfl) ?_
          refine lv_iload hx hb dX11_wants_78 (lv_at hl 5 rfl) ?_
          refine tqc_iast (jn := p1.toNatClampNeg) hx hb hK hW hS (by decide) (tq_mk_45 (tq_lt b13)) b14 rfl (tq_mk_45 (tq_lt b13)) dX11_wants_80 (fun H locs hW hS => ?_)
          generalize eS16 : tq_up S15 45 p0.toNatClampNeg p1.toNatClampNeg p3 = S16 at hW
          have h := h S16 eS16.symm
          refine lv_iload hx hb dX11_wants_81 (lv_at hl 0 rfl) ?_
          exact W.iret (v := S10 43 p0.toNatClampNeg p1.toNatClampNeg) hx hb hr (fun t ht hWm => ⟨⟨_, S16, rfl, h, tq_pe ht hW⟩, hS.F ht⟩) hS.2.2 dX11_wants_83
        · have h := h.2 c12
          exact bX11_wants_40 C  _  _ _ _ h hW hS (lv_sub hl [] rfl)
    · have h := h.2 c6
      exact bX11_wants_16 C  _  _ _ _ h hW hS (lv_sub hl [] rfl)
-- X11 sale
def wbX11_sale_104 (N : Nat → Nat) (post : tq_St → Int32 → Prop)  (S : tq_St) (x3 : Nat) (x4 : Int32) : Prop :=
  x3 < 5 ∧ ((∀ S19, S19 = tq_up S 2 x3 1 ((S 2 x3 1) + x4) → ((∀ S20, S20 = tq_up S19 4 0 4 ((S19 4 0 4) + x4) → (post S20 x4)))))
def wbX11_sale_48 (N : Nat → Nat) (post : tq_St → Int32 → Prop) : Nat → tq_St → Int32 → Int32 → Nat → Int32 → Int32 → Prop
  | 0, _, _, _, _, _, _ => False
  | n + 1, S, x1, x2, x3, x4, x5 =>
    (x2 ≤ x5 → (wbX11_sale_104 N post S x3 x4)) ∧ (¬ x2 ≤ x5 → (wpX2_greatest N (fun S10 r11 => (0 ≤ r11 → (wpX2_sellOne N (fun S13 r14 => x3 < 5 ∧ (vp_in x1 4 ∧ (∀ S17, S17 = tq_up S13 30 x3 x1.toNatClampNeg ((S13 30 x3 x1.toNatClampNeg) - 1) → ((wbX11_sale_48 N post n) S17 x1 x2 x3 (x4 + r14) (x5 + 1))))) S10 x1 r11)) ∧ (¬ 0 ≤ r11 → (wbX11_sale_104 N post S10 x3 x4))) S x1 (-1)))
def wpX11_sale (N : Nat → Nat) (post : tq_St → Int32 → Prop) (S : tq_St) (p0 : Int32) (p1 : Int32) : Prop :=
  wpX11_isSort N (fun S1 r2 => (¬ r2 = 0 → (wpX11_within N (fun S4 r5 => (¬ r5 = 0 → (vp_in p0 4 ∧ ((p1 ≤ (S4 30 0 p0.toNatClampNeg) → (∃ nq, wbX11_sale_48 N post nq S4 p0 p1 0 0 0)) ∧ (¬ p1 ≤ (S4 30 0 p0.toNatClampNeg) → (post S4 ((-3))))))) ∧ (r5 = 0 → (post S4 ((-2))))) S1 p1 1 99)) ∧ (r2 = 0 → (post S1 ((-1))))) S p0
set_option maxHeartbeats 4000000 in
set_option maxRecDepth 100000 in
theorem bX11_sale_104 {p : Program} {e : Env} {s : State} {m : MethodId} {args : Array Value} {below : List Frame} {meth : Method} {c : Code} {post : tq_St → Int32 → Prop} (C : tq_At p s m meth c args cX11_sale 7 ((some .int)) ((tq_ws yX11_sale cX11_sale 7 (some .int))) RX11 D cy z ad)  : ∀ (S : tq_St) (x3 : Nat) (x4 : Int32) (H : Heap) (locs : List Loc) (ls : Array Slot), wbX11_sale_104 N post   S x3 x4 → tq_wd D cy z H0 ad N (tq_mix S M) H → va_S (fun q => z ≤ q) s.heap H locs → lv_has ls 7 [(0, .ref (ad 1 0)), (3, .ref (ad 2 x3)), (4, .int x4)] → W p l e (tq_rm 2 49) s m args below meth c H locs 0 0 (MQ below (va_Qi (fun r u => post u r) (fun u => tq_P D cy z H0 ad N u M) (fun q => z ≤ q)) args s 0 0 (fun q => z ≤ q)) (F0 m 104 ls []) := by
  obtain ⟨hx, hb, hr, hml, hown, hts, hlocks, hK, hG⟩ := id C
  have hw : ∀ w ∈ tq_W, w.before args s = true := fun w h => hts w (List.mem_cons_of_mem _ h)
  intro S x3 x4 H locs ls h hW hS hl
  unfold wbX11_sale_104 at h
  refine lv_aload_n hx hb dX11_sale_104 rfl (lv_at hl 1 rfl) ?_
  refine lv_dup hx hb dX11_sale_105 rfl ?_
  obtain ⟨b18, h⟩ := h
  refine tqc_get (v := .int (S 2 x3 1)) hx hb hw tq_inX5 hown hK hW (by decide) (tq_mk_2 b18) rfl 1 (by decide) (hw _ tw_255) (fun _ h9 => h9) rfl dX11_sale_106 ?_
  refine lv_iload hx hb dX11_sale_109 (lv_at hl 2 rfl) ?_
  refine lv_iadd hx hb dX11_sale_111 ?_
  refine tqc_put hx hb hw tq_inX5 tyX5 tyX5_ok nmX5 hown hK hW hS (by decide) (tq_mk_2 b18) rfl 1 (by decide) (hw _ tw_255) (fun _ h9 => h9) rfl rfl rfl rfl (tq_mk_2 b18) dX11_sale_112 (fun H locs hW hS => ?_)
  generalize eS19 : tq_up S 2 x3 1 ((S 2 x3 1) + x4) = S19 at hW
  have h := h S19 eS19.symm
  refine lv_aload_n hx hb dX11_sale_115 rfl (lv_at hl 0 rfl) ?_
  refine tqc_get (v := .ref (ad 4 0)) hx hb hw tq_inX11 hown hK hW (by decide) (tq_mk_1 (by decide)) rfl 13 (by decide) (hw _ tw_350) (fun _ h9 => h9) rfl dX11_sale_116 ?_
  refine lv_dup hx hb dX11_sale_119 rfl ?_
  refine tqc_get (v := .int (S19 4 0 4)) hx hb hw tq_inX2 hown hK hW (by decide) (tq_mk_4 (by decide)) rfl 4 (by decide) (hw _ tw_214) (fun _ h9 => h9) rfl dX11_sale_120 ?_
  refine lv_iload hx hb dX11_sale_123 (lv_at hl 2 rfl) ?_
  refine lv_iadd hx hb dX11_sale_125 ?_
  refine tqc_put hx hb hw tq_inX2 tyX2 tyX2_ok nmX2 hown hK hW hS (by decide) (tq_mk_4 (by decide)) rfl 4 (by decide) (hw _ tw_214) (fun _ h9 => h9) rfl rfl rfl rfl (tq_mk_4 (by decide)) dX11_sale_126 (fun H locs hW hS => ?_)
  generalize eS20 : tq_up S19 4 0 4 ((S19 4 0 4) + x4) = S20 at hW
  have h := h S20 eS20.symm
  refine lv_iload hx hb dX11_sale_129 (lv_at hl 2 rfl) ?_
  exact W.iret (v := x4) hx hb hr (fun t ht hWm => ⟨⟨_, S20, rfl, h, tq_pe ht hW⟩, hS.F ht⟩) hS.2.2 dX11_sale_131
set_option maxHeartbeats 4000000 in
set_option maxRecDepth 100000 in
theorem bX11_sale_48 {p : Program} {e : Env} {s : State} {m : MethodId} {args : Array Value} {below : List Frame} {meth : Method} {c : Code} {post : tq_St → Int32 → Prop} (C : tq_At p s m meth c args cX11_sale 7 ((some .int)) ((tq_ws yX11_sale cX11_sale 7 (some .int))) RX11 D cy z ad)  : ∀ n : Nat, ∀ (S : tq_St) (x1 : Int32) (x2 : Int32) (x3 : Nat) (x4 : Int32) (x5 : Int32) (H : Heap) (locs : List Loc) (ls : Array Slot), wbX11_sale_48 N post   n S x1 x2 x3 x4 x5 → tq_wd D cy z H0 ad N (tq_mix S M) H → va_S (fun q => z ≤ q) s.heap H locs → lv_has ls 7 [(0, .ref (ad 1 0)), (1, .int x1), (2, .int x2), (3, .ref (ad 2 x3)), (4, .int x4), (5, .int x5)] → W p l e (tq_rm 2 49) s m args below meth c H locs 0 0 (MQ below (va_Qi (fun r u => post u r) (fun u => tq_P D cy z H0 ad N u M) (fun q => z ≤ q)) args s 0 0 (fun q => z ≤ q)) (F0 m 48 ls []) := by
  obtain ⟨hx, hb, hr, hml, hown, hts, hlocks, hK, hG⟩ := id C
  have hw : ∀ w ∈ tq_W, w.before args s = true := fun w h => hts w (List.mem_cons_of_mem _ h)
  intro n
  induction n with
  | zero =>
    intro S x1 x2 x3 x4 x5 H locs ls h
    exact absurd h (by unfold wbX11_sale_48; exact id)
  | succ n ih =>
    intro S x1 x2 x3 x4 x5 H locs ls h hW hS hl
    unfold wbX11_sale_48 at h
    refine lv_iload hx hb dX11_sale_48 (lv_at hl 5 rfl) ?_
    refine lv_iload_n hx hb dX11_sale_50 rfl (lv_at hl 2 rfl) ?_
    refine lv_icmp_ge (tgt := 104) hx hb dX11_sale_51 (by decide) (fun c9 => ?_) (fun c9 => ?_)
    · have h := h.1 c9
      exact bX11_sale_104 C  _ _ _ _ _ _ h hW hS (lv_sub hl [0, 3, 4] rfl)
    · have h := h.2 c9
      refine lv_aload_n hx hb dX11_sale_54 rfl (lv_at hl 0 rfl) ?_
      refine tqc_get (v := .ref (ad 4 0)) hx hb hw tq_inX11 hown hK hW (by decide) (tq_mk_1 (by decide)) rfl 13 (by decide) (hw _ tw_350) (fun _ h9 => h9) rfl dX11_sale_55 ?_
      refine lv_iload_n hx hb dX11_sale_58 rfl (lv_at hl 1 rfl) ?_
      refine lv_iconst (v := (-1)) hx hb dX11_sale_59 (by decide) ?_
      refine tqc_callVi (As := [.int x1, .int ((-1))]) (rest := []) (kX2_greatest h) ⟨hx, hb, hml, hown, hts⟩ (cwV 2 hts (tq_goodV tw_1278 tw_1279 tw_1280 tw_120 tw_1281) rfl rfl rfl (by decide +kernel) ⟨(Nat.le_of_ble_eq_true rfl), (Nat.le_of_ble_eq_true rfl)⟩) (tq_recvC hK hW (by decide) (tq_mk_4 (by decide)) rfl) hK hG hW hS rfl hl.1 rfl (Nat.le_of_ble_eq_true rfl) dX11_sale_60 ⟨(Nat.le_of_ble_eq_true rfl), (Nat.le_of_ble_eq_true rfl)⟩ (fun r11 S10 H locs h hW hS => ?_)
      refine lv_istore (lv' := [(6, .int r11), (0, .ref (ad 1 0)), (1, .int x1), (2, .int x2), (3, .ref (ad 2 x3)), (4, .int x4), (5, .int x5)]) hx hb dX11_sale_63 hl (by decide) rfl (fun ls hl => ?_)
      refine lv_iload hx hb dX11_sale_65 (lv_at hl 0 rfl) ?_
      refine lv_if_ge (tgt := 73) hx hb dX11_sale_67 (by decide) (fun c12 => ?_) (fun c12 => ?_)
      · have h := h.1 c12
        refine lv_iload hx hb dX11_sale_73 (lv_at hl 5 rfl) ?_
        refine lv_aload_n hx hb dX11_sale_75 rfl (lv_at hl 1 rfl) ?_
        refine tqc_get (v := .ref (ad 4 0)) hx hb hw tq_inX11 hown hK hW (by decide) (tq_mk_1 (by decide)) rfl 13 (by decide) (hw _ tw_350) (fun _ h9 => h9) rfl dX11_sale_76 ?_
        refine lv_iload_n hx hb dX11_sale_79 rfl (lv_at hl 2 rfl) ?_
        refine lv_iload hx hb dX11_sale_80 (lv_at hl 0 rfl) ?_
        refine tqc_callVi (As := [.int x1, .int r11]) (rest := [.int x4]) (kX2_sellOne h) ⟨hx, hb, hml, hown, hts⟩ (cwV 2 hts (tq_goodV tw_1282 tw_1283 tw_1284 tw_120 tw_1285) rfl rfl rfl (by decide +kernel) ⟨(Nat.le_of_ble_eq_true rfl), (Nat.le_of_ble_eq_true rfl)⟩) (tq_recvC hK hW (by decide) (tq_mk_4 (by decide)) rfl) hK hG hW hS rfl hl.1 rfl (Nat.le_of_ble_eq_true rfl) dX11_sale_82 ⟨(Nat.le_of_ble_eq_true rfl), (Nat.le_of_ble_eq_true rfl)⟩ (fun r14 S13 H locs h hW hS => ?_)
        refine lv_iadd hx hb dX11_sale_85 ?_
        refine lv_istore (lv' := [(4, .int (x4 + r14)), (6, .int r11), (0, .ref (ad 1 0)), (1, .int x1), (2, .int x2), (3, .ref (ad 2 x3)), (5, .int x5)]) hx hb dX11_sale_86 hl (by decide) rfl (fun ls hl => ?_)
        refine lv_aload_n hx hb dX11_sale_88 rfl (lv_at hl 5 rfl) ?_
        obtain ⟨b15, h⟩ := h
        refine tqc_get (v := .ref (ad 30 x3)) hx hb hw tq_inX5 hown hK hW (by decide) (tq_mk_2 b15) rfl 2 (by decide) (hw _ tw_258) (fun _ h9 => h9) rfl dX11_sale_89 ?_
        refine lv_iload_n hx hb dX11_sale_92 rfl (lv_at hl 3 rfl) ?_
        refine lv_dup2_11 hx hb dX11_sale_93 rfl rfl ?_
        obtain ⟨b16, h⟩ := h
        refine tqc_iald (jn := x1.toNatClampNeg) hx hb hK hW (by decide) (tq_mk_30 b15) b16 rfl dX11_sale_94 ?_
        refine lv_iconst (v := 1) hx hb dX11_sale_95 (by decide) ?_
        refine lv_isub hx hb dX11_sale_96 ?_
        refine tqc_iast (jn := x1.toNatClampNeg) hx hb hK hW hS (by decide) (tq_mk_30 b15) b16 rfl (tq_mk_30 b15) dX11_sale_97 (fun H locs hW hS => ?_)
        generalize eS17 : tq_up S13 30 x3 x1.toNatClampNeg ((S13 30 x3 x1.toNatClampNeg) - 1) = S17 at hW
        have h := h S17 eS17.symm
        refine lv_iinc (v := x5 + 1) (lv' := [(5, .int (x5 + 1)), (4, .int (x4 + r14)), (6, .int r11), (0, .ref (ad 1 0)), (1, .int x1), (2, .int x2), (3, .ref (ad 2 x3))]) hx hb dX11_sale_98 hl (k := 6) rfl rfl (by decide) rfl (fun ls hl => ?_)
        refine lv_goto (tgt := 48) hx hb dX11_sale_101 (by decide) ?_
        exact ih _ _ _ _ _ _ _ _ _ h hW hS (lv_sub hl [3, 4, 5, 6, 1, 0] rfl)
      · have h := h.2 c12
        refine lv_goto (tgt := 104) hx hb dX11_sale_70 (by decide) ?_
        exact bX11_sale_104 C  _ _ _ _ _ _ h hW hS (lv_sub hl [1, 4, 5] rfl)
set_option maxHeartbeats 4000000 in
set_option maxRecDepth 100000 in
theorem kX11_sale {post : tq_St → Int32 → Prop} {S : tq_St} {p0 : Int32} {p1 : Int32} (h : wpX11_sale N post S p0 p1) : tq_sI l yX11_sale (tq_ws yX11_sale cX11_sale 7 (some .int)) 2 49 D cy z H0 ad N M S [.ref (ad 1 0), .int p0, .int p1] post := by
  unfold wpX11_sale at h
  refine Met.ofW (cc := cX11_sale) (maxL := 7) (ret := (some .int)) (by decide) rfl ?_
  intro p e s m args below meth c s₁ B hml hv
  obtain ⟨rfl, hW, hK, hG⟩ := hv
  have hx := B.exec
  have hb := B.bytes
  have hr := B.returns
  have hts := atoms_spec (ws := (tq_ws yX11_sale cX11_sale 7 (some .int))) B.pre
  have hw : ∀ w ∈ tq_W, w.before _ s = true := fun w h => hts w (List.mem_cons_of_mem _ h)
  have hown : s.vm.findClass RX11 = some m.cls := findClass_of_methodNamed B.named
  have hlocks := B.notSynchronized
  have C : tq_At p s m meth c [.ref (ad 1 0), .int p0, .int p1].toArray cX11_sale 7 ((some .int)) ((tq_ws yX11_sale cX11_sale 7 (some .int))) RX11 D cy z ad := ⟨hx, hb, hr, hml, hown, hts, hlocks, hK, hG⟩
  have hS : va_S (fun q => z ≤ q) s.heap s.heap [] := va_S.rf
  have hl := lv_entry ([.ref (ad 1 0), .int p0, .int p1]) (n := 7) (Nat.le_of_ble_eq_true rfl)
  rw [lg_entry_eq]
  generalize (lg_sl ([.ref (ad 1 0), .int p0, .int p1]) ++ List.replicate (7 - (lg_sl ([.ref (ad 1 0), .int p0, .int p1])).length) Slot.unset).toArray = ls at hl ⊢
  have hl : lv_has ls 7 [(0, .ref (ad 1 0)), (1, .int p0), (2, .int p1)] := hl
  have hW : tq_wd D cy z H0 ad N (tq_mix S M) s.heap := hW
  refine lv_iload_n hx hb dX11_sale_0 rfl (lv_at hl 1 rfl) ?_
  refine tqc_callSi (As := [.int p0]) (rest := []) (kX11_isSort h) ⟨hx, hb, hml, hown, hts⟩ (va_cwS 1 hts (tq_goodS tw_412 tw_413 tw_115 tw_414) rfl rfl rfl (by decide +kernel) ⟨(Nat.le_of_ble_eq_true rfl), (Nat.le_of_ble_eq_true rfl)⟩) hK hG hW hS rfl hl.1 rfl (Nat.le_of_ble_eq_true rfl) dX11_sale_1 ⟨(Nat.le_of_ble_eq_true rfl), (Nat.le_of_ble_eq_true rfl)⟩ (fun r2 S1 H locs h hW hS => ?_)
  refine lv_if_ne (tgt := 9) hx hb dX11_sale_4 (by decide) (fun c3 => ?_) (fun c3 => ?_)
  · have h := h.1 c3
    refine lv_iload_n hx hb dX11_sale_9 rfl (lv_at hl 2 rfl) ?_
    refine lv_iconst (v := 1) hx hb dX11_sale_10 (by decide) ?_
    refine lv_bipush (v := 99) hx hb dX11_sale_11 (by decide) ?_
    refine tqc_callSi (As := [.int p1, .int 1, .int 99]) (rest := []) (kX11_within h) ⟨hx, hb, hml, hown, hts⟩ (va_cwS 3 hts (tq_goodS tw_405 tw_406 tw_115 tw_407) rfl rfl rfl (by decide +kernel) ⟨(Nat.le_of_ble_eq_true rfl), (Nat.le_of_ble_eq_true rfl)⟩) hK hG hW hS rfl hl.1 rfl (Nat.le_of_ble_eq_true rfl) dX11_sale_13 ⟨(Nat.le_of_ble_eq_true rfl), (Nat.le_of_ble_eq_true rfl)⟩ (fun r5 S4 H locs h hW hS => ?_)
    refine lv_if_ne (tgt := 22) hx hb dX11_sale_16 (by decide) (fun c6 => ?_) (fun c6 => ?_)
    · have h := h.1 c6
      refine lv_aload_n hx hb dX11_sale_22 rfl (lv_at hl 0 rfl) ?_
      refine tqc_get (v := .ref (ad 12 0)) hx hb hw tq_inX11 hown hK hW (by decide) (tq_mk_1 (by decide)) rfl 1 (by decide) (hw _ tw_338) (fun _ h9 => h9) rfl dX11_sale_23 ?_
      refine lv_iconst (v := 0) hx hb dX11_sale_26 (by decide) ?_
      refine tqc_aald (jn := 0) (v := .ref (ad 2 0)) hx hb hK hW (by decide) (tq_mk_12 (by decide)) 3 rfl rfl (by unfold vp_in; decide) (by decide) rfl dX11_sale_27 ?_
      refine lv_astore_n (lv' := [(3, .ref (ad 2 0)), (0, .ref (ad 1 0)), (1, .int p0), (2, .int p1)]) hx hb dX11_sale_28 rfl hl (by decide) rfl (fun ls hl => ?_)
      refine lv_aload_n hx hb dX11_sale_29 rfl (lv_at hl 0 rfl) ?_
      refine tqc_get (v := .ref (ad 30 0)) hx hb hw tq_inX5 hown hK hW (by decide) (tq_mk_2 (by decide)) rfl 2 (by decide) (hw _ tw_258) (fun _ h9 => h9) rfl dX11_sale_30 ?_
      refine lv_iload_n hx hb dX11_sale_33 rfl (lv_at hl 2 rfl) ?_
      obtain ⟨b7, h⟩ := h
      refine tqc_iald (jn := p0.toNatClampNeg) hx hb hK hW (by decide) (tq_mk_30 (by decide)) b7 rfl dX11_sale_34 ?_
      refine lv_iload_n hx hb dX11_sale_35 rfl (lv_at hl 3 rfl) ?_
      refine lv_icmp_ge (tgt := 42) hx hb dX11_sale_36 (by decide) (fun c8 => ?_) (fun c8 => ?_)
      · have h := h.1 c8
        refine lv_iconst (v := 0) hx hb dX11_sale_42 (by decide) ?_
        refine lv_istore (lv' := [(4, .int 0), (3, .ref (ad 2 0)), (0, .ref (ad 1 0)), (1, .int p0), (2, .int p1)]) hx hb dX11_sale_43 hl (by decide) rfl (fun ls hl => ?_)
        refine lv_iconst (v := 0) hx hb dX11_sale_45 (by decide) ?_
        refine lv_istore (lv' := [(5, .int 0), (4, .int 0), (3, .ref (ad 2 0)), (0, .ref (ad 1 0)), (1, .int p0), (2, .int p1)]) hx hb dX11_sale_46 hl (by decide) rfl (fun ls hl => ?_)
        obtain ⟨nq, h⟩ := h
        exact bX11_sale_48 C  nq _ _ _ _ _ _ _ _ _ h hW hS (lv_sub hl [3, 4, 5, 2, 1, 0] rfl)
      · have h := h.2 c8
        refine lv_bipush (v := (-3)) hx hb dX11_sale_39 (by decide) ?_
        exact W.iret (v := (-3)) hx hb hr (fun t ht hWm => ⟨⟨_, S4, rfl, h, tq_pe ht hW⟩, hS.F ht⟩) hS.2.2 dX11_sale_41
    · have h := h.2 c6
      refine lv_bipush (v := (-2)) hx hb dX11_sale_19 (by decide) ?_
      exact W.iret (v := (-2)) hx hb hr (fun t ht hWm => ⟨⟨_, S4, rfl, h, tq_pe ht hW⟩, hS.F ht⟩) hS.2.2 dX11_sale_21
  · have h := h.2 c3
    refine lv_iconst (v := (-1)) hx hb dX11_sale_7 (by decide) ?_
    exact W.iret (v := (-1)) hx hb hr (fun t ht hWm => ⟨⟨_, S1, rfl, h, tq_pe ht hW⟩, hS.F ht⟩) hS.2.2 dX11_sale_8
-- X11 bought
def wbX11_bought_18 (N : Nat → Nat) (post : tq_St → Int32 → Prop)  (S : tq_St) : Prop :=
  post S ((-1))
def wbX11_bought_45 (N : Nat → Nat) (post : tq_St → Int32 → Prop)  (S : tq_St) (y0 : Int32) : Prop :=
  post S y0
def wpX11_bought (N : Nat → Nat) (post : tq_St → Int32 → Prop) (S : tq_St) (p0 : Int32) (p1 : Int32) : Prop :=
  wpX11_within N (fun S1 r2 => (r2 = 0 → (wbX11_bought_18 N post S1 )) ∧ (¬ r2 = 0 → (wpX11_within N (fun S4 r5 => (¬ r5 = 0 → ((¬ p1 = 0 → (vp_in p0 6 ∧ (wbX11_bought_45 N post S4 (S4 47 0 p0.toNatClampNeg)))) ∧ (p1 = 0 → (vp_in p0 6 ∧ (wbX11_bought_45 N post S4 (S4 46 0 p0.toNatClampNeg)))))) ∧ (r5 = 0 → (wbX11_bought_18 N post S4 ))) S1 p1 0 1))) S p0 0 5
set_option maxHeartbeats 4000000 in
set_option maxRecDepth 100000 in
theorem bX11_bought_18 {p : Program} {e : Env} {s : State} {m : MethodId} {args : Array Value} {below : List Frame} {meth : Method} {c : Code} {post : tq_St → Int32 → Prop} (C : tq_At p s m meth c args cX11_bought 3 ((some .int)) ((tq_ws yX11_bought cX11_bought 3 (some .int))) RX11 D cy z ad)  : ∀ (S : tq_St)  (H : Heap) (locs : List Loc) (ls : Array Slot), wbX11_bought_18 N post   S  → tq_wd D cy z H0 ad N (tq_mix S M) H → va_S (fun q => z ≤ q) s.heap H locs → lv_has ls 3 [] → W p l e (tq_rm 1 22) s m args below meth c H locs 0 0 (MQ below (va_Qi (fun r u => post u r) (fun u => tq_P D cy z H0 ad N u M) (fun q => z ≤ q)) args s 0 0 (fun q => z ≤ q)) (F0 m 18 ls []) := by
  obtain ⟨hx, hb, hr, hml, hown, hts, hlocks, hK, hG⟩ := id C
  have hw : ∀ w ∈ tq_W, w.before args s = true := fun w h => hts w (List.mem_cons_of_mem _ h)
  intro S  H locs ls h hW hS hl
  unfold wbX11_bought_18 at h
  refine lv_iconst (v := (-1)) hx hb dX11_bought_18 (by decide) ?_
  exact W.iret (v := (-1)) hx hb hr (fun t ht hWm => ⟨⟨_, S, rfl, h, tq_pe ht hW⟩, hS.F ht⟩) hS.2.2 dX11_bought_19
set_option maxHeartbeats 4000000 in
set_option maxRecDepth 100000 in
theorem bX11_bought_45 {p : Program} {e : Env} {s : State} {m : MethodId} {args : Array Value} {below : List Frame} {meth : Method} {c : Code} {post : tq_St → Int32 → Prop} (C : tq_At p s m meth c args cX11_bought 3 ((some .int)) ((tq_ws yX11_bought cX11_bought 3 (some .int))) RX11 D cy z ad)  : ∀ (S : tq_St) (y0 : Int32) (H : Heap) (locs : List Loc) (ls : Array Slot), wbX11_bought_45 N post   S y0 → tq_wd D cy z H0 ad N (tq_mix S M) H → va_S (fun q => z ≤ q) s.heap H locs → lv_has ls 3 [] → W p l e (tq_rm 1 22) s m args below meth c H locs 0 0 (MQ below (va_Qi (fun r u => post u r) (fun u => tq_P D cy z H0 ad N u M) (fun q => z ≤ q)) args s 0 0 (fun q => z ≤ q)) (F0 m 45 ls [.int y0]) := by
  obtain ⟨hx, hb, hr, hml, hown, hts, hlocks, hK, hG⟩ := id C
  have hw : ∀ w ∈ tq_W, w.before args s = true := fun w h => hts w (List.mem_cons_of_mem _ h)
  intro S y0 H locs ls h hW hS hl
  unfold wbX11_bought_45 at h
  exact W.iret (v := y0) hx hb hr (fun t ht hWm => ⟨⟨_, S, rfl, h, tq_pe ht hW⟩, hS.F ht⟩) hS.2.2 dX11_bought_45
set_option maxHeartbeats 4000000 in
set_option maxRecDepth 100000 in
theorem kX11_bought {post : tq_St → Int32 → Prop} {S : tq_St} {p0 : Int32} {p1 : Int32} (h : wpX11_bought N post S p0 p1) : tq_sI l yX11_bought (tq_ws yX11_bought cX11_bought 3 (some .int)) 1 22 D cy z H0 ad N M S [.ref (ad 1 0), .int p0, .int p1] post := by
  unfold wpX11_bought at h
  refine Met.ofW (cc := cX11_bought) (maxL := 3) (ret := (some .int)) (by decide) rfl ?_
  intro p e s m args below meth c s₁ B hml hv
  obtain ⟨rfl, hW, hK, hG⟩ := hv
  have hx := B.exec
  have hb := B.bytes
  have hr := B.returns
  have hts := atoms_spec (ws := (tq_ws yX11_bought cX11_bought 3 (some .int))) B.pre
  have hw : ∀ w ∈ tq_W, w.before _ s = true := fun w h => hts w (List.mem_cons_of_mem _ h)
  have hown : s.vm.findClass RX11 = some m.cls := findClass_of_methodNamed B.named
  have hlocks := B.notSynchronized
  have C : tq_At p s m meth c [.ref (ad 1 0), .int p0, .int p1].toArray cX11_bought 3 ((some .int)) ((tq_ws yX11_bought cX11_bought 3 (some .int))) RX11 D cy z ad := ⟨hx, hb, hr, hml, hown, hts, hlocks, hK, hG⟩
  have hS : va_S (fun q => z ≤ q) s.heap s.heap [] := va_S.rf
  have hl := lv_entry ([.ref (ad 1 0), .int p0, .int p1]) (n := 3) (Nat.le_of_ble_eq_true rfl)
  rw [lg_entry_eq]
  generalize (lg_sl ([.ref (ad 1 0), .int p0, .int p1]) ++ List.replicate (3 - (lg_sl ([.ref (ad 1 0), .int p0, .int p1])).length) Slot.unset).toArray = ls at hl ⊢
  have hl : lv_has ls 3 [(0, .ref (ad 1 0)), (1, .int p0), (2, .int p1)] := hl
  have hW : tq_wd D cy z H0 ad N (tq_mix S M) s.heap := hW
  refine lv_iload_n hx hb dX11_bought_0 rfl (lv_at hl 1 rfl) ?_
  refine lv_iconst (v := 0) hx hb dX11_bought_1 (by decide) ?_
  refine lv_iconst (v := 5) hx hb dX11_bought_2 (by decide) ?_
  refine tqc_callSi (As := [.int p0, .int 0, .int 5]) (rest := []) (kX11_within h) ⟨hx, hb, hml, hown, hts⟩ (va_cwS 3 hts (tq_goodS tw_405 tw_406 tw_115 tw_407) rfl rfl rfl (by decide +kernel) ⟨(Nat.le_of_ble_eq_true rfl), (Nat.le_of_ble_eq_true rfl)⟩) hK hG hW hS rfl hl.1 rfl (Nat.le_of_ble_eq_true rfl) dX11_bought_3 ⟨(Nat.le_of_ble_eq_true rfl), (Nat.le_of_ble_eq_true rfl)⟩ (fun r2 S1 H locs h hW hS => ?_)
  refine lv_if_eq (tgt := 18) hx hb dX11_bought_6 (by decide) (fun c3 => ?_) (fun c3 => ?_)
  · have h := h.1 c3
    exact bX11_bought_18 C  _  _ _ _ h hW hS (lv_sub hl [] rfl)
  · have h := h.2 c3
    refine lv_iload_n hx hb dX11_bought_9 rfl (lv_at hl 2 rfl) ?_
    refine lv_iconst (v := 0) hx hb dX11_bought_10 (by decide) ?_
    refine lv_iconst (v := 1) hx hb dX11_bought_11 (by decide) ?_
    refine tqc_callSi (As := [.int p1, .int 0, .int 1]) (rest := []) (kX11_within h) ⟨hx, hb, hml, hown, hts⟩ (va_cwS 3 hts (tq_goodS tw_405 tw_406 tw_115 tw_407) rfl rfl rfl (by decide +kernel) ⟨(Nat.le_of_ble_eq_true rfl), (Nat.le_of_ble_eq_true rfl)⟩) hK hG hW hS rfl hl.1 rfl (Nat.le_of_ble_eq_true rfl) dX11_bought_12 ⟨(Nat.le_of_ble_eq_true rfl), (Nat.le_of_ble_eq_true rfl)⟩ (fun r5 S4 H locs h hW hS => ?_)
    refine lv_if_ne (tgt := 20) hx hb dX11_bought_15 (by decide) (fun c6 => ?_) (fun c6 => ?_)
    · have h := h.1 c6
      refine lv_iload_n hx hb dX11_bought_20 rfl (lv_at hl 2 rfl) ?_
      refine lv_if_ne (tgt := 36) hx hb dX11_bought_21 (by decide) (fun c7 => ?_) (fun c7 => ?_)
      · have h := h.1 c7
        refine lv_aload_n hx hb dX11_bought_36 rfl (lv_at hl 0 rfl) ?_
        refine tqc_get (v := .ref (ad 4 0)) hx hb hw tq_inX11 hown hK hW (by decide) (tq_mk_1 (by decide)) rfl 13 (by decide) (hw _ tw_350) (fun _ h9 => h9) rfl dX11_bought_37 ?_
        refine tqc_get (v := .ref (ad 47 0)) hx hb hw tq_inX2 hown hK hW (by decide) (tq_mk_4 (by decide)) rfl 3 (by decide) (hw _ tw_213) (fun _ h9 => h9) rfl dX11_bought_40 ?_
        refine lv_iload_n hx hb dX11_bought_43 rfl (lv_at hl 1 rfl) ?_
        obtain ⟨b8, h⟩ := h
        refine tqc_iald (jn := p0.toNatClampNeg) hx hb hK hW (by decide) (tq_mk_47 (by decide)) b8 rfl dX11_bought_44 ?_
        exact bX11_bought_45 C  _ _ _ _ _ h hW hS (lv_sub hl [] rfl)
      · have h := h.2 c7
        refine lv_aload_n hx hb dX11_bought_24 rfl (lv_at hl 0 rfl) ?_
        refine tqc_get (v := .ref (ad 4 0)) hx hb hw tq_inX11 hown hK hW (by decide) (tq_mk_1 (by decide)) rfl 13 (by decide) (hw _ tw_350) (fun _ h9 => h9) rfl dX11_bought_25 ?_
        refine tqc_get (v := .ref (ad 46 0)) hx hb hw tq_inX2 hown hK hW (by decide) (tq_mk_4 (by decide)) rfl 2 (by decide) (hw _ tw_211) (fun _ h9 => h9) rfl dX11_bought_28 ?_
        refine lv_iload_n hx hb dX11_bought_31 rfl (lv_at hl 1 rfl) ?_
        obtain ⟨b9, h⟩ := h
        refine tqc_iald (jn := p0.toNatClampNeg) hx hb hK hW (by decide) (tq_mk_46 (by decide)) b9 rfl dX11_bought_32 ?_
        refine lv_goto (tgt := 45) hx hb dX11_bought_33 (by decide) ?_
        exact bX11_bought_45 C  _ _ _ _ _ h hW hS (lv_sub hl [] rfl)
    · have h := h.2 c6
      exact bX11_bought_18 C  _  _ _ _ h hW hS (lv_sub hl [] rfl)
-- X11 shares
def wbX11_shares_14 (N : Nat → Nat) (post : tq_St → Int32 → Prop)  (S : tq_St) : Prop :=
  post S ((-1))
def wbX11_shares_35 (N : Nat → Nat) (post : tq_St → Int32 → Prop)  (S : tq_St) : Prop :=
  post S ((-2))
def wpX11_shares (N : Nat → Nat) (post : tq_St → Int32 → Prop) (S : tq_St) (p0 : Int32) (p1 : Int32) (p2 : Int32) : Prop :=
  wpX11_isHolder N (fun S1 r2 => (r2 = 0 → (wbX11_shares_14 N post S1 )) ∧ (¬ r2 = 0 → (wpX11_isHolder N (fun S4 r5 => (¬ r5 = 0 → (vp_in p0 8 ∧ (wpX11_within N (fun S8 r9 => (r9 = 0 → (wbX11_shares_35 N post S8 )) ∧ (¬ r9 = 0 → ((¬ p0 = p1 → (∀ S12, S12 = tq_up S8 25 0 p0.toNatClampNeg ((S8 25 0 p0.toNatClampNeg) - p2) → (vp_in p1 8 ∧ (∀ S14, S14 = tq_up S12 25 0 p1.toNatClampNeg ((S12 25 0 p1.toNatClampNeg) + p2) → (post S14 (S14 25 0 p1.toNatClampNeg)))))) ∧ (p0 = p1 → (wbX11_shares_35 N post S8 ))))) S4 p2 1 (S4 25 0 p0.toNatClampNeg)))) ∧ (r5 = 0 → (wbX11_shares_14 N post S4 ))) S1 p1))) S p0
set_option maxHeartbeats 4000000 in
set_option maxRecDepth 100000 in
theorem bX11_shares_14 {p : Program} {e : Env} {s : State} {m : MethodId} {args : Array Value} {below : List Frame} {meth : Method} {c : Code} {post : tq_St → Int32 → Prop} (C : tq_At p s m meth c args cX11_shares 4 ((some .int)) ((tq_ws yX11_shares cX11_shares 4 (some .int))) RX11 D cy z ad)  : ∀ (S : tq_St)  (H : Heap) (locs : List Loc) (ls : Array Slot), wbX11_shares_14 N post   S  → tq_wd D cy z H0 ad N (tq_mix S M) H → va_S (fun q => z ≤ q) s.heap H locs → lv_has ls 4 [] → W p l e (tq_rm 1 22) s m args below meth c H locs 0 0 (MQ below (va_Qi (fun r u => post u r) (fun u => tq_P D cy z H0 ad N u M) (fun q => z ≤ q)) args s 0 0 (fun q => z ≤ q)) (F0 m 14 ls []) := by
  obtain ⟨hx, hb, hr, hml, hown, hts, hlocks, hK, hG⟩ := id C
  have hw : ∀ w ∈ tq_W, w.before args s = true := fun w h => hts w (List.mem_cons_of_mem _ h)
  intro S  H locs ls h hW hS hl
  unfold wbX11_shares_14 at h
  refine lv_iconst (v := (-1)) hx hb dX11_shares_14 (by decide) ?_
  exact W.iret (v := (-1)) hx hb hr (fun t ht hWm => ⟨⟨_, S, rfl, h, tq_pe ht hW⟩, hS.F ht⟩) hS.2.2 dX11_shares_15
set_option maxHeartbeats 4000000 in
set_option maxRecDepth 100000 in
theorem bX11_shares_35 {p : Program} {e : Env} {s : State} {m : MethodId} {args : Array Value} {below : List Frame} {meth : Method} {c : Code} {post : tq_St → Int32 → Prop} (C : tq_At p s m meth c args cX11_shares 4 ((some .int)) ((tq_ws yX11_shares cX11_shares 4 (some .int))) RX11 D cy z ad)  : ∀ (S : tq_St)  (H : Heap) (locs : List Loc) (ls : Array Slot), wbX11_shares_35 N post   S  → tq_wd D cy z H0 ad N (tq_mix S M) H → va_S (fun q => z ≤ q) s.heap H locs → lv_has ls 4 [] → W p l e (tq_rm 1 22) s m args below meth c H locs 0 0 (MQ below (va_Qi (fun r u => post u r) (fun u => tq_P D cy z H0 ad N u M) (fun q => z ≤ q)) args s 0 0 (fun q => z ≤ q)) (F0 m 35 ls []) := by
  obtain ⟨hx, hb, hr, hml, hown, hts, hlocks, hK, hG⟩ := id C
  have hw : ∀ w ∈ tq_W, w.before args s = true := fun w h => hts w (List.mem_cons_of_mem _ h)
  intro S  H locs ls h hW hS hl
  unfold wbX11_shares_35 at h
  refine lv_bipush (v := (-2)) hx hb dX11_shares_35 (by decide) ?_
  exact W.iret (v := (-2)) hx hb hr (fun t ht hWm => ⟨⟨_, S, rfl, h, tq_pe ht hW⟩, hS.F ht⟩) hS.2.2 dX11_shares_37
set_option maxHeartbeats 4000000 in
set_option maxRecDepth 100000 in
theorem kX11_shares {post : tq_St → Int32 → Prop} {S : tq_St} {p0 : Int32} {p1 : Int32} {p2 : Int32} (h : wpX11_shares N post S p0 p1 p2) : tq_sI l yX11_shares (tq_ws yX11_shares cX11_shares 4 (some .int)) 1 22 D cy z H0 ad N M S [.ref (ad 1 0), .int p0, .int p1, .int p2] post := by
  unfold wpX11_shares at h
  refine Met.ofW (cc := cX11_shares) (maxL := 4) (ret := (some .int)) (by decide) rfl ?_
  intro p e s m args below meth c s₁ B hml hv
  obtain ⟨rfl, hW, hK, hG⟩ := hv
  have hx := B.exec
  have hb := B.bytes
  have hr := B.returns
  have hts := atoms_spec (ws := (tq_ws yX11_shares cX11_shares 4 (some .int))) B.pre
  have hw : ∀ w ∈ tq_W, w.before _ s = true := fun w h => hts w (List.mem_cons_of_mem _ h)
  have hown : s.vm.findClass RX11 = some m.cls := findClass_of_methodNamed B.named
  have hlocks := B.notSynchronized
  have C : tq_At p s m meth c [.ref (ad 1 0), .int p0, .int p1, .int p2].toArray cX11_shares 4 ((some .int)) ((tq_ws yX11_shares cX11_shares 4 (some .int))) RX11 D cy z ad := ⟨hx, hb, hr, hml, hown, hts, hlocks, hK, hG⟩
  have hS : va_S (fun q => z ≤ q) s.heap s.heap [] := va_S.rf
  have hl := lv_entry ([.ref (ad 1 0), .int p0, .int p1, .int p2]) (n := 4) (Nat.le_of_ble_eq_true rfl)
  rw [lg_entry_eq]
  generalize (lg_sl ([.ref (ad 1 0), .int p0, .int p1, .int p2]) ++ List.replicate (4 - (lg_sl ([.ref (ad 1 0), .int p0, .int p1, .int p2])).length) Slot.unset).toArray = ls at hl ⊢
  have hl : lv_has ls 4 [(0, .ref (ad 1 0)), (1, .int p0), (2, .int p1), (3, .int p2)] := hl
  have hW : tq_wd D cy z H0 ad N (tq_mix S M) s.heap := hW
  refine lv_iload_n hx hb dX11_shares_0 rfl (lv_at hl 1 rfl) ?_
  refine tqc_callSi (As := [.int p0]) (rest := []) (kX11_isHolder h) ⟨hx, hb, hml, hown, hts⟩ (va_cwS 1 hts (tq_goodS tw_1295 tw_1296 tw_115 tw_1297) rfl rfl rfl (by decide +kernel) ⟨(Nat.le_of_ble_eq_true rfl), (Nat.le_of_ble_eq_true rfl)⟩) hK hG hW hS rfl hl.1 rfl (Nat.le_of_ble_eq_true rfl) dX11_shares_1 ⟨(Nat.le_of_ble_eq_true rfl), (Nat.le_of_ble_eq_true rfl)⟩ (fun r2 S1 H locs h hW hS => ?_)
  refine lv_if_eq (tgt := 14) hx hb dX11_shares_4 (by decide) (fun c3 => ?_) (fun c3 => ?_)
  · have h := h.1 c3
    exact bX11_shares_14 C  _  _ _ _ h hW hS (lv_sub hl [] rfl)
  · have h := h.2 c3
    refine lv_iload_n hx hb dX11_shares_7 rfl (lv_at hl 2 rfl) ?_
    refine tqc_callSi (As := [.int p1]) (rest := []) (kX11_isHolder h) ⟨hx, hb, hml, hown, hts⟩ (va_cwS 1 hts (tq_goodS tw_1295 tw_1296 tw_115 tw_1297) rfl rfl rfl (by decide +kernel) ⟨(Nat.le_of_ble_eq_true rfl), (Nat.le_of_ble_eq_true rfl)⟩) hK hG hW hS rfl hl.1 rfl (Nat.le_of_ble_eq_true rfl) dX11_shares_8 ⟨(Nat.le_of_ble_eq_true rfl), (Nat.le_of_ble_eq_true rfl)⟩ (fun r5 S4 H locs h hW hS => ?_)
    refine lv_if_ne (tgt := 16) hx hb dX11_shares_11 (by decide) (fun c6 => ?_) (fun c6 => ?_)
    · have h := h.1 c6
      refine lv_iload_n hx hb dX11_shares_16 rfl (lv_at hl 3 rfl) ?_
      refine lv_iconst (v := 1) hx hb dX11_shares_17 (by decide) ?_
      refine lv_aload_n hx hb dX11_shares_18 rfl (lv_at hl 0 rfl) ?_
      refine tqc_get (v := .ref (ad 25 0)) hx hb hw tq_inX11 hown hK hW (by decide) (tq_mk_1 (by decide)) rfl 14 (by decide) (hw _ tw_351) (fun _ h9 => h9) rfl dX11_shares_19 ?_
      refine lv_iload_n hx hb dX11_shares_22 rfl (lv_at hl 1 rfl) ?_
      obtain ⟨b7, h⟩ := h
      refine tqc_iald (jn := p0.toNatClampNeg) hx hb hK hW (by decide) (tq_mk_25 (by decide)) b7 rfl dX11_shares_23 ?_
      refine tqc_callSi (As := [.int p2, .int 1, .int (S4 25 0 p0.toNatClampNeg)]) (rest := []) (kX11_within h) ⟨hx, hb, hml, hown, hts⟩ (va_cwS 3 hts (tq_goodS tw_405 tw_406 tw_115 tw_407) rfl rfl rfl (by decide +kernel) ⟨(Nat.le_of_ble_eq_true rfl), (Nat.le_of_ble_eq_true rfl)⟩) hK hG hW hS rfl hl.1 rfl (Nat.le_of_ble_eq_true rfl) dX11_shares_24 ⟨(Nat.le_of_ble_eq_true rfl), (Nat.le_of_ble_eq_true rfl)⟩ (fun r9 S8 H locs h hW hS => ?_)
      refine lv_if_eq (tgt := 35) hx hb dX11_shares_27 (by decide) (fun c10 => ?_) (fun c10 => ?_)
      · have h := h.1 c10
        exact bX11_shares_35 C  _  _ _ _ h hW hS (lv_sub hl [] rfl)
      · have h := h.2 c10
        refine lv_iload_n hx hb dX11_shares_30 rfl (lv_at hl 1 rfl) ?_
        refine lv_iload_n hx hb dX11_shares_31 rfl (lv_at hl 2 rfl) ?_
        refine lv_icmp_ne (tgt := 38) hx hb dX11_shares_32 (by decide) (fun c11 => ?_) (fun c11 => ?_)
        · have h := h.1 c11
          refine lv_aload_n hx hb dX11_shares_38 rfl (lv_at hl 0 rfl) ?_
          refine tqc_get (v := .ref (ad 25 0)) hx hb hw tq_inX11 hown hK hW (by decide) (tq_mk_1 (by decide)) rfl 14 (by decide) (hw _ tw_351) (fun _ h9 => h9) rfl dX11_shares_39 ?_
          refine lv_iload_n hx hb dX11_shares_42 rfl (lv_at hl 1 rfl) ?_
          refine lv_dup2_11 hx hb dX11_shares_43 rfl rfl ?_
          refine tqc_iald (jn := p0.toNatClampNeg) hx hb hK hW (by decide) (tq_mk_25 (by decide)) b7 rfl dX11_shares_44 ?_
          refine lv_iload_n hx hb dX11_shares_45 rfl (lv_at hl 3 rfl) ?_
          refine lv_isub hx hb dX11_shares_46 ?_
          refine tqc_iast (jn := p0.toNatClampNeg) hx hb hK hW hS (by decide) (tq_mk_25 (by decide)) b7 rfl (tq_mk_25 (by decide)) dX11_shares_47 (fun H locs hW hS => ?_)
          generalize eS12 : tq_up S8 25 0 p0.toNatClampNeg ((S8 25 0 p0.toNatClampNeg) - p2) = S12 at hW
          have h := h S12 eS12.symm
          refine lv_aload_n hx hb dX11_shares_48 rfl (lv_at hl 0 rfl) ?_
          refine tqc_get (v := .ref (ad 25 0)) hx hb hw tq_inX11 hown hK hW (by decide) (tq_mk_1 (by decide)) rfl 14 (by decide) (hw _ tw_351) (fun _ h9 => h9) rfl dX11_shares_49 ?_
          refine lv_iload_n hx hb dX11_shares_52 rfl (lv_at hl 2 rfl) ?_
          refine lv_dup2_11 hx hb dX11_shares_53 rfl rfl ?_
          obtain ⟨b13, h⟩ := h
          refine tqc_iald (jn := p1.toNatClampNeg) hx hb hK hW (by decide) (tq_mk_25 (by decide)) b13 rfl dX11_shares_54 ?_
          refine lv_iload_n hx hb dX11_shares_55 rfl (lv_at hl 3 rfl) ?_
          refine lv_iadd hx hb dX11_shares_56 ?_
          refine tqc_iast (jn := p1.toNatClampNeg) hx hb hK hW hS (by decide) (tq_mk_25 (by decide)) b13 rfl (tq_mk_25 (by decide)) dX11_shares_57 (fun H locs hW hS => ?_)
          generalize eS14 : tq_up S12 25 0 p1.toNatClampNeg ((S12 25 0 p1.toNatClampNeg) + p2) = S14 at hW
          have h := h S14 eS14.symm
          refine lv_aload_n hx hb dX11_shares_58 rfl (lv_at hl 0 rfl) ?_
          refine tqc_get (v := .ref (ad 25 0)) hx hb hw tq_inX11 hown hK hW (by decide) (tq_mk_1 (by decide)) rfl 14 (by decide) (hw _ tw_351) (fun _ h9 => h9) rfl dX11_shares_59 ?_
          refine lv_iload_n hx hb dX11_shares_62 rfl (lv_at hl 2 rfl) ?_
          refine tqc_iald (jn := p1.toNatClampNeg) hx hb hK hW (by decide) (tq_mk_25 (by decide)) b13 rfl dX11_shares_63 ?_
          exact W.iret (v := S14 25 0 p1.toNatClampNeg) hx hb hr (fun t ht hWm => ⟨⟨_, S14, rfl, h, tq_pe ht hW⟩, hS.F ht⟩) hS.2.2 dX11_shares_64
        · have h := h.2 c11
          exact bX11_shares_35 C  _  _ _ _ h hW hS (lv_sub hl [] rfl)
    · have h := h.2 c6
      exact bX11_shares_14 C  _  _ _ _ h hW hS (lv_sub hl [] rfl)
