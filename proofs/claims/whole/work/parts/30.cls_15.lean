variable {l : Launch} {D : va_G} {cy : Nat → ClassId} {z : Nat} {H0 : Heap} {ad : Nat → Nat → Nat} {N : tq_Nn} {M : tq_St}
-- X11 taken
def wbX11_taken_53 (N : tq_Nn) (post : tq_St → Int32 → Prop)  (S : tq_St) (y0 : Int32) : Prop :=
  post S y0
def wpX11_taken (N : tq_Nn) (post : tq_St → Int32 → Prop) (S : tq_St) (p0 : Int32) (p1 : Int32) : Prop :=
  wpX11_within N (fun S1 r2 => (¬ r2 = 0 → (wpX11_isPaper N (fun S4 r5 => (¬ r5 = 0 → (tq_gok N S4 15 16 0 p0 ∧ (N 7 (tq_el S4 15 16 0 p0) = 1 ∧ (wpX11_isUnder N (fun S11 r12 => (r12 = 0 → (wbX11_taken_53 N post S11 ((-13)))) ∧ (¬ r12 = 0 → (wbX11_taken_53 N post S11 (S4 7 (tq_el S4 15 16 0 p0) 1)))) S4 (S4 7 (tq_el S4 15 16 0 p0) 1) p1)))) ∧ (r5 = 0 → (post S4 ((-11))))) S1 p0)) ∧ (r2 = 0 → (post S1 ((-2))))) S p1 0 6
set_option maxHeartbeats 4000000 in
set_option maxRecDepth 100000 in
theorem bX11_taken_53 {p : Program} {e : Env} {s : State} {m : MethodId} {args : Array Value} {below : List Frame} {meth : Method} {c : Code} {post : tq_St → Int32 → Prop} (C : tq_At p s m meth c args cX11_taken 4 ((some .int)) ((tq_ws yX11_taken cX11_taken 4 (some .int))) RX11 D cy z ad)  : ∀ (S : tq_St) (y0 : Int32) (H : Heap) (locs : List Loc) (ls : Array Slot), wbX11_taken_53 N post   S y0 → tq_wd D cy z H0 ad N (tq_mix S M) H → va_S (fun q => z ≤ q) s.heap H locs → lv_has ls 4 [] → W p l e (tq_rm 3 64) s m args below meth c H locs 0 0 (MQ below (va_Qi (fun r u => post u r) (fun u => tq_P D cy z H0 ad N u M) (fun q => z ≤ q)) args s 0 0 (fun q => z ≤ q)) (F0 m 53 ls [.int y0]) := by
  obtain ⟨hx, hb, hr, hml, hown, hts, hlocks, hK, hG⟩ := id C
  have hw : ∀ w ∈ tq_W, w.before args s = true := fun w h => hts w (List.mem_cons_of_mem _ h)
  intro S y0 H locs ls h hW hS hl
  unfold wbX11_taken_53 at h
  exact W.iret (v := y0) hx hb hr (fun t ht hWm => ⟨⟨_, S, rfl, h, tq_pe ht hW⟩, hS.F ht⟩) hS.2.2 dX11_taken_53
set_option maxHeartbeats 4000000 in
set_option maxRecDepth 100000 in
theorem kX11_taken {post : tq_St → Int32 → Prop} {S : tq_St} {p0 : Int32} {p1 : Int32} (h : wpX11_taken N post S p0 p1) : tq_sI l yX11_taken (tq_ws yX11_taken cX11_taken 4 (some .int)) 3 64 D cy z H0 ad N M S [.ref (ad 1 0), .int p0, .int p1] post := by
  unfold wpX11_taken at h
  refine Met.ofW (cc := cX11_taken) (maxL := 4) (ret := (some .int)) (by decide) rfl ?_
  intro p e s m args below meth c s₁ B hml hv
  obtain ⟨rfl, hW, hK, hG⟩ := hv
  have hx := B.exec
  have hb := B.bytes
  have hr := B.returns
  have hts := atoms_spec (ws := (tq_ws yX11_taken cX11_taken 4 (some .int))) B.pre
  have hw : ∀ w ∈ tq_W, w.before _ s = true := fun w h => hts w (List.mem_cons_of_mem _ h)
  have hown : s.vm.findClass RX11 = some m.cls := findClass_of_methodNamed B.named
  have hlocks := B.notSynchronized
  have C : tq_At p s m meth c [.ref (ad 1 0), .int p0, .int p1].toArray cX11_taken 4 ((some .int)) ((tq_ws yX11_taken cX11_taken 4 (some .int))) RX11 D cy z ad := ⟨hx, hb, hr, hml, hown, hts, hlocks, hK, hG⟩
  have hS : va_S (fun q => z ≤ q) s.heap s.heap [] := va_S.rf
  have hl := lv_entry ([.ref (ad 1 0), .int p0, .int p1]) (n := 4) (Nat.le_of_ble_eq_true rfl)
  rw [lg_entry_eq]
  generalize (lg_sl ([.ref (ad 1 0), .int p0, .int p1]) ++ List.replicate (4 - (lg_sl ([.ref (ad 1 0), .int p0, .int p1])).length) Slot.unset).toArray = ls at hl ⊢
  have hl : lv_has ls 4 [(0, .ref (ad 1 0)), (1, .int p0), (2, .int p1)] := hl
  have hW : tq_wd D cy z H0 ad N (tq_mix S M) s.heap := hW
  refine lv_iload_n hx hb dX11_taken_0 rfl (lv_at hl 2 rfl) ?_
  refine lv_iconst (v := 0) hx hb dX11_taken_1 (by decide) ?_
  refine lv_bipush (v := 6) hx hb dX11_taken_2 (by decide) ?_
  refine tqc_callSi (As := [.int p1, .int 0, .int 6]) (rest := []) (kX11_within h) ⟨hx, hb, hml, hown, hts⟩ (va_cwS 3 hts (tq_goodS tw_405 tw_406 tw_115 tw_407) rfl rfl rfl (by decide +kernel) ⟨(Nat.le_of_ble_eq_true rfl), (Nat.le_of_ble_eq_true rfl)⟩) hK hG hW hS rfl hl.1 rfl (Nat.le_of_ble_eq_true rfl) dX11_taken_4 ⟨(Nat.le_of_ble_eq_true rfl), (Nat.le_of_ble_eq_true rfl)⟩ (fun r2 S1 H locs h hW hS => ?_)
  refine lv_if_ne (tgt := 13) hx hb dX11_taken_7 (by decide) (fun c3 => ?_) (fun c3 => ?_)
  · have h := h.1 c3
    refine lv_aload_n hx hb dX11_taken_13 rfl (lv_at hl 0 rfl) ?_
    refine lv_iload_n hx hb dX11_taken_14 rfl (lv_at hl 1 rfl) ?_
    refine tqc_callVi (As := [.int p0]) (rest := []) (kX11_isPaper h) ⟨hx, hb, hml, hown, hts⟩ (cwV 1 hts (tq_goodV tw_819 tw_821 tw_18 tw_115 tw_822) rfl rfl rfl (by decide +kernel) ⟨(Nat.le_of_ble_eq_true rfl), (Nat.le_of_ble_eq_true rfl)⟩) (tq_recvC hK hW (by decide) (tq_mk_1 (by decide)) rfl) hK hG hW hS rfl hl.1 rfl (Nat.le_of_ble_eq_true rfl) dX11_taken_15 ⟨(Nat.le_of_ble_eq_true rfl), (Nat.le_of_ble_eq_true rfl)⟩ (fun r5 S4 H locs h hW hS => ?_)
    refine lv_if_ne (tgt := 24) hx hb dX11_taken_18 (by decide) (fun c6 => ?_) (fun c6 => ?_)
    · have h := h.1 c6
      refine lv_aload_n hx hb dX11_taken_24 rfl (lv_at hl 0 rfl) ?_
      refine tqc_get (v := .ref (ad 15 0)) hx hb hw tq_inX11 hown hK hW (by decide) (tq_mk_1 (by decide)) rfl 5 (by decide) (hw _ tw_342) (fun _ h9 => h9) rfl dX11_taken_25 ?_
      refine lv_iload_n hx hb dX11_taken_28 rfl (lv_at hl 1 rfl) ?_
      obtain ⟨b9, h⟩ := h
      refine tqc_callVr (kr := 7) (As := [.int p0]) (rest := []) (kJl_get (kd := 16) (post := fun u i => u = S4 ∧ i = tq_el S4 15 16 0 p0) (by decide) (by decide) (tq_mk_15 (by decide)) (fun q9 => tq_mk_16 q9) b9 ⟨rfl, rfl⟩) ⟨hx, hb, hml, hown, hts⟩ (cwV 1 hts (tq_goodV tw_827 tw_828 tw_829 tw_118 tw_830) rfl rfl rfl (by decide +kernel) ⟨(Nat.le_of_ble_eq_true rfl), (Nat.le_of_ble_eq_true rfl)⟩) (tq_recvL hK hW (by decide) (tq_mk_15 (by decide))) hK hG hW hS rfl hl.1 rfl (Nat.le_of_ble_eq_true rfl) dX11_taken_29 ⟨(Nat.le_of_ble_eq_true rfl), (Nat.le_of_ble_eq_true rfl)⟩ (fun i8 S7 H locs q9 hW hS => ?_)
      rw [q9.1] at hW
      rw [q9.2]
      obtain ⟨b10, h⟩ := h
      refine tqc_cast7 hx hb hown (hw _ tw_488) hK hG hW b10 dX11_taken_32 ?_
      refine tqc_get7 (v := .int (S4 7 (tq_el S4 15 16 0 p0) 1)) hx hb hw tq_inX3 tq_inX1 hown hK hW b10 1 (by decide) (hw _ tw_513) (fun _ h9 => h9) rfl dX11_taken_35 ?_
      refine lv_istore_n (lv' := [(3, .int (S4 7 (tq_el S4 15 16 0 p0) 1)), (0, .ref (ad 1 0)), (1, .int p0), (2, .int p1)]) hx hb dX11_taken_38 rfl hl (by decide) rfl (fun ls hl => ?_)
      refine lv_iload_n hx hb dX11_taken_39 rfl (lv_at hl 0 rfl) ?_
      refine lv_iload_n hx hb dX11_taken_40 rfl (lv_at hl 3 rfl) ?_
      refine tqc_callSi (As := [.int (S4 7 (tq_el S4 15 16 0 p0) 1), .int p1]) (rest := []) (kX11_isUnder h) ⟨hx, hb, hml, hown, hts⟩ (va_cwS 2 hts (tq_goodS tw_1371 tw_1372 tw_115 tw_1373) rfl rfl rfl (by decide +kernel) ⟨(Nat.le_of_ble_eq_true rfl), (Nat.le_of_ble_eq_true rfl)⟩) hK hG hW hS rfl hl.1 rfl (Nat.le_of_ble_eq_true rfl) dX11_taken_41 ⟨(Nat.le_of_ble_eq_true rfl), (Nat.le_of_ble_eq_true rfl)⟩ (fun r12 S11 H locs h hW hS => ?_)
      refine lv_if_eq (tgt := 51) hx hb dX11_taken_44 (by decide) (fun c13 => ?_) (fun c13 => ?_)
      · have h := h.1 c13
        refine lv_bipush (v := (-13)) hx hb dX11_taken_51 (by decide) ?_
        exact bX11_taken_53 C  _ _ _ _ _ h hW hS (lv_sub hl [] rfl)
      · have h := h.2 c13
        refine lv_iload_n hx hb dX11_taken_47 rfl (lv_at hl 0 rfl) ?_
        refine lv_goto (tgt := 53) hx hb dX11_taken_48 (by decide) ?_
        exact bX11_taken_53 C  _ _ _ _ _ h hW hS (lv_sub hl [] rfl)
    · have h := h.2 c6
      refine lv_bipush (v := (-11)) hx hb dX11_taken_21 (by decide) ?_
      exact W.iret (v := (-11)) hx hb hr (fun t ht hWm => ⟨⟨_, S4, rfl, h, tq_pe ht hW⟩, hS.F ht⟩) hS.2.2 dX11_taken_23
  · have h := h.2 c3
    refine lv_bipush (v := (-2)) hx hb dX11_taken_10 (by decide) ?_
    exact W.iret (v := (-2)) hx hb hr (fun t ht hWm => ⟨⟨_, S1, rfl, h, tq_pe ht hW⟩, hS.F ht⟩) hS.2.2 dX11_taken_12
-- X11 count
def wpX11_count (N : tq_Nn) (post : tq_St → Int32 → Prop) (S : tq_St) (p0 : Int32) : Prop :=
  (p0 = 0 → (post S (S 1 0 2))) ∧ (¬ p0 = 0 → ((p0 = 1 → (post S (S 15 0 2))) ∧ (¬ p0 = 1 → ((p0 = 2 → (post S (S 19 0 2))) ∧ (¬ p0 = 2 → ((p0 = 3 → (post S (S 22 0 2))) ∧ (¬ p0 = 3 → ((p0 = 4 → (post S (S 1 0 0))) ∧ (¬ p0 = 4 → ((p0 = 5 → (post S (S 1 0 10))) ∧ (¬ p0 = 5 → ((p0 = 6 → (post S (S 3 0 1))) ∧ (¬ p0 = 6 → ((p0 = 7 → (wpX11_shipsAt N (fun S15 r16 => post S15 r16) S (-1))) ∧ (¬ p0 = 7 → ((p0 = 8 → (post S (S 4 0 4))) ∧ (¬ p0 = 8 → ((p0 = 9 → (post S (S 1 0 16))) ∧ (¬ p0 = 9 → ((p0 = 10 → (post S (S 5 0 1))) ∧ (¬ p0 = 10 → (post S ((-2))))))))))))))))))))))))
set_option maxHeartbeats 4000000 in
set_option maxRecDepth 100000 in
theorem kX11_count {post : tq_St → Int32 → Prop} {S : tq_St} {p0 : Int32} (h : wpX11_count N post S p0) : tq_sI l yX11_count (tq_ws yX11_count cX11_count 2 (some .int)) 4 87 D cy z H0 ad N M S [.ref (ad 1 0), .int p0] post := by
  unfold wpX11_count at h
  refine Met.ofW (cc := cX11_count) (maxL := 2) (ret := (some .int)) (by decide) rfl ?_
  intro p e s m args below meth c s₁ B hml hv
  obtain ⟨rfl, hW, hK, hG⟩ := hv
  have hx := B.exec
  have hb := B.bytes
  have hr := B.returns
  have hts := atoms_spec (ws := (tq_ws yX11_count cX11_count 2 (some .int))) B.pre
  have hw : ∀ w ∈ tq_W, w.before _ s = true := fun w h => hts w (List.mem_cons_of_mem _ h)
  have hown : s.vm.findClass RX11 = some m.cls := findClass_of_methodNamed B.named
  have hlocks := B.notSynchronized
  have C : tq_At p s m meth c [.ref (ad 1 0), .int p0].toArray cX11_count 2 ((some .int)) ((tq_ws yX11_count cX11_count 2 (some .int))) RX11 D cy z ad := ⟨hx, hb, hr, hml, hown, hts, hlocks, hK, hG⟩
  have hS : va_S (fun q => z ≤ q) s.heap s.heap [] := va_S.rf
  have hl := lv_entry ([.ref (ad 1 0), .int p0]) (n := 2) (Nat.le_of_ble_eq_true rfl)
  rw [lg_entry_eq]
  generalize (lg_sl ([.ref (ad 1 0), .int p0]) ++ List.replicate (2 - (lg_sl ([.ref (ad 1 0), .int p0])).length) Slot.unset).toArray = ls at hl ⊢
  have hl : lv_has ls 2 [(0, .ref (ad 1 0)), (1, .int p0)] := hl
  have hW : tq_wd D cy z H0 ad N (tq_mix S M) s.heap := hW
  refine lv_iload_n hx hb dX11_count_0 rfl (lv_at hl 1 rfl) ?_
  by_cases c1 : p0 = 0
  · have h := h.1 c1
    refine W.eq (g2 := F0 m 1 ls (.int 0 :: [])) (by rw [c1]) ?_
    refine lv_tableIn (tgt := 60) hx hb dX11_count_1 (by decide) (by decide) rfl (by decide) ?_
    refine lv_aload_n hx hb dX11_count_60 rfl (lv_at hl 0 rfl) ?_
    refine tqc_get (v := .int (S 1 0 2)) hx hb hw tq_inX11 hown hK hW (by decide) (tq_mk_1 (by decide)) rfl 2 (by decide) (hw _ tw_339) (fun _ h9 => h9) rfl dX11_count_61 ?_
    exact W.iret (v := S 1 0 2) hx hb hr (fun t ht hWm => ⟨⟨_, S, rfl, h, tq_pe ht hW⟩, hS.F ht⟩) hS.2.2 dX11_count_64
  · have h := h.2 c1
    by_cases c2 : p0 = 1
    · have h := h.1 c2
      refine W.eq (g2 := F0 m 1 ls (.int 1 :: [])) (by rw [c2]) ?_
      refine lv_tableIn (tgt := 65) hx hb dX11_count_1 (by decide) (by decide) rfl (by decide) ?_
      refine lv_aload_n hx hb dX11_count_65 rfl (lv_at hl 0 rfl) ?_
      refine tqc_get (v := .ref (ad 15 0)) hx hb hw tq_inX11 hown hK hW (by decide) (tq_mk_1 (by decide)) rfl 5 (by decide) (hw _ tw_342) (fun _ h9 => h9) rfl dX11_count_66 ?_
      refine tqc_callVi (As := []) (rest := []) (kJl_size (post := fun u r => u = S ∧ r = S 15 0 2) (by decide) (tq_mk_15 (by decide)) ⟨rfl, rfl⟩) ⟨hx, hb, hml, hown, hts⟩ (cwV 0 hts (tq_goodV tw_484 tw_485 tw_486 tw_118 tw_487) rfl rfl rfl (by decide +kernel) ⟨(Nat.le_of_ble_eq_true rfl), (Nat.le_of_ble_eq_true rfl)⟩) (tq_recvL hK hW (by decide) (tq_mk_15 (by decide))) hK hG hW hS rfl hl.1 rfl (Nat.le_of_ble_eq_true rfl) dX11_count_69 ⟨(Nat.le_of_ble_eq_true rfl), (Nat.le_of_ble_eq_true rfl)⟩ (fun r4 S3 H locs q9 hW hS => ?_)
      rw [q9.1] at hW
      rw [q9.2]
      exact W.iret (v := S 15 0 2) hx hb hr (fun t ht hWm => ⟨⟨_, S, rfl, h, tq_pe ht hW⟩, hS.F ht⟩) hS.2.2 dX11_count_72
    · have h := h.2 c2
      by_cases c5 : p0 = 2
      · have h := h.1 c5
        refine W.eq (g2 := F0 m 1 ls (.int 2 :: [])) (by rw [c5]) ?_
        refine lv_tableIn (tgt := 73) hx hb dX11_count_1 (by decide) (by decide) rfl (by decide) ?_
        refine lv_aload_n hx hb dX11_count_73 rfl (lv_at hl 0 rfl) ?_
        refine tqc_get (v := .ref (ad 19 0)) hx hb hw tq_inX11 hown hK hW (by decide) (tq_mk_1 (by decide)) rfl 7 (by decide) (hw _ tw_344) (fun _ h9 => h9) rfl dX11_count_74 ?_
        refine tqc_callVi (As := []) (rest := []) (kJl_size (post := fun u r => u = S ∧ r = S 19 0 2) (by decide) (tq_mk_19 (by decide)) ⟨rfl, rfl⟩) ⟨hx, hb, hml, hown, hts⟩ (cwV 0 hts (tq_goodV tw_484 tw_485 tw_486 tw_118 tw_487) rfl rfl rfl (by decide +kernel) ⟨(Nat.le_of_ble_eq_true rfl), (Nat.le_of_ble_eq_true rfl)⟩) (tq_recvL hK hW (by decide) (tq_mk_19 (by decide))) hK hG hW hS rfl hl.1 rfl (Nat.le_of_ble_eq_true rfl) dX11_count_77 ⟨(Nat.le_of_ble_eq_true rfl), (Nat.le_of_ble_eq_true rfl)⟩ (fun r7 S6 H locs q9 hW hS => ?_)
        rw [q9.1] at hW
        rw [q9.2]
        exact W.iret (v := S 19 0 2) hx hb hr (fun t ht hWm => ⟨⟨_, S, rfl, h, tq_pe ht hW⟩, hS.F ht⟩) hS.2.2 dX11_count_80
      · have h := h.2 c5
        by_cases c8 : p0 = 3
        · have h := h.1 c8
          refine W.eq (g2 := F0 m 1 ls (.int 3 :: [])) (by rw [c8]) ?_
          refine lv_tableIn (tgt := 81) hx hb dX11_count_1 (by decide) (by decide) rfl (by decide) ?_
          refine lv_aload_n hx hb dX11_count_81 rfl (lv_at hl 0 rfl) ?_
          refine tqc_get (v := .ref (ad 22 0)) hx hb hw tq_inX11 hown hK hW (by decide) (tq_mk_1 (by decide)) rfl 9 (by decide) (hw _ tw_346) (fun _ h9 => h9) rfl dX11_count_82 ?_
          refine tqc_callVi (As := []) (rest := []) (kJl_size (post := fun u r => u = S ∧ r = S 22 0 2) (by decide) (tq_mk_22 (by decide)) ⟨rfl, rfl⟩) ⟨hx, hb, hml, hown, hts⟩ (cwV 0 hts (tq_goodV tw_484 tw_485 tw_486 tw_118 tw_487) rfl rfl rfl (by decide +kernel) ⟨(Nat.le_of_ble_eq_true rfl), (Nat.le_of_ble_eq_true rfl)⟩) (tq_recvL hK hW (by decide) (tq_mk_22 (by decide))) hK hG hW hS rfl hl.1 rfl (Nat.le_of_ble_eq_true rfl) dX11_count_85 ⟨(Nat.le_of_ble_eq_true rfl), (Nat.le_of_ble_eq_true rfl)⟩ (fun r10 S9 H locs q9 hW hS => ?_)
          rw [q9.1] at hW
          rw [q9.2]
          exact W.iret (v := S 22 0 2) hx hb hr (fun t ht hWm => ⟨⟨_, S, rfl, h, tq_pe ht hW⟩, hS.F ht⟩) hS.2.2 dX11_count_88
        · have h := h.2 c8
          by_cases c11 : p0 = 4
          · have h := h.1 c11
            refine W.eq (g2 := F0 m 1 ls (.int 4 :: [])) (by rw [c11]) ?_
            refine lv_tableIn (tgt := 89) hx hb dX11_count_1 (by decide) (by decide) rfl (by decide) ?_
            refine lv_aload_n hx hb dX11_count_89 rfl (lv_at hl 0 rfl) ?_
            refine tqc_get (v := .int (S 1 0 0)) hx hb hw tq_inX11 hown hK hW (by decide) (tq_mk_1 (by decide)) rfl 0 (by decide) (hw _ tw_337) (fun _ h9 => h9) rfl dX11_count_90 ?_
            exact W.iret (v := S 1 0 0) hx hb hr (fun t ht hWm => ⟨⟨_, S, rfl, h, tq_pe ht hW⟩, hS.F ht⟩) hS.2.2 dX11_count_93
          · have h := h.2 c11
            by_cases c12 : p0 = 5
            · have h := h.1 c12
              refine W.eq (g2 := F0 m 1 ls (.int 5 :: [])) (by rw [c12]) ?_
              refine lv_tableIn (tgt := 94) hx hb dX11_count_1 (by decide) (by decide) rfl (by decide) ?_
              refine lv_aload_n hx hb dX11_count_94 rfl (lv_at hl 0 rfl) ?_
              refine tqc_get (v := .int (S 1 0 10)) hx hb hw tq_inX11 hown hK hW (by decide) (tq_mk_1 (by decide)) rfl 10 (by decide) (hw _ tw_347) (fun _ h9 => h9) rfl dX11_count_95 ?_
              exact W.iret (v := S 1 0 10) hx hb hr (fun t ht hWm => ⟨⟨_, S, rfl, h, tq_pe ht hW⟩, hS.F ht⟩) hS.2.2 dX11_count_98
            · have h := h.2 c12
              by_cases c13 : p0 = 6
              · have h := h.1 c13
                refine W.eq (g2 := F0 m 1 ls (.int 6 :: [])) (by rw [c13]) ?_
                refine lv_tableIn (tgt := 99) hx hb dX11_count_1 (by decide) (by decide) rfl (by decide) ?_
                refine lv_aload_n hx hb dX11_count_99 rfl (lv_at hl 0 rfl) ?_
                refine tqc_get (v := .ref (ad 3 0)) hx hb hw tq_inX11 hown hK hW (by decide) (tq_mk_1 (by decide)) rfl 12 (by decide) (hw _ tw_349) (fun _ h9 => h9) rfl dX11_count_100 ?_
                refine tqc_get (v := .int (S 3 0 1)) hx hb hw tq_inX6 hown hK hW (by decide) (tq_mk_3 (by decide)) rfl 1 (by decide) (hw _ tw_186) (fun _ h9 => h9) rfl dX11_count_103 ?_
                exact W.iret (v := S 3 0 1) hx hb hr (fun t ht hWm => ⟨⟨_, S, rfl, h, tq_pe ht hW⟩, hS.F ht⟩) hS.2.2 dX11_count_106
              · have h := h.2 c13
                by_cases c14 : p0 = 7
                · have h := h.1 c14
                  refine W.eq (g2 := F0 m 1 ls (.int 7 :: [])) (by rw [c14]) ?_
                  refine lv_tableIn (tgt := 107) hx hb dX11_count_1 (by decide) (by decide) rfl (by decide) ?_
                  refine lv_aload_n hx hb dX11_count_107 rfl (lv_at hl 0 rfl) ?_
                  refine lv_iconst (v := (-1)) hx hb dX11_count_108 (by decide) ?_
                  refine tqc_callVi (As := [.int ((-1))]) (rest := []) (kX11_shipsAt h) ⟨hx, hb, hml, hown, hts⟩ (cwV 1 hts (tq_goodV tw_880 tw_882 tw_23 tw_115 tw_883) rfl rfl rfl (by decide +kernel) ⟨(Nat.le_of_ble_eq_true rfl), (Nat.le_of_ble_eq_true rfl)⟩) (tq_recvC hK hW (by decide) (tq_mk_1 (by decide)) rfl) hK hG hW hS rfl hl.1 rfl (Nat.le_of_ble_eq_true rfl) dX11_count_109 ⟨(Nat.le_of_ble_eq_true rfl), (Nat.le_of_ble_eq_true rfl)⟩ (fun r16 S15 H locs h hW hS => ?_)
                  exact W.iret (v := r16) hx hb hr (fun t ht hWm => ⟨⟨_, S15, rfl, h, tq_pe ht hW⟩, hS.F ht⟩) hS.2.2 dX11_count_112
                · have h := h.2 c14
                  by_cases c17 : p0 = 8
                  · have h := h.1 c17
                    refine W.eq (g2 := F0 m 1 ls (.int 8 :: [])) (by rw [c17]) ?_
                    refine lv_tableIn (tgt := 113) hx hb dX11_count_1 (by decide) (by decide) rfl (by decide) ?_
                    refine lv_aload_n hx hb dX11_count_113 rfl (lv_at hl 0 rfl) ?_
                    refine tqc_get (v := .ref (ad 4 0)) hx hb hw tq_inX11 hown hK hW (by decide) (tq_mk_1 (by decide)) rfl 13 (by decide) (hw _ tw_350) (fun _ h9 => h9) rfl dX11_count_114 ?_
                    refine tqc_get (v := .int (S 4 0 4)) hx hb hw tq_inX2 hown hK hW (by decide) (tq_mk_4 (by decide)) rfl 4 (by decide) (hw _ tw_214) (fun _ h9 => h9) rfl dX11_count_117 ?_
                    exact W.iret (v := S 4 0 4) hx hb hr (fun t ht hWm => ⟨⟨_, S, rfl, h, tq_pe ht hW⟩, hS.F ht⟩) hS.2.2 dX11_count_120
                  · have h := h.2 c17
                    by_cases c18 : p0 = 9
                    · have h := h.1 c18
                      refine W.eq (g2 := F0 m 1 ls (.int 9 :: [])) (by rw [c18]) ?_
                      refine lv_tableIn (tgt := 121) hx hb dX11_count_1 (by decide) (by decide) rfl (by decide) ?_
                      refine lv_aload_n hx hb dX11_count_121 rfl (lv_at hl 0 rfl) ?_
                      refine tqc_get (v := .int (S 1 0 16)) hx hb hw tq_inX11 hown hK hW (by decide) (tq_mk_1 (by decide)) rfl 16 (by decide) (hw _ tw_353) (fun _ h9 => h9) rfl dX11_count_122 ?_
                      exact W.iret (v := S 1 0 16) hx hb hr (fun t ht hWm => ⟨⟨_, S, rfl, h, tq_pe ht hW⟩, hS.F ht⟩) hS.2.2 dX11_count_125
                    · have h := h.2 c18
                      by_cases c19 : p0 = 10
                      · have h := h.1 c19
                        refine W.eq (g2 := F0 m 1 ls (.int 10 :: [])) (by rw [c19]) ?_
                        refine lv_tableIn (tgt := 126) hx hb dX11_count_1 (by decide) (by decide) rfl (by decide) ?_
                        refine lv_aload_n hx hb dX11_count_126 rfl (lv_at hl 0 rfl) ?_
                        refine tqc_get (v := .ref (ad 5 0)) hx hb hw tq_inX11 hown hK hW (by decide) (tq_mk_1 (by decide)) rfl 18 (by decide) (hw _ tw_355) (fun _ h9 => h9) rfl dX11_count_127 ?_
                        refine tqc_get (v := .int (S 5 0 1)) hx hb hw tq_inX0 hown hK hW (by decide) (tq_mk_5 (by decide)) rfl 1 (by decide) (hw _ tw_236) (fun _ h9 => h9) rfl dX11_count_130 ?_
                        exact W.iret (v := S 5 0 1) hx hb hr (fun t ht hWm => ⟨⟨_, S, rfl, h, tq_pe ht hW⟩, hS.F ht⟩) hS.2.2 dX11_count_133
                      · have h := h.2 c19
                        refine lv_tableOut (tgt := 134) hx hb dX11_count_1 (tq_out11 c1 c2 c5 c8 c11 c12 c13 c14 c17 c18 c19) (by decide) ?_
                        refine lv_bipush (v := (-2)) hx hb dX11_count_134 (by decide) ?_
                        exact W.iret (v := (-2)) hx hb hr (fun t ht hWm => ⟨⟨_, S, rfl, h, tq_pe ht hW⟩, hS.F ht⟩) hS.2.2 dX11_count_136
-- X11 sheet
def wbX11_sheet_16 (N : tq_Nn) (post : tq_St → Int32 → Prop)  (S : tq_St) : Prop :=
  post S ((-2))
def wpX11_sheet (N : tq_Nn) (post : tq_St → Int32 → Prop) (S : tq_St) (p0 : Int32) (p1 : Int32) (p2 : Int32) : Prop :=
  wpX11_isSheet N (fun S1 r2 => (r2 = 0 → (wbX11_sheet_16 N post S1 )) ∧ (¬ r2 = 0 → (wpX11_within N (fun S4 r5 => (¬ r5 = 0 → ((0 ≤ p1 → ((p2 ≤ 64 → ((0 ≤ p2 → (vp_in p0 3 ∧ (wpX7_become N (fun S11 => post S11 1) S4 p0.toNatClampNeg p1 p2))) ∧ (¬ 0 ≤ p2 → (post S4 ((-14)))))) ∧ (¬ p2 ≤ 64 → (post S4 ((-2)))))) ∧ (¬ 0 ≤ p1 → (vp_in p0 3 ∧ (wpX7_become N (fun S13 => post S13 1) S4 p0.toNatClampNeg (-1) 0))))) ∧ (r5 = 0 → (wbX11_sheet_16 N post S4 ))) S1 p1 (-1) 2))) S p0
set_option maxHeartbeats 4000000 in
set_option maxRecDepth 100000 in
theorem bX11_sheet_16 {p : Program} {e : Env} {s : State} {m : MethodId} {args : Array Value} {below : List Frame} {meth : Method} {c : Code} {post : tq_St → Int32 → Prop} (C : tq_At p s m meth c args cX11_sheet 4 ((some .int)) ((tq_ws yX11_sheet cX11_sheet 4 (some .int))) RX11 D cy z ad)  : ∀ (S : tq_St)  (H : Heap) (locs : List Loc) (ls : Array Slot), wbX11_sheet_16 N post   S  → tq_wd D cy z H0 ad N (tq_mix S M) H → va_S (fun q => z ≤ q) s.heap H locs → lv_has ls 4 [] → W p l e (tq_rm 2 45) s m args below meth c H locs 0 0 (MQ below (va_Qi (fun r u => post u r) (fun u => tq_P D cy z H0 ad N u M) (fun q => z ≤ q)) args s 0 0 (fun q => z ≤ q)) (F0 m 16 ls []) := by
  obtain ⟨hx, hb, hr, hml, hown, hts, hlocks, hK, hG⟩ := id C
  have hw : ∀ w ∈ tq_W, w.before args s = true := fun w h => hts w (List.mem_cons_of_mem _ h)
  intro S  H locs ls h hW hS hl
  unfold wbX11_sheet_16 at h
  refine lv_bipush (v := (-2)) hx hb dX11_sheet_16 (by decide) ?_
  exact W.iret (v := (-2)) hx hb hr (fun t ht hWm => ⟨⟨_, S, rfl, h, tq_pe ht hW⟩, hS.F ht⟩) hS.2.2 dX11_sheet_18
set_option maxHeartbeats 4000000 in
set_option maxRecDepth 100000 in
theorem kX11_sheet {post : tq_St → Int32 → Prop} {S : tq_St} {p0 : Int32} {p1 : Int32} {p2 : Int32} (h : wpX11_sheet N post S p0 p1 p2) : tq_sI l yX11_sheet (tq_ws yX11_sheet cX11_sheet 4 (some .int)) 2 45 D cy z H0 ad N M S [.ref (ad 1 0), .int p0, .int p1, .int p2] post := by
  unfold wpX11_sheet at h
  refine Met.ofW (cc := cX11_sheet) (maxL := 4) (ret := (some .int)) (by decide) rfl ?_
  intro p e s m args below meth c s₁ B hml hv
  obtain ⟨rfl, hW, hK, hG⟩ := hv
  have hx := B.exec
  have hb := B.bytes
  have hr := B.returns
  have hts := atoms_spec (ws := (tq_ws yX11_sheet cX11_sheet 4 (some .int))) B.pre
  have hw : ∀ w ∈ tq_W, w.before _ s = true := fun w h => hts w (List.mem_cons_of_mem _ h)
  have hown : s.vm.findClass RX11 = some m.cls := findClass_of_methodNamed B.named
  have hlocks := B.notSynchronized
  have C : tq_At p s m meth c [.ref (ad 1 0), .int p0, .int p1, .int p2].toArray cX11_sheet 4 ((some .int)) ((tq_ws yX11_sheet cX11_sheet 4 (some .int))) RX11 D cy z ad := ⟨hx, hb, hr, hml, hown, hts, hlocks, hK, hG⟩
  have hS : va_S (fun q => z ≤ q) s.heap s.heap [] := va_S.rf
  have hl := lv_entry ([.ref (ad 1 0), .int p0, .int p1, .int p2]) (n := 4) (Nat.le_of_ble_eq_true rfl)
  rw [lg_entry_eq]
  generalize (lg_sl ([.ref (ad 1 0), .int p0, .int p1, .int p2]) ++ List.replicate (4 - (lg_sl ([.ref (ad 1 0), .int p0, .int p1, .int p2])).length) Slot.unset).toArray = ls at hl ⊢
  have hl : lv_has ls 4 [(0, .ref (ad 1 0)), (1, .int p0), (2, .int p1), (3, .int p2)] := hl
  have hW : tq_wd D cy z H0 ad N (tq_mix S M) s.heap := hW
  refine lv_iload_n hx hb dX11_sheet_0 rfl (lv_at hl 1 rfl) ?_
  refine tqc_callSi (As := [.int p0]) (rest := []) (kX11_isSheet h) ⟨hx, hb, hml, hown, hts⟩ (va_cwS 1 hts (tq_goodS tw_465 tw_466 tw_115 tw_467) rfl rfl rfl (by decide +kernel) ⟨(Nat.le_of_ble_eq_true rfl), (Nat.le_of_ble_eq_true rfl)⟩) hK hG hW hS rfl hl.1 rfl (Nat.le_of_ble_eq_true rfl) dX11_sheet_1 ⟨(Nat.le_of_ble_eq_true rfl), (Nat.le_of_ble_eq_true rfl)⟩ (fun r2 S1 H locs h hW hS => ?_)
  refine lv_if_eq (tgt := 16) hx hb dX11_sheet_4 (by decide) (fun c3 => ?_) (fun c3 => ?_)
  · have h := h.1 c3
    exact bX11_sheet_16 C  _  _ _ _ h hW hS (lv_sub hl [] rfl)
  · have h := h.2 c3
    refine lv_iload_n hx hb dX11_sheet_7 rfl (lv_at hl 2 rfl) ?_
    refine lv_iconst (v := (-1)) hx hb dX11_sheet_8 (by decide) ?_
    refine lv_iconst (v := 2) hx hb dX11_sheet_9 (by decide) ?_
    refine tqc_callSi (As := [.int p1, .int ((-1)), .int 2]) (rest := []) (kX11_within h) ⟨hx, hb, hml, hown, hts⟩ (va_cwS 3 hts (tq_goodS tw_405 tw_406 tw_115 tw_407) rfl rfl rfl (by decide +kernel) ⟨(Nat.le_of_ble_eq_true rfl), (Nat.le_of_ble_eq_true rfl)⟩) hK hG hW hS rfl hl.1 rfl (Nat.le_of_ble_eq_true rfl) dX11_sheet_10 ⟨(Nat.le_of_ble_eq_true rfl), (Nat.le_of_ble_eq_true rfl)⟩ (fun r5 S4 H locs h hW hS => ?_)
    refine lv_if_ne (tgt := 19) hx hb dX11_sheet_13 (by decide) (fun c6 => ?_) (fun c6 => ?_)
    · have h := h.1 c6
      refine lv_iload_n hx hb dX11_sheet_19 rfl (lv_at hl 2 rfl) ?_
      refine lv_if_ge (tgt := 36) hx hb dX11_sheet_20 (by decide) (fun c7 => ?_) (fun c7 => ?_)
      · have h := h.1 c7
        refine lv_iload_n hx hb dX11_sheet_36 rfl (lv_at hl 3 rfl) ?_
        refine lv_bipush (v := 64) hx hb dX11_sheet_37 (by decide) ?_
        refine lv_icmp_le (tgt := 45) hx hb dX11_sheet_39 (by decide) (fun c8 => ?_) (fun c8 => ?_)
        · have h := h.1 c8
          refine lv_iload_n hx hb dX11_sheet_45 rfl (lv_at hl 3 rfl) ?_
          refine lv_if_ge (tgt := 52) hx hb dX11_sheet_46 (by decide) (fun c9 => ?_) (fun c9 => ?_)
          · have h := h.1 c9
            refine lv_aload_n hx hb dX11_sheet_52 rfl (lv_at hl 0 rfl) ?_
            refine tqc_get (v := .ref (ad 29 0)) hx hb hw tq_inX11 hown hK hW (by decide) (tq_mk_1 (by decide)) rfl 19 (by decide) (hw _ tw_356) (fun _ h9 => h9) rfl dX11_sheet_53 ?_
            refine lv_iload_n hx hb dX11_sheet_56 rfl (lv_at hl 1 rfl) ?_
            obtain ⟨b10, h⟩ := h
            refine tqc_aald (jn := p0.toNatClampNeg) (v := .ref (ad 6 p0.toNatClampNeg)) hx hb hK hW (by decide) (tq_mk_29 (by decide)) 4 rfl rfl b10 rfl rfl dX11_sheet_57 ?_
            refine lv_iload_n hx hb dX11_sheet_58 rfl (lv_at hl 2 rfl) ?_
            refine lv_iload_n hx hb dX11_sheet_59 rfl (lv_at hl 3 rfl) ?_
            refine tqc_callVv (As := [.int p1, .int p2]) (rest := []) (kX7_become h) ⟨hx, hb, hml, hown, hts⟩ (cwV 2 hts (tq_goodV tw_1383 tw_1384 tw_1385 tw_123 tw_1386) rfl rfl rfl (by decide +kernel) ⟨(Nat.le_of_ble_eq_true rfl), (Nat.le_of_ble_eq_true rfl)⟩) (tq_recvC hK hW (by decide) (tq_mk_6 (tq_lt b10)) rfl) hK hG hW hS rfl hl.1 rfl (Nat.le_of_ble_eq_true rfl) dX11_sheet_60 ⟨(Nat.le_of_ble_eq_true rfl), (Nat.le_of_ble_eq_true rfl)⟩ (fun S11 H locs h hW hS => ?_)
            refine lv_iconst (v := 1) hx hb dX11_sheet_63 (by decide) ?_
            exact W.iret (v := 1) hx hb hr (fun t ht hWm => ⟨⟨_, S11, rfl, h, tq_pe ht hW⟩, hS.F ht⟩) hS.2.2 dX11_sheet_64
          · have h := h.2 c9
            refine lv_bipush (v := (-14)) hx hb dX11_sheet_49 (by decide) ?_
            exact W.iret (v := (-14)) hx hb hr (fun t ht hWm => ⟨⟨_, S4, rfl, h, tq_pe ht hW⟩, hS.F ht⟩) hS.2.2 dX11_sheet_51
        · have h := h.2 c8
          refine lv_bipush (v := (-2)) hx hb dX11_sheet_42 (by decide) ?_
          exact W.iret (v := (-2)) hx hb hr (fun t ht hWm => ⟨⟨_, S4, rfl, h, tq_pe ht hW⟩, hS.F ht⟩) hS.2.2 dX11_sheet_44
      · have h := h.2 c7
        refine lv_aload_n hx hb dX11_sheet_23 rfl (lv_at hl 0 rfl) ?_
        refine tqc_get (v := .ref (ad 29 0)) hx hb hw tq_inX11 hown hK hW (by decide) (tq_mk_1 (by decide)) rfl 19 (by decide) (hw _ tw_356) (fun _ h9 => h9) rfl dX11_sheet_24 ?_
        refine lv_iload_n hx hb dX11_sheet_27 rfl (lv_at hl 1 rfl) ?_
        obtain ⟨b12, h⟩ := h
        refine tqc_aald (jn := p0.toNatClampNeg) (v := .ref (ad 6 p0.toNatClampNeg)) hx hb hK hW (by decide) (tq_mk_29 (by decide)) 4 rfl rfl b12 rfl rfl dX11_sheet_28 ?_
        refine lv_iconst (v := (-1)) hx hb dX11_sheet_29 (by decide) ?_
        refine lv_iconst (v := 0) hx hb dX11_sheet_30 (by decide) ?_
        refine tqc_callVv (As := [.int ((-1)), .int 0]) (rest := []) (kX7_become h) ⟨hx, hb, hml, hown, hts⟩ (cwV 2 hts (tq_goodV tw_1383 tw_1384 tw_1385 tw_123 tw_1386) rfl rfl rfl (by decide +kernel) ⟨(Nat.le_of_ble_eq_true rfl), (Nat.le_of_ble_eq_true rfl)⟩) (tq_recvC hK hW (by decide) (tq_mk_6 (tq_lt b12)) rfl) hK hG hW hS rfl hl.1 rfl (Nat.le_of_ble_eq_true rfl) dX11_sheet_31 ⟨(Nat.le_of_ble_eq_true rfl), (Nat.le_of_ble_eq_true rfl)⟩ (fun S13 H locs h hW hS => ?_)
        refine lv_iconst (v := 1) hx hb dX11_sheet_34 (by decide) ?_
        exact W.iret (v := 1) hx hb hr (fun t ht hWm => ⟨⟨_, S13, rfl, h, tq_pe ht hW⟩, hS.F ht⟩) hS.2.2 dX11_sheet_35
    · have h := h.2 c6
      exact bX11_sheet_16 C  _  _ _ _ h hW hS (lv_sub hl [] rfl)
-- X11 cell
def wpX11_cell (N : tq_Nn) (post : tq_St → Int32 → Prop) (S : tq_St) (p0 : Int32) (p1 : Int32) (p2 : Int32) : Prop :=
  wpX11_isSheet N (fun S1 r2 => (¬ r2 = 0 → (vp_in p0 3 ∧ (wpX7_isMissing N (fun S5 r6 => (r6 = 0 → (wpX7_has N (fun S8 r9 => (¬ r9 = 0 → (wpX7_put N (fun S11 => post S11 1) S8 p0.toNatClampNeg p1 p2)) ∧ (r9 = 0 → (post S8 ((-12))))) S5 p0.toNatClampNeg p1 1)) ∧ (¬ r6 = 0 → (post S5 ((-11))))) S1 p0.toNatClampNeg))) ∧ (r2 = 0 → (post S1 ((-2))))) S p0
set_option maxHeartbeats 4000000 in
set_option maxRecDepth 100000 in
theorem kX11_cell {post : tq_St → Int32 → Prop} {S : tq_St} {p0 : Int32} {p1 : Int32} {p2 : Int32} (h : wpX11_cell N post S p0 p1 p2) : tq_sI l yX11_cell (tq_ws yX11_cell cX11_cell 5 (some .int)) 1 22 D cy z H0 ad N M S [.ref (ad 1 0), .int p0, .int p1, .int p2] post := by
  unfold wpX11_cell at h
  refine Met.ofW (cc := cX11_cell) (maxL := 5) (ret := (some .int)) (by decide) rfl ?_
  intro p e s m args below meth c s₁ B hml hv
  obtain ⟨rfl, hW, hK, hG⟩ := hv
  have hx := B.exec
  have hb := B.bytes
  have hr := B.returns
  have hts := atoms_spec (ws := (tq_ws yX11_cell cX11_cell 5 (some .int))) B.pre
  have hw : ∀ w ∈ tq_W, w.before _ s = true := fun w h => hts w (List.mem_cons_of_mem _ h)
  have hown : s.vm.findClass RX11 = some m.cls := findClass_of_methodNamed B.named
  have hlocks := B.notSynchronized
  have C : tq_At p s m meth c [.ref (ad 1 0), .int p0, .int p1, .int p2].toArray cX11_cell 5 ((some .int)) ((tq_ws yX11_cell cX11_cell 5 (some .int))) RX11 D cy z ad := ⟨hx, hb, hr, hml, hown, hts, hlocks, hK, hG⟩
  have hS : va_S (fun q => z ≤ q) s.heap s.heap [] := va_S.rf
  have hl := lv_entry ([.ref (ad 1 0), .int p0, .int p1, .int p2]) (n := 5) (Nat.le_of_ble_eq_true rfl)
  rw [lg_entry_eq]
  generalize (lg_sl ([.ref (ad 1 0), .int p0, .int p1, .int p2]) ++ List.replicate (5 - (lg_sl ([.ref (ad 1 0), .int p0, .int p1, .int p2])).length) Slot.unset).toArray = ls at hl ⊢
  have hl : lv_has ls 5 [(0, .ref (ad 1 0)), (1, .int p0), (2, .int p1), (3, .int p2)] := hl
  have hW : tq_wd D cy z H0 ad N (tq_mix S M) s.heap := hW
  refine lv_iload_n hx hb dX11_cell_0 rfl (lv_at hl 1 rfl) ?_
  refine tqc_callSi (As := [.int p0]) (rest := []) (kX11_isSheet h) ⟨hx, hb, hml, hown, hts⟩ (va_cwS 1 hts (tq_goodS tw_465 tw_466 tw_115 tw_467) rfl rfl rfl (by decide +kernel) ⟨(Nat.le_of_ble_eq_true rfl), (Nat.le_of_ble_eq_true rfl)⟩) hK hG hW hS rfl hl.1 rfl (Nat.le_of_ble_eq_true rfl) dX11_cell_1 ⟨(Nat.le_of_ble_eq_true rfl), (Nat.le_of_ble_eq_true rfl)⟩ (fun r2 S1 H locs h hW hS => ?_)
  refine lv_if_ne (tgt := 10) hx hb dX11_cell_4 (by decide) (fun c3 => ?_) (fun c3 => ?_)
  · have h := h.1 c3
    refine lv_aload_n hx hb dX11_cell_10 rfl (lv_at hl 0 rfl) ?_
    refine tqc_get (v := .ref (ad 29 0)) hx hb hw tq_inX11 hown hK hW (by decide) (tq_mk_1 (by decide)) rfl 19 (by decide) (hw _ tw_356) (fun _ h9 => h9) rfl dX11_cell_11 ?_
    refine lv_iload_n hx hb dX11_cell_14 rfl (lv_at hl 1 rfl) ?_
    obtain ⟨b4, h⟩ := h
    refine tqc_aald (jn := p0.toNatClampNeg) (v := .ref (ad 6 p0.toNatClampNeg)) hx hb hK hW (by decide) (tq_mk_29 (by decide)) 4 rfl rfl b4 rfl rfl dX11_cell_15 ?_
    refine lv_astore (lv' := [(4, .ref (ad 6 p0.toNatClampNeg)), (0, .ref (ad 1 0)), (1, .int p0), (2, .int p1), (3, .int p2)]) hx hb dX11_cell_16 hl (by decide) rfl (fun ls hl => ?_)
    refine lv_aload hx hb dX11_cell_18 (lv_at hl 0 rfl) ?_
    refine tqc_callVi (As := []) (rest := []) (kX7_isMissing h) ⟨hx, hb, hml, hown, hts⟩ (cwV 0 hts (tq_goodV tw_468 tw_469 tw_470 tw_123 tw_471) rfl rfl rfl (by decide +kernel) ⟨(Nat.le_of_ble_eq_true rfl), (Nat.le_of_ble_eq_true rfl)⟩) (tq_recvC hK hW (by decide) (tq_mk_6 (tq_lt b4)) rfl) hK hG hW hS rfl hl.1 rfl (Nat.le_of_ble_eq_true rfl) dX11_cell_20 ⟨(Nat.le_of_ble_eq_true rfl), (Nat.le_of_ble_eq_true rfl)⟩ (fun r6 S5 H locs h hW hS => ?_)
    refine lv_if_eq (tgt := 29) hx hb dX11_cell_23 (by decide) (fun c7 => ?_) (fun c7 => ?_)
    · have h := h.1 c7
      refine lv_aload hx hb dX11_cell_29 (lv_at hl 0 rfl) ?_
      refine lv_iload_n hx hb dX11_cell_31 rfl (lv_at hl 3 rfl) ?_
      refine lv_iconst (v := 1) hx hb dX11_cell_32 (by decide) ?_
      refine tqc_callVi (As := [.int p1, .int 1]) (rest := []) (kX7_has h) ⟨hx, hb, hml, hown, hts⟩ (cwV 2 hts (tq_goodV tw_472 tw_473 tw_474 tw_123 tw_475) rfl rfl rfl (by decide +kernel) ⟨(Nat.le_of_ble_eq_true rfl), (Nat.le_of_ble_eq_true rfl)⟩) (tq_recvC hK hW (by decide) (tq_mk_6 (tq_lt b4)) rfl) hK hG hW hS rfl hl.1 rfl (Nat.le_of_ble_eq_true rfl) dX11_cell_33 ⟨(Nat.le_of_ble_eq_true rfl), (Nat.le_of_ble_eq_true rfl)⟩ (fun r9 S8 H locs h hW hS => ?_)
      refine lv_if_ne (tgt := 42) hx hb dX11_cell_36 (by decide) (fun c10 => ?_) (fun c10 => ?_)
      · have h := h.1 c10
        refine lv_aload hx hb dX11_cell_42 (lv_at hl 0 rfl) ?_
        refine lv_iload_n hx hb dX11_cell_44 rfl (lv_at hl 3 rfl) ?_
        refine lv_iload_n hx hb dX11_cell_45 rfl (lv_at hl 4 rfl) ?_
        refine tqc_callVv (As := [.int p1, .int p2]) (rest := []) (kX7_put h) ⟨hx, hb, hml, hown, hts⟩ (cwV 2 hts (tq_goodV tw_1392 tw_1393 tw_1394 tw_123 tw_1395) rfl rfl rfl (by decide +kernel) ⟨(Nat.le_of_ble_eq_true rfl), (Nat.le_of_ble_eq_true rfl)⟩) (tq_recvC hK hW (by decide) (tq_mk_6 (tq_lt b4)) rfl) hK hG hW hS rfl hl.1 rfl (Nat.le_of_ble_eq_true rfl) dX11_cell_46 ⟨(Nat.le_of_ble_eq_true rfl), (Nat.le_of_ble_eq_true rfl)⟩ (fun S11 H locs h hW hS => ?_)
        refine lv_iconst (v := 1) hx hb dX11_cell_49 (by decide) ?_
        exact W.iret (v := 1) hx hb hr (fun t ht hWm => ⟨⟨_, S11, rfl, h, tq_pe ht hW⟩, hS.F ht⟩) hS.2.2 dX11_cell_50
      · have h := h.2 c10
        refine lv_bipush (v := (-12)) hx hb dX11_cell_39 (by decide) ?_
        exact W.iret (v := (-12)) hx hb hr (fun t ht hWm => ⟨⟨_, S8, rfl, h, tq_pe ht hW⟩, hS.F ht⟩) hS.2.2 dX11_cell_41
    · have h := h.2 c7
      refine lv_bipush (v := (-11)) hx hb dX11_cell_26 (by decide) ?_
      exact W.iret (v := (-11)) hx hb hr (fun t ht hWm => ⟨⟨_, S5, rfl, h, tq_pe ht hW⟩, hS.F ht⟩) hS.2.2 dX11_cell_28
  · have h := h.2 c3
    refine lv_bipush (v := (-2)) hx hb dX11_cell_7 (by decide) ?_
    exact W.iret (v := (-2)) hx hb hr (fun t ht hWm => ⟨⟨_, S1, rfl, h, tq_pe ht hW⟩, hS.F ht⟩) hS.2.2 dX11_cell_9
-- X11 carry
def wbX11_carry_14 (N : tq_Nn) (post : tq_St → Int32 → Prop)  (S : tq_St) : Prop :=
  post S ((-2))
def wbX11_carry_49 (N : tq_Nn) (post : tq_St → Int32 → Prop)  (S : tq_St) : Prop :=
  post S ((-11))
def wbX11_carry_96 (N : tq_Nn) (post : tq_St → Int32 → Prop)  (S : tq_St) : Prop :=
  post S ((-12))
def wpX11_carry (N : tq_Nn) (post : tq_St → Int32 → Prop) (S : tq_St) (p0 : Int32) (p1 : Int32) (p2 : Int32) (p3 : Int32) (p4 : Int32) : Prop :=
  wpX11_isSheet N (fun S1 r2 => (r2 = 0 → (wbX11_carry_14 N post S1 )) ∧ (¬ r2 = 0 → (wpX11_isSheet N (fun S4 r5 => (¬ r5 = 0 → (vp_in p0 3 ∧ (vp_in p2 3 ∧ (wpX7_isMissing N (fun S9 r10 => (¬ r10 = 0 → (wbX11_carry_49 N post S9 )) ∧ (r10 = 0 → (wpX7_isMissing N (fun S12 r13 => (r13 = 0 → (((S12 6 p0.toNatClampNeg 0) = (S12 6 p2.toNatClampNeg 0) → ((p4 < 0 → (wbX11_carry_96 N post S12 )) ∧ (¬ p4 < 0 → (wpX7_has N (fun S17 r18 => (r18 = 0 → (wbX11_carry_96 N post S17 )) ∧ (¬ r18 = 0 → (wpX7_has N (fun S20 r21 => (¬ r21 = 0 → (¬ p1 < 0 ∧ ¬ p3 < 0 ∧ ¬ p4 < 0 ∧ p1.toNatClampNeg + p4.toNatClampNeg ≤ 64 ∧ p3.toNatClampNeg + p4.toNatClampNeg ≤ 64 ∧ (∀ S28, S28 = tq_cp S20 49 p2.toNatClampNeg (va_cpy (S20 49 p0.toNatClampNeg) (S20 49 p2.toNatClampNeg) p1.toNatClampNeg p3.toNatClampNeg p4.toNatClampNeg) → (post S28 p4)))) ∧ (r21 = 0 → (wbX11_carry_96 N post S20 ))) S17 p2.toNatClampNeg p3 p4))) S12 p0.toNatClampNeg p1 p4)))) ∧ (¬ (S12 6 p0.toNatClampNeg 0) = (S12 6 p2.toNatClampNeg 0) → (post S12 ((-13)))))) ∧ (¬ r13 = 0 → (wbX11_carry_49 N post S12 ))) S9 p2.toNatClampNeg))) S4 p0.toNatClampNeg)))) ∧ (r5 = 0 → (wbX11_carry_14 N post S4 ))) S1 p2))) S p0
set_option maxHeartbeats 4000000 in
set_option maxRecDepth 100000 in
theorem bX11_carry_14 {p : Program} {e : Env} {s : State} {m : MethodId} {args : Array Value} {below : List Frame} {meth : Method} {c : Code} {post : tq_St → Int32 → Prop} (C : tq_At p s m meth c args cX11_carry 8 ((some .int)) ((tq_ws yX11_carry cX11_carry 8 (some .int))) RX11 D cy z ad)  : ∀ (S : tq_St)  (H : Heap) (locs : List Loc) (ls : Array Slot), wbX11_carry_14 N post   S  → tq_wd D cy z H0 ad N (tq_mix S M) H → va_S (fun q => z ≤ q) s.heap H locs → lv_has ls 8 [] → W p l e (tq_rm 1 48) s m args below meth c H locs 0 0 (MQ below (va_Qi (fun r u => post u r) (fun u => tq_P D cy z H0 ad N u M) (fun q => z ≤ q)) args s 0 0 (fun q => z ≤ q)) (F0 m 14 ls []) := by
  obtain ⟨hx, hb, hr, hml, hown, hts, hlocks, hK, hG⟩ := id C
  have hw : ∀ w ∈ tq_W, w.before args s = true := fun w h => hts w (List.mem_cons_of_mem _ h)
  intro S  H locs ls h hW hS hl
  unfold wbX11_carry_14 at h
  refine lv_bipush (v := (-2)) hx hb dX11_carry_14 (by decide) ?_
  exact W.iret (v := (-2)) hx hb hr (fun t ht hWm => ⟨⟨_, S, rfl, h, tq_pe ht hW⟩, hS.F ht⟩) hS.2.2 dX11_carry_16
set_option maxHeartbeats 4000000 in
set_option maxRecDepth 100000 in
theorem bX11_carry_49 {p : Program} {e : Env} {s : State} {m : MethodId} {args : Array Value} {below : List Frame} {meth : Method} {c : Code} {post : tq_St → Int32 → Prop} (C : tq_At p s m meth c args cX11_carry 8 ((some .int)) ((tq_ws yX11_carry cX11_carry 8 (some .int))) RX11 D cy z ad)  : ∀ (S : tq_St)  (H : Heap) (locs : List Loc) (ls : Array Slot), wbX11_carry_49 N post   S  → tq_wd D cy z H0 ad N (tq_mix S M) H → va_S (fun q => z ≤ q) s.heap H locs → lv_has ls 8 [] → W p l e (tq_rm 1 48) s m args below meth c H locs 0 0 (MQ below (va_Qi (fun r u => post u r) (fun u => tq_P D cy z H0 ad N u M) (fun q => z ≤ q)) args s 0 0 (fun q => z ≤ q)) (F0 m 49 ls []) := by
  obtain ⟨hx, hb, hr, hml, hown, hts, hlocks, hK, hG⟩ := id C
  have hw : ∀ w ∈ tq_W, w.before args s = true := fun w h => hts w (List.mem_cons_of_mem _ h)
  intro S  H locs ls h hW hS hl
  unfold wbX11_carry_49 at h
  refine lv_bipush (v := (-11)) hx hb dX11_carry_49 (by decide) ?_
  exact W.iret (v := (-11)) hx hb hr (fun t ht hWm => ⟨⟨_, S, rfl, h, tq_pe ht hW⟩, hS.F ht⟩) hS.2.2 dX11_carry_51
set_option maxHeartbeats 4000000 in
set_option maxRecDepth 100000 in
theorem bX11_carry_96 {p : Program} {e : Env} {s : State} {m : MethodId} {args : Array Value} {below : List Frame} {meth : Method} {c : Code} {post : tq_St → Int32 → Prop} (C : tq_At p s m meth c args cX11_carry 8 ((some .int)) ((tq_ws yX11_carry cX11_carry 8 (some .int))) RX11 D cy z ad)  : ∀ (S : tq_St)  (H : Heap) (locs : List Loc) (ls : Array Slot), wbX11_carry_96 N post   S  → tq_wd D cy z H0 ad N (tq_mix S M) H → va_S (fun q => z ≤ q) s.heap H locs → lv_has ls 8 [] → W p l e (tq_rm 1 48) s m args below meth c H locs 0 0 (MQ below (va_Qi (fun r u => post u r) (fun u => tq_P D cy z H0 ad N u M) (fun q => z ≤ q)) args s 0 0 (fun q => z ≤ q)) (F0 m 96 ls []) := by
  obtain ⟨hx, hb, hr, hml, hown, hts, hlocks, hK, hG⟩ := id C
  have hw : ∀ w ∈ tq_W, w.before args s = true := fun w h => hts w (List.mem_cons_of_mem _ h)
  intro S  H locs ls h hW hS hl
  unfold wbX11_carry_96 at h
  refine lv_bipush (v := (-12)) hx hb dX11_carry_96 (by decide) ?_
  exact W.iret (v := (-12)) hx hb hr (fun t ht hWm => ⟨⟨_, S, rfl, h, tq_pe ht hW⟩, hS.F ht⟩) hS.2.2 dX11_carry_98
set_option maxHeartbeats 4000000 in
set_option maxRecDepth 100000 in
theorem kX11_carry {post : tq_St → Int32 → Prop} {S : tq_St} {p0 : Int32} {p1 : Int32} {p2 : Int32} {p3 : Int32} {p4 : Int32} (h : wpX11_carry N post S p0 p1 p2 p3 p4) : tq_sI l yX11_carry (tq_ws yX11_carry cX11_carry 8 (some .int)) 1 48 D cy z H0 ad N M S [.ref (ad 1 0), .int p0, .int p1, .int p2, .int p3, .int p4] post := by
  unfold wpX11_carry at h
  refine Met.ofW (cc := cX11_carry) (maxL := 8) (ret := (some .int)) (by decide) rfl ?_
  intro p e s m args below meth c s₁ B hml hv
  obtain ⟨rfl, hW, hK, hG⟩ := hv
  have hx := B.exec
  have hb := B.bytes
  have hr := B.returns
  have hts := atoms_spec (ws := (tq_ws yX11_carry cX11_carry 8 (some .int))) B.pre
  have hw : ∀ w ∈ tq_W, w.before _ s = true := fun w h => hts w (List.mem_cons_of_mem _ h)
  have hown : s.vm.findClass RX11 = some m.cls := findClass_of_methodNamed B.named
  have hlocks := B.notSynchronized
  have C : tq_At p s m meth c [.ref (ad 1 0), .int p0, .int p1, .int p2, .int p3, .int p4].toArray cX11_carry 8 ((some .int)) ((tq_ws yX11_carry cX11_carry 8 (some .int))) RX11 D cy z ad := ⟨hx, hb, hr, hml, hown, hts, hlocks, hK, hG⟩
  have hS : va_S (fun q => z ≤ q) s.heap s.heap [] := va_S.rf
  have hl := lv_entry ([.ref (ad 1 0), .int p0, .int p1, .int p2, .int p3, .int p4]) (n := 8) (Nat.le_of_ble_eq_true rfl)
  rw [lg_entry_eq]
  generalize (lg_sl ([.ref (ad 1 0), .int p0, .int p1, .int p2, .int p3, .int p4]) ++ List.replicate (8 - (lg_sl ([.ref (ad 1 0), .int p0, .int p1, .int p2, .int p3, .int p4])).length) Slot.unset).toArray = ls at hl ⊢
  have hl : lv_has ls 8 [(0, .ref (ad 1 0)), (1, .int p0), (2, .int p1), (3, .int p2), (4, .int p3), (5, .int p4)] := hl
  have hW : tq_wd D cy z H0 ad N (tq_mix S M) s.heap := hW
  refine lv_iload_n hx hb dX11_carry_0 rfl (lv_at hl 1 rfl) ?_
  refine tqc_callSi (As := [.int p0]) (rest := []) (kX11_isSheet h) ⟨hx, hb, hml, hown, hts⟩ (va_cwS 1 hts (tq_goodS tw_465 tw_466 tw_115 tw_467) rfl rfl rfl (by decide +kernel) ⟨(Nat.le_of_ble_eq_true rfl), (Nat.le_of_ble_eq_true rfl)⟩) hK hG hW hS rfl hl.1 rfl (Nat.le_of_ble_eq_true rfl) dX11_carry_1 ⟨(Nat.le_of_ble_eq_true rfl), (Nat.le_of_ble_eq_true rfl)⟩ (fun r2 S1 H locs h hW hS => ?_)
  refine lv_if_eq (tgt := 14) hx hb dX11_carry_4 (by decide) (fun c3 => ?_) (fun c3 => ?_)
  · have h := h.1 c3
    exact bX11_carry_14 C  _  _ _ _ h hW hS (lv_sub hl [] rfl)
  · have h := h.2 c3
    refine lv_iload_n hx hb dX11_carry_7 rfl (lv_at hl 3 rfl) ?_
    refine tqc_callSi (As := [.int p2]) (rest := []) (kX11_isSheet h) ⟨hx, hb, hml, hown, hts⟩ (va_cwS 1 hts (tq_goodS tw_465 tw_466 tw_115 tw_467) rfl rfl rfl (by decide +kernel) ⟨(Nat.le_of_ble_eq_true rfl), (Nat.le_of_ble_eq_true rfl)⟩) hK hG hW hS rfl hl.1 rfl (Nat.le_of_ble_eq_true rfl) dX11_carry_8 ⟨(Nat.le_of_ble_eq_true rfl), (Nat.le_of_ble_eq_true rfl)⟩ (fun r5 S4 H locs h hW hS => ?_)
    refine lv_if_ne (tgt := 17) hx hb dX11_carry_11 (by decide) (fun c6 => ?_) (fun c6 => ?_)
    · have h := h.1 c6
      refine lv_aload_n hx hb dX11_carry_17 rfl (lv_at hl 0 rfl) ?_
      refine tqc_get (v := .ref (ad 29 0)) hx hb hw tq_inX11 hown hK hW (by decide) (tq_mk_1 (by decide)) rfl 19 (by decide) (hw _ tw_356) (fun _ h9 => h9) rfl dX11_carry_18 ?_
      refine lv_iload_n hx hb dX11_carry_21 rfl (lv_at hl 1 rfl) ?_
      obtain ⟨b7, h⟩ := h
      refine tqc_aald (jn := p0.toNatClampNeg) (v := .ref (ad 6 p0.toNatClampNeg)) hx hb hK hW (by decide) (tq_mk_29 (by decide)) 4 rfl rfl b7 rfl rfl dX11_carry_22 ?_
      refine lv_astore (lv' := [(6, .ref (ad 6 p0.toNatClampNeg)), (0, .ref (ad 1 0)), (1, .int p0), (2, .int p1), (3, .int p2), (4, .int p3), (5, .int p4)]) hx hb dX11_carry_23 hl (by decide) rfl (fun ls hl => ?_)
      refine lv_aload_n hx hb dX11_carry_25 rfl (lv_at hl 1 rfl) ?_
      refine tqc_get (v := .ref (ad 29 0)) hx hb hw tq_inX11 hown hK hW (by decide) (tq_mk_1 (by decide)) rfl 19 (by decide) (hw _ tw_356) (fun _ h9 => h9) rfl dX11_carry_26 ?_
      refine lv_iload_n hx hb dX11_carry_29 rfl (lv_at hl 4 rfl) ?_
      obtain ⟨b8, h⟩ := h
      refine tqc_aald (jn := p2.toNatClampNeg) (v := .ref (ad 6 p2.toNatClampNeg)) hx hb hK hW (by decide) (tq_mk_29 (by decide)) 4 rfl rfl b8 rfl rfl dX11_carry_30 ?_
      refine lv_astore (lv' := [(7, .ref (ad 6 p2.toNatClampNeg)), (6, .ref (ad 6 p0.toNatClampNeg)), (0, .ref (ad 1 0)), (1, .int p0), (2, .int p1), (3, .int p2), (4, .int p3), (5, .int p4)]) hx hb dX11_carry_31 hl (by decide) rfl (fun ls hl => ?_)
      refine lv_aload hx hb dX11_carry_33 (lv_at hl 1 rfl) ?_
      refine tqc_callVi (As := []) (rest := []) (kX7_isMissing h) ⟨hx, hb, hml, hown, hts⟩ (cwV 0 hts (tq_goodV tw_468 tw_469 tw_470 tw_123 tw_471) rfl rfl rfl (by decide +kernel) ⟨(Nat.le_of_ble_eq_true rfl), (Nat.le_of_ble_eq_true rfl)⟩) (tq_recvC hK hW (by decide) (tq_mk_6 (tq_lt b7)) rfl) hK hG hW hS rfl hl.1 rfl (Nat.le_of_ble_eq_true rfl) dX11_carry_35 ⟨(Nat.le_of_ble_eq_true rfl), (Nat.le_of_ble_eq_true rfl)⟩ (fun r10 S9 H locs h hW hS => ?_)
      refine lv_if_ne (tgt := 49) hx hb dX11_carry_38 (by decide) (fun c11 => ?_) (fun c11 => ?_)
      · have h := h.1 c11
        exact bX11_carry_49 C  _  _ _ _ h hW hS (lv_sub hl [] rfl)
      · have h := h.2 c11
        refine lv_aload hx hb dX11_carry_41 (lv_at hl 0 rfl) ?_
        refine tqc_callVi (As := []) (rest := []) (kX7_isMissing h) ⟨hx, hb, hml, hown, hts⟩ (cwV 0 hts (tq_goodV tw_468 tw_469 tw_470 tw_123 tw_471) rfl rfl rfl (by decide +kernel) ⟨(Nat.le_of_ble_eq_true rfl), (Nat.le_of_ble_eq_true rfl)⟩) (tq_recvC hK hW (by decide) (tq_mk_6 (tq_lt b8)) rfl) hK hG hW hS rfl hl.1 rfl (Nat.le_of_ble_eq_true rfl) dX11_carry_43 ⟨(Nat.le_of_ble_eq_true rfl), (Nat.le_of_ble_eq_true rfl)⟩ (fun r13 S12 H locs h hW hS => ?_)
        refine lv_if_eq (tgt := 52) hx hb dX11_carry_46 (by decide) (fun c14 => ?_) (fun c14 => ?_)
        · have h := h.1 c14
          refine lv_aload hx hb dX11_carry_52 (lv_at hl 1 rfl) ?_
          refine tqc_get (v := .int (S12 6 p0.toNatClampNeg 0)) hx hb hw tq_inX7 hown hK hW (by decide) (tq_mk_6 (tq_lt b7)) rfl 0 (by decide) (hw _ tw_323) (fun _ h9 => h9) rfl dX11_carry_54 ?_
          refine lv_aload hx hb dX11_carry_57 (lv_at hl 0 rfl) ?_
          refine tqc_get (v := .int (S12 6 p2.toNatClampNeg 0)) hx hb hw tq_inX7 hown hK hW (by decide) (tq_mk_6 (tq_lt b8)) rfl 0 (by decide) (hw _ tw_323) (fun _ h9 => h9) rfl dX11_carry_59 ?_
          refine lv_icmp_eq (tgt := 68) hx hb dX11_carry_62 (by decide) (fun c15 => ?_) (fun c15 => ?_)
          · have h := h.1 c15
            refine lv_iload hx hb dX11_carry_68 (lv_at hl 7 rfl) ?_
            refine lv_if_lt (tgt := 96) hx hb dX11_carry_70 (by decide) (fun c16 => ?_) (fun c16 => ?_)
            · have h := h.1 c16
              exact bX11_carry_96 C  _  _ _ _ h hW hS (lv_sub hl [] rfl)
            · have h := h.2 c16
              refine lv_aload hx hb dX11_carry_73 (lv_at hl 1 rfl) ?_
              refine lv_iload_n hx hb dX11_carry_75 rfl (lv_at hl 4 rfl) ?_
              refine lv_iload hx hb dX11_carry_76 (lv_at hl 7 rfl) ?_
              refine tqc_callVi (As := [.int p1, .int p4]) (rest := []) (kX7_has h) ⟨hx, hb, hml, hown, hts⟩ (cwV 2 hts (tq_goodV tw_472 tw_473 tw_474 tw_123 tw_475) rfl rfl rfl (by decide +kernel) ⟨(Nat.le_of_ble_eq_true rfl), (Nat.le_of_ble_eq_true rfl)⟩) (tq_recvC hK hW (by decide) (tq_mk_6 (tq_lt b7)) rfl) hK hG hW hS rfl hl.1 rfl (Nat.le_of_ble_eq_true rfl) dX11_carry_78 ⟨(Nat.le_of_ble_eq_true rfl), (Nat.le_of_ble_eq_true rfl)⟩ (fun r18 S17 H locs h hW hS => ?_)
              refine lv_if_eq (tgt := 96) hx hb dX11_carry_81 (by decide) (fun c19 => ?_) (fun c19 => ?_)
              · have h := h.1 c19
                exact bX11_carry_96 C  _  _ _ _ h hW hS (lv_sub hl [] rfl)
              · have h := h.2 c19
                refine lv_aload hx hb dX11_carry_84 (lv_at hl 0 rfl) ?_
                refine lv_iload hx hb dX11_carry_86 (lv_at hl 6 rfl) ?_
                refine lv_iload hx hb dX11_carry_88 (lv_at hl 7 rfl) ?_
                refine tqc_callVi (As := [.int p3, .int p4]) (rest := []) (kX7_has h) ⟨hx, hb, hml, hown, hts⟩ (cwV 2 hts (tq_goodV tw_472 tw_473 tw_474 tw_123 tw_475) rfl rfl rfl (by decide +kernel) ⟨(Nat.le_of_ble_eq_true rfl), (Nat.le_of_ble_eq_true rfl)⟩) (tq_recvC hK hW (by decide) (tq_mk_6 (tq_lt b8)) rfl) hK hG hW hS rfl hl.1 rfl (Nat.le_of_ble_eq_true rfl) dX11_carry_90 ⟨(Nat.le_of_ble_eq_true rfl), (Nat.le_of_ble_eq_true rfl)⟩ (fun r21 S20 H locs h hW hS => ?_)
                refine lv_if_ne (tgt := 99) hx hb dX11_carry_93 (by decide) (fun c22 => ?_) (fun c22 => ?_)
                · have h := h.1 c22
                  refine lv_aload hx hb dX11_carry_99 (lv_at hl 1 rfl) ?_
                  refine tqc_get (v := .ref (ad 49 p0.toNatClampNeg)) hx hb hw tq_inX7 hown hK hW (by decide) (tq_mk_6 (tq_lt b7)) rfl 2 (by decide) (hw _ tw_326) (fun _ h9 => h9) rfl dX11_carry_101 ?_
                  refine lv_iload_n hx hb dX11_carry_104 rfl (lv_at hl 4 rfl) ?_
                  refine lv_aload hx hb dX11_carry_105 (lv_at hl 0 rfl) ?_
                  refine tqc_get (v := .ref (ad 49 p2.toNatClampNeg)) hx hb hw tq_inX7 hown hK hW (by decide) (tq_mk_6 (tq_lt b8)) rfl 2 (by decide) (hw _ tw_326) (fun _ h9 => h9) rfl dX11_carry_107 ?_
                  refine lv_iload hx hb dX11_carry_110 (lv_at hl 6 rfl) ?_
                  refine lv_iload hx hb dX11_carry_112 (lv_at hl 7 rfl) ?_
                  obtain ⟨b23, h⟩ := h
                  obtain ⟨b24, h⟩ := h
                  obtain ⟨b25, h⟩ := h
                  obtain ⟨b26, h⟩ := h
                  obtain ⟨b27, h⟩ := h
                  refine tqc_copy hx hb (hml.trans hl.1.symm) hown (hw _ tw_1400) (hw _ tw_801) (hw _ tw_800) (hw _ tw_135) hK hW hS (by decide) (by decide) (tq_mk_49 (tq_lt b7)) (fun f => tq_mk_49 (tq_lt b8)) b23 b24 b25 b26 b27 (Nat.le_of_ble_eq_true rfl) (Nat.le_of_ble_eq_true rfl) dX11_carry_114 (fun H locs hW hS => ?_)
                  generalize eS28 : tq_cp S20 49 p2.toNatClampNeg (va_cpy (S20 49 p0.toNatClampNeg) (S20 49 p2.toNatClampNeg) p1.toNatClampNeg p3.toNatClampNeg p4.toNatClampNeg) = S28 at hW
                  have h := h S28 eS28.symm
                  refine lv_iload hx hb dX11_carry_117 (lv_at hl 7 rfl) ?_
                  exact W.iret (v := p4) hx hb hr (fun t ht hWm => ⟨⟨_, S28, rfl, h, tq_pe ht hW⟩, hS.F ht⟩) hS.2.2 dX11_carry_119
                · have h := h.2 c22
                  exact bX11_carry_96 C  _  _ _ _ h hW hS (lv_sub hl [] rfl)
          · have h := h.2 c15
            refine lv_bipush (v := (-13)) hx hb dX11_carry_65 (by decide) ?_
            exact W.iret (v := (-13)) hx hb hr (fun t ht hWm => ⟨⟨_, S12, rfl, h, tq_pe ht hW⟩, hS.F ht⟩) hS.2.2 dX11_carry_67
        · have h := h.2 c14
          exact bX11_carry_49 C  _  _ _ _ h hW hS (lv_sub hl [] rfl)
    · have h := h.2 c6
      exact bX11_carry_14 C  _  _ _ _ h hW hS (lv_sub hl [] rfl)
