variable {l : Launch} {D : va_G} {cy : Nat → ClassId} {z : Nat} {H0 : Heap} {ad : Nat → Nat → Nat} {N : tq_Nn} {M : tq_St}
-- X11 copy
def wbX11_copy_16 (N : tq_Nn) (post : tq_St → Int32 → Prop)  (S : tq_St) : Prop :=
  post S ((-1))
def wbX11_copy_67 (N : tq_Nn) (post : tq_St → Int32 → Prop)  (S : tq_St) : Prop :=
  post S ((-3))
def wpX11_copy (N : tq_Nn) (post : tq_St → Int32 → Prop) (S : tq_St) (p0 : Int32) (p1 : Int32) : Prop :=
  wpX11_isPaper N (fun S1 r2 => (r2 = 0 → (wbX11_copy_16 N post S1 )) ∧ (¬ r2 = 0 → (wpX11_isShip N (fun S4 r5 => (¬ r5 = 0 → (tq_gok N S4 15 16 0 p0 ∧ (N 7 (tq_el S4 15 16 0 p0) = 1 ∧ (tq_gok N S4 19 20 0 p1 ∧ (N 8 (tq_el S4 19 20 0 p1) = 1 ∧ (wpX11_isPlace N (fun S15 r16 => (r16 = 0 → (wbX11_copy_67 N post S15 )) ∧ (¬ r16 = 0 → (vp_in (S15 8 (tq_el S4 19 20 0 p1) 3) 5 ∧ N 50 (tq_el S4 15 16 0 p0) = 1 ∧ ((0 ≤ (S15 50 (tq_el S4 15 16 0 p0) ((S15 8 (tq_el S4 19 20 0 p1) 3).toNatClampNeg)) → (((S15 7 (tq_el S4 15 16 0 p0) 9) < 3 → (wpX3_comesAboard N (fun S22 => post S22 (S22 7 (tq_el S4 15 16 0 p0) 9)) S15 (tq_el S4 15 16 0 p0) (tq_el S4 19 20 0 p1))) ∧ (¬ (S15 7 (tq_el S4 15 16 0 p0) 9) < 3 → (post S15 ((-4)))))) ∧ (¬ 0 ≤ (S15 50 (tq_el S4 15 16 0 p0) ((S15 8 (tq_el S4 19 20 0 p1) 3).toNatClampNeg)) → (wbX11_copy_67 N post S15 )))))) S4 (S4 8 (tq_el S4 19 20 0 p1) 3))))))) ∧ (r5 = 0 → (wbX11_copy_16 N post S4 ))) S1 p1))) S p0
set_option maxHeartbeats 4000000 in
set_option maxRecDepth 100000 in
theorem bX11_copy_16 {p : Program} {e : Env} {s : State} {m : MethodId} {args : Array Value} {below : List Frame} {meth : Method} {c : Code} {post : tq_St → Int32 → Prop} (C : tq_At p s m meth c args cX11_copy 5 ((some .int)) ((tq_ws yX11_copy cX11_copy 5 (some .int))) RX11 D cy z ad)  : ∀ (S : tq_St)  (H : Heap) (locs : List Loc) (ls : Array Slot), wbX11_copy_16 N post   S  → tq_wd D cy z H0 ad N (tq_mix S M) H → va_S (fun q => z ≤ q) s.heap H locs → lv_has ls 5 [] → W p l e (tq_rm 3 64) s m args below meth c H locs 0 0 (MQ below (va_Qi (fun r u => post u r) (fun u => tq_P D cy z H0 ad N u M) (fun q => z ≤ q)) args s 0 0 (fun q => z ≤ q)) (F0 m 16 ls []) := by
  obtain ⟨hx, hb, hr, hml, hown, hts, hlocks, hK, hG⟩ := id C
  have hw : ∀ w ∈ tq_W, w.before args s = true := fun w h => hts w (List.mem_cons_of_mem _ h)
  intro S  H locs ls h hW hS hl
  unfold wbX11_copy_16 at h
  refine lv_iconst (v := (-1)) hx hb dX11_copy_16 (by decide) ?_
  exact W.iret (v := (-1)) hx hb hr (fun t ht hWm => ⟨⟨_, S, rfl, h, tq_pe ht hW⟩, hS.F ht⟩) hS.2.2 dX11_copy_17
set_option maxHeartbeats 4000000 in
set_option maxRecDepth 100000 in
theorem bX11_copy_67 {p : Program} {e : Env} {s : State} {m : MethodId} {args : Array Value} {below : List Frame} {meth : Method} {c : Code} {post : tq_St → Int32 → Prop} (C : tq_At p s m meth c args cX11_copy 5 ((some .int)) ((tq_ws yX11_copy cX11_copy 5 (some .int))) RX11 D cy z ad)  : ∀ (S : tq_St)  (H : Heap) (locs : List Loc) (ls : Array Slot), wbX11_copy_67 N post   S  → tq_wd D cy z H0 ad N (tq_mix S M) H → va_S (fun q => z ≤ q) s.heap H locs → lv_has ls 5 [] → W p l e (tq_rm 3 64) s m args below meth c H locs 0 0 (MQ below (va_Qi (fun r u => post u r) (fun u => tq_P D cy z H0 ad N u M) (fun q => z ≤ q)) args s 0 0 (fun q => z ≤ q)) (F0 m 67 ls []) := by
  obtain ⟨hx, hb, hr, hml, hown, hts, hlocks, hK, hG⟩ := id C
  have hw : ∀ w ∈ tq_W, w.before args s = true := fun w h => hts w (List.mem_cons_of_mem _ h)
  intro S  H locs ls h hW hS hl
  unfold wbX11_copy_67 at h
  refine lv_bipush (v := (-3)) hx hb dX11_copy_67 (by decide) ?_
  exact W.iret (v := (-3)) hx hb hr (fun t ht hWm => ⟨⟨_, S, rfl, h, tq_pe ht hW⟩, hS.F ht⟩) hS.2.2 dX11_copy_69
set_option maxHeartbeats 4000000 in
set_option maxRecDepth 100000 in
theorem kX11_copy {post : tq_St → Int32 → Prop} {S : tq_St} {p0 : Int32} {p1 : Int32} (h : wpX11_copy N post S p0 p1) : tq_sI l yX11_copy (tq_ws yX11_copy cX11_copy 5 (some .int)) 3 64 D cy z H0 ad N M S [.ref (ad 1 0), .int p0, .int p1] post := by
  unfold wpX11_copy at h
  refine Met.ofW (cc := cX11_copy) (maxL := 5) (ret := (some .int)) (by decide) rfl ?_
  intro p e s m args below meth c s₁ B hml hv
  obtain ⟨rfl, hW, hK, hG⟩ := hv
  have hx := B.exec
  have hb := B.bytes
  have hr := B.returns
  have hts := atoms_spec (ws := (tq_ws yX11_copy cX11_copy 5 (some .int))) B.pre
  have hw : ∀ w ∈ tq_W, w.before _ s = true := fun w h => hts w (List.mem_cons_of_mem _ h)
  have hown : s.vm.findClass RX11 = some m.cls := findClass_of_methodNamed B.named
  have hlocks := B.notSynchronized
  have C : tq_At p s m meth c [.ref (ad 1 0), .int p0, .int p1].toArray cX11_copy 5 ((some .int)) ((tq_ws yX11_copy cX11_copy 5 (some .int))) RX11 D cy z ad := ⟨hx, hb, hr, hml, hown, hts, hlocks, hK, hG⟩
  have hS : va_S (fun q => z ≤ q) s.heap s.heap [] := va_S.rf
  have hl := lv_entry ([.ref (ad 1 0), .int p0, .int p1]) (n := 5) (Nat.le_of_ble_eq_true rfl)
  rw [lg_entry_eq]
  generalize (lg_sl ([.ref (ad 1 0), .int p0, .int p1]) ++ List.replicate (5 - (lg_sl ([.ref (ad 1 0), .int p0, .int p1])).length) Slot.unset).toArray = ls at hl ⊢
  have hl : lv_has ls 5 [(0, .ref (ad 1 0)), (1, .int p0), (2, .int p1)] := hl
  have hW : tq_wd D cy z H0 ad N (tq_mix S M) s.heap := hW
  refine lv_aload_n hx hb dX11_copy_0 rfl (lv_at hl 0 rfl) ?_
  refine lv_iload_n hx hb dX11_copy_1 rfl (lv_at hl 1 rfl) ?_
  refine tqc_callVi (As := [.int p0]) (rest := []) (kX11_isPaper h) ⟨hx, hb, hml, hown, hts⟩ (cwV 1 hts (tq_goodV tw_819 tw_821 tw_18 tw_115 tw_822) rfl rfl rfl (by decide +kernel) ⟨(Nat.le_of_ble_eq_true rfl), (Nat.le_of_ble_eq_true rfl)⟩) (tq_recvC hK hW (by decide) (tq_mk_1 (by decide)) rfl) hK hG hW hS rfl hl.1 rfl (Nat.le_of_ble_eq_true rfl) dX11_copy_2 ⟨(Nat.le_of_ble_eq_true rfl), (Nat.le_of_ble_eq_true rfl)⟩ (fun r2 S1 H locs h hW hS => ?_)
  refine lv_if_eq (tgt := 16) hx hb dX11_copy_5 (by decide) (fun c3 => ?_) (fun c3 => ?_)
  · have h := h.1 c3
    exact bX11_copy_16 C  _  _ _ _ h hW hS (lv_sub hl [] rfl)
  · have h := h.2 c3
    refine lv_aload_n hx hb dX11_copy_8 rfl (lv_at hl 0 rfl) ?_
    refine lv_iload_n hx hb dX11_copy_9 rfl (lv_at hl 2 rfl) ?_
    refine tqc_callVi (As := [.int p1]) (rest := []) (kX11_isShip h) ⟨hx, hb, hml, hown, hts⟩ (cwV 1 hts (tq_goodV tw_823 tw_825 tw_19 tw_115 tw_826) rfl rfl rfl (by decide +kernel) ⟨(Nat.le_of_ble_eq_true rfl), (Nat.le_of_ble_eq_true rfl)⟩) (tq_recvC hK hW (by decide) (tq_mk_1 (by decide)) rfl) hK hG hW hS rfl hl.1 rfl (Nat.le_of_ble_eq_true rfl) dX11_copy_10 ⟨(Nat.le_of_ble_eq_true rfl), (Nat.le_of_ble_eq_true rfl)⟩ (fun r5 S4 H locs h hW hS => ?_)
    refine lv_if_ne (tgt := 18) hx hb dX11_copy_13 (by decide) (fun c6 => ?_) (fun c6 => ?_)
    · have h := h.1 c6
      refine lv_aload_n hx hb dX11_copy_18 rfl (lv_at hl 0 rfl) ?_
      refine tqc_get (v := .ref (ad 15 0)) hx hb hw tq_inX11 hown hK hW (by decide) (tq_mk_1 (by decide)) rfl 5 (by decide) (hw _ tw_342) (fun _ h9 => h9) rfl dX11_copy_19 ?_
      refine lv_iload_n hx hb dX11_copy_22 rfl (lv_at hl 1 rfl) ?_
      obtain ⟨b9, h⟩ := h
      refine tqc_callVr (kr := 7) (As := [.int p0]) (rest := []) (kJl_get (kd := 16) (post := fun u i => u = S4 ∧ i = tq_el S4 15 16 0 p0) (by decide) (by decide) (tq_mk_15 (by decide)) (fun q9 => tq_mk_16 q9) b9 ⟨rfl, rfl⟩) ⟨hx, hb, hml, hown, hts⟩ (cwV 1 hts (tq_goodV tw_827 tw_828 tw_829 tw_118 tw_830) rfl rfl rfl (by decide +kernel) ⟨(Nat.le_of_ble_eq_true rfl), (Nat.le_of_ble_eq_true rfl)⟩) (tq_recvL hK hW (by decide) (tq_mk_15 (by decide))) hK hG hW hS rfl hl.1 rfl (Nat.le_of_ble_eq_true rfl) dX11_copy_23 ⟨(Nat.le_of_ble_eq_true rfl), (Nat.le_of_ble_eq_true rfl)⟩ (fun i8 S7 H locs q9 hW hS => ?_)
      rw [q9.1] at hW
      rw [q9.2]
      obtain ⟨b10, h⟩ := h
      refine tqc_cast7 hx hb hown (hw _ tw_488) hK hG hW b10 dX11_copy_26 ?_
      refine lv_astore_n (lv' := [(3, .ref (ad 7 (tq_el S4 15 16 0 p0))), (0, .ref (ad 1 0)), (1, .int p0), (2, .int p1)]) hx hb dX11_copy_29 rfl hl (by decide) rfl (fun ls hl => ?_)
      refine lv_aload_n hx hb dX11_copy_30 rfl (lv_at hl 1 rfl) ?_
      refine tqc_get (v := .ref (ad 19 0)) hx hb hw tq_inX11 hown hK hW (by decide) (tq_mk_1 (by decide)) rfl 7 (by decide) (hw _ tw_344) (fun _ h9 => h9) rfl dX11_copy_31 ?_
      refine lv_iload_n hx hb dX11_copy_34 rfl (lv_at hl 3 rfl) ?_
      obtain ⟨b13, h⟩ := h
      refine tqc_callVr (kr := 8) (As := [.int p1]) (rest := []) (kJl_get (kd := 20) (post := fun u i => u = S4 ∧ i = tq_el S4 19 20 0 p1) (by decide) (by decide) (tq_mk_19 (by decide)) (fun q9 => tq_mk_20 q9) b13 ⟨rfl, rfl⟩) ⟨hx, hb, hml, hown, hts⟩ (cwV 1 hts (tq_goodV tw_827 tw_828 tw_829 tw_118 tw_830) rfl rfl rfl (by decide +kernel) ⟨(Nat.le_of_ble_eq_true rfl), (Nat.le_of_ble_eq_true rfl)⟩) (tq_recvL hK hW (by decide) (tq_mk_19 (by decide))) hK hG hW hS rfl hl.1 rfl (Nat.le_of_ble_eq_true rfl) dX11_copy_35 ⟨(Nat.le_of_ble_eq_true rfl), (Nat.le_of_ble_eq_true rfl)⟩ (fun i12 S11 H locs q9 hW hS => ?_)
      rw [q9.1] at hW
      rw [q9.2]
      obtain ⟨b14, h⟩ := h
      refine va_castS hx hb hown (hw _ tw_839) (hK.1 9 _ rfl).2 (tq_recvC hK hW (by decide) (tq_mk_8 b14) rfl) dX11_copy_38 ?_
      refine lv_astore (lv' := [(4, .ref (ad 8 (tq_el S4 19 20 0 p1))), (3, .ref (ad 7 (tq_el S4 15 16 0 p0))), (0, .ref (ad 1 0)), (1, .int p0), (2, .int p1)]) hx hb dX11_copy_41 hl (by decide) rfl (fun ls hl => ?_)
      refine lv_aload hx hb dX11_copy_43 (lv_at hl 0 rfl) ?_
      refine tqc_get (v := .int (S4 8 (tq_el S4 19 20 0 p1) 3)) hx hb hw tq_inX8 hown hK hW (by decide) (tq_mk_8 b14) rfl 3 (by decide) (hw _ tw_904) (fun _ h9 => h9) rfl dX11_copy_45 ?_
      refine tqc_callSi (As := [.int (S4 8 (tq_el S4 19 20 0 p1) 3)]) (rest := []) (kX11_isPlace h) ⟨hx, hb, hml, hown, hts⟩ (va_cwS 1 hts (tq_goodS tw_427 tw_428 tw_115 tw_429) rfl rfl rfl (by decide +kernel) ⟨(Nat.le_of_ble_eq_true rfl), (Nat.le_of_ble_eq_true rfl)⟩) hK hG hW hS rfl hl.1 rfl (Nat.le_of_ble_eq_true rfl) dX11_copy_48 ⟨(Nat.le_of_ble_eq_true rfl), (Nat.le_of_ble_eq_true rfl)⟩ (fun r16 S15 H locs h hW hS => ?_)
      refine lv_if_eq (tgt := 67) hx hb dX11_copy_51 (by decide) (fun c17 => ?_) (fun c17 => ?_)
      · have h := h.1 c17
        exact bX11_copy_67 C  _  _ _ _ h hW hS (lv_sub hl [] rfl)
      · have h := h.2 c17
        refine lv_aload_n hx hb dX11_copy_54 rfl (lv_at hl 1 rfl) ?_
        refine tqc_get7 (v := .ref (ad 50 (tq_el S4 15 16 0 p0))) hx hb hw tq_inX3 tq_inX1 hown hK hW b10 5 (by decide) (hw _ tw_525) (fun _ h9 => h9) rfl dX11_copy_55 ?_
        refine lv_aload hx hb dX11_copy_58 (lv_at hl 0 rfl) ?_
        refine tqc_get (v := .int (S15 8 (tq_el S4 19 20 0 p1) 3)) hx hb hw tq_inX8 hown hK hW (by decide) (tq_mk_8 b14) rfl 3 (by decide) (hw _ tw_904) (fun _ h9 => h9) rfl dX11_copy_60 ?_
        obtain ⟨b18, h⟩ := h
        obtain ⟨b19, h⟩ := h
        refine tqc_iald (jn := (S15 8 (tq_el S4 19 20 0 p1) 3).toNatClampNeg) hx hb hK hW (by decide) (tq_mk_50 b19) b18 rfl dX11_copy_63 ?_
        refine lv_if_ge (tgt := 70) hx hb dX11_copy_64 (by decide) (fun c20 => ?_) (fun c20 => ?_)
        · have h := h.1 c20
          refine lv_aload_n hx hb dX11_copy_70 rfl (lv_at hl 1 rfl) ?_
          refine tqc_get7 (v := .int (S15 7 (tq_el S4 15 16 0 p0) 9)) hx hb hw tq_inX3 tq_inX1 hown hK hW b10 9 (by decide) (hw _ tw_538) (fun _ h9 => h9) rfl dX11_copy_71 ?_
          refine lv_iconst (v := 3) hx hb dX11_copy_74 (by decide) ?_
          refine lv_icmp_lt (tgt := 81) hx hb dX11_copy_75 (by decide) (fun c21 => ?_) (fun c21 => ?_)
          · have h := h.1 c21
            refine lv_aload_n hx hb dX11_copy_81 rfl (lv_at hl 1 rfl) ?_
            refine lv_aload hx hb dX11_copy_82 (lv_at hl 0 rfl) ?_
            refine tqc_callV7v (As := [.ref (ad 8 (tq_el S4 19 20 0 p1))]) (rest := []) (kX3_comesAboard h) ⟨hx, hb, hml, hown, hts⟩ (cwV 1 hts (tq_goodV tw_840 tw_841 tw_842 tw_126 tw_845) rfl rfl rfl (by decide +kernel) ⟨(Nat.le_of_ble_eq_true rfl), (Nat.le_of_ble_eq_true rfl)⟩) (va_cwU (owner := "TwoSeas$Paper") 1 hts (tq_goodU tw_840 tw_843 tw_844 tw_841 tw_126 tw_845) rfl rfl rfl rfl (by decide +kernel) ⟨(Nat.le_of_ble_eq_true rfl), (Nat.le_of_ble_eq_true rfl)⟩) b10 hK hG hW hS rfl hl.1 rfl (Nat.le_of_ble_eq_true rfl) dX11_copy_84 ⟨(Nat.le_of_ble_eq_true rfl), (Nat.le_of_ble_eq_true rfl)⟩ (fun S22 H locs h hW hS => ?_)
            refine lv_aload_n hx hb dX11_copy_87 rfl (lv_at hl 1 rfl) ?_
            refine tqc_get7 (v := .int (S22 7 (tq_el S4 15 16 0 p0) 9)) hx hb hw tq_inX3 tq_inX1 hown hK hW b10 9 (by decide) (hw _ tw_538) (fun _ h9 => h9) rfl dX11_copy_88 ?_
            exact W.iret (v := S22 7 (tq_el S4 15 16 0 p0) 9) hx hb hr (fun t ht hWm => ⟨⟨_, S22, rfl, h, tq_pe ht hW⟩, hS.F ht⟩) hS.2.2 dX11_copy_91
          · have h := h.2 c21
            refine lv_bipush (v := (-4)) hx hb dX11_copy_78 (by decide) ?_
            exact W.iret (v := (-4)) hx hb hr (fun t ht hWm => ⟨⟨_, S15, rfl, h, tq_pe ht hW⟩, hS.F ht⟩) hS.2.2 dX11_copy_80
        · have h := h.2 c20
          exact bX11_copy_67 C  _  _ _ _ h hW hS (lv_sub hl [] rfl)
    · have h := h.2 c6
      exact bX11_copy_16 C  _  _ _ _ h hW hS (lv_sub hl [] rfl)
-- X11 known
def wbX11_known_36 (N : tq_Nn) (post : tq_St → Int32 → Prop)  (S : tq_St) (y0 : Int32) : Prop :=
  post S y0
def wbX11_known_34 (N : tq_Nn) (post : tq_St → Int32 → Prop)  (S : tq_St) : Prop :=
  wbX11_known_36 N post S ((-5))
def wpX11_known (N : tq_Nn) (post : tq_St → Int32 → Prop) (S : tq_St) (p0 : Int32) (p1 : Int32) : Prop :=
  wpX11_isPaper N (fun S1 r2 => (r2 = 0 → (wbX11_known_34 N post S1 )) ∧ (¬ r2 = 0 → (wpX11_isPlace N (fun S4 r5 => (r5 = 0 → (wbX11_known_34 N post S4 )) ∧ (¬ r5 = 0 → (tq_gok N S4 15 16 0 p0 ∧ (N 7 (tq_el S4 15 16 0 p0) = 1 ∧ (vp_in p1 5 ∧ N 50 (tq_el S4 15 16 0 p0) = 1 ∧ (wbX11_known_36 N post S4 (S4 50 (tq_el S4 15 16 0 p0) p1.toNatClampNeg))))))) S1 p1))) S p0
set_option maxHeartbeats 4000000 in
set_option maxRecDepth 100000 in
theorem bX11_known_36 {p : Program} {e : Env} {s : State} {m : MethodId} {args : Array Value} {below : List Frame} {meth : Method} {c : Code} {post : tq_St → Int32 → Prop} (C : tq_At p s m meth c args cX11_known 3 ((some .int)) ((tq_ws yX11_known cX11_known 3 (some .int))) RX11 D cy z ad)  : ∀ (S : tq_St) (y0 : Int32) (H : Heap) (locs : List Loc) (ls : Array Slot), wbX11_known_36 N post   S y0 → tq_wd D cy z H0 ad N (tq_mix S M) H → va_S (fun q => z ≤ q) s.heap H locs → lv_has ls 3 [] → W p l e (tq_rm 3 64) s m args below meth c H locs 0 0 (MQ below (va_Qi (fun r u => post u r) (fun u => tq_P D cy z H0 ad N u M) (fun q => z ≤ q)) args s 0 0 (fun q => z ≤ q)) (F0 m 36 ls [.int y0]) := by
  obtain ⟨hx, hb, hr, hml, hown, hts, hlocks, hK, hG⟩ := id C
  have hw : ∀ w ∈ tq_W, w.before args s = true := fun w h => hts w (List.mem_cons_of_mem _ h)
  intro S y0 H locs ls h hW hS hl
  unfold wbX11_known_36 at h
  exact W.iret (v := y0) hx hb hr (fun t ht hWm => ⟨⟨_, S, rfl, h, tq_pe ht hW⟩, hS.F ht⟩) hS.2.2 dX11_known_36
set_option maxHeartbeats 4000000 in
set_option maxRecDepth 100000 in
theorem bX11_known_34 {p : Program} {e : Env} {s : State} {m : MethodId} {args : Array Value} {below : List Frame} {meth : Method} {c : Code} {post : tq_St → Int32 → Prop} (C : tq_At p s m meth c args cX11_known 3 ((some .int)) ((tq_ws yX11_known cX11_known 3 (some .int))) RX11 D cy z ad)  : ∀ (S : tq_St)  (H : Heap) (locs : List Loc) (ls : Array Slot), wbX11_known_34 N post   S  → tq_wd D cy z H0 ad N (tq_mix S M) H → va_S (fun q => z ≤ q) s.heap H locs → lv_has ls 3 [] → W p l e (tq_rm 3 64) s m args below meth c H locs 0 0 (MQ below (va_Qi (fun r u => post u r) (fun u => tq_P D cy z H0 ad N u M) (fun q => z ≤ q)) args s 0 0 (fun q => z ≤ q)) (F0 m 34 ls []) := by
  obtain ⟨hx, hb, hr, hml, hown, hts, hlocks, hK, hG⟩ := id C
  have hw : ∀ w ∈ tq_W, w.before args s = true := fun w h => hts w (List.mem_cons_of_mem _ h)
  intro S  H locs ls h hW hS hl
  unfold wbX11_known_34 at h
  refine lv_bipush (v := (-5)) hx hb dX11_known_34 (by decide) ?_
  exact bX11_known_36 C  _ _ _ _ _ h hW hS (lv_sub hl [] rfl)
set_option maxHeartbeats 4000000 in
set_option maxRecDepth 100000 in
theorem kX11_known {post : tq_St → Int32 → Prop} {S : tq_St} {p0 : Int32} {p1 : Int32} (h : wpX11_known N post S p0 p1) : tq_sI l yX11_known (tq_ws yX11_known cX11_known 3 (some .int)) 3 64 D cy z H0 ad N M S [.ref (ad 1 0), .int p0, .int p1] post := by
  unfold wpX11_known at h
  refine Met.ofW (cc := cX11_known) (maxL := 3) (ret := (some .int)) (by decide) rfl ?_
  intro p e s m args below meth c s₁ B hml hv
  obtain ⟨rfl, hW, hK, hG⟩ := hv
  have hx := B.exec
  have hb := B.bytes
  have hr := B.returns
  have hts := atoms_spec (ws := (tq_ws yX11_known cX11_known 3 (some .int))) B.pre
  have hw : ∀ w ∈ tq_W, w.before _ s = true := fun w h => hts w (List.mem_cons_of_mem _ h)
  have hown : s.vm.findClass RX11 = some m.cls := findClass_of_methodNamed B.named
  have hlocks := B.notSynchronized
  have C : tq_At p s m meth c [.ref (ad 1 0), .int p0, .int p1].toArray cX11_known 3 ((some .int)) ((tq_ws yX11_known cX11_known 3 (some .int))) RX11 D cy z ad := ⟨hx, hb, hr, hml, hown, hts, hlocks, hK, hG⟩
  have hS : va_S (fun q => z ≤ q) s.heap s.heap [] := va_S.rf
  have hl := lv_entry ([.ref (ad 1 0), .int p0, .int p1]) (n := 3) (Nat.le_of_ble_eq_true rfl)
  rw [lg_entry_eq]
  generalize (lg_sl ([.ref (ad 1 0), .int p0, .int p1]) ++ List.replicate (3 - (lg_sl ([.ref (ad 1 0), .int p0, .int p1])).length) Slot.unset).toArray = ls at hl ⊢
  have hl : lv_has ls 3 [(0, .ref (ad 1 0)), (1, .int p0), (2, .int p1)] := hl
  have hW : tq_wd D cy z H0 ad N (tq_mix S M) s.heap := hW
  refine lv_aload_n hx hb dX11_known_0 rfl (lv_at hl 0 rfl) ?_
  refine lv_iload_n hx hb dX11_known_1 rfl (lv_at hl 1 rfl) ?_
  refine tqc_callVi (As := [.int p0]) (rest := []) (kX11_isPaper h) ⟨hx, hb, hml, hown, hts⟩ (cwV 1 hts (tq_goodV tw_819 tw_821 tw_18 tw_115 tw_822) rfl rfl rfl (by decide +kernel) ⟨(Nat.le_of_ble_eq_true rfl), (Nat.le_of_ble_eq_true rfl)⟩) (tq_recvC hK hW (by decide) (tq_mk_1 (by decide)) rfl) hK hG hW hS rfl hl.1 rfl (Nat.le_of_ble_eq_true rfl) dX11_known_2 ⟨(Nat.le_of_ble_eq_true rfl), (Nat.le_of_ble_eq_true rfl)⟩ (fun r2 S1 H locs h hW hS => ?_)
  refine lv_if_eq (tgt := 34) hx hb dX11_known_5 (by decide) (fun c3 => ?_) (fun c3 => ?_)
  · have h := h.1 c3
    exact bX11_known_34 C  _  _ _ _ h hW hS (lv_sub hl [] rfl)
  · have h := h.2 c3
    refine lv_iload_n hx hb dX11_known_8 rfl (lv_at hl 2 rfl) ?_
    refine tqc_callSi (As := [.int p1]) (rest := []) (kX11_isPlace h) ⟨hx, hb, hml, hown, hts⟩ (va_cwS 1 hts (tq_goodS tw_427 tw_428 tw_115 tw_429) rfl rfl rfl (by decide +kernel) ⟨(Nat.le_of_ble_eq_true rfl), (Nat.le_of_ble_eq_true rfl)⟩) hK hG hW hS rfl hl.1 rfl (Nat.le_of_ble_eq_true rfl) dX11_known_9 ⟨(Nat.le_of_ble_eq_true rfl), (Nat.le_of_ble_eq_true rfl)⟩ (fun r5 S4 H locs h hW hS => ?_)
    refine lv_if_eq (tgt := 34) hx hb dX11_known_12 (by decide) (fun c6 => ?_) (fun c6 => ?_)
    · have h := h.1 c6
      exact bX11_known_34 C  _  _ _ _ h hW hS (lv_sub hl [] rfl)
    · have h := h.2 c6
      refine lv_aload_n hx hb dX11_known_15 rfl (lv_at hl 0 rfl) ?_
      refine tqc_get (v := .ref (ad 15 0)) hx hb hw tq_inX11 hown hK hW (by decide) (tq_mk_1 (by decide)) rfl 5 (by decide) (hw _ tw_342) (fun _ h9 => h9) rfl dX11_known_16 ?_
      refine lv_iload_n hx hb dX11_known_19 rfl (lv_at hl 1 rfl) ?_
      obtain ⟨b9, h⟩ := h
      refine tqc_callVr (kr := 7) (As := [.int p0]) (rest := []) (kJl_get (kd := 16) (post := fun u i => u = S4 ∧ i = tq_el S4 15 16 0 p0) (by decide) (by decide) (tq_mk_15 (by decide)) (fun q9 => tq_mk_16 q9) b9 ⟨rfl, rfl⟩) ⟨hx, hb, hml, hown, hts⟩ (cwV 1 hts (tq_goodV tw_827 tw_828 tw_829 tw_118 tw_830) rfl rfl rfl (by decide +kernel) ⟨(Nat.le_of_ble_eq_true rfl), (Nat.le_of_ble_eq_true rfl)⟩) (tq_recvL hK hW (by decide) (tq_mk_15 (by decide))) hK hG hW hS rfl hl.1 rfl (Nat.le_of_ble_eq_true rfl) dX11_known_20 ⟨(Nat.le_of_ble_eq_true rfl), (Nat.le_of_ble_eq_true rfl)⟩ (fun i8 S7 H locs q9 hW hS => ?_)
      rw [q9.1] at hW
      rw [q9.2]
      obtain ⟨b10, h⟩ := h
      refine tqc_cast7 hx hb hown (hw _ tw_488) hK hG hW b10 dX11_known_23 ?_
      refine tqc_get7 (v := .ref (ad 50 (tq_el S4 15 16 0 p0))) hx hb hw tq_inX3 tq_inX1 hown hK hW b10 5 (by decide) (hw _ tw_525) (fun _ h9 => h9) rfl dX11_known_26 ?_
      refine lv_iload_n hx hb dX11_known_29 rfl (lv_at hl 2 rfl) ?_
      obtain ⟨b11, h⟩ := h
      obtain ⟨b12, h⟩ := h
      refine tqc_iald (jn := p1.toNatClampNeg) hx hb hK hW (by decide) (tq_mk_50 b12) b11 rfl dX11_known_30 ?_
      refine lv_goto (tgt := 36) hx hb dX11_known_31 (by decide) ?_
      exact bX11_known_36 C  _ _ _ _ _ h hW hS (lv_sub hl [] rfl)
-- X11 paper
def wpX11_paper (N : tq_Nn) (post : tq_St → Int32 → Prop) (S : tq_St) (p0 : Int32) (p1 : Int32) : Prop :=
  wpX11_isPaper N (fun S1 r2 => (¬ r2 = 0 → (tq_gok N S1 15 16 0 p0 ∧ (N 7 (tq_el S1 15 16 0 p0) = 1 ∧ ((p1 = 0 → (post S1 (S1 7 (tq_el S1 15 16 0 p0) 1))) ∧ (¬ p1 = 0 → ((p1 = 1 → (post S1 (S1 7 (tq_el S1 15 16 0 p0) 2))) ∧ (¬ p1 = 1 → ((p1 = 2 → (post S1 (S1 7 (tq_el S1 15 16 0 p0) 4))) ∧ (¬ p1 = 2 → ((p1 = 3 → (post S1 (S1 7 (tq_el S1 15 16 0 p0) 3))) ∧ (¬ p1 = 3 → ((p1 = 4 → (post S1 (S1 7 (tq_el S1 15 16 0 p0) 9))) ∧ (¬ p1 = 4 → ((p1 = 5 → (post S1 (S1 7 (tq_el S1 15 16 0 p0) 8))) ∧ (¬ p1 = 5 → (post S1 ((-5)))))))))))))))))) ∧ (r2 = 0 → (post S1 ((-5))))) S p0
set_option maxHeartbeats 4000000 in
set_option maxRecDepth 100000 in
theorem kX11_paper {post : tq_St → Int32 → Prop} {S : tq_St} {p0 : Int32} {p1 : Int32} (h : wpX11_paper N post S p0 p1) : tq_sI l yX11_paper (tq_ws yX11_paper cX11_paper 4 (some .int)) 3 64 D cy z H0 ad N M S [.ref (ad 1 0), .int p0, .int p1] post := by
  unfold wpX11_paper at h
  refine Met.ofW (cc := cX11_paper) (maxL := 4) (ret := (some .int)) (by decide) rfl ?_
  intro p e s m args below meth c s₁ B hml hv
  obtain ⟨rfl, hW, hK, hG⟩ := hv
  have hx := B.exec
  have hb := B.bytes
  have hr := B.returns
  have hts := atoms_spec (ws := (tq_ws yX11_paper cX11_paper 4 (some .int))) B.pre
  have hw : ∀ w ∈ tq_W, w.before _ s = true := fun w h => hts w (List.mem_cons_of_mem _ h)
  have hown : s.vm.findClass RX11 = some m.cls := findClass_of_methodNamed B.named
  have hlocks := B.notSynchronized
  have C : tq_At p s m meth c [.ref (ad 1 0), .int p0, .int p1].toArray cX11_paper 4 ((some .int)) ((tq_ws yX11_paper cX11_paper 4 (some .int))) RX11 D cy z ad := ⟨hx, hb, hr, hml, hown, hts, hlocks, hK, hG⟩
  have hS : va_S (fun q => z ≤ q) s.heap s.heap [] := va_S.rf
  have hl := lv_entry ([.ref (ad 1 0), .int p0, .int p1]) (n := 4) (Nat.le_of_ble_eq_true rfl)
  rw [lg_entry_eq]
  generalize (lg_sl ([.ref (ad 1 0), .int p0, .int p1]) ++ List.replicate (4 - (lg_sl ([.ref (ad 1 0), .int p0, .int p1])).length) Slot.unset).toArray = ls at hl ⊢
  have hl : lv_has ls 4 [(0, .ref (ad 1 0)), (1, .int p0), (2, .int p1)] := hl
  have hW : tq_wd D cy z H0 ad N (tq_mix S M) s.heap := hW
  refine lv_aload_n hx hb dX11_paper_0 rfl (lv_at hl 0 rfl) ?_
  refine lv_iload_n hx hb dX11_paper_1 rfl (lv_at hl 1 rfl) ?_
  refine tqc_callVi (As := [.int p0]) (rest := []) (kX11_isPaper h) ⟨hx, hb, hml, hown, hts⟩ (cwV 1 hts (tq_goodV tw_819 tw_821 tw_18 tw_115 tw_822) rfl rfl rfl (by decide +kernel) ⟨(Nat.le_of_ble_eq_true rfl), (Nat.le_of_ble_eq_true rfl)⟩) (tq_recvC hK hW (by decide) (tq_mk_1 (by decide)) rfl) hK hG hW hS rfl hl.1 rfl (Nat.le_of_ble_eq_true rfl) dX11_paper_2 ⟨(Nat.le_of_ble_eq_true rfl), (Nat.le_of_ble_eq_true rfl)⟩ (fun r2 S1 H locs h hW hS => ?_)
  refine lv_if_ne (tgt := 11) hx hb dX11_paper_5 (by decide) (fun c3 => ?_) (fun c3 => ?_)
  · have h := h.1 c3
    refine lv_aload_n hx hb dX11_paper_11 rfl (lv_at hl 0 rfl) ?_
    refine tqc_get (v := .ref (ad 15 0)) hx hb hw tq_inX11 hown hK hW (by decide) (tq_mk_1 (by decide)) rfl 5 (by decide) (hw _ tw_342) (fun _ h9 => h9) rfl dX11_paper_12 ?_
    refine lv_iload_n hx hb dX11_paper_15 rfl (lv_at hl 1 rfl) ?_
    obtain ⟨b6, h⟩ := h
    refine tqc_callVr (kr := 7) (As := [.int p0]) (rest := []) (kJl_get (kd := 16) (post := fun u i => u = S1 ∧ i = tq_el S1 15 16 0 p0) (by decide) (by decide) (tq_mk_15 (by decide)) (fun q9 => tq_mk_16 q9) b6 ⟨rfl, rfl⟩) ⟨hx, hb, hml, hown, hts⟩ (cwV 1 hts (tq_goodV tw_827 tw_828 tw_829 tw_118 tw_830) rfl rfl rfl (by decide +kernel) ⟨(Nat.le_of_ble_eq_true rfl), (Nat.le_of_ble_eq_true rfl)⟩) (tq_recvL hK hW (by decide) (tq_mk_15 (by decide))) hK hG hW hS rfl hl.1 rfl (Nat.le_of_ble_eq_true rfl) dX11_paper_16 ⟨(Nat.le_of_ble_eq_true rfl), (Nat.le_of_ble_eq_true rfl)⟩ (fun i5 S4 H locs q9 hW hS => ?_)
    rw [q9.1] at hW
    rw [q9.2]
    obtain ⟨b7, h⟩ := h
    refine tqc_cast7 hx hb hown (hw _ tw_488) hK hG hW b7 dX11_paper_19 ?_
    refine lv_astore_n (lv' := [(3, .ref (ad 7 (tq_el S1 15 16 0 p0))), (0, .ref (ad 1 0)), (1, .int p0), (2, .int p1)]) hx hb dX11_paper_22 rfl hl (by decide) rfl (fun ls hl => ?_)
    refine lv_iload_n hx hb dX11_paper_23 rfl (lv_at hl 3 rfl) ?_
    by_cases c8 : p1 = 0
    · have h := h.1 c8
      refine W.eq (g2 := F0 m 24 ls (.int 0 :: [])) (by rw [c8]) ?_
      refine lv_tableIn (tgt := 64) hx hb dX11_paper_24 (by decide) (by decide) rfl (by decide) ?_
      refine lv_aload_n hx hb dX11_paper_64 rfl (lv_at hl 0 rfl) ?_
      refine tqc_get7 (v := .int (S1 7 (tq_el S1 15 16 0 p0) 1)) hx hb hw tq_inX3 tq_inX1 hown hK hW b7 1 (by decide) (hw _ tw_513) (fun _ h9 => h9) rfl dX11_paper_65 ?_
      exact W.iret (v := S1 7 (tq_el S1 15 16 0 p0) 1) hx hb hr (fun t ht hWm => ⟨⟨_, S1, rfl, h, tq_pe ht hW⟩, hS.F ht⟩) hS.2.2 dX11_paper_68
    · have h := h.2 c8
      by_cases c9 : p1 = 1
      · have h := h.1 c9
        refine W.eq (g2 := F0 m 24 ls (.int 1 :: [])) (by rw [c9]) ?_
        refine lv_tableIn (tgt := 69) hx hb dX11_paper_24 (by decide) (by decide) rfl (by decide) ?_
        refine lv_aload_n hx hb dX11_paper_69 rfl (lv_at hl 0 rfl) ?_
        refine tqc_get7 (v := .int (S1 7 (tq_el S1 15 16 0 p0) 2)) hx hb hw tq_inX3 tq_inX1 hown hK hW b7 2 (by decide) (hw _ tw_515) (fun _ h9 => h9) rfl dX11_paper_70 ?_
        exact W.iret (v := S1 7 (tq_el S1 15 16 0 p0) 2) hx hb hr (fun t ht hWm => ⟨⟨_, S1, rfl, h, tq_pe ht hW⟩, hS.F ht⟩) hS.2.2 dX11_paper_73
      · have h := h.2 c9
        by_cases c10 : p1 = 2
        · have h := h.1 c10
          refine W.eq (g2 := F0 m 24 ls (.int 2 :: [])) (by rw [c10]) ?_
          refine lv_tableIn (tgt := 74) hx hb dX11_paper_24 (by decide) (by decide) rfl (by decide) ?_
          refine lv_aload_n hx hb dX11_paper_74 rfl (lv_at hl 0 rfl) ?_
          refine tqc_get7 (v := .int (S1 7 (tq_el S1 15 16 0 p0) 4)) hx hb hw tq_inX3 tq_inX1 hown hK hW b7 4 (by decide) (hw _ tw_522) (fun _ h9 => h9) rfl dX11_paper_75 ?_
          exact W.iret (v := S1 7 (tq_el S1 15 16 0 p0) 4) hx hb hr (fun t ht hWm => ⟨⟨_, S1, rfl, h, tq_pe ht hW⟩, hS.F ht⟩) hS.2.2 dX11_paper_78
        · have h := h.2 c10
          by_cases c11 : p1 = 3
          · have h := h.1 c11
            refine W.eq (g2 := F0 m 24 ls (.int 3 :: [])) (by rw [c11]) ?_
            refine lv_tableIn (tgt := 79) hx hb dX11_paper_24 (by decide) (by decide) rfl (by decide) ?_
            refine lv_aload_n hx hb dX11_paper_79 rfl (lv_at hl 0 rfl) ?_
            refine tqc_get7 (v := .int (S1 7 (tq_el S1 15 16 0 p0) 3)) hx hb hw tq_inX3 tq_inX1 hown hK hW b7 3 (by decide) (hw _ tw_517) (fun _ h9 => h9) rfl dX11_paper_80 ?_
            exact W.iret (v := S1 7 (tq_el S1 15 16 0 p0) 3) hx hb hr (fun t ht hWm => ⟨⟨_, S1, rfl, h, tq_pe ht hW⟩, hS.F ht⟩) hS.2.2 dX11_paper_83
          · have h := h.2 c11
            by_cases c12 : p1 = 4
            · have h := h.1 c12
              refine W.eq (g2 := F0 m 24 ls (.int 4 :: [])) (by rw [c12]) ?_
              refine lv_tableIn (tgt := 84) hx hb dX11_paper_24 (by decide) (by decide) rfl (by decide) ?_
              refine lv_aload_n hx hb dX11_paper_84 rfl (lv_at hl 0 rfl) ?_
              refine tqc_get7 (v := .int (S1 7 (tq_el S1 15 16 0 p0) 9)) hx hb hw tq_inX3 tq_inX1 hown hK hW b7 9 (by decide) (hw _ tw_538) (fun _ h9 => h9) rfl dX11_paper_85 ?_
              exact W.iret (v := S1 7 (tq_el S1 15 16 0 p0) 9) hx hb hr (fun t ht hWm => ⟨⟨_, S1, rfl, h, tq_pe ht hW⟩, hS.F ht⟩) hS.2.2 dX11_paper_88
            · have h := h.2 c12
              by_cases c13 : p1 = 5
              · have h := h.1 c13
                refine W.eq (g2 := F0 m 24 ls (.int 5 :: [])) (by rw [c13]) ?_
                refine lv_tableIn (tgt := 89) hx hb dX11_paper_24 (by decide) (by decide) rfl (by decide) ?_
                refine lv_aload_n hx hb dX11_paper_89 rfl (lv_at hl 0 rfl) ?_
                refine tqc_get7 (v := .int (S1 7 (tq_el S1 15 16 0 p0) 8)) hx hb hw tq_inX3 tq_inX1 hown hK hW b7 8 (by decide) (hw _ tw_536) (fun _ h9 => h9) rfl dX11_paper_90 ?_
                exact W.iret (v := S1 7 (tq_el S1 15 16 0 p0) 8) hx hb hr (fun t ht hWm => ⟨⟨_, S1, rfl, h, tq_pe ht hW⟩, hS.F ht⟩) hS.2.2 dX11_paper_93
              · have h := h.2 c13
                refine lv_tableOut (tgt := 94) hx hb dX11_paper_24 (tq_out6 c8 c9 c10 c11 c12 c13) (by decide) ?_
                refine lv_bipush (v := (-5)) hx hb dX11_paper_94 (by decide) ?_
                exact W.iret (v := (-5)) hx hb hr (fun t ht hWm => ⟨⟨_, S1, rfl, h, tq_pe ht hW⟩, hS.F ht⟩) hS.2.2 dX11_paper_96
  · have h := h.2 c3
    refine lv_bipush (v := (-5)) hx hb dX11_paper_8 (by decide) ?_
    exact W.iret (v := (-5)) hx hb hr (fun t ht hWm => ⟨⟨_, S1, rfl, h, tq_pe ht hW⟩, hS.F ht⟩) hS.2.2 dX11_paper_10
-- X11 force
def wbX11_force_23 (N : tq_Nn) (post : tq_St → Int32 → Prop)  (S : tq_St) (y0 : Int32) : Prop :=
  post S y0
def wpX11_force (N : tq_Nn) (post : tq_St → Int32 → Prop) (S : tq_St) (p0 : Int32) : Prop :=
  wpX11_isFactory N (fun S1 r2 => (r2 = 0 → (wbX11_force_23 N post S1 ((-1)))) ∧ (¬ r2 = 0 → (vp_in p0 5 ∧ (wbX11_force_23 N post S1 (S1 38 p0.toNatClampNeg 2))))) S p0
set_option maxHeartbeats 4000000 in
set_option maxRecDepth 100000 in
theorem bX11_force_23 {p : Program} {e : Env} {s : State} {m : MethodId} {args : Array Value} {below : List Frame} {meth : Method} {c : Code} {post : tq_St → Int32 → Prop} (C : tq_At p s m meth c args cX11_force 2 ((some .int)) ((tq_ws yX11_force cX11_force 2 (some .int))) RX11 D cy z ad)  : ∀ (S : tq_St) (y0 : Int32) (H : Heap) (locs : List Loc) (ls : Array Slot), wbX11_force_23 N post   S y0 → tq_wd D cy z H0 ad N (tq_mix S M) H → va_S (fun q => z ≤ q) s.heap H locs → lv_has ls 2 [] → W p l e (tq_rm 1 20) s m args below meth c H locs 0 0 (MQ below (va_Qi (fun r u => post u r) (fun u => tq_P D cy z H0 ad N u M) (fun q => z ≤ q)) args s 0 0 (fun q => z ≤ q)) (F0 m 23 ls [.int y0]) := by
  obtain ⟨hx, hb, hr, hml, hown, hts, hlocks, hK, hG⟩ := id C
  have hw : ∀ w ∈ tq_W, w.before args s = true := fun w h => hts w (List.mem_cons_of_mem _ h)
  intro S y0 H locs ls h hW hS hl
  unfold wbX11_force_23 at h
  exact W.iret (v := y0) hx hb hr (fun t ht hWm => ⟨⟨_, S, rfl, h, tq_pe ht hW⟩, hS.F ht⟩) hS.2.2 dX11_force_23
set_option maxHeartbeats 4000000 in
set_option maxRecDepth 100000 in
theorem kX11_force {post : tq_St → Int32 → Prop} {S : tq_St} {p0 : Int32} (h : wpX11_force N post S p0) : tq_sI l yX11_force (tq_ws yX11_force cX11_force 2 (some .int)) 1 20 D cy z H0 ad N M S [.ref (ad 1 0), .int p0] post := by
  unfold wpX11_force at h
  refine Met.ofW (cc := cX11_force) (maxL := 2) (ret := (some .int)) (by decide) rfl ?_
  intro p e s m args below meth c s₁ B hml hv
  obtain ⟨rfl, hW, hK, hG⟩ := hv
  have hx := B.exec
  have hb := B.bytes
  have hr := B.returns
  have hts := atoms_spec (ws := (tq_ws yX11_force cX11_force 2 (some .int))) B.pre
  have hw : ∀ w ∈ tq_W, w.before _ s = true := fun w h => hts w (List.mem_cons_of_mem _ h)
  have hown : s.vm.findClass RX11 = some m.cls := findClass_of_methodNamed B.named
  have hlocks := B.notSynchronized
  have C : tq_At p s m meth c [.ref (ad 1 0), .int p0].toArray cX11_force 2 ((some .int)) ((tq_ws yX11_force cX11_force 2 (some .int))) RX11 D cy z ad := ⟨hx, hb, hr, hml, hown, hts, hlocks, hK, hG⟩
  have hS : va_S (fun q => z ≤ q) s.heap s.heap [] := va_S.rf
  have hl := lv_entry ([.ref (ad 1 0), .int p0]) (n := 2) (Nat.le_of_ble_eq_true rfl)
  rw [lg_entry_eq]
  generalize (lg_sl ([.ref (ad 1 0), .int p0]) ++ List.replicate (2 - (lg_sl ([.ref (ad 1 0), .int p0])).length) Slot.unset).toArray = ls at hl ⊢
  have hl : lv_has ls 2 [(0, .ref (ad 1 0)), (1, .int p0)] := hl
  have hW : tq_wd D cy z H0 ad N (tq_mix S M) s.heap := hW
  refine lv_iload_n hx hb dX11_force_0 rfl (lv_at hl 1 rfl) ?_
  refine tqc_callSi (As := [.int p0]) (rest := []) (kX11_isFactory h) ⟨hx, hb, hml, hown, hts⟩ (va_cwS 1 hts (tq_goodS tw_402 tw_403 tw_115 tw_404) rfl rfl rfl (by decide +kernel) ⟨(Nat.le_of_ble_eq_true rfl), (Nat.le_of_ble_eq_true rfl)⟩) hK hG hW hS rfl hl.1 rfl (Nat.le_of_ble_eq_true rfl) dX11_force_1 ⟨(Nat.le_of_ble_eq_true rfl), (Nat.le_of_ble_eq_true rfl)⟩ (fun r2 S1 H locs h hW hS => ?_)
  refine lv_if_eq (tgt := 22) hx hb dX11_force_4 (by decide) (fun c3 => ?_) (fun c3 => ?_)
  · have h := h.1 c3
    refine lv_iconst (v := (-1)) hx hb dX11_force_22 (by decide) ?_
    exact bX11_force_23 C  _ _ _ _ _ h hW hS (lv_sub hl [] rfl)
  · have h := h.2 c3
    refine lv_aload_n hx hb dX11_force_7 rfl (lv_at hl 0 rfl) ?_
    refine tqc_get (v := .ref (ad 12 0)) hx hb hw tq_inX11 hown hK hW (by decide) (tq_mk_1 (by decide)) rfl 1 (by decide) (hw _ tw_338) (fun _ h9 => h9) rfl dX11_force_8 ?_
    refine lv_iload_n hx hb dX11_force_11 rfl (lv_at hl 1 rfl) ?_
    obtain ⟨b4, h⟩ := h
    refine tqc_aald (jn := p0.toNatClampNeg) (v := .ref (ad 2 p0.toNatClampNeg)) hx hb hK hW (by decide) (tq_mk_12 (by decide)) 3 rfl rfl b4 rfl rfl dX11_force_12 ?_
    refine tqc_get (v := .ref (ad 38 p0.toNatClampNeg)) hx hb hw tq_inX5 hown hK hW (by decide) (tq_mk_2 (tq_lt b4)) rfl 13 (by decide) (hw _ tw_277) (fun _ h9 => h9) rfl dX11_force_13 ?_
    refine tqc_callVi (As := []) (rest := []) (kJl_size (post := fun u r => u = S1 ∧ r = S1 38 p0.toNatClampNeg 2) (by decide) (tq_mk_38 (tq_lt b4)) ⟨rfl, rfl⟩) ⟨hx, hb, hml, hown, hts⟩ (cwV 0 hts (tq_goodV tw_484 tw_485 tw_486 tw_118 tw_487) rfl rfl rfl (by decide +kernel) ⟨(Nat.le_of_ble_eq_true rfl), (Nat.le_of_ble_eq_true rfl)⟩) (tq_recvL hK hW (by decide) (tq_mk_38 (tq_lt b4))) hK hG hW hS rfl hl.1 rfl (Nat.le_of_ble_eq_true rfl) dX11_force_16 ⟨(Nat.le_of_ble_eq_true rfl), (Nat.le_of_ble_eq_true rfl)⟩ (fun r6 S5 H locs q9 hW hS => ?_)
    rw [q9.1] at hW
    rw [q9.2]
    refine lv_goto (tgt := 23) hx hb dX11_force_19 (by decide) ?_
    exact bX11_force_23 C  _ _ _ _ _ h hW hS (lv_sub hl [] rfl)
-- X11 forced
def wpX11_forced (N : tq_Nn) (post : tq_St → Int32 → Prop) (S : tq_St) (p0 : Int32) (p1 : Int32) : Prop :=
  wpX11_isInForce N (fun S1 r2 => (¬ r2 = 0 → (vp_in p0 5 ∧ (tq_gok N S1 38 39 p0.toNatClampNeg p1 ∧ (N 10 (tq_el S1 38 39 p0.toNatClampNeg p1) = 1 ∧ (post S1 ((10 * (S1 10 (tq_el S1 38 39 p0.toNatClampNeg p1) 0)) + (S1 10 (tq_el S1 38 39 p0.toNatClampNeg p1) 1))))))) ∧ (r2 = 0 → (post S1 ((-1))))) S p0 p1
set_option maxHeartbeats 4000000 in
set_option maxRecDepth 100000 in
theorem kX11_forced {post : tq_St → Int32 → Prop} {S : tq_St} {p0 : Int32} {p1 : Int32} (h : wpX11_forced N post S p0 p1) : tq_sI l yX11_forced (tq_ws yX11_forced cX11_forced 4 (some .int)) 3 64 D cy z H0 ad N M S [.ref (ad 1 0), .int p0, .int p1] post := by
  unfold wpX11_forced at h
  refine Met.ofW (cc := cX11_forced) (maxL := 4) (ret := (some .int)) (by decide) rfl ?_
  intro p e s m args below meth c s₁ B hml hv
  obtain ⟨rfl, hW, hK, hG⟩ := hv
  have hx := B.exec
  have hb := B.bytes
  have hr := B.returns
  have hts := atoms_spec (ws := (tq_ws yX11_forced cX11_forced 4 (some .int))) B.pre
  have hw : ∀ w ∈ tq_W, w.before _ s = true := fun w h => hts w (List.mem_cons_of_mem _ h)
  have hown : s.vm.findClass RX11 = some m.cls := findClass_of_methodNamed B.named
  have hlocks := B.notSynchronized
  have C : tq_At p s m meth c [.ref (ad 1 0), .int p0, .int p1].toArray cX11_forced 4 ((some .int)) ((tq_ws yX11_forced cX11_forced 4 (some .int))) RX11 D cy z ad := ⟨hx, hb, hr, hml, hown, hts, hlocks, hK, hG⟩
  have hS : va_S (fun q => z ≤ q) s.heap s.heap [] := va_S.rf
  have hl := lv_entry ([.ref (ad 1 0), .int p0, .int p1]) (n := 4) (Nat.le_of_ble_eq_true rfl)
  rw [lg_entry_eq]
  generalize (lg_sl ([.ref (ad 1 0), .int p0, .int p1]) ++ List.replicate (4 - (lg_sl ([.ref (ad 1 0), .int p0, .int p1])).length) Slot.unset).toArray = ls at hl ⊢
  have hl : lv_has ls 4 [(0, .ref (ad 1 0)), (1, .int p0), (2, .int p1)] := hl
  have hW : tq_wd D cy z H0 ad N (tq_mix S M) s.heap := hW
  refine lv_aload_n hx hb dX11_forced_0 rfl (lv_at hl 0 rfl) ?_
  refine lv_iload_n hx hb dX11_forced_1 rfl (lv_at hl 1 rfl) ?_
  refine lv_iload_n hx hb dX11_forced_2 rfl (lv_at hl 2 rfl) ?_
  refine tqc_callVi (As := [.int p0, .int p1]) (rest := []) (kX11_isInForce h) ⟨hx, hb, hml, hown, hts⟩ (cwV 2 hts (tq_goodV tw_862 tw_864 tw_20 tw_115 tw_865) rfl rfl rfl (by decide +kernel) ⟨(Nat.le_of_ble_eq_true rfl), (Nat.le_of_ble_eq_true rfl)⟩) (tq_recvC hK hW (by decide) (tq_mk_1 (by decide)) rfl) hK hG hW hS rfl hl.1 rfl (Nat.le_of_ble_eq_true rfl) dX11_forced_3 ⟨(Nat.le_of_ble_eq_true rfl), (Nat.le_of_ble_eq_true rfl)⟩ (fun r2 S1 H locs h hW hS => ?_)
  refine lv_if_ne (tgt := 11) hx hb dX11_forced_6 (by decide) (fun c3 => ?_) (fun c3 => ?_)
  · have h := h.1 c3
    refine lv_aload_n hx hb dX11_forced_11 rfl (lv_at hl 0 rfl) ?_
    refine tqc_get (v := .ref (ad 12 0)) hx hb hw tq_inX11 hown hK hW (by decide) (tq_mk_1 (by decide)) rfl 1 (by decide) (hw _ tw_338) (fun _ h9 => h9) rfl dX11_forced_12 ?_
    refine lv_iload_n hx hb dX11_forced_15 rfl (lv_at hl 1 rfl) ?_
    obtain ⟨b4, h⟩ := h
    refine tqc_aald (jn := p0.toNatClampNeg) (v := .ref (ad 2 p0.toNatClampNeg)) hx hb hK hW (by decide) (tq_mk_12 (by decide)) 3 rfl rfl b4 rfl rfl dX11_forced_16 ?_
    refine tqc_get (v := .ref (ad 38 p0.toNatClampNeg)) hx hb hw tq_inX5 hown hK hW (by decide) (tq_mk_2 (tq_lt b4)) rfl 13 (by decide) (hw _ tw_277) (fun _ h9 => h9) rfl dX11_forced_17 ?_
    refine lv_iload_n hx hb dX11_forced_20 rfl (lv_at hl 2 rfl) ?_
    obtain ⟨b7, h⟩ := h
    refine tqc_callVr (kr := 10) (As := [.int p1]) (rest := []) (kJl_get (kd := 39) (post := fun u i => u = S1 ∧ i = tq_el S1 38 39 p0.toNatClampNeg p1) (by decide) (by decide) (tq_mk_38 (tq_lt b4)) (fun q9 => tq_mk_39 q9) b7 ⟨rfl, rfl⟩) ⟨hx, hb, hml, hown, hts⟩ (cwV 1 hts (tq_goodV tw_827 tw_828 tw_829 tw_118 tw_830) rfl rfl rfl (by decide +kernel) ⟨(Nat.le_of_ble_eq_true rfl), (Nat.le_of_ble_eq_true rfl)⟩) (tq_recvL hK hW (by decide) (tq_mk_38 (tq_lt b4))) hK hG hW hS rfl hl.1 rfl (Nat.le_of_ble_eq_true rfl) dX11_forced_21 ⟨(Nat.le_of_ble_eq_true rfl), (Nat.le_of_ble_eq_true rfl)⟩ (fun i6 S5 H locs q9 hW hS => ?_)
    rw [q9.1] at hW
    rw [q9.2]
    obtain ⟨b8, h⟩ := h
    refine va_castS hx hb hown (hw _ tw_866) (hK.1 5 _ rfl).2 (tq_recvC hK hW (by decide) (tq_mk_10 b8) rfl) dX11_forced_24 ?_
    refine lv_astore_n (lv' := [(3, .ref (ad 10 (tq_el S1 38 39 p0.toNatClampNeg p1))), (0, .ref (ad 1 0)), (1, .int p0), (2, .int p1)]) hx hb dX11_forced_27 rfl hl (by decide) rfl (fun ls hl => ?_)
    refine lv_bipush (v := 10) hx hb dX11_forced_28 (by decide) ?_
    refine lv_aload_n hx hb dX11_forced_30 rfl (lv_at hl 0 rfl) ?_
    refine tqc_get (v := .int (S1 10 (tq_el S1 38 39 p0.toNatClampNeg p1) 0)) hx hb hw tq_inX4 hown hK hW (by decide) (tq_mk_10 b8) rfl 0 (by decide) (hw _ tw_663) (fun _ h9 => h9) rfl dX11_forced_31 ?_
    refine lv_imul hx hb dX11_forced_34 ?_
    refine lv_aload_n hx hb dX11_forced_35 rfl (lv_at hl 0 rfl) ?_
    refine tqc_get (v := .int (S1 10 (tq_el S1 38 39 p0.toNatClampNeg p1) 1)) hx hb hw tq_inX4 hown hK hW (by decide) (tq_mk_10 b8) rfl 1 (by decide) (hw _ tw_665) (fun _ h9 => h9) rfl dX11_forced_36 ?_
    refine lv_iadd hx hb dX11_forced_39 ?_
    exact W.iret (v := (10 * (S1 10 (tq_el S1 38 39 p0.toNatClampNeg p1) 0)) + (S1 10 (tq_el S1 38 39 p0.toNatClampNeg p1) 1)) hx hb hr (fun t ht hWm => ⟨⟨_, S1, rfl, h, tq_pe ht hW⟩, hS.F ht⟩) hS.2.2 dX11_forced_40
  · have h := h.2 c3
    refine lv_iconst (v := (-1)) hx hb dX11_forced_9 (by decide) ?_
    exact W.iret (v := (-1)) hx hb hr (fun t ht hWm => ⟨⟨_, S1, rfl, h, tq_pe ht hW⟩, hS.F ht⟩) hS.2.2 dX11_forced_10
