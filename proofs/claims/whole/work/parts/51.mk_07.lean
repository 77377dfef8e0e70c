variable {l : Launch} {D : va_G} {cy : Nat → ClassId} {z A0 : Nat} {H0 : Heap} {ad : Nat → Nat → Nat} {M : tq_St}
-- X11 letter
def wbX11_letter_14 (post : tq_Nn → tq_St → Int32 → Prop)  (N : tq_Nn) (S : tq_St) : Prop :=
  post N S ((-1))
def wpX11_letter (post : tq_Nn → tq_St → Int32 → Prop) (N : tq_Nn) (S : tq_St) (p0 : Int32) (p1 : Int32) : Prop :=
  wpX11_isPlace N (fun S1 r2 => (r2 = 0 → (wbX11_letter_14 post N S1 )) ∧ (¬ r2 = 0 → (wpX11_isPlace N (fun S4 r5 => (¬ r5 = 0 → ((¬ p0 = p1 → (wpX11_hasRoomForPapers N (fun S8 r9 => (¬ r9 = 0 → (vp_in p0 5 ∧ (wpX11_write (fun N12 S13 r14 => N12 7 r14 = 1 ∧ (post N12 S13 (S13 7 r14 0))) N S8 1 p0.toNatClampNeg p1))) ∧ (r9 = 0 → (post N S8 ((-4))))) S4 1)) ∧ (p0 = p1 → (post N S4 ((-2)))))) ∧ (r5 = 0 → (wbX11_letter_14 post N S4 ))) S1 p1))) S p0
set_option maxHeartbeats 4000000 in
set_option maxRecDepth 100000 in
theorem bX11_letter_14 {p : Program} {e : Env} {s : State} {m : MethodId} {args : Array Value} {below : List Frame} {meth : Method} {c : Code} {post : tq_Nn → tq_St → Int32 → Prop} (C : tq_At p s m meth c args cX11_letter 3 ((some .int)) ((tq_ws yX11_letter cX11_letter 3 (some .int))) RX11 D cy z ad)  : ∀ (N : tq_Nn) (S : tq_St)  (H : Heap) (locs : List Loc) (ls : Array Slot), wbX11_letter_14 post  N S  → tq_nb z A0 s N → tq_wd D cy z H0 ad N (tq_mix S M) H → va_S (fun q => z ≤ q) s.heap H locs → lv_has ls 3 [] → tq_Wb p l e 8 265 s m args below meth c z A0 N H locs (MQ below (va_Qi (fun r (u : tq_Nn × tq_St) => post u.1 u.2 r) (tq_PB D cy z A0 H0 ad M) (fun q => z ≤ q)) args s (z + tq_CX - s.heap.size) (A0 + tq_CY - tq_all s.heap) (fun q => z ≤ q)) (F0 m 14 ls []) := by
  obtain ⟨hx, hb, hr, hml, hown, hts, hlocks, hK, hG⟩ := id C
  have hw : ∀ w ∈ tq_W, w.before args s = true := fun w h => hts w (List.mem_cons_of_mem _ h)
  intro N S  H locs ls h hN hW hS hl
  unfold wbX11_letter_14 at h
  refine lv_iconst (v := (-1)) hx hb dX11_letter_14 (by decide) ?_
  exact tqb_iret (v := (-1)) hx hb hr hN h hW hS dX11_letter_15 hlocks
set_option maxHeartbeats 4000000 in
set_option maxRecDepth 100000 in
theorem kX11_letter {post : tq_Nn → tq_St → Int32 → Prop} {N : tq_Nn} {S : tq_St} {sz sl : Nat} {p0 : Int32} {p1 : Int32} (h : wpX11_letter post N S p0 p1) : tq_bI l yX11_letter (tq_ws yX11_letter cX11_letter 3 (some .int)) 8 265 D cy z A0 H0 ad N M S sz sl [.ref (ad 1 0), .int p0, .int p1] post := by
  unfold wpX11_letter at h
  refine Met.ofW (cc := cX11_letter) (maxL := 3) (ret := (some .int)) (by decide) rfl ?_
  intro p e s m args below meth c s₁ B hml hv
  obtain ⟨rfl, ⟨hW, hK, hG⟩, rfl, rfl, hN1, hN2, hN3, hN4⟩ := hv
  have hN : tq_nb z A0 s N := ⟨hN1, hN2, hN3, hN4⟩
  have hx := B.exec
  have hb := B.bytes
  have hr := B.returns
  have hts := atoms_spec (ws := (tq_ws yX11_letter cX11_letter 3 (some .int))) B.pre
  have hw : ∀ w ∈ tq_W, w.before _ s = true := fun w h => hts w (List.mem_cons_of_mem _ h)
  have hown : s.vm.findClass RX11 = some m.cls := findClass_of_methodNamed B.named
  have hlocks := B.notSynchronized
  have C : tq_At p s m meth c [.ref (ad 1 0), .int p0, .int p1].toArray cX11_letter 3 ((some .int)) ((tq_ws yX11_letter cX11_letter 3 (some .int))) RX11 D cy z ad := ⟨hx, hb, hr, hml, hown, hts, hlocks, hK, hG⟩
  have hS : va_S (fun q => z ≤ q) s.heap s.heap [] := va_S.rf
  have hl := lv_entry ([.ref (ad 1 0), .int p0, .int p1]) (n := 3) (Nat.le_of_ble_eq_true rfl)
  rw [lg_entry_eq]
  generalize (lg_sl ([.ref (ad 1 0), .int p0, .int p1]) ++ List.replicate (3 - (lg_sl ([.ref (ad 1 0), .int p0, .int p1])).length) Slot.unset).toArray = ls at hl ⊢
  have hl : lv_has ls 3 [(0, .ref (ad 1 0)), (1, .int p0), (2, .int p1)] := hl
  have hW : tq_wd D cy z H0 ad N (tq_mix S M) s.heap := hW
  refine tq_tight (c1 := z + N 0 0 - s.heap.size) (n1 := A0 + N 0 1 - tq_all s.heap) (by omega) (by omega) ?_
  refine lv_iload_n hx hb dX11_letter_0 rfl (lv_at hl 1 rfl) ?_
  refine tqc_callSi (As := [.int p0]) (rest := []) (kX11_isPlace h) ⟨hx, hb, hml, hown, hts⟩ (va_cwS 1 hts (tq_goodS tw_427 tw_428 tw_115 tw_429) rfl rfl rfl (by decide +kernel) ⟨(Nat.le_of_ble_eq_true rfl), (Nat.le_of_ble_eq_true rfl)⟩) hK hG hW hS rfl hl.1 rfl (Nat.le_of_ble_eq_true rfl) dX11_letter_1 hN.f (fun r2 S1 H locs h hW hS => ?_)
  refine lv_if_eq (tgt := 14) hx hb dX11_letter_4 (by decide) (fun c3 => ?_) (fun c3 => ?_)
  · have h := h.1 c3
    exact bX11_letter_14 C  _ _  _ _ _ h hN hW hS (lv_sub hl [] rfl)
  · have h := h.2 c3
    refine lv_iload_n hx hb dX11_letter_7 rfl (lv_at hl 2 rfl) ?_
    refine tqc_callSi (As := [.int p1]) (rest := []) (kX11_isPlace h) ⟨hx, hb, hml, hown, hts⟩ (va_cwS 1 hts (tq_goodS tw_427 tw_428 tw_115 tw_429) rfl rfl rfl (by decide +kernel) ⟨(Nat.le_of_ble_eq_true rfl), (Nat.le_of_ble_eq_true rfl)⟩) hK hG hW hS rfl hl.1 rfl (Nat.le_of_ble_eq_true rfl) dX11_letter_8 hN.f (fun r5 S4 H locs h hW hS => ?_)
    refine lv_if_ne (tgt := 16) hx hb dX11_letter_11 (by decide) (fun c6 => ?_) (fun c6 => ?_)
    · have h := h.1 c6
      refine lv_iload_n hx hb dX11_letter_16 rfl (lv_at hl 1 rfl) ?_
      refine lv_iload_n hx hb dX11_letter_17 rfl (lv_at hl 2 rfl) ?_
      refine lv_icmp_ne (tgt := 24) hx hb dX11_letter_18 (by decide) (fun c7 => ?_) (fun c7 => ?_)
      · have h := h.1 c7
        refine lv_aload_n hx hb dX11_letter_24 rfl (lv_at hl 0 rfl) ?_
        refine lv_iconst (v := 1) hx hb dX11_letter_25 (by decide) ?_
        refine tqc_callVi (As := [.int 1]) (rest := []) (kX11_hasRoomForPapers h) ⟨hx, hb, hml, hown, hts⟩ (cwV 1 hts (tq_goodV tw_480 tw_482 tw_1 tw_115 tw_483) rfl rfl rfl (by decide +kernel) ⟨(Nat.le_of_ble_eq_true rfl), (Nat.le_of_ble_eq_true rfl)⟩) (tq_recvC hK hW (by decide) (tq_mk_1 (by decide)) rfl) hK hG hW hS rfl hl.1 rfl (Nat.le_of_ble_eq_true rfl) dX11_letter_26 hN.f (fun r9 S8 H locs h hW hS => ?_)
        refine lv_if_ne (tgt := 35) hx hb dX11_letter_29 (by decide) (fun c10 => ?_) (fun c10 => ?_)
        · have h := h.1 c10
          refine lv_aload_n hx hb dX11_letter_35 rfl (lv_at hl 0 rfl) ?_
          refine lv_iconst (v := 1) hx hb dX11_letter_36 (by decide) ?_
          refine lv_aload_n hx hb dX11_letter_37 rfl (lv_at hl 0 rfl) ?_
          refine tqc_get (v := .ref (ad 12 0)) hx hb hw tq_inX11 hown hK hW (by decide) (tq_mk_1 (by decide)) rfl 1 (by decide) (hw _ tw_338) (fun _ h9 => h9) rfl dX11_letter_38 ?_
          refine lv_iload_n hx hb dX11_letter_41 rfl (lv_at hl 1 rfl) ?_
          obtain ⟨b11, h⟩ := h
          refine tqc_aald (jn := p0.toNatClampNeg) (v := .ref (ad 2 p0.toNatClampNeg)) hx hb hK hW (by decide) (tq_mk_12 (by decide)) 3 rfl rfl b11 rfl rfl dX11_letter_42 ?_
          refine lv_iload_n hx hb dX11_letter_43 rfl (lv_at hl 2 rfl) ?_
          refine tqb_callVr (kr := 7) (As := [.int 1, .ref (ad 2 p0.toNatClampNeg), .int p1]) (rest := []) (kX11_write h) ⟨hx, hb, hml, hown, hts⟩ (cwV 3 hts (tq_goodV tw_811 tw_813 tw_17 tw_115 tw_814) rfl rfl rfl (by decide +kernel) ⟨(Nat.le_of_ble_eq_true rfl), (Nat.le_of_ble_eq_true rfl)⟩) (tq_recvC hK hW (by decide) (tq_mk_1 (by decide)) rfl) hK hG hW hS rfl hl.1 rfl (Nat.le_of_ble_eq_true rfl) dX11_letter_44 hN (fun r14 N12 S13 H locs h hN hW hS => ?_)
          obtain ⟨b15, h⟩ := h
          refine tqc_get7 (v := .int (S13 7 r14 0)) hx hb hw tq_inX3 tq_inX1 hown hK hW b15 0 (by decide) (hw _ tw_508) (fun _ h9 => h9) rfl dX11_letter_47 ?_
          exact tqb_iret (v := S13 7 r14 0) hx hb hr hN h hW hS dX11_letter_50 hlocks
        · have h := h.2 c10
          refine lv_bipush (v := (-4)) hx hb dX11_letter_32 (by decide) ?_
          exact tqb_iret (v := (-4)) hx hb hr hN h hW hS dX11_letter_34 hlocks
      · have h := h.2 c7
        refine lv_bipush (v := (-2)) hx hb dX11_letter_21 (by decide) ?_
        exact tqb_iret (v := (-2)) hx hb hr hN h hW hS dX11_letter_23 hlocks
    · have h := h.2 c6
      exact bX11_letter_14 C  _ _  _ _ _ h hN hW hS (lv_sub hl [] rfl)
-- X11 ship
def wpX11_ship (post : tq_Nn → tq_St → Int32 → Prop) (N : tq_Nn) (S : tq_St) (p0 : Int32) (p1 : Int32) : Prop :=
  wpX11_within N (fun S1 r2 => (¬ r2 = 0 → (wpX11_within N (fun S4 r5 => (¬ r5 = 0 → (((S4 19 0 2) < 8 → (N 0 0 + 1 ≤ tq_CX ∧ N 0 1 + 11 ≤ tq_CY ∧ (∀ i12, ¬ i12 < 1 → i12 ≤ N 0 0 → tq_fr N i12 → ∀ N13, N13 = tq_na N (i12 + 1) 1 i12 3 11 → ∀ S14, S14 = tq_cp S4 1 i12 (fun _ => 0) → (wpX8_init (fun N18 S19 => tq_aok N18 S19 19 20 8 0 i12 ∧ (∀ N20 S21, tq_added N18 S19 19 20 0 i12 N20 S21 → (post N20 S21 ((S21 19 0 2) - 1)))) N13 S14 i12 (S14 19 0 2) p0 p1)))) ∧ (¬ (S4 19 0 2) < 8 → (post N S4 ((-4)))))) ∧ (r5 = 0 → (post N S4 ((-2))))) S1 p1 1 60)) ∧ (r2 = 0 → (post N S1 ((-1))))) S p0 0 3
set_option maxHeartbeats 4000000 in
set_option maxRecDepth 100000 in
theorem kX11_ship {post : tq_Nn → tq_St → Int32 → Prop} {N : tq_Nn} {S : tq_St} {sz sl : Nat} {p0 : Int32} {p1 : Int32} (h : wpX11_ship post N S p0 p1) : tq_bI l yX11_ship (tq_ws yX11_ship cX11_ship 3 (some .int)) 7 241 D cy z A0 H0 ad N M S sz sl [.ref (ad 1 0), .int p0, .int p1] post := by
  unfold wpX11_ship at h
  refine Met.ofW (cc := cX11_ship) (maxL := 3) (ret := (some .int)) (by decide) rfl ?_
  intro p e s m args below meth c s₁ B hml hv
  obtain ⟨rfl, ⟨hW, hK, hG⟩, rfl, rfl, hN1, hN2, hN3, hN4⟩ := hv
  have hN : tq_nb z A0 s N := ⟨hN1, hN2, hN3, hN4⟩
  have hx := B.exec
  have hb := B.bytes
  have hr := B.returns
  have hts := atoms_spec (ws := (tq_ws yX11_ship cX11_ship 3 (some .int))) B.pre
  have hw : ∀ w ∈ tq_W, w.before _ s = true := fun w h => hts w (List.mem_cons_of_mem _ h)
  have hown : s.vm.findClass RX11 = some m.cls := findClass_of_methodNamed B.named
  have hlocks := B.notSynchronized
  have C : tq_At p s m meth c [.ref (ad 1 0), .int p0, .int p1].toArray cX11_ship 3 ((some .int)) ((tq_ws yX11_ship cX11_ship 3 (some .int))) RX11 D cy z ad := ⟨hx, hb, hr, hml, hown, hts, hlocks, hK, hG⟩
  have hS : va_S (fun q => z ≤ q) s.heap s.heap [] := va_S.rf
  have hl := lv_entry ([.ref (ad 1 0), .int p0, .int p1]) (n := 3) (Nat.le_of_ble_eq_true rfl)
  rw [lg_entry_eq]
  generalize (lg_sl ([.ref (ad 1 0), .int p0, .int p1]) ++ List.replicate (3 - (lg_sl ([.ref (ad 1 0), .int p0, .int p1])).length) Slot.unset).toArray = ls at hl ⊢
  have hl : lv_has ls 3 [(0, .ref (ad 1 0)), (1, .int p0), (2, .int p1)] := hl
  have hW : tq_wd D cy z H0 ad N (tq_mix S M) s.heap := hW
  refine tq_tight (c1 := z + N 0 0 - s.heap.size) (n1 := A0 + N 0 1 - tq_all s.heap) (by omega) (by omega) ?_
  refine lv_iload_n hx hb dX11_ship_0 rfl (lv_at hl 1 rfl) ?_
  refine lv_iconst (v := 0) hx hb dX11_ship_1 (by decide) ?_
  refine lv_iconst (v := 3) hx hb dX11_ship_2 (by decide) ?_
  refine tqc_callSi (As := [.int p0, .int 0, .int 3]) (rest := []) (kX11_within h) ⟨hx, hb, hml, hown, hts⟩ (va_cwS 3 hts (tq_goodS tw_405 tw_406 tw_115 tw_407) rfl rfl rfl (by decide +kernel) ⟨(Nat.le_of_ble_eq_true rfl), (Nat.le_of_ble_eq_true rfl)⟩) hK hG hW hS rfl hl.1 rfl (Nat.le_of_ble_eq_true rfl) dX11_ship_3 hN.f (fun r2 S1 H locs h hW hS => ?_)
  refine lv_if_ne (tgt := 11) hx hb dX11_ship_6 (by decide) (fun c3 => ?_) (fun c3 => ?_)
  · have h := h.1 c3
    refine lv_iload_n hx hb dX11_ship_11 rfl (lv_at hl 2 rfl) ?_
    refine lv_iconst (v := 1) hx hb dX11_ship_12 (by decide) ?_
    refine lv_bipush (v := 60) hx hb dX11_ship_13 (by decide) ?_
    refine tqc_callSi (As := [.int p1, .int 1, .int 60]) (rest := []) (kX11_within h) ⟨hx, hb, hml, hown, hts⟩ (va_cwS 3 hts (tq_goodS tw_405 tw_406 tw_115 tw_407) rfl rfl rfl (by decide +kernel) ⟨(Nat.le_of_ble_eq_true rfl), (Nat.le_of_ble_eq_true rfl)⟩) hK hG hW hS rfl hl.1 rfl (Nat.le_of_ble_eq_true rfl) dX11_ship_15 hN.f (fun r5 S4 H locs h hW hS => ?_)
    refine lv_if_ne (tgt := 24) hx hb dX11_ship_18 (by decide) (fun c6 => ?_) (fun c6 => ?_)
    · have h := h.1 c6
      refine lv_aload_n hx hb dX11_ship_24 rfl (lv_at hl 0 rfl) ?_
      refine tqc_get (v := .ref (ad 19 0)) hx hb hw tq_inX11 hown hK hW (by decide) (tq_mk_1 (by decide)) rfl 7 (by decide) (hw _ tw_344) (fun _ h9 => h9) rfl dX11_ship_25 ?_
      refine tqc_callVi (As := []) (rest := []) (kJl_size (post := fun u r => u = S4 ∧ r = S4 19 0 2) (by decide) (tq_mk_19 (by decide)) ⟨rfl, rfl⟩) ⟨hx, hb, hml, hown, hts⟩ (cwV 0 hts (tq_goodV tw_484 tw_485 tw_486 tw_118 tw_487) rfl rfl rfl (by decide +kernel) ⟨(Nat.le_of_ble_eq_true rfl), (Nat.le_of_ble_eq_true rfl)⟩) (tq_recvL hK hW (by decide) (tq_mk_19 (by decide))) hK hG hW hS rfl hl.1 rfl (Nat.le_of_ble_eq_true rfl) dX11_ship_28 hN.f (fun r8 S7 H locs q9 hW hS => ?_)
      rw [q9.1] at hW
      rw [q9.2]
      refine lv_bipush (v := 8) hx hb dX11_ship_31 (by decide) ?_
      refine lv_icmp_lt (tgt := 39) hx hb dX11_ship_33 (by decide) (fun c9 => ?_) (fun c9 => ?_)
      · have h := h.1 c9
        refine lv_aload_n hx hb dX11_ship_39 rfl (lv_at hl 0 rfl) ?_
        refine tqc_get (v := .ref (ad 19 0)) hx hb hw tq_inX11 hown hK hW (by decide) (tq_mk_1 (by decide)) rfl 7 (by decide) (hw _ tw_344) (fun _ h9 => h9) rfl dX11_ship_40 ?_
        obtain ⟨b10, b11, h⟩ := h
        refine tqw_new (ci := 9) (t := 3) (fs := [.int 0, .int 0, .int 0, .int 0, .int 0, .int 0, .int 0, .int 0, .null, .null, .null]) hx hb hw tq_inX8 tyX8 tyX8_ok hown (hw _ tw_839) (hw _ tw_892) (hw _ tw_137) hK hG hW hS hN rfl (by decide) (fun _ => rfl) b10 b11 dX11_ship_43 (fun i12 H hz9 hi15 hi2 hfr hN hW hS => ?_)
        generalize eN13 : tq_na N (i12 + 1) 1 i12 3 11 = N13 at hN hW ⊢
        generalize eS14 : tq_cp S4 1 i12 (fun _ => 0) = S14 at hW
        have h := h i12 hi15 hi2 hfr N13 eN13.symm S14 eS14.symm
        refine lv_dup hx hb dX11_ship_46 rfl ?_
        refine lv_aload_n hx hb dX11_ship_47 rfl (lv_at hl 0 rfl) ?_
        refine tqc_get (v := .ref (ad 19 0)) hx hb hw tq_inX11 hown hK hW (by decide) (tq_mk_1 (by decide)) rfl 7 (by decide) (hw _ tw_344) (fun _ h9 => h9) rfl dX11_ship_48 ?_
        refine tqc_callVi (As := []) (rest := [.ref (ad 1 i12), .ref (ad 1 i12), .ref (ad 19 0)]) (kJl_size (post := fun u r => u = S14 ∧ r = S14 19 0 2) (by decide) (tq_mk_19 (by decide)) ⟨rfl, rfl⟩) ⟨hx, hb, hml, hown, hts⟩ (cwV 0 hts (tq_goodV tw_484 tw_485 tw_486 tw_118 tw_487) rfl rfl rfl (by decide +kernel) ⟨(Nat.le_of_ble_eq_true rfl), (Nat.le_of_ble_eq_true rfl)⟩) (tq_recvL hK hW (by decide) (tq_mk_19 (by decide))) hK hG hW hS rfl hl.1 rfl (Nat.le_of_ble_eq_true rfl) dX11_ship_51 hN.f (fun r17 S16 H locs q9 hW hS => ?_)
        rw [q9.1] at hW
        rw [q9.2]
        refine lv_iload_n hx hb dX11_ship_54 rfl (lv_at hl 1 rfl) ?_
        refine lv_iload_n hx hb dX11_ship_55 rfl (lv_at hl 2 rfl) ?_
        refine tqb_callIv (As := [.int (S14 19 0 2), .int p0, .int p1]) (rest := [.ref (ad 1 i12), .ref (ad 19 0)]) (kX8_init h) ⟨hx, hb, hml, hown, hts⟩ (cwI 3 hts (tq_goodO tw_895) rfl rfl rfl (hw _ tw_137) (hw _ tw_893) (hw _ tw_894) rfl (by decide +kernel) ⟨(Nat.le_of_ble_eq_true rfl), (Nat.le_of_ble_eq_true rfl)⟩) hK hG hW hS rfl hl.1 rfl (Nat.le_of_ble_eq_true rfl) dX11_ship_56 hN (fun N18 S19 H locs h hN hW hS => ?_)
        refine W.eq (g2 := F0 m 59 ls [.ref (ad 8 i12), .ref (ad 19 0)]) (by rw [tq_ad1_8 hG.adr hi15]) ?_
        obtain ⟨b23, h⟩ := h
        refine tqb_callVi (C := RJx4a65c) (As := [.ref (ad 8 i12)]) (rest := []) (kJl_add (post := fun N1 S1 r => r = 1 ∧ tq_added N18 S19 19 20 0 i12 N1 S1) (tq_LK_19 hG.adr (by decide)) b23 (fun N1 S1 q => ⟨rfl, q⟩)) ⟨hx, hb, hml, hown, hts⟩ (cwV 1 hts (tq_goodV tw_806 tw_746 tw_747 tw_118 tw_748) rfl rfl rfl (by decide +kernel) ⟨(Nat.le_of_ble_eq_true rfl), (Nat.le_of_ble_eq_true rfl)⟩) (tq_recvL hK hW (by decide) (tq_mk_19 (by decide))) hK hG hW hS rfl hl.1 rfl (Nat.le_of_ble_eq_true rfl) dX11_ship_59 hN (fun r22 N20 S21 H locs q9 hN hW hS => ?_)
        rw [q9.1]
        have h := h N20 S21 q9.2
        refine lv_pop hx hb dX11_ship_62 rfl ?_
        refine lv_aload_n hx hb dX11_ship_63 rfl (lv_at hl 0 rfl) ?_
        refine tqc_get (v := .ref (ad 19 0)) hx hb hw tq_inX11 hown hK hW (by decide) (tq_mk_1 (by decide)) rfl 7 (by decide) (hw _ tw_344) (fun _ h9 => h9) rfl dX11_ship_64 ?_
        refine tqc_callVi (As := []) (rest := []) (kJl_size (post := fun u r => u = S21 ∧ r = S21 19 0 2) (by decide) (tq_mk_19 (by decide)) ⟨rfl, rfl⟩) ⟨hx, hb, hml, hown, hts⟩ (cwV 0 hts (tq_goodV tw_484 tw_485 tw_486 tw_118 tw_487) rfl rfl rfl (by decide +kernel) ⟨(Nat.le_of_ble_eq_true rfl), (Nat.le_of_ble_eq_true rfl)⟩) (tq_recvL hK hW (by decide) (tq_mk_19 (by decide))) hK hG hW hS rfl hl.1 rfl (Nat.le_of_ble_eq_true rfl) dX11_ship_67 hN.f (fun r25 S24 H locs q9 hW hS => ?_)
        rw [q9.1] at hW
        rw [q9.2]
        refine lv_iconst (v := 1) hx hb dX11_ship_70 (by decide) ?_
        refine lv_isub hx hb dX11_ship_71 ?_
        exact tqb_iret (v := (S21 19 0 2) - 1) hx hb hr hN h hW hS dX11_ship_72 hlocks
      · have h := h.2 c9
        refine lv_bipush (v := (-4)) hx hb dX11_ship_36 (by decide) ?_
        exact tqb_iret (v := (-4)) hx hb hr hN h hW hS dX11_ship_38 hlocks
    · have h := h.2 c6
      refine lv_bipush (v := (-2)) hx hb dX11_ship_21 (by decide) ?_
      exact tqb_iret (v := (-2)) hx hb hr hN h hW hS dX11_ship_23 hlocks
  · have h := h.2 c3
    refine lv_iconst (v := (-1)) hx hb dX11_ship_9 (by decide) ?_
    exact tqb_iret (v := (-1)) hx hb hr hN h hW hS dX11_ship_10 hlocks
-- X11 sail
def wbX11_sail_15 (post : tq_Nn → tq_St → Int32 → Prop)  (N : tq_Nn) (S : tq_St) : Prop :=
  post N S ((-1))
def wbX11_sail_43 (post : tq_Nn → tq_St → Int32 → Prop)  (N : tq_Nn) (S : tq_St) : Prop :=
  post N S ((-3))
def wpX11_sail (post : tq_Nn → tq_St → Int32 → Prop) (N : tq_Nn) (S : tq_St) (p0 : Int32) (p1 : Int32) : Prop :=
  wpX11_isShip N (fun S1 r2 => (r2 = 0 → (wbX11_sail_15 post N S1 )) ∧ (¬ r2 = 0 → (wpX11_isFactory N (fun S4 r5 => (¬ r5 = 0 → (tq_gok N S4 19 20 0 p0 ∧ (N 8 (tq_el S4 19 20 0 p0) = 1 ∧ ((¬ (S4 8 (tq_el S4 19 20 0 p0) 3) = 0 → (wbX11_sail_43 post N S4 )) ∧ ((S4 8 (tq_el S4 19 20 0 p0) 3) = 0 → ((¬ (S4 8 (tq_el S4 19 20 0 p0) 5) = 0 → (((S4 22 0 2) < 99 → (vp_in p1 5 ∧ (wpX11_leave (fun N17 S18 r19 => N17 9 r19 = 1 ∧ (post N17 S18 (S18 9 r19 0))) N S4 (tq_el S4 19 20 0 p0) p1 (S4 2 p1.toNatClampNeg 3) 0))) ∧ (¬ (S4 22 0 2) < 99 → (post N S4 ((-4)))))) ∧ ((S4 8 (tq_el S4 19 20 0 p0) 5) = 0 → (wbX11_sail_43 post N S4 )))))))) ∧ (r5 = 0 → (wbX11_sail_15 post N S4 ))) S1 p1))) S p0
set_option maxHeartbeats 4000000 in
set_option maxRecDepth 100000 in
theorem bX11_sail_15 {p : Program} {e : Env} {s : State} {m : MethodId} {args : Array Value} {below : List Frame} {meth : Method} {c : Code} {post : tq_Nn → tq_St → Int32 → Prop} (C : tq_At p s m meth c args cX11_sail 4 ((some .int)) ((tq_ws yX11_sail cX11_sail 4 (some .int))) RX11 D cy z ad)  : ∀ (N : tq_Nn) (S : tq_St)  (H : Heap) (locs : List Loc) (ls : Array Slot), wbX11_sail_15 post  N S  → tq_nb z A0 s N → tq_wd D cy z H0 ad N (tq_mix S M) H → va_S (fun q => z ≤ q) s.heap H locs → lv_has ls 4 [] → tq_Wb p l e 8 267 s m args below meth c z A0 N H locs (MQ below (va_Qi (fun r (u : tq_Nn × tq_St) => post u.1 u.2 r) (tq_PB D cy z A0 H0 ad M) (fun q => z ≤ q)) args s (z + tq_CX - s.heap.size) (A0 + tq_CY - tq_all s.heap) (fun q => z ≤ q)) (F0 m 15 ls []) := by
  obtain ⟨hx, hb, hr, hml, hown, hts, hlocks, hK, hG⟩ := id C
  have hw : ∀ w ∈ tq_W, w.before args s = true := fun w h => hts w (List.mem_cons_of_mem _ h)
  intro N S  H locs ls h hN hW hS hl
  unfold wbX11_sail_15 at h
  refine lv_iconst (v := (-1)) hx hb dX11_sail_15 (by decide) ?_
  exact tqb_iret (v := (-1)) hx hb hr hN h hW hS dX11_sail_16 hlocks
set_option maxHeartbeats 4000000 in
set_option maxRecDepth 100000 in
theorem bX11_sail_43 {p : Program} {e : Env} {s : State} {m : MethodId} {args : Array Value} {below : List Frame} {meth : Method} {c : Code} {post : tq_Nn → tq_St → Int32 → Prop} (C : tq_At p s m meth c args cX11_sail 4 ((some .int)) ((tq_ws yX11_sail cX11_sail 4 (some .int))) RX11 D cy z ad)  : ∀ (N : tq_Nn) (S : tq_St)  (H : Heap) (locs : List Loc) (ls : Array Slot), wbX11_sail_43 post  N S  → tq_nb z A0 s N → tq_wd D cy z H0 ad N (tq_mix S M) H → va_S (fun q => z ≤ q) s.heap H locs → lv_has ls 4 [] → tq_Wb p l e 8 267 s m args below meth c z A0 N H locs (MQ below (va_Qi (fun r (u : tq_Nn × tq_St) => post u.1 u.2 r) (tq_PB D cy z A0 H0 ad M) (fun q => z ≤ q)) args s (z + tq_CX - s.heap.size) (A0 + tq_CY - tq_all s.heap) (fun q => z ≤ q)) (F0 m 43 ls []) := by
  obtain ⟨hx, hb, hr, hml, hown, hts, hlocks, hK, hG⟩ := id C
  have hw : ∀ w ∈ tq_W, w.before args s = true := fun w h => hts w (List.mem_cons_of_mem _ h)
  intro N S  H locs ls h hN hW hS hl
  unfold wbX11_sail_43 at h
  refine lv_bipush (v := (-3)) hx hb dX11_sail_43 (by decide) ?_
  exact tqb_iret (v := (-3)) hx hb hr hN h hW hS dX11_sail_45 hlocks
set_option maxHeartbeats 4000000 in
set_option maxRecDepth 100000 in
theorem kX11_sail {post : tq_Nn → tq_St → Int32 → Prop} {N : tq_Nn} {S : tq_St} {sz sl : Nat} {p0 : Int32} {p1 : Int32} (h : wpX11_sail post N S p0 p1) : tq_bI l yX11_sail (tq_ws yX11_sail cX11_sail 4 (some .int)) 8 267 D cy z A0 H0 ad N M S sz sl [.ref (ad 1 0), .int p0, .int p1] post := by
  unfold wpX11_sail at h
  refine Met.ofW (cc := cX11_sail) (maxL := 4) (ret := (some .int)) (by decide) rfl ?_
  intro p e s m args below meth c s₁ B hml hv
  obtain ⟨rfl, ⟨hW, hK, hG⟩, rfl, rfl, hN1, hN2, hN3, hN4⟩ := hv
  have hN : tq_nb z A0 s N := ⟨hN1, hN2, hN3, hN4⟩
  have hx := B.exec
  have hb := B.bytes
  have hr := B.returns
  have hts := atoms_spec (ws := (tq_ws yX11_sail cX11_sail 4 (some .int))) B.pre
  have hw : ∀ w ∈ tq_W, w.before _ s = true := fun w h => hts w (List.mem_cons_of_mem _ h)
  have hown : s.vm.findClass RX11 = some m.cls := findClass_of_methodNamed B.named
  have hlocks := B.notSynchronized
  have C : tq_At p s m meth c [.ref (ad 1 0), .int p0, .int p1].toArray cX11_sail 4 ((some .int)) ((tq_ws yX11_sail cX11_sail 4 (some .int))) RX11 D cy z ad := ⟨hx, hb, hr, hml, hown, hts, hlocks, hK, hG⟩
  have hS : va_S (fun q => z ≤ q) s.heap s.heap [] := va_S.rf
  have hl := lv_entry ([.ref (ad 1 0), .int p0, .int p1]) (n := 4) (Nat.le_of_ble_eq_true rfl)
  rw [lg_entry_eq]
  generalize (lg_sl ([.ref (ad 1 0), .int p0, .int p1]) ++ List.replicate (4 - (lg_sl ([.ref (ad 1 0), .int p0, .int p1])).length) Slot.unset).toArray = ls at hl ⊢
  have hl : lv_has ls 4 [(0, .ref (ad 1 0)), (1, .int p0), (2, .int p1)] := hl
  have hW : tq_wd D cy z H0 ad N (tq_mix S M) s.heap := hW
  refine tq_tight (c1 := z + N 0 0 - s.heap.size) (n1 := A0 + N 0 1 - tq_all s.heap) (by omega) (by omega) ?_
  refine lv_aload_n hx hb dX11_sail_0 rfl (lv_at hl 0 rfl) ?_
  refine lv_iload_n hx hb dX11_sail_1 rfl (lv_at hl 1 rfl) ?_
  refine tqc_callVi (As := [.int p0]) (rest := []) (kX11_isShip h) ⟨hx, hb, hml, hown, hts⟩ (cwV 1 hts (tq_goodV tw_823 tw_825 tw_19 tw_115 tw_826) rfl rfl rfl (by decide +kernel) ⟨(Nat.le_of_ble_eq_true rfl), (Nat.le_of_ble_eq_true rfl)⟩) (tq_recvC hK hW (by decide) (tq_mk_1 (by decide)) rfl) hK hG hW hS rfl hl.1 rfl (Nat.le_of_ble_eq_true rfl) dX11_sail_2 hN.f (fun r2 S1 H locs h hW hS => ?_)
  refine lv_if_eq (tgt := 15) hx hb dX11_sail_5 (by decide) (fun c3 => ?_) (fun c3 => ?_)
  · have h := h.1 c3
    exact bX11_sail_15 C  _ _  _ _ _ h hN hW hS (lv_sub hl [] rfl)
  · have h := h.2 c3
    refine lv_iload_n hx hb dX11_sail_8 rfl (lv_at hl 2 rfl) ?_
    refine tqc_callSi (As := [.int p1]) (rest := []) (kX11_isFactory h) ⟨hx, hb, hml, hown, hts⟩ (va_cwS 1 hts (tq_goodS tw_402 tw_403 tw_115 tw_404) rfl rfl rfl (by decide +kernel) ⟨(Nat.le_of_ble_eq_true rfl), (Nat.le_of_ble_eq_true rfl)⟩) hK hG hW hS rfl hl.1 rfl (Nat.le_of_ble_eq_true rfl) dX11_sail_9 hN.f (fun r5 S4 H locs h hW hS => ?_)
    refine lv_if_ne (tgt := 17) hx hb dX11_sail_12 (by decide) (fun c6 => ?_) (fun c6 => ?_)
    · have h := h.1 c6
      refine lv_aload_n hx hb dX11_sail_17 rfl (lv_at hl 0 rfl) ?_
      refine tqc_get (v := .ref (ad 19 0)) hx hb hw tq_inX11 hown hK hW (by decide) (tq_mk_1 (by decide)) rfl 7 (by decide) (hw _ tw_344) (fun _ h9 => h9) rfl dX11_sail_18 ?_
      refine lv_iload_n hx hb dX11_sail_21 rfl (lv_at hl 1 rfl) ?_
      obtain ⟨b9, h⟩ := h
      refine tqc_callVr (kr := 8) (As := [.int p0]) (rest := []) (kJl_get (kd := 20) (post := fun u i => u = S4 ∧ i = tq_el S4 19 20 0 p0) (by decide) (by decide) (tq_mk_19 (by decide)) (fun q9 => tq_mk_20 q9) b9 ⟨rfl, rfl⟩) ⟨hx, hb, hml, hown, hts⟩ (cwV 1 hts (tq_goodV tw_827 tw_828 tw_829 tw_118 tw_830) rfl rfl rfl (by decide +kernel) ⟨(Nat.le_of_ble_eq_true rfl), (Nat.le_of_ble_eq_true rfl)⟩) (tq_recvL hK hW (by decide) (tq_mk_19 (by decide))) hK hG hW hS rfl hl.1 rfl (Nat.le_of_ble_eq_true rfl) dX11_sail_22 hN.f (fun i8 S7 H locs q9 hW hS => ?_)
      rw [q9.1] at hW
      rw [q9.2]
      obtain ⟨b10, h⟩ := h
      refine va_castS hx hb hown (hw _ tw_839) (hK.1 9 _ rfl).2 (tq_recvC hK hW (by decide) (tq_mk_8 b10) rfl) dX11_sail_25 ?_
      refine lv_astore_n (lv' := [(3, .ref (ad 8 (tq_el S4 19 20 0 p0))), (0, .ref (ad 1 0)), (1, .int p0), (2, .int p1)]) hx hb dX11_sail_28 rfl hl (by decide) rfl (fun ls hl => ?_)
      refine lv_aload_n hx hb dX11_sail_29 rfl (lv_at hl 0 rfl) ?_
      refine tqc_get (v := .int (S4 8 (tq_el S4 19 20 0 p0) 3)) hx hb hw tq_inX8 hown hK hW (by decide) (tq_mk_8 b10) rfl 3 (by decide) (hw _ tw_904) (fun _ h9 => h9) rfl dX11_sail_30 ?_
      refine lv_if_ne (tgt := 43) hx hb dX11_sail_33 (by decide) (fun c11 => ?_) (fun c11 => ?_)
      · have h := h.1 c11
        exact bX11_sail_43 C  _ _  _ _ _ h hN hW hS (lv_sub hl [] rfl)
      · have h := h.2 c11
        refine lv_aload_n hx hb dX11_sail_36 rfl (lv_at hl 0 rfl) ?_
        refine tqc_get (v := .int (S4 8 (tq_el S4 19 20 0 p0) 5)) hx hb hw tq_inX8 hown hK hW (by decide) (tq_mk_8 b10) rfl 5 (by decide) (hw _ tw_907) (fun _ h9 => h9) rfl dX11_sail_37 ?_
        refine lv_if_ne (tgt := 46) hx hb dX11_sail_40 (by decide) (fun c12 => ?_) (fun c12 => ?_)
        · have h := h.1 c12
          refine lv_aload_n hx hb dX11_sail_46 rfl (lv_at hl 1 rfl) ?_
          refine tqc_get (v := .ref (ad 22 0)) hx hb hw tq_inX11 hown hK hW (by decide) (tq_mk_1 (by decide)) rfl 9 (by decide) (hw _ tw_346) (fun _ h9 => h9) rfl dX11_sail_47 ?_
          refine tqc_callVi (As := []) (rest := []) (kJl_size (post := fun u r => u = S4 ∧ r = S4 22 0 2) (by decide) (tq_mk_22 (by decide)) ⟨rfl, rfl⟩) ⟨hx, hb, hml, hown, hts⟩ (cwV 0 hts (tq_goodV tw_484 tw_485 tw_486 tw_118 tw_487) rfl rfl rfl (by decide +kernel) ⟨(Nat.le_of_ble_eq_true rfl), (Nat.le_of_ble_eq_true rfl)⟩) (tq_recvL hK hW (by decide) (tq_mk_22 (by decide))) hK hG hW hS rfl hl.1 rfl (Nat.le_of_ble_eq_true rfl) dX11_sail_50 hN.f (fun r14 S13 H locs q9 hW hS => ?_)
          rw [q9.1] at hW
          rw [q9.2]
          refine lv_bipush (v := 99) hx hb dX11_sail_53 (by decide) ?_
          refine lv_icmp_lt (tgt := 61) hx hb dX11_sail_55 (by decide) (fun c15 => ?_) (fun c15 => ?_)
          · have h := h.1 c15
            refine lv_aload_n hx hb dX11_sail_61 rfl (lv_at hl 1 rfl) ?_
            refine lv_aload_n hx hb dX11_sail_62 rfl (lv_at hl 0 rfl) ?_
            refine lv_iload_n hx hb dX11_sail_63 rfl (lv_at hl 3 rfl) ?_
            refine lv_aload_n hx hb dX11_sail_64 rfl (lv_at hl 1 rfl) ?_
            refine tqc_get (v := .ref (ad 12 0)) hx hb hw tq_inX11 hown hK hW (by decide) (tq_mk_1 (by decide)) rfl 1 (by decide) (hw _ tw_338) (fun _ h9 => h9) rfl dX11_sail_65 ?_
            refine lv_iload_n hx hb dX11_sail_68 rfl (lv_at hl 3 rfl) ?_
            obtain ⟨b16, h⟩ := h
            refine tqc_aald (jn := p1.toNatClampNeg) (v := .ref (ad 2 p1.toNatClampNeg)) hx hb hK hW (by decide) (tq_mk_12 (by decide)) 3 rfl rfl b16 rfl rfl dX11_sail_69 ?_
            refine tqc_get (v := .int (S4 2 p1.toNatClampNeg 3)) hx hb hw tq_inX5 hown hK hW (by decide) (tq_mk_2 (tq_lt b16)) rfl 3 (by decide) (hw _ tw_260) (fun _ h9 => h9) rfl dX11_sail_70 ?_
            refine lv_iconst (v := 0) hx hb dX11_sail_73 (by decide) ?_
            refine tqb_callVr (kr := 9) (As := [.ref (ad 8 (tq_el S4 19 20 0 p0)), .int p1, .int (S4 2 p1.toNatClampNeg 3), .int 0]) (rest := []) (kX11_leave h) ⟨hx, hb, hml, hown, hts⟩ (cwV 4 hts (tq_goodV tw_974 tw_976 tw_25 tw_115 tw_977) rfl rfl rfl (by decide +kernel) ⟨(Nat.le_of_ble_eq_true rfl), (Nat.le_of_ble_eq_true rfl)⟩) (tq_recvC hK hW (by decide) (tq_mk_1 (by decide)) rfl) hK hG hW hS rfl hl.1 rfl (Nat.le_of_ble_eq_true rfl) dX11_sail_74 hN (fun r19 N17 S18 H locs h hN hW hS => ?_)
            obtain ⟨b20, h⟩ := h
            refine tqc_get (v := .int (S18 9 r19 0)) hx hb hw tq_inX10 hown hK hW (by decide) (tq_mk_9 b20) rfl 0 (by decide) (hw _ tw_987) (fun _ h9 => h9) rfl dX11_sail_77 ?_
            exact tqb_iret (v := S18 9 r19 0) hx hb hr hN h hW hS dX11_sail_80 hlocks
          · have h := h.2 c15
            refine lv_bipush (v := (-4)) hx hb dX11_sail_58 (by decide) ?_
            exact tqb_iret (v := (-4)) hx hb hr hN h hW hS dX11_sail_60 hlocks
        · have h := h.2 c12
          exact bX11_sail_43 C  _ _  _ _ _ h hN hW hS (lv_sub hl [] rfl)
    · have h := h.2 c6
      exact bX11_sail_15 C  _ _  _ _ _ h hN hW hS (lv_sub hl [] rfl)
-- X11 council
def wbX11_council_14 (post : tq_Nn → tq_St → Int32 → Prop)  (N : tq_Nn) (S : tq_St) : Prop :=
  post N S ((-1))
def wbX11_council_46 (post : tq_Nn → tq_St → Int32 → Prop)  (N : tq_Nn) (S : tq_St) : Prop :=
  post N S ((-2))
def wbX11_council_183 (post : tq_Nn → tq_St → Int32 → Prop)  (N : tq_Nn) (S : tq_St) (x11 : Int32) : Prop :=
  post N S x11
def wbX11_council_107 (post : tq_Nn → tq_St → Int32 → Prop) : Nat → tq_Nn → tq_St → Int32 → Int32 → Int32 → Int32 → Nat → Nat → Int32 → Prop
  | 0, _, _, _, _, _, _, _, _, _ => False
  | n + 1, N, S, x1, x2, x3, x7, x8, x9, x10 =>
    (x7 ≤ x10 → (x8 < 5 ∧ (vp_in x2 4 ∧ (wpX5_purchase N (fun S28 r29 => (((S28 30 x8 x2.toNatClampNeg) - (S 30 x8 x2.toNatClampNeg)) ≤ 0 → (wbX11_council_183 post N S28 r29)) ∧ (¬ ((S28 30 x8 x2.toNatClampNeg) - (S 30 x8 x2.toNatClampNeg)) ≤ 0 → (N 7 x9 = 1 ∧ (wpX11_enter N (fun S32 => wbX11_council_183 post N S32 r29) S28 x1 5 x2 ((S28 30 x8 x2.toNatClampNeg) - (S 30 x8 x2.toNatClampNeg)) r29 (S28 7 x9 0) (-1))))) S x8 x2 x3 0)))) ∧ (¬ x7 ≤ x10 → (wpX11_write (fun N33 S34 r35 => (wbX11_council_107 post n) N33 S34 x1 x2 x3 x7 x8 x9 (x10 + 1)) N S 6 x8 0))
def wpX11_council (post : tq_Nn → tq_St → Int32 → Prop) (N : tq_Nn) (S : tq_St) (p0 : Int32) (p1 : Int32) (p2 : Int32) (p3 : Int32) (p4 : Int32) : Prop :=
  wpX11_isFactory N (fun S1 r2 => (r2 = 0 → (wbX11_council_14 post N S1 )) ∧ (¬ r2 = 0 → (wpX11_isSort N (fun S4 r5 => (¬ r5 = 0 → (wpX11_personsAt N (fun S7 r8 => wpX11_within N (fun S9 r10 => (r10 = 0 → (wbX11_council_46 post N S9 )) ∧ (¬ r10 = 0 → ((((p3 ||| p4) &&& (r8 ^^^ ((-1)))) = 0 → (wpX11_carries N (fun S13 r14 => (¬ r14 = 0 → (wpX11_hasRoomForPapers N (fun S18 r19 => (¬ r19 = 0 → (vp_in p0 5 ∧ (wpX11_write (fun N22 S23 r24 => ∃ nq, wbX11_council_107 post nq N22 S23 p0 p1 p2 (tq_bc p4) p0.toNatClampNeg r24 0) N S18 3 p0.toNatClampNeg 0))) ∧ (r19 = 0 → (post N S18 ((-4))))) S13 (1 + (tq_bc p4)))) ∧ (r14 = 0 → (post N S13 ((-3))))) S9 r8 p3 p4)) ∧ (¬ ((p3 ||| p4) &&& (r8 ^^^ ((-1)))) = 0 → (wbX11_council_46 post N S9 ))))) S7 p2 1 99) S4 p0)) ∧ (r5 = 0 → (wbX11_council_14 post N S4 ))) S1 p1))) S p0
set_option maxHeartbeats 4000000 in
set_option maxRecDepth 100000 in
theorem bX11_council_14 {p : Program} {e : Env} {s : State} {m : MethodId} {args : Array Value} {below : List Frame} {meth : Method} {c : Code} {post : tq_Nn → tq_St → Int32 → Prop} (C : tq_At p s m meth c args cX11_council 13 ((some .int)) ((tq_ws yX11_council cX11_council 13 (some .int))) RX11 D cy z ad)  : ∀ (N : tq_Nn) (S : tq_St)  (H : Heap) (locs : List Loc) (ls : Array Slot), wbX11_council_14 post  N S  → tq_nb z A0 s N → tq_wd D cy z H0 ad N (tq_mix S M) H → va_S (fun q => z ≤ q) s.heap H locs → lv_has ls 13 [] → tq_Wb p l e 8 265 s m args below meth c z A0 N H locs (MQ below (va_Qi (fun r (u : tq_Nn × tq_St) => post u.1 u.2 r) (tq_PB D cy z A0 H0 ad M) (fun q => z ≤ q)) args s (z + tq_CX - s.heap.size) (A0 + tq_CY - tq_all s.heap) (fun q => z ≤ q)) (F0 m 14 ls []) := by
  obtain ⟨hx, hb, hr, hml, hown, hts, hlocks, hK, hG⟩ := id C
  have hw : ∀ w ∈ tq_W, w.before args s = true := fun w h => hts w (List.mem_cons_of_mem _ h)
  intro N S  H locs ls h hN hW hS hl
  unfold wbX11_council_14 at h
  refine lv_iconst (v := (-1)) hx hb dX11_council_14 (by decide) ?_
  exact tqb_iret (v := (-1)) hx hb hr hN h hW hS dX11_council_15 hlocks
set_option maxHeartbeats 4000000 in
set_option maxRecDepth 100000 in
theorem bX11_council_46 {p : Program} {e : Env} {s : State} {m : MethodId} {args : Array Value} {below : List Frame} {meth : Method} {c : Code} {post : tq_Nn → tq_St → Int32 → Prop} (C : tq_At p s m meth c args cX11_council 13 ((some .int)) ((tq_ws yX11_council cX11_council 13 (some .int))) RX11 D cy z ad)  : ∀ (N : tq_Nn) (S : tq_St)  (H : Heap) (locs : List Loc) (ls : Array Slot), wbX11_council_46 post  N S  → tq_nb z A0 s N → tq_wd D cy z H0 ad N (tq_mix S M) H → va_S (fun q => z ≤ q) s.heap H locs → lv_has ls 13 [] → tq_Wb p l e 8 265 s m args below meth c z A0 N H locs (MQ below (va_Qi (fun r (u : tq_Nn × tq_St) => post u.1 u.2 r) (tq_PB D cy z A0 H0 ad M) (fun q => z ≤ q)) args s (z + tq_CX - s.heap.size) (A0 + tq_CY - tq_all s.heap) (fun q => z ≤ q)) (F0 m 46 ls []) := by
  obtain ⟨hx, hb, hr, hml, hown, hts, hlocks, hK, hG⟩ := id C
  have hw : ∀ w ∈ tq_W, w.before args s = true := fun w h => hts w (List.mem_cons_of_mem _ h)
  intro N S  H locs ls h hN hW hS hl
  unfold wbX11_council_46 at h
  refine lv_bipush (v := (-2)) hx hb dX11_council_46 (by decide) ?_
  exact tqb_iret (v := (-2)) hx hb hr hN h hW hS dX11_council_48 hlocks
set_option maxHeartbeats 4000000 in
set_option maxRecDepth 100000 in
theorem bX11_council_183 {p : Program} {e : Env} {s : State} {m : MethodId} {args : Array Value} {below : List Frame} {meth : Method} {c : Code} {post : tq_Nn → tq_St → Int32 → Prop} (C : tq_At p s m meth c args cX11_council 13 ((some .int)) ((tq_ws yX11_council cX11_council 13 (some .int))) RX11 D cy z ad)  : ∀ (N : tq_Nn) (S : tq_St) (x11 : Int32) (H : Heap) (locs : List Loc) (ls : Array Slot), wbX11_council_183 post  N S x11 → tq_nb z A0 s N → tq_wd D cy z H0 ad N (tq_mix S M) H → va_S (fun q => z ≤ q) s.heap H locs → lv_has ls 13 [(11, .int x11)] → tq_Wb p l e 8 265 s m args below meth c z A0 N H locs (MQ below (va_Qi (fun r (u : tq_Nn × tq_St) => post u.1 u.2 r) (tq_PB D cy z A0 H0 ad M) (fun q => z ≤ q)) args s (z + tq_CX - s.heap.size) (A0 + tq_CY - tq_all s.heap) (fun q => z ≤ q)) (F0 m 183 ls []) := by
  obtain ⟨hx, hb, hr, hml, hown, hts, hlocks, hK, hG⟩ := id C
  have hw : ∀ w ∈ tq_W, w.before args s = true := fun w h => hts w (List.mem_cons_of_mem _ h)
  intro N S x11 H locs ls h hN hW hS hl
  unfold wbX11_council_183 at h
  refine lv_iload hx hb dX11_council_183 (lv_at hl 0 rfl) ?_
  exact tqb_iret (v := x11) hx hb hr hN h hW hS dX11_council_185 hlocks
set_option maxHeartbeats 4000000 in
set_option maxRecDepth 100000 in
theorem bX11_council_107 {p : Program} {e : Env} {s : State} {m : MethodId} {args : Array Value} {below : List Frame} {meth : Method} {c : Code} {post : tq_Nn → tq_St → Int32 → Prop} (C : tq_At p s m meth c args cX11_council 13 ((some .int)) ((tq_ws yX11_council cX11_council 13 (some .int))) RX11 D cy z ad)  : ∀ n : Nat, ∀ (N : tq_Nn) (S : tq_St) (x1 : Int32) (x2 : Int32) (x3 : Int32) (x7 : Int32) (x8 : Nat) (x9 : Nat) (x10 : Int32) (H : Heap) (locs : List Loc) (ls : Array Slot), wbX11_council_107 post  n N S x1 x2 x3 x7 x8 x9 x10 → tq_nb z A0 s N → tq_wd D cy z H0 ad N (tq_mix S M) H → va_S (fun q => z ≤ q) s.heap H locs → lv_has ls 13 [(0, .ref (ad 1 0)), (1, .int x1), (2, .int x2), (3, .int x3), (7, .int x7), (8, .ref (ad 2 x8)), (9, .ref (ad 7 x9)), (10, .int x10)] → tq_Wb p l e 8 265 s m args below meth c z A0 N H locs (MQ below (va_Qi (fun r (u : tq_Nn × tq_St) => post u.1 u.2 r) (tq_PB D cy z A0 H0 ad M) (fun q => z ≤ q)) args s (z + tq_CX - s.heap.size) (A0 + tq_CY - tq_all s.heap) (fun q => z ≤ q)) (F0 m 107 ls []) := by
  obtain ⟨hx, hb, hr, hml, hown, hts, hlocks, hK, hG⟩ := id C
  have hw : ∀ w ∈ tq_W, w.before args s = true := fun w h => hts w (List.mem_cons_of_mem _ h)
  intro n
  induction n with
  | zero =>
    intro N S x1 x2 x3 x7 x8 x9 x10 H locs ls h
    exact absurd h (by unfold wbX11_council_107; exact id)
  | succ n ih =>
    intro N S x1 x2 x3 x7 x8 x9 x10 H locs ls h hN hW hS hl
    unfold wbX11_council_107 at h
    refine lv_iload hx hb dX11_council_107 (lv_at hl 7 rfl) ?_
    refine lv_iload hx hb dX11_council_109 (lv_at hl 4 rfl) ?_
    refine lv_icmp_ge (tgt := 130) hx hb dX11_council_111 (by decide) (fun c25 => ?_) (fun c25 => ?_)
    · have h := h.1 c25
      refine lv_aload hx hb dX11_council_130 (lv_at hl 5 rfl) ?_
      obtain ⟨b26, h⟩ := h
      refine tqc_get (v := .ref (ad 30 x8)) hx hb hw tq_inX5 hown hK hW (by decide) (tq_mk_2 b26) rfl 2 (by decide) (hw _ tw_258) (fun _ h9 => h9) rfl dX11_council_132 ?_
      refine lv_iload_n hx hb dX11_council_135 rfl (lv_at hl 2 rfl) ?_
      obtain ⟨b27, h⟩ := h
      refine tqc_iald (jn := x2.toNatClampNeg) hx hb hK hW (by decide) (tq_mk_30 b26) b27 rfl dX11_council_136 ?_
      refine lv_istore (lv' := [(10, .int (S 30 x8 x2.toNatClampNeg)), (0, .ref (ad 1 0)), (1, .int x1), (2, .int x2), (3, .int x3), (7, .int x7), (8, .ref (ad 2 x8)), (9, .ref (ad 7 x9))]) hx hb dX11_council_137 hl (by decide) rfl (fun ls hl => ?_)
      refine lv_aload hx hb dX11_council_139 (lv_at hl 6 rfl) ?_
      refine lv_iload_n hx hb dX11_council_141 rfl (lv_at hl 3 rfl) ?_
      refine lv_iload_n hx hb dX11_council_142 rfl (lv_at hl 4 rfl) ?_
      refine lv_iconst (v := 0) hx hb dX11_council_143 (by decide) ?_
      refine tqc_callVi (As := [.int x2, .int x3, .int 0]) (rest := []) (kX5_purchase h) ⟨hx, hb, hml, hown, hts⟩ (cwV 3 hts (tq_goodV tw_1144 tw_1145 tw_1146 tw_122 tw_1147) rfl rfl rfl (by decide +kernel) ⟨(Nat.le_of_ble_eq_true rfl), (Nat.le_of_ble_eq_true rfl)⟩) (tq_recvC hK hW (by decide) (tq_mk_2 b26) rfl) hK hG hW hS rfl hl.1 rfl (Nat.le_of_ble_eq_true rfl) dX11_council_144 hN.f (fun r29 S28 H locs h hW hS => ?_)
      refine lv_istore (lv' := [(11, .int r29), (10, .int (S 30 x8 x2.toNatClampNeg)), (0, .ref (ad 1 0)), (1, .int x1), (2, .int x2), (3, .int x3), (7, .int x7), (8, .ref (ad 2 x8)), (9, .ref (ad 7 x9))]) hx hb dX11_council_147 hl (by decide) rfl (fun ls hl => ?_)
      refine lv_aload hx hb dX11_council_149 (lv_at hl 7 rfl) ?_
      refine tqc_get (v := .ref (ad 30 x8)) hx hb hw tq_inX5 hown hK hW (by decide) (tq_mk_2 b26) rfl 2 (by decide) (hw _ tw_258) (fun _ h9 => h9) rfl dX11_council_151 ?_
      refine lv_iload_n hx hb dX11_council_154 rfl (lv_at hl 4 rfl) ?_
      refine tqc_iald (jn := x2.toNatClampNeg) hx hb hK hW (by decide) (tq_mk_30 b26) b27 rfl dX11_council_155 ?_
      refine lv_iload hx hb dX11_council_156 (lv_at hl 1 rfl) ?_
      refine lv_isub hx hb dX11_council_158 ?_
      refine lv_istore (lv' := [(12, .int ((S28 30 x8 x2.toNatClampNeg) - (S 30 x8 x2.toNatClampNeg))), (11, .int r29), (10, .int (S 30 x8 x2.toNatClampNeg)), (0, .ref (ad 1 0)), (1, .int x1), (2, .int x2), (3, .int x3), (7, .int x7), (8, .ref (ad 2 x8)), (9, .ref (ad 7 x9))]) hx hb dX11_council_159 hl (by decide) rfl (fun ls hl => ?_)
      refine lv_iload hx hb dX11_council_161 (lv_at hl 0 rfl) ?_
      refine lv_if_le (tgt := 183) hx hb dX11_council_163 (by decide) (fun c30 => ?_) (fun c30 => ?_)
      · have h := h.1 c30
        exact bX11_council_183 C  _ _ _ _ _ _ h hN hW hS (lv_sub hl [1] rfl)
      · have h := h.2 c30
        refine lv_aload_n hx hb dX11_council_166 rfl (lv_at hl 3 rfl) ?_
        refine lv_iload_n hx hb dX11_council_167 rfl (lv_at hl 4 rfl) ?_
        refine lv_iconst (v := 5) hx hb dX11_council_168 (by decide) ?_
        refine lv_iload_n hx hb dX11_council_169 rfl (lv_at hl 5 rfl) ?_
        refine lv_iload hx hb dX11_council_170 (lv_at hl 0 rfl) ?_
        refine lv_iload hx hb dX11_council_172 (lv_at hl 1 rfl) ?_
        refine lv_aload hx hb dX11_council_174 (lv_at hl 9 rfl) ?_
        obtain ⟨b31, h⟩ := h
        refine tqc_get7 (v := .int (S28 7 x9 0)) hx hb hw tq_inX3 tq_inX1 hown hK hW b31 0 (by decide) (hw _ tw_508) (fun _ h9 => h9) rfl dX11_council_176 ?_
        refine lv_iconst (v := (-1)) hx hb dX11_council_179 (by decide) ?_
        refine tqc_callVv (As := [.int x1, .int 5, .int x2, .int ((S28 30 x8 x2.toNatClampNeg) - (S 30 x8 x2.toNatClampNeg)), .int r29, .int (S28 7 x9 0), .int ((-1))]) (rest := []) (kX11_enter h) ⟨hx, hb, hml, hown, hts⟩ (cwV 7 hts (tq_goodV tw_1153 tw_1155 tw_39 tw_115 tw_1156) rfl rfl rfl (by decide +kernel) ⟨(Nat.le_of_ble_eq_true rfl), (Nat.le_of_ble_eq_true rfl)⟩) (tq_recvC hK hW (by decide) (tq_mk_1 (by decide)) rfl) hK hG hW hS rfl hl.1 rfl (Nat.le_of_ble_eq_true rfl) dX11_council_180 hN.f (fun S32 H locs h hW hS => ?_)
        exact bX11_council_183 C  _ _ _ _ _ _ h hN hW hS (lv_sub hl [1] rfl)
    · have h := h.2 c25
      refine lv_aload_n hx hb dX11_council_114 rfl (lv_at hl 0 rfl) ?_
      refine lv_bipush (v := 6) hx hb dX11_council_115 (by decide) ?_
      refine lv_aload hx hb dX11_council_117 (lv_at hl 5 rfl) ?_
      refine lv_iconst (v := 0) hx hb dX11_council_119 (by decide) ?_
      refine tqb_callVr (kr := 7) (As := [.int 6, .ref (ad 2 x8), .int 0]) (rest := []) (kX11_write h) ⟨hx, hb, hml, hown, hts⟩ (cwV 3 hts (tq_goodV tw_811 tw_813 tw_17 tw_115 tw_814) rfl rfl rfl (by decide +kernel) ⟨(Nat.le_of_ble_eq_true rfl), (Nat.le_of_ble_eq_true rfl)⟩) (tq_recvC hK hW (by decide) (tq_mk_1 (by decide)) rfl) hK hG hW hS rfl hl.1 rfl (Nat.le_of_ble_eq_true rfl) dX11_council_120 hN (fun r35 N33 S34 H locs h hN hW hS => ?_)
      refine lv_pop hx hb dX11_council_123 rfl ?_
      refine lv_iinc (v := x10 + 1) (lv' := [(10, .int (x10 + 1)), (0, .ref (ad 1 0)), (1, .int x1), (2, .int x2), (3, .int x3), (7, .int x7), (8, .ref (ad 2 x8)), (9, .ref (ad 7 x9))]) hx hb dX11_council_124 hl (k := 7) rfl rfl (by decide) rfl (fun ls hl => ?_)
      refine lv_goto (tgt := 107) hx hb dX11_council_127 (by decide) ?_
      exact ih _ _ _ _ _ _ _ _ _ _ _ _ h hN hW hS (lv_sub hl [1, 2, 3, 4, 5, 6, 7, 0] rfl)
set_option maxHeartbeats 4000000 in
set_option maxRecDepth 100000 in
theorem kX11_council {post : tq_Nn → tq_St → Int32 → Prop} {N : tq_Nn} {S : tq_St} {sz sl : Nat} {p0 : Int32} {p1 : Int32} {p2 : Int32} {p3 : Int32} {p4 : Int32} (h : wpX11_council post N S p0 p1 p2 p3 p4) : tq_bI l yX11_council (tq_ws yX11_council cX11_council 13 (some .int)) 8 265 D cy z A0 H0 ad N M S sz sl [.ref (ad 1 0), .int p0, .int p1, .int p2, .int p3, .int p4] post := by
  unfold wpX11_council at h
  refine Met.ofW (cc := cX11_council) (maxL := 13) (ret := (some .int)) (by decide) rfl ?_
  intro p e s m args below meth c s₁ B hml hv
  obtain ⟨rfl, ⟨hW, hK, hG⟩, rfl, rfl, hN1, hN2, hN3, hN4⟩ := hv
  have hN : tq_nb z A0 s N := ⟨hN1, hN2, hN3, hN4⟩
  have hx := B.exec
  have hb := B.bytes
  have hr := B.returns
  have hts := atoms_spec (ws := (tq_ws yX11_council cX11_council 13 (some .int))) B.pre
  have hw : ∀ w ∈ tq_W, w.before _ s = true := fun w h => hts w (List.mem_cons_of_mem _ h)
  have hown : s.vm.findClass RX11 = some m.cls := findClass_of_methodNamed B.named
  have hlocks := B.notSynchronized
  have C : tq_At p s m meth c [.ref (ad 1 0), .int p0, .int p1, .int p2, .int p3, .int p4].toArray cX11_council 13 ((some .int)) ((tq_ws yX11_council cX11_council 13 (some .int))) RX11 D cy z ad := ⟨hx, hb, hr, hml, hown, hts, hlocks, hK, hG⟩
  have hS : va_S (fun q => z ≤ q) s.heap s.heap [] := va_S.rf
  have hl := lv_entry ([.ref (ad 1 0), .int p0, .int p1, .int p2, .int p3, .int p4]) (n := 13) (Nat.le_of_ble_eq_true rfl)
  rw [lg_entry_eq]
  generalize (lg_sl ([.ref (ad 1 0), .int p0, .int p1, .int p2, .int p3, .int p4]) ++ List.replicate (13 - (lg_sl ([.ref (ad 1 0), .int p0, .int p1, .int p2, .int p3, .int p4])).length) Slot.unset).toArray = ls at hl ⊢
  have hl : lv_has ls 13 [(0, .ref (ad 1 0)), (1, .int p0), (2, .int p1), (3, .int p2), (4, .int p3), (5, .int p4)] := hl
  have hW : tq_wd D cy z H0 ad N (tq_mix S M) s.heap := hW
  refine tq_tight (c1 := z + N 0 0 - s.heap.size) (n1 := A0 + N 0 1 - tq_all s.heap) (by omega) (by omega) ?_
  refine lv_iload_n hx hb dX11_council_0 rfl (lv_at hl 1 rfl) ?_
  refine tqc_callSi (As := [.int p0]) (rest := []) (kX11_isFactory h) ⟨hx, hb, hml, hown, hts⟩ (va_cwS 1 hts (tq_goodS tw_402 tw_403 tw_115 tw_404) rfl rfl rfl (by decide +kernel) ⟨(Nat.le_of_ble_eq_true rfl), (Nat.le_of_ble_eq_true rfl)⟩) hK hG hW hS rfl hl.1 rfl (Nat.le_of_ble_eq_true rfl) dX11_council_1 hN.f (fun r2 S1 H locs h hW hS => ?_)
  refine lv_if_eq (tgt := 14) hx hb dX11_council_4 (by decide) (fun c3 => ?_) (fun c3 => ?_)
  · have h := h.1 c3
    exact bX11_council_14 C  _ _  _ _ _ h hN hW hS (lv_sub hl [] rfl)
  · have h := h.2 c3
    refine lv_iload_n hx hb dX11_council_7 rfl (lv_at hl 2 rfl) ?_
    refine tqc_callSi (As := [.int p1]) (rest := []) (kX11_isSort h) ⟨hx, hb, hml, hown, hts⟩ (va_cwS 1 hts (tq_goodS tw_412 tw_413 tw_115 tw_414) rfl rfl rfl (by decide +kernel) ⟨(Nat.le_of_ble_eq_true rfl), (Nat.le_of_ble_eq_true rfl)⟩) hK hG hW hS rfl hl.1 rfl (Nat.le_of_ble_eq_true rfl) dX11_council_8 hN.f (fun r5 S4 H locs h hW hS => ?_)
    refine lv_if_ne (tgt := 16) hx hb dX11_council_11 (by decide) (fun c6 => ?_) (fun c6 => ?_)
    · have h := h.1 c6
      refine lv_aload_n hx hb dX11_council_16 rfl (lv_at hl 0 rfl) ?_
      refine lv_iload_n hx hb dX11_council_17 rfl (lv_at hl 1 rfl) ?_
      refine tqc_callVi (As := [.int p0]) (rest := []) (kX11_personsAt h) ⟨hx, hb, hml, hown, hts⟩ (cwV 1 hts (tq_goodV tw_1248 tw_1250 tw_48 tw_115 tw_1251) rfl rfl rfl (by decide +kernel) ⟨(Nat.le_of_ble_eq_true rfl), (Nat.le_of_ble_eq_true rfl)⟩) (tq_recvC hK hW (by decide) (tq_mk_1 (by decide)) rfl) hK hG hW hS rfl hl.1 rfl (Nat.le_of_ble_eq_true rfl) dX11_council_18 hN.f (fun r8 S7 H locs h hW hS => ?_)
      refine lv_istore (lv' := [(6, .int r8), (0, .ref (ad 1 0)), (1, .int p0), (2, .int p1), (3, .int p2), (4, .int p3), (5, .int p4)]) hx hb dX11_council_21 hl (by decide) rfl (fun ls hl => ?_)
      refine lv_iload_n hx hb dX11_council_23 rfl (lv_at hl 4 rfl) ?_
      refine lv_iconst (v := 1) hx hb dX11_council_24 (by decide) ?_
      refine lv_bipush (v := 99) hx hb dX11_council_25 (by decide) ?_
      refine tqc_callSi (As := [.int p2, .int 1, .int 99]) (rest := []) (kX11_within h) ⟨hx, hb, hml, hown, hts⟩ (va_cwS 3 hts (tq_goodS tw_405 tw_406 tw_115 tw_407) rfl rfl rfl (by decide +kernel) ⟨(Nat.le_of_ble_eq_true rfl), (Nat.le_of_ble_eq_true rfl)⟩) hK hG hW hS rfl hl.1 rfl (Nat.le_of_ble_eq_true rfl) dX11_council_27 hN.f (fun r10 S9 H locs h hW hS => ?_)
      refine lv_if_eq (tgt := 46) hx hb dX11_council_30 (by decide) (fun c11 => ?_) (fun c11 => ?_)
      · have h := h.1 c11
        exact bX11_council_46 C  _ _  _ _ _ h hN hW hS (lv_sub hl [] rfl)
      · have h := h.2 c11
        refine lv_iload hx hb dX11_council_33 (lv_at hl 5 rfl) ?_
        refine lv_iload hx hb dX11_council_35 (lv_at hl 6 rfl) ?_
        refine lv_ior hx hb dX11_council_37 ?_
        refine lv_iload hx hb dX11_council_38 (lv_at hl 0 rfl) ?_
        refine lv_iconst (v := (-1)) hx hb dX11_council_40 (by decide) ?_
        refine lv_ixor hx hb dX11_council_41 ?_
        refine lv_iand hx hb dX11_council_42 ?_
        refine lv_if_eq (tgt := 49) hx hb dX11_council_43 (by decide) (fun c12 => ?_) (fun c12 => ?_)
        · have h := h.1 c12
          refine lv_aload_n hx hb dX11_council_49 rfl (lv_at hl 1 rfl) ?_
          refine lv_iload hx hb dX11_council_50 (lv_at hl 0 rfl) ?_
          refine lv_iload hx hb dX11_council_52 (lv_at hl 5 rfl) ?_
          refine lv_iload hx hb dX11_council_54 (lv_at hl 6 rfl) ?_
          refine tqc_callVi (As := [.int r8, .int p3, .int p4]) (rest := []) (kX11_carries h) ⟨hx, hb, hml, hown, hts⟩ (cwV 3 hts (tq_goodV tw_1252 tw_1254 tw_49 tw_115 tw_1255) rfl rfl rfl (by decide +kernel) ⟨(Nat.le_of_ble_eq_true rfl), (Nat.le_of_ble_eq_true rfl)⟩) (tq_recvC hK hW (by decide) (tq_mk_1 (by decide)) rfl) hK hG hW hS rfl hl.1 rfl (Nat.le_of_ble_eq_true rfl) dX11_council_56 hN.f (fun r14 S13 H locs h hW hS => ?_)
          refine lv_if_ne (tgt := 65) hx hb dX11_council_59 (by decide) (fun c15 => ?_) (fun c15 => ?_)
          · have h := h.1 c15
            refine lv_iload hx hb dX11_council_65 (lv_at hl 6 rfl) ?_
            refine tqc_callSi (As := [.int p4]) (rest := []) (tq_mI.toS (kJ6_bitCount_0f7a4 (post := fun u r => u = M ∧ r = tq_bc p4) ⟨rfl, rfl⟩) (post := fun u r => u = S13 ∧ r = tq_bc p4) ⟨rfl, rfl⟩) ⟨hx, hb, hml, hown, hts⟩ (va_cwS 1 hts (tq_goodS tw_1256 tw_1257 tw_140 tw_1258) rfl rfl rfl (by decide +kernel) ⟨(Nat.le_of_ble_eq_true rfl), (Nat.le_of_ble_eq_true rfl)⟩) hK hG hW hS rfl hl.1 rfl (Nat.le_of_ble_eq_true rfl) dX11_council_67 hN.f (fun r17 S16 H locs q9 hW hS => ?_)
            rw [q9.1] at hW
            rw [q9.2]
            refine lv_istore (lv' := [(7, .int (tq_bc p4)), (6, .int r8), (0, .ref (ad 1 0)), (1, .int p0), (2, .int p1), (3, .int p2), (4, .int p3), (5, .int p4)]) hx hb dX11_council_70 hl (by decide) rfl (fun ls hl => ?_)
            refine lv_aload_n hx hb dX11_council_72 rfl (lv_at hl 2 rfl) ?_
            refine lv_iconst (v := 1) hx hb dX11_council_73 (by decide) ?_
            refine lv_iload hx hb dX11_council_74 (lv_at hl 0 rfl) ?_
            refine lv_iadd hx hb dX11_council_76 ?_
            refine tqc_callVi (As := [.int (1 + (tq_bc p4))]) (rest := []) (kX11_hasRoomForPapers h) ⟨hx, hb, hml, hown, hts⟩ (cwV 1 hts (tq_goodV tw_480 tw_482 tw_1 tw_115 tw_483) rfl rfl rfl (by decide +kernel) ⟨(Nat.le_of_ble_eq_true rfl), (Nat.le_of_ble_eq_true rfl)⟩) (tq_recvC hK hW (by decide) (tq_mk_1 (by decide)) rfl) hK hG hW hS rfl hl.1 rfl (Nat.le_of_ble_eq_true rfl) dX11_council_77 hN.f (fun r19 S18 H locs h hW hS => ?_)
            refine lv_if_ne (tgt := 86) hx hb dX11_council_80 (by decide) (fun c20 => ?_) (fun c20 => ?_)
            · have h := h.1 c20
              refine lv_aload_n hx hb dX11_council_86 rfl (lv_at hl 2 rfl) ?_
              refine tqc_get (v := .ref (ad 12 0)) hx hb hw tq_inX11 hown hK hW (by decide) (tq_mk_1 (by decide)) rfl 1 (by decide) (hw _ tw_338) (fun _ h9 => h9) rfl dX11_council_87 ?_
              refine lv_iload_n hx hb dX11_council_90 rfl (lv_at hl 3 rfl) ?_
              obtain ⟨b21, h⟩ := h
              refine tqc_aald (jn := p0.toNatClampNeg) (v := .ref (ad 2 p0.toNatClampNeg)) hx hb hK hW (by decide) (tq_mk_12 (by decide)) 3 rfl rfl b21 rfl rfl dX11_council_91 ?_
              refine lv_astore (lv' := [(8, .ref (ad 2 p0.toNatClampNeg)), (7, .int (tq_bc p4)), (6, .int r8), (0, .ref (ad 1 0)), (1, .int p0), (2, .int p1), (3, .int p2), (4, .int p3), (5, .int p4)]) hx hb dX11_council_92 hl (by decide) rfl (fun ls hl => ?_)
              refine lv_aload_n hx hb dX11_council_94 rfl (lv_at hl 3 rfl) ?_
              refine lv_iconst (v := 3) hx hb dX11_council_95 (by decide) ?_
              refine lv_aload hx hb dX11_council_96 (lv_at hl 0 rfl) ?_
              refine lv_iconst (v := 0) hx hb dX11_council_98 (by decide) ?_
              refine tqb_callVr (kr := 7) (As := [.int 3, .ref (ad 2 p0.toNatClampNeg), .int 0]) (rest := []) (kX11_write h) ⟨hx, hb, hml, hown, hts⟩ (cwV 3 hts (tq_goodV tw_811 tw_813 tw_17 tw_115 tw_814) rfl rfl rfl (by decide +kernel) ⟨(Nat.le_of_ble_eq_true rfl), (Nat.le_of_ble_eq_true rfl)⟩) (tq_recvC hK hW (by decide) (tq_mk_1 (by decide)) rfl) hK hG hW hS rfl hl.1 rfl (Nat.le_of_ble_eq_true rfl) dX11_council_99 hN (fun r24 N22 S23 H locs h hN hW hS => ?_)
              refine lv_astore (lv' := [(9, .ref (ad 7 r24)), (8, .ref (ad 2 p0.toNatClampNeg)), (7, .int (tq_bc p4)), (6, .int r8), (0, .ref (ad 1 0)), (1, .int p0), (2, .int p1), (3, .int p2), (4, .int p3), (5, .int p4)]) hx hb dX11_council_102 hl (by decide) rfl (fun ls hl => ?_)
              refine lv_iconst (v := 0) hx hb dX11_council_104 (by decide) ?_
              refine lv_istore (lv' := [(10, .int 0), (9, .ref (ad 7 r24)), (8, .ref (ad 2 p0.toNatClampNeg)), (7, .int (tq_bc p4)), (6, .int r8), (0, .ref (ad 1 0)), (1, .int p0), (2, .int p1), (3, .int p2), (4, .int p3), (5, .int p4)]) hx hb dX11_council_105 hl (by decide) rfl (fun ls hl => ?_)
              obtain ⟨nq, h⟩ := h
              exact bX11_council_107 C  nq _ _ _ _ _ _ _ _ _ _ _ _ h hN hW hS (lv_sub hl [5, 6, 7, 8, 3, 2, 1, 0] rfl)
            · have h := h.2 c20
              refine lv_bipush (v := (-4)) hx hb dX11_council_83 (by decide) ?_
              exact tqb_iret (v := (-4)) hx hb hr hN h hW hS dX11_council_85 hlocks
          · have h := h.2 c15
            refine lv_bipush (v := (-3)) hx hb dX11_council_62 (by decide) ?_
            exact tqb_iret (v := (-3)) hx hb hr hN h hW hS dX11_council_64 hlocks
        · have h := h.2 c12
          exact bX11_council_46 C  _ _  _ _ _ h hN hW hS (lv_sub hl [] rfl)
    · have h := h.2 c6
      exact bX11_council_14 C  _ _  _ _ _ h hN hW hS (lv_sub hl [] rfl)
-- X11 keepIfBetter
def wbX11_keepIfBetter_29 (post : tq_Nn → tq_St → Prop)  (N : tq_Nn) (S : tq_St) : Prop :=
  post N S
def wpX11_keepIfBetter (post : tq_Nn → tq_St → Prop) (N : tq_Nn) (S : tq_St) (p0 : Nat) (p1 : Int32) (p2 : Int32) (p3 : Int32) (p4 : Int32) (p5 : Int32) : Prop :=
  ¬ p0 < 1 ∧ N 12 p0 = 1 ∧ ((p1 ≤ (S 12 p0 0) → (wbX11_keepIfBetter_29 post N S )) ∧ (¬ p1 ≤ (S 12 p0 0) → (∀ S4, S4 = tq_up S 12 p0 0 p1 → (∀ S5, S5 = tq_up S4 12 p0 1 p2 → (∀ S6, S6 = tq_up S5 12 p0 2 p3 → (∀ S7, S7 = tq_up S6 12 p0 3 p4 → (∀ S8, S8 = tq_up S7 12 p0 4 p5 → (wbX11_keepIfBetter_29 post N S8 ))))))))
set_option maxHeartbeats 4000000 in
set_option maxRecDepth 100000 in
theorem bX11_keepIfBetter_29 {p : Program} {e : Env} {s : State} {m : MethodId} {args : Array Value} {below : List Frame} {meth : Method} {c : Code} {post : tq_Nn → tq_St → Prop} (C : tq_At p s m meth c args cX11_keepIfBetter 6 (none) ((tq_ws yX11_keepIfBetter cX11_keepIfBetter 6 none)) RX11 D cy z ad)  : ∀ (N : tq_Nn) (S : tq_St)  (H : Heap) (locs : List Loc) (ls : Array Slot), wbX11_keepIfBetter_29 post  N S  → tq_nb z A0 s N → tq_wd D cy z H0 ad N (tq_mix S M) H → va_S (fun q => z ≤ q) s.heap H locs → lv_has ls 6 [] → tq_Wb p l e 0 0 s m args below meth c z A0 N H locs (MQ below (va_Qv (fun (u : tq_Nn × tq_St) => post u.1 u.2) (tq_PB D cy z A0 H0 ad M) (fun q => z ≤ q)) args s (z + tq_CX - s.heap.size) (A0 + tq_CY - tq_all s.heap) (fun q => z ≤ q)) (F0 m 29 ls []) := by
  obtain ⟨hx, hb, hr, hml, hown, hts, hlocks, hK, hG⟩ := id C
  have hw : ∀ w ∈ tq_W, w.before args s = true := fun w h => hts w (List.mem_cons_of_mem _ h)
  intro N S  H locs ls h hN hW hS hl
  unfold wbX11_keepIfBetter_29 at h
  exact tqb_vret hx hb hr hN h hW hS dX11_keepIfBetter_29 hlocks
set_option maxHeartbeats 4000000 in
set_option maxRecDepth 100000 in
theorem kX11_keepIfBetter {post : tq_Nn → tq_St → Prop} {N : tq_Nn} {S : tq_St} {sz sl : Nat} {p0 : Nat} {p1 : Int32} {p2 : Int32} {p3 : Int32} {p4 : Int32} {p5 : Int32} (h : wpX11_keepIfBetter post N S p0 p1 p2 p3 p4 p5) : tq_bV l yX11_keepIfBetter (tq_ws yX11_keepIfBetter cX11_keepIfBetter 6 none) 0 0 D cy z A0 H0 ad N M S sz sl [.ref (ad 12 p0), .int p1, .int p2, .int p3, .int p4, .int p5] post := by
  unfold wpX11_keepIfBetter at h
  refine Met.ofW (cc := cX11_keepIfBetter) (maxL := 6) (ret := none) (by decide) rfl ?_
  intro p e s m args below meth c s₁ B hml hv
  obtain ⟨rfl, ⟨hW, hK, hG⟩, rfl, rfl, hN1, hN2, hN3, hN4⟩ := hv
  have hN : tq_nb z A0 s N := ⟨hN1, hN2, hN3, hN4⟩
  have hx := B.exec
  have hb := B.bytes
  have hr := B.returns
  have hts := atoms_spec (ws := (tq_ws yX11_keepIfBetter cX11_keepIfBetter 6 none)) B.pre
  have hw : ∀ w ∈ tq_W, w.before _ s = true := fun w h => hts w (List.mem_cons_of_mem _ h)
  have hown : s.vm.findClass RX11 = some m.cls := findClass_of_methodNamed B.named
  have hlocks := B.notSynchronized
  have C : tq_At p s m meth c [.ref (ad 12 p0), .int p1, .int p2, .int p3, .int p4, .int p5].toArray cX11_keepIfBetter 6 (none) ((tq_ws yX11_keepIfBetter cX11_keepIfBetter 6 none)) RX11 D cy z ad := ⟨hx, hb, hr, hml, hown, hts, hlocks, hK, hG⟩
  have hS : va_S (fun q => z ≤ q) s.heap s.heap [] := va_S.rf
  have hl := lv_entry ([.ref (ad 12 p0), .int p1, .int p2, .int p3, .int p4, .int p5]) (n := 6) (Nat.le_of_ble_eq_true rfl)
  rw [lg_entry_eq]
  generalize (lg_sl ([.ref (ad 12 p0), .int p1, .int p2, .int p3, .int p4, .int p5]) ++ List.replicate (6 - (lg_sl ([.ref (ad 12 p0), .int p1, .int p2, .int p3, .int p4, .int p5])).length) Slot.unset).toArray = ls at hl ⊢
  have hl : lv_has ls 6 [(0, .ref (ad 12 p0)), (1, .int p1), (2, .int p2), (3, .int p3), (4, .int p4), (5, .int p5)] := hl
  have hW : tq_wd D cy z H0 ad N (tq_mix S M) s.heap := hW
  refine tq_tight (c1 := z + N 0 0 - s.heap.size) (n1 := A0 + N 0 1 - tq_all s.heap) (by omega) (by omega) ?_
  refine lv_iload_n hx hb dX11_keepIfBetter_0 rfl (lv_at hl 1 rfl) ?_
  refine lv_aload_n hx hb dX11_keepIfBetter_1 rfl (lv_at hl 0 rfl) ?_
  refine lv_iconst (v := 0) hx hb dX11_keepIfBetter_2 (by decide) ?_
  obtain ⟨b1, b2, h⟩ := h
  refine tqc_iald (jn := 0) hx hb hK hW (by decide) (tq_mk_912 ⟨b1, b2⟩) (by unfold vp_in; decide) (by decide) dX11_keepIfBetter_3 ?_
  refine lv_icmp_le (tgt := 29) hx hb dX11_keepIfBetter_4 (by decide) (fun c3 => ?_) (fun c3 => ?_)
  · have h := h.1 c3
    exact bX11_keepIfBetter_29 C  _ _  _ _ _ h hN hW hS (lv_sub hl [] rfl)
  · have h := h.2 c3
    refine lv_aload_n hx hb dX11_keepIfBetter_7 rfl (lv_at hl 0 rfl) ?_
    refine lv_iconst (v := 0) hx hb dX11_keepIfBetter_8 (by decide) ?_
    refine lv_iload_n hx hb dX11_keepIfBetter_9 rfl (lv_at hl 1 rfl) ?_
    refine tqc_iast (jn := 0) hx hb hK hW hS (by decide) (tq_mk_912 ⟨b1, b2⟩) (by unfold vp_in; decide) (by decide) (tq_mk_912 ⟨b1, b2⟩) dX11_keepIfBetter_10 (fun H locs hW hS => ?_)
    generalize eS4 : tq_up S 12 p0 0 p1 = S4 at hW
    have h := h S4 eS4.symm
    refine lv_aload_n hx hb dX11_keepIfBetter_11 rfl (lv_at hl 0 rfl) ?_
    refine lv_iconst (v := 1) hx hb dX11_keepIfBetter_12 (by decide) ?_
    refine lv_iload_n hx hb dX11_keepIfBetter_13 rfl (lv_at hl 2 rfl) ?_
    refine tqc_iast (jn := 1) hx hb hK hW hS (by decide) (tq_mk_912 ⟨b1, b2⟩) (by unfold vp_in; decide) (by decide) (tq_mk_912 ⟨b1, b2⟩) dX11_keepIfBetter_14 (fun H locs hW hS => ?_)
    generalize eS5 : tq_up S4 12 p0 1 p2 = S5 at hW
    have h := h S5 eS5.symm
    refine lv_aload_n hx hb dX11_keepIfBetter_15 rfl (lv_at hl 0 rfl) ?_
    refine lv_iconst (v := 2) hx hb dX11_keepIfBetter_16 (by decide) ?_
    refine lv_iload_n hx hb dX11_keepIfBetter_17 rfl (lv_at hl 3 rfl) ?_
    refine tqc_iast (jn := 2) hx hb hK hW hS (by decide) (tq_mk_912 ⟨b1, b2⟩) (by unfold vp_in; decide) (by decide) (tq_mk_912 ⟨b1, b2⟩) dX11_keepIfBetter_18 (fun H locs hW hS => ?_)
    generalize eS6 : tq_up S5 12 p0 2 p3 = S6 at hW
    have h := h S6 eS6.symm
    refine lv_aload_n hx hb dX11_keepIfBetter_19 rfl (lv_at hl 0 rfl) ?_
    refine lv_iconst (v := 3) hx hb dX11_keepIfBetter_20 (by decide) ?_
    refine lv_iload hx hb dX11_keepIfBetter_21 (lv_at hl 4 rfl) ?_
    refine tqc_iast (jn := 3) hx hb hK hW hS (by decide) (tq_mk_912 ⟨b1, b2⟩) (by unfold vp_in; decide) (by decide) (tq_mk_912 ⟨b1, b2⟩) dX11_keepIfBetter_23 (fun H locs hW hS => ?_)
    generalize eS7 : tq_up S6 12 p0 3 p4 = S7 at hW
    have h := h S7 eS7.symm
    refine lv_aload_n hx hb dX11_keepIfBetter_24 rfl (lv_at hl 0 rfl) ?_
    refine lv_iconst (v := 4) hx hb dX11_keepIfBetter_25 (by decide) ?_
    refine lv_iload hx hb dX11_keepIfBetter_26 (lv_at hl 5 rfl) ?_
    refine tqc_iast (jn := 4) hx hb hK hW hS (by decide) (tq_mk_912 ⟨b1, b2⟩) (by unfold vp_in; decide) (by decide) (tq_mk_912 ⟨b1, b2⟩) dX11_keepIfBetter_28 (fun H locs hW hS => ?_)
    generalize eS8 : tq_up S7 12 p0 4 p5 = S8 at hW
    have h := h S8 eS8.symm
    exact bX11_keepIfBetter_29 C  _ _  _ _ _ h hN hW hS (lv_sub hl [] rfl)
