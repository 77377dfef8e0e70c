variable {l : Launch} {D : va_G} {cy : Nat → ClassId} {z A0 : Nat} {H0 : Heap} {ad : Nat → Nat → Nat} {M : tq_St}
-- X11 drawBill
def wbX11_drawBill_50 (post : tq_Nn → tq_St → Prop)  (N : tq_Nn) (S : tq_St) : Prop :=
  post N S
def wbX11_drawBill_27 (post : tq_Nn → tq_St → Prop)  (N : tq_Nn) (S : tq_St) (x1 : Nat) (x2 : Nat) (x3 : Int32) (y0 : Int32) : Prop :=
  x2 < 5 ∧ ((x3 ≤ (S 2 x2 1) → (wbX11_drawBill_50 post N S )) ∧ (¬ x3 ≤ (S 2 x2 1) → ((¬ y0 = 0 → (wbX11_drawBill_50 post N S )) ∧ (y0 = 0 → (wpX11_hasRoomForPapers N (fun S13 r14 => (¬ r14 = 0 → (N 0 0 + 1 ≤ tq_CX ∧ N 0 1 + 13 ≤ tq_CY ∧ (∀ i18, ¬ i18 < 1 → i18 ≤ N 0 0 → tq_fr N i18 → ∀ N19, N19 = tq_na N (i18 + 1) 1 i18 2 13 → ∀ S20, S20 = tq_cp S13 1 i18 (fun _ => 0) → (wpX1_init (fun N24 S25 => tq_aok N24 S25 15 16 7 0 i18 ∧ (∀ N26 S27, tq_added N24 S25 15 16 0 i18 N26 S27 → (tq_aok N26 S27 17 18 7 0 i18 ∧ (∀ N30 S31, tq_added N26 S27 17 18 0 i18 N30 S31 → (i18 ≤ tq_CX ∧ (∀ S35, S35 = tq_up S31 2 x2 15 (nI (i18 + 1)) → ((∀ S36, S36 = tq_up S35 2 x2 1 ((S35 2 x2 1) + x3) → (N30 7 i18 = 1 ∧ ¬ S36 7 i18 13 = 0 ∧ (wpX11_enterFor N30 (fun S39 => post N30 S39) S36 x1 x2 (S36 7 i18 0) x3)))))))))) N19 S20 i18 (S20 15 0 2) x2 (S20 1 0 0) x3)))) ∧ (r14 = 0 → (wbX11_drawBill_50 post N S13 ))) S 1)))))
def wbX11_drawBill_26 (post : tq_Nn → tq_St → Prop)  (N : tq_Nn) (S : tq_St) (x1 : Nat) (x2 : Nat) (x3 : Int32) : Prop :=
  wbX11_drawBill_27 post N S x1 x2 x3 0
def wpX11_drawBill (post : tq_Nn → tq_St → Prop) (N : tq_Nn) (S : tq_St) (p0 : Nat) (p1 : Nat) : Prop :=
  N 10 p0 = 1 ∧ (p1 < 5 ∧ ((S 2 p1 15 < 1 → (wbX11_drawBill_26 post N S p0 p1 (S 10 p0 4))) ∧ (¬ S 2 p1 15 < 1 → (N 7 ((S 2 p1 15).toNatClampNeg - 1) = 1 ∧ ¬ S 7 ((S 2 p1 15).toNatClampNeg - 1) 13 = 0 ∧ wpX1_isOpen N (fun S7 r8 => (r8 = 0 → (wbX11_drawBill_26 post N S7 p0 p1 (S 10 p0 4))) ∧ (¬ r8 = 0 → (wbX11_drawBill_27 post N S7 p0 p1 (S 10 p0 4) 1))) S ((S 2 p1 15).toNatClampNeg - 1)))))
set_option maxHeartbeats 4000000 in
set_option maxRecDepth 100000 in
theorem bX11_drawBill_50 {p : Program} {e : Env} {s : State} {m : MethodId} {args : Array Value} {below : List Frame} {meth : Method} {c : Code} {post : tq_Nn → tq_St → Prop} (C : tq_At p s m meth c args cX11_drawBill 6 (none) ((tq_ws yX11_drawBill cX11_drawBill 6 none)) RX11 D cy z ad)  : ∀ (N : tq_Nn) (S : tq_St)  (H : Heap) (locs : List Loc) (ls : Array Slot), wbX11_drawBill_50 post  N S  → tq_nb z A0 s N → tq_wd D cy z H0 ad N (tq_mix S M) H → va_S (fun q => z ≤ q) s.heap H locs → lv_has ls 6 [] → tq_Wb p l e 7 241 s m args below meth c z A0 N H locs (MQ below (va_Qv (fun (u : tq_Nn × tq_St) => post u.1 u.2) (tq_PB D cy z A0 H0 ad M) (fun q => z ≤ q)) args s (z + tq_CX - s.heap.size) (A0 + tq_CY - tq_all s.heap) (fun q => z ≤ q)) (F0 m 50 ls []) := by
  obtain ⟨hx, hb, hr, hml, hown, hts, hlocks, hK, hG⟩ := id C
  have hw : ∀ w ∈ tq_W, w.before args s = true := fun w h => hts w (List.mem_cons_of_mem _ h)
  intro N S  H locs ls h hN hW hS hl
  unfold wbX11_drawBill_50 at h
  exact tqb_vret hx hb hr hN h hW hS dX11_drawBill_50 hlocks
set_option maxHeartbeats 4000000 in
set_option maxRecDepth 100000 in
theorem bX11_drawBill_27 {p : Program} {e : Env} {s : State} {m : MethodId} {args : Array Value} {below : List Frame} {meth : Method} {c : Code} {post : tq_Nn → tq_St → Prop} (C : tq_At p s m meth c args cX11_drawBill 6 (none) ((tq_ws yX11_drawBill cX11_drawBill 6 none)) RX11 D cy z ad)  : ∀ (N : tq_Nn) (S : tq_St) (x1 : Nat) (x2 : Nat) (x3 : Int32) (y0 : Int32) (H : Heap) (locs : List Loc) (ls : Array Slot), wbX11_drawBill_27 post  N S x1 x2 x3 y0 → tq_nb z A0 s N → tq_wd D cy z H0 ad N (tq_mix S M) H → va_S (fun q => z ≤ q) s.heap H locs → lv_has ls 6 [(0, .ref (ad 1 0)), (1, .ref (ad 10 x1)), (2, .ref (ad 2 x2)), (3, .int x3)] → tq_Wb p l e 7 241 s m args below meth c z A0 N H locs (MQ below (va_Qv (fun (u : tq_Nn × tq_St) => post u.1 u.2) (tq_PB D cy z A0 H0 ad M) (fun q => z ≤ q)) args s (z + tq_CX - s.heap.size) (A0 + tq_CY - tq_all s.heap) (fun q => z ≤ q)) (F0 m 27 ls [.int y0]) := by
  obtain ⟨hx, hb, hr, hml, hown, hts, hlocks, hK, hG⟩ := id C
  have hw : ∀ w ∈ tq_W, w.before args s = true := fun w h => hts w (List.mem_cons_of_mem _ h)
  intro N S x1 x2 x3 y0 H locs ls h hN hW hS hl
  unfold wbX11_drawBill_27 at h
  refine lv_istore (lv' := [(4, .int y0), (0, .ref (ad 1 0)), (1, .ref (ad 10 x1)), (2, .ref (ad 2 x2)), (3, .int x3)]) hx hb dX11_drawBill_27 hl (by decide) rfl (fun ls hl => ?_)
  refine lv_aload_n hx hb dX11_drawBill_29 rfl (lv_at hl 3 rfl) ?_
  obtain ⟨b10, h⟩ := h
  refine tqc_get (v := .int (S 2 x2 1)) hx hb hw tq_inX5 hown hK hW (by decide) (tq_mk_2 b10) rfl 1 (by decide) (hw _ tw_255) (fun _ h9 => h9) rfl dX11_drawBill_30 ?_
  refine lv_iload_n hx hb dX11_drawBill_33 rfl (lv_at hl 4 rfl) ?_
  refine lv_icmp_ge (tgt := 50) hx hb dX11_drawBill_34 (by decide) (fun c11 => ?_) (fun c11 => ?_)
  · have h := h.1 c11
    exact bX11_drawBill_50 C  _ _  _ _ _ h hN hW hS (lv_sub hl [] rfl)
  · have h := h.2 c11
    refine lv_iload hx hb dX11_drawBill_37 (lv_at hl 0 rfl) ?_
    refine lv_if_ne (tgt := 50) hx hb dX11_drawBill_39 (by decide) (fun c12 => ?_) (fun c12 => ?_)
    · have h := h.1 c12
      exact bX11_drawBill_50 C  _ _  _ _ _ h hN hW hS (lv_sub hl [] rfl)
    · have h := h.2 c12
      refine lv_aload_n hx hb dX11_drawBill_42 rfl (lv_at hl 1 rfl) ?_
      refine lv_iconst (v := 1) hx hb dX11_drawBill_43 (by decide) ?_
      refine tqc_callVi (As := [.int 1]) (rest := []) (kX11_hasRoomForPapers h) ⟨hx, hb, hml, hown, hts⟩ (cwV 1 hts (tq_goodV tw_480 tw_482 tw_1 tw_115 tw_483) rfl rfl rfl (by decide +kernel) ⟨(Nat.le_of_ble_eq_true rfl), (Nat.le_of_ble_eq_true rfl)⟩) (tq_recvC hK hW (by decide) (tq_mk_1 (by decide)) rfl) hK hG hW hS rfl hl.1 rfl (Nat.le_of_ble_eq_true rfl) dX11_drawBill_44 hN.f (fun r14 S13 H locs h hW hS => ?_)
      refine lv_if_ne (tgt := 51) hx hb dX11_drawBill_47 (by decide) (fun c15 => ?_) (fun c15 => ?_)
      · have h := h.1 c15
        obtain ⟨b16, b17, h⟩ := h
        refine tqw_new (ci := 2) (t := 2) (fs := [.int 0, .int 0, .int 0, .int 0, .int 0, .null, .null, .null, .int 0, .int 0, .int 0, .int 0, .int 0]) hx hb hw tq_inX1 tyX1 tyX1_ok hown (hw _ tw_1114) (hw _ tw_1188) (hw _ tw_139) hK hG hW hS hN rfl (by decide) (fun _ => rfl) b16 b17 dX11_drawBill_51 (fun i18 H hz9 hi21 hi2 hfr hN hW hS => ?_)
        generalize eN19 : tq_na N (i18 + 1) 1 i18 2 13 = N19 at hN hW ⊢
        generalize eS20 : tq_cp S13 1 i18 (fun _ => 0) = S20 at hW
        have h := h i18 hi21 hi2 hfr N19 eN19.symm S20 eS20.symm
        refine lv_dup hx hb dX11_drawBill_54 rfl ?_
        refine lv_aload_n hx hb dX11_drawBill_55 rfl (lv_at hl 1 rfl) ?_
        refine tqc_get (v := .ref (ad 15 0)) hx hb hw tq_inX11 hown hK hW (by decide) (tq_mk_1 (by decide)) rfl 5 (by decide) (hw _ tw_342) (fun _ h9 => h9) rfl dX11_drawBill_56 ?_
        refine tqc_callVi (As := []) (rest := [.ref (ad 1 i18), .ref (ad 1 i18)]) (kJl_size (post := fun u r => u = S20 ∧ r = S20 15 0 2) (by decide) (tq_mk_15 (by decide)) ⟨rfl, rfl⟩) ⟨hx, hb, hml, hown, hts⟩ (cwV 0 hts (tq_goodV tw_484 tw_485 tw_486 tw_118 tw_487) rfl rfl rfl (by decide +kernel) ⟨(Nat.le_of_ble_eq_true rfl), (Nat.le_of_ble_eq_true rfl)⟩) (tq_recvL hK hW (by decide) (tq_mk_15 (by decide))) hK hG hW hS rfl hl.1 rfl (Nat.le_of_ble_eq_true rfl) dX11_drawBill_59 hN.f (fun r23 S22 H locs q9 hW hS => ?_)
        rw [q9.1] at hW
        rw [q9.2]
        refine lv_aload_n hx hb dX11_drawBill_62 rfl (lv_at hl 3 rfl) ?_
        refine lv_aload_n hx hb dX11_drawBill_63 rfl (lv_at hl 1 rfl) ?_
        refine tqc_get (v := .int (S20 1 0 0)) hx hb hw tq_inX11 hown hK hW (by decide) (tq_mk_1 (by decide)) rfl 0 (by decide) (hw _ tw_337) (fun _ h9 => h9) rfl dX11_drawBill_64 ?_
        refine lv_iload_n hx hb dX11_drawBill_67 rfl (lv_at hl 4 rfl) ?_
        refine tqb_callIv (As := [.int (S20 15 0 2), .ref (ad 2 x2), .int (S20 1 0 0), .int x3]) (rest := [.ref (ad 1 i18)]) (kX1_init h) ⟨hx, hb, hml, hown, hts⟩ (cwI 4 hts (tq_goodO tw_1191) rfl rfl rfl (hw _ tw_139) (hw _ tw_1189) (hw _ tw_1190) rfl (by decide +kernel) ⟨(Nat.le_of_ble_eq_true rfl), (Nat.le_of_ble_eq_true rfl)⟩) hK hG hW hS rfl hl.1 rfl (Nat.le_of_ble_eq_true rfl) dX11_drawBill_68 hN (fun N24 S25 H locs h hN hW hS => ?_)
        refine W.eq (g2 := F0 m 71 ls [.ref (ad 7 i18)]) (by rw [tq_ad1_7 hG.adr hi21]) ?_
        refine lv_astore (lv' := [(5, .ref (ad 7 i18)), (4, .int y0), (0, .ref (ad 1 0)), (1, .ref (ad 10 x1)), (2, .ref (ad 2 x2)), (3, .int x3)]) hx hb dX11_drawBill_71 hl (by decide) rfl (fun ls hl => ?_)
        refine lv_aload_n hx hb dX11_drawBill_73 rfl (lv_at hl 2 rfl) ?_
        refine tqc_get (v := .ref (ad 15 0)) hx hb hw tq_inX11 hown hK hW (by decide) (tq_mk_1 (by decide)) rfl 5 (by decide) (hw _ tw_342) (fun _ h9 => h9) rfl dX11_drawBill_74 ?_
        refine lv_aload hx hb dX11_drawBill_77 (lv_at hl 0 rfl) ?_
        obtain ⟨b29, h⟩ := h
        refine tqb_callVi (C := RJx4a65c) (As := [.ref (ad 7 i18)]) (rest := []) (kJl_add (post := fun N1 S1 r => r = 1 ∧ tq_added N24 S25 15 16 0 i18 N1 S1) (tq_LK_15 hG.adr (by decide)) b29 (fun N1 S1 q => ⟨rfl, q⟩)) ⟨hx, hb, hml, hown, hts⟩ (cwV 1 hts (tq_goodV tw_806 tw_746 tw_747 tw_118 tw_748) rfl rfl rfl (by decide +kernel) ⟨(Nat.le_of_ble_eq_true rfl), (Nat.le_of_ble_eq_true rfl)⟩) (tq_recvL hK hW (by decide) (tq_mk_15 (by decide))) hK hG hW hS rfl hl.1 rfl (Nat.le_of_ble_eq_true rfl) dX11_drawBill_79 hN (fun r28 N26 S27 H locs q9 hN hW hS => ?_)
        rw [q9.1]
        have h := h N26 S27 q9.2
        refine lv_pop hx hb dX11_drawBill_82 rfl ?_
        refine lv_aload_n hx hb dX11_drawBill_83 rfl (lv_at hl 2 rfl) ?_
        refine tqc_get (v := .ref (ad 17 0)) hx hb hw tq_inX11 hown hK hW (by decide) (tq_mk_1 (by decide)) rfl 6 (by decide) (hw _ tw_343) (fun _ h9 => h9) rfl dX11_drawBill_84 ?_
        refine lv_aload hx hb dX11_drawBill_87 (lv_at hl 0 rfl) ?_
        obtain ⟨b33, h⟩ := h
        refine tqb_callVi (C := RJx4a65c) (As := [.ref (ad 7 i18)]) (rest := []) (kJl_add (post := fun N1 S1 r => r = 1 ∧ tq_added N26 S27 17 18 0 i18 N1 S1) (tq_LK_17 hG.adr (by decide)) b33 (fun N1 S1 q => ⟨rfl, q⟩)) ⟨hx, hb, hml, hown, hts⟩ (cwV 1 hts (tq_goodV tw_806 tw_746 tw_747 tw_118 tw_748) rfl rfl rfl (by decide +kernel) ⟨(Nat.le_of_ble_eq_true rfl), (Nat.le_of_ble_eq_true rfl)⟩) (tq_recvL hK hW (by decide) (tq_mk_17 (by decide))) hK hG hW hS rfl hl.1 rfl (Nat.le_of_ble_eq_true rfl) dX11_drawBill_89 hN (fun r32 N30 S31 H locs q9 hN hW hS => ?_)
        rw [q9.1]
        have h := h N30 S31 q9.2
        refine lv_pop hx hb dX11_drawBill_92 rfl ?_
        refine lv_aload_n hx hb dX11_drawBill_93 rfl (lv_at hl 4 rfl) ?_
        refine lv_aload hx hb dX11_drawBill_94 (lv_at hl 0 rfl) ?_
        obtain ⟨b34, h⟩ := h
        refine tq_putG (T1 := tq_mix (tq_up S31 2 x2 15 (nI (i18 + 1))) M) (v := .ref (ad 7 i18)) (fs := (List.range 17).map (tq_fld ad 2 x2 (S31 2 x2))) hx hb hw tq_inX5 tyX5 tyX5_ok nmX5 hown hK hW hS (by rw [tq_mixC _ _ (by decide)]; exact tq_mk_2 b10) rfl 15 (by decide) (hw _ tw_279) (fun _ h9 => h9) rfl rfl rfl (by simp) (tq_mixT (by decide)) (by rw [tq_mixC _ _ (by decide), tq_up_cell, tq_mk_2 b10, tq_objset3 (x := nI (i18 + 1)) (show tq_val ad (tq_fty 2 15) x2 (nI (i18 + 1)) = .ref (ad 7 i18) from tq_nulv b34)]; rfl) dX11_drawBill_96 (fun H locs hW hS => ?_)
        generalize eS35 : tq_up S31 2 x2 15 (nI (i18 + 1)) = S35 at hW
        have h := h S35 eS35.symm
        refine lv_aload_n hx hb dX11_drawBill_99 rfl (lv_at hl 4 rfl) ?_
        refine lv_dup hx hb dX11_drawBill_100 rfl ?_
        refine tqc_get (v := .int (S35 2 x2 1)) hx hb hw tq_inX5 hown hK hW (by decide) (tq_mk_2 b10) rfl 1 (by decide) (hw _ tw_255) (fun _ h9 => h9) rfl dX11_drawBill_101 ?_
        refine lv_iload_n hx hb dX11_drawBill_104 rfl (lv_at hl 5 rfl) ?_
        refine lv_iadd hx hb dX11_drawBill_105 ?_
        refine tqc_put hx hb hw tq_inX5 tyX5 tyX5_ok nmX5 hown hK hW hS (by decide) (tq_mk_2 b10) rfl 1 (by decide) (hw _ tw_255) (fun _ h9 => h9) rfl rfl rfl rfl (tq_mk_2 b10) dX11_drawBill_106 (fun H locs hW hS => ?_)
        generalize eS36 : tq_up S35 2 x2 1 ((S35 2 x2 1) + x3) = S36 at hW
        have h := h S36 eS36.symm
        refine lv_aload_n hx hb dX11_drawBill_109 rfl (lv_at hl 2 rfl) ?_
        refine lv_aload_n hx hb dX11_drawBill_110 rfl (lv_at hl 3 rfl) ?_
        refine lv_aload_n hx hb dX11_drawBill_111 rfl (lv_at hl 4 rfl) ?_
        refine lv_aload hx hb dX11_drawBill_112 (lv_at hl 0 rfl) ?_
        obtain ⟨b37, h⟩ := h
        obtain ⟨b38, h⟩ := h
        refine tqc_getB (v := .int (S36 7 i18 0)) hx hb hw tq_inX1 hown hK hW b37 b38 0 (by decide) (hw _ tw_509) (fun x h9 => u_same (hw _ tw_510) x h9) rfl dX11_drawBill_114 ?_
        refine lv_iload_n hx hb dX11_drawBill_117 rfl (lv_at hl 5 rfl) ?_
        refine tqc_callVv (As := [.ref (ad 10 x1), .ref (ad 2 x2), .int (S36 7 i18 0), .int x3]) (rest := []) (kX11_enterFor h) ⟨hx, hb, hml, hown, hts⟩ (cwV 4 hts (tq_goodV tw_1149 tw_1151 tw_38 tw_115 tw_1152) rfl rfl rfl (by decide +kernel) ⟨(Nat.le_of_ble_eq_true rfl), (Nat.le_of_ble_eq_true rfl)⟩) (tq_recvC hK hW (by decide) (tq_mk_1 (by decide)) rfl) hK hG hW hS rfl hl.1 rfl (Nat.le_of_ble_eq_true rfl) dX11_drawBill_118 hN.f (fun S39 H locs h hW hS => ?_)
        exact tqb_vret hx hb hr hN h hW hS dX11_drawBill_121 hlocks
      · have h := h.2 c15
        exact bX11_drawBill_50 C  _ _  _ _ _ h hN hW hS (lv_sub hl [] rfl)
set_option maxHeartbeats 4000000 in
set_option maxRecDepth 100000 in
theorem bX11_drawBill_26 {p : Program} {e : Env} {s : State} {m : MethodId} {args : Array Value} {below : List Frame} {meth : Method} {c : Code} {post : tq_Nn → tq_St → Prop} (C : tq_At p s m meth c args cX11_drawBill 6 (none) ((tq_ws yX11_drawBill cX11_drawBill 6 none)) RX11 D cy z ad)  : ∀ (N : tq_Nn) (S : tq_St) (x1 : Nat) (x2 : Nat) (x3 : Int32) (H : Heap) (locs : List Loc) (ls : Array Slot), wbX11_drawBill_26 post  N S x1 x2 x3 → tq_nb z A0 s N → tq_wd D cy z H0 ad N (tq_mix S M) H → va_S (fun q => z ≤ q) s.heap H locs → lv_has ls 6 [(0, .ref (ad 1 0)), (1, .ref (ad 10 x1)), (2, .ref (ad 2 x2)), (3, .int x3)] → tq_Wb p l e 7 241 s m args below meth c z A0 N H locs (MQ below (va_Qv (fun (u : tq_Nn × tq_St) => post u.1 u.2) (tq_PB D cy z A0 H0 ad M) (fun q => z ≤ q)) args s (z + tq_CX - s.heap.size) (A0 + tq_CY - tq_all s.heap) (fun q => z ≤ q)) (F0 m 26 ls []) := by
  obtain ⟨hx, hb, hr, hml, hown, hts, hlocks, hK, hG⟩ := id C
  have hw : ∀ w ∈ tq_W, w.before args s = true := fun w h => hts w (List.mem_cons_of_mem _ h)
  intro N S x1 x2 x3 H locs ls h hN hW hS hl
  unfold wbX11_drawBill_26 at h
  refine lv_iconst (v := 0) hx hb dX11_drawBill_26 (by decide) ?_
  exact bX11_drawBill_27 C  _ _ _ _ _ _ _ _ _ h hN hW hS (lv_sub hl [0, 1, 2, 3] rfl)
set_option maxHeartbeats 4000000 in
set_option maxRecDepth 100000 in
theorem kX11_drawBill {post : tq_Nn → tq_St → Prop} {N : tq_Nn} {S : tq_St} {sz sl : Nat} {p0 : Nat} {p1 : Nat} (h : wpX11_drawBill post N S p0 p1) : tq_bV l yX11_drawBill (tq_ws yX11_drawBill cX11_drawBill 6 none) 7 241 D cy z A0 H0 ad N M S sz sl [.ref (ad 1 0), .ref (ad 10 p0), .ref (ad 2 p1)] post := by
  unfold wpX11_drawBill at h
  refine Met.ofW (cc := cX11_drawBill) (maxL := 6) (ret := none) (by decide) rfl ?_
  intro p e s m args below meth c s₁ B hml hv
  obtain ⟨rfl, ⟨hW, hK, hG⟩, rfl, rfl, hN1, hN2, hN3, hN4⟩ := hv
  have hN : tq_nb z A0 s N := ⟨hN1, hN2, hN3, hN4⟩
  have hx := B.exec
  have hb := B.bytes
  have hr := B.returns
  have hts := atoms_spec (ws := (tq_ws yX11_drawBill cX11_drawBill 6 none)) B.pre
  have hw : ∀ w ∈ tq_W, w.before _ s = true := fun w h => hts w (List.mem_cons_of_mem _ h)
  have hown : s.vm.findClass RX11 = some m.cls := findClass_of_methodNamed B.named
  have hlocks := B.notSynchronized
  have C : tq_At p s m meth c [.ref (ad 1 0), .ref (ad 10 p0), .ref (ad 2 p1)].toArray cX11_drawBill 6 (none) ((tq_ws yX11_drawBill cX11_drawBill 6 none)) RX11 D cy z ad := ⟨hx, hb, hr, hml, hown, hts, hlocks, hK, hG⟩
  have hS : va_S (fun q => z ≤ q) s.heap s.heap [] := va_S.rf
  have hl := lv_entry ([.ref (ad 1 0), .ref (ad 10 p0), .ref (ad 2 p1)]) (n := 6) (Nat.le_of_ble_eq_true rfl)
  rw [lg_entry_eq]
  generalize (lg_sl ([.ref (ad 1 0), .ref (ad 10 p0), .ref (ad 2 p1)]) ++ List.replicate (6 - (lg_sl ([.ref (ad 1 0), .ref (ad 10 p0), .ref (ad 2 p1)])).length) Slot.unset).toArray = ls at hl ⊢
  have hl : lv_has ls 6 [(0, .ref (ad 1 0)), (1, .ref (ad 10 p0)), (2, .ref (ad 2 p1))] := hl
  have hW : tq_wd D cy z H0 ad N (tq_mix S M) s.heap := hW
  refine tq_tight (c1 := z + N 0 0 - s.heap.size) (n1 := A0 + N 0 1 - tq_all s.heap) (by omega) (by omega) ?_
  refine lv_aload_n hx hb dX11_drawBill_0 rfl (lv_at hl 1 rfl) ?_
  obtain ⟨b1, h⟩ := h
  refine tqc_get (v := .int (S 10 p0 4)) hx hb hw tq_inX4 hown hK hW (by decide) (tq_mk_10 b1) rfl 4 (by decide) (hw _ tw_671) (fun _ h9 => h9) rfl dX11_drawBill_1 ?_
  refine lv_istore_n (lv' := [(3, .int (S 10 p0 4)), (0, .ref (ad 1 0)), (1, .ref (ad 10 p0)), (2, .ref (ad 2 p1))]) hx hb dX11_drawBill_4 rfl hl (by decide) rfl (fun ls hl => ?_)
  refine lv_aload_n hx hb dX11_drawBill_5 rfl (lv_at hl 3 rfl) ?_
  obtain ⟨b2, h⟩ := h
  by_cases c3 : S 2 p1 15 < 1
  · have h := h.1 c3
    refine tqc_get (v := .null) hx hb hw tq_inX5 hown hK hW (by decide) (tq_mk_2 b2) rfl 15 (by decide) (hw _ tw_279) (fun _ h9 => h9) (tq_fldN c3) dX11_drawBill_6 ?_
    refine lv_ifnullN (tgt := 26) hx hb dX11_drawBill_9 (by decide) ?_
    exact bX11_drawBill_26 C  _ _ _ _ _ _ _ _ h hN hW hS (lv_sub hl [1, 2, 3, 0] rfl)
  · have h := h.2 c3
    refine tqc_get (v := .ref (ad 7 ((S 2 p1 15).toNatClampNeg - 1))) hx hb hw tq_inX5 hown hK hW (by decide) (tq_mk_2 b2) rfl 15 (by decide) (hw _ tw_279) (fun _ h9 => h9) (tq_fldR c3) dX11_drawBill_6 ?_
    refine lv_ifnull hx hb dX11_drawBill_9 ?_
    refine lv_aload_n hx hb dX11_drawBill_12 rfl (lv_at hl 3 rfl) ?_
    refine tqc_get (v := .ref (ad 7 ((S 2 p1 15).toNatClampNeg - 1))) hx hb hw tq_inX5 hown hK hW (by decide) (tq_mk_2 b2) rfl 15 (by decide) (hw _ tw_279) (fun _ h9 => h9) (tq_fldR c3) dX11_drawBill_13 ?_
    obtain ⟨b5, h⟩ := h
    obtain ⟨b6, h⟩ := h
    refine tqc_callVi (As := []) (rest := []) (kX1_isOpen h) ⟨hx, hb, hml, hown, hts⟩ (cwV 0 hts (tq_goodV tw_1184 tw_1185 tw_1186 tw_139 tw_1187) rfl rfl rfl (by decide +kernel) ⟨(Nat.le_of_ble_eq_true rfl), (Nat.le_of_ble_eq_true rfl)⟩) (tq_recvC hK hW (by decide) (tq_mk_7b b5 b6) rfl) hK hG hW hS rfl hl.1 rfl (Nat.le_of_ble_eq_true rfl) dX11_drawBill_16 hN.f (fun r8 S7 H locs h hW hS => ?_)
    refine lv_if_eq (tgt := 26) hx hb dX11_drawBill_19 (by decide) (fun c9 => ?_) (fun c9 => ?_)
    · have h := h.1 c9
      exact bX11_drawBill_26 C  _ _ _ _ _ _ _ _ h hN hW hS (lv_sub hl [1, 2, 3, 0] rfl)
    · have h := h.2 c9
      refine lv_iconst (v := 1) hx hb dX11_drawBill_22 (by decide) ?_
      refine lv_goto (tgt := 27) hx hb dX11_drawBill_23 (by decide) ?_
      exact bX11_drawBill_27 C  _ _ _ _ _ _ _ _ _ h hN hW hS (lv_sub hl [1, 2, 3, 0] rfl)
-- X11 sendShip
def wbX11_sendShip_118 (post : tq_Nn → tq_St → Prop)  (N : tq_Nn) (S : tq_St) : Prop :=
  post N S
def wbX11_sendShip_119 (post : tq_Nn → tq_St → Prop) (L12 : tq_Nn → tq_St → Nat → Nat → Int32 → Int32 → Prop) (N : tq_Nn) (S : tq_St) (x1 : Nat) (x2 : Nat) (x3 : Int32) (x4 : Int32) : Prop :=
  L12 N S x1 x2 x3 (x4 + 1)
def wbX11_sendShip_12 (post : tq_Nn → tq_St → Prop) : Nat → tq_Nn → tq_St → Nat → Nat → Int32 → Int32 → Prop
  | 0, _, _, _, _, _, _ => False
  | n + 1, N, S, x1, x2, x3, x4 =>
    ((S 19 0 2) ≤ x4 → (post N S)) ∧ (¬ (S 19 0 2) ≤ x4 → (tq_gok N S 19 20 0 x4 ∧ (N 8 (tq_el S 19 20 0 x4) = 1 ∧ (x2 < 5 ∧ ((¬ (S 8 (tq_el S 19 20 0 x4) 3) = (S 2 x2 0) → (wbX11_sendShip_119 post (wbX11_sendShip_12 post n) N S x1 x2 x3 x4)) ∧ ((S 8 (tq_el S 19 20 0 x4) 3) = (S 2 x2 0) → (N 54 (tq_el S 19 20 0 x4) = 1 ∧ (((bx_sum (S 54 (tq_el S 19 20 0 x4)) 4) < x3 → (wbX11_sendShip_119 post (wbX11_sendShip_12 post n) N S x1 x2 x3 x4)) ∧ (¬ (bx_sum (S 54 (tq_el S 19 20 0 x4)) 4) < x3 → ((99 ≤ (S 22 0 2) → (wbX11_sendShip_118 post N S )) ∧ (¬ 99 ≤ (S 22 0 2) → (wpX11_beyondRights N (fun S18 r19 => wpX11_leave (fun N20 S21 r22 => wpX11_writeInvoice (fun N23 S24  => N23 9 r22 = 1 ∧ (wpX11_enterFor N23 (fun S26 => wbX11_sendShip_118 post N23 S26 ) S24 x1 x2 (S24 9 r22 0) 0)) N20 S21 r22 (tq_el S 19 20 0 x4) x2) N S18 (tq_el S 19 20 0 x4) 0 (S 2 x2 4) r19) S (tq_el S 19 20 0 x4) (S 2 x2 0)))))))))))))
def wpX11_sendShip (post : tq_Nn → tq_St → Prop) (N : tq_Nn) (S : tq_St) (p0 : Nat) (p1 : Nat) : Prop :=
  N 10 p0 = 1 ∧ (∃ nq, wbX11_sendShip_12 post nq N S p0 p1 (if (S 10 p0 4) < 1 then 1 else (S 10 p0 4)) 0)
set_option maxHeartbeats 4000000 in
set_option maxRecDepth 100000 in
theorem bX11_sendShip_118 {p : Program} {e : Env} {s : State} {m : MethodId} {args : Array Value} {below : List Frame} {meth : Method} {c : Code} {post : tq_Nn → tq_St → Prop} (C : tq_At p s m meth c args cX11_sendShip 7 (none) ((tq_ws yX11_sendShip cX11_sendShip 7 none)) RX11 D cy z ad)  : ∀ (N : tq_Nn) (S : tq_St)  (H : Heap) (locs : List Loc) (ls : Array Slot), wbX11_sendShip_118 post  N S  → tq_nb z A0 s N → tq_wd D cy z H0 ad N (tq_mix S M) H → va_S (fun q => z ≤ q) s.heap H locs → lv_has ls 7 [] → tq_Wb p l e 8 267 s m args below meth c z A0 N H locs (MQ below (va_Qv (fun (u : tq_Nn × tq_St) => post u.1 u.2) (tq_PB D cy z A0 H0 ad M) (fun q => z ≤ q)) args s (z + tq_CX - s.heap.size) (A0 + tq_CY - tq_all s.heap) (fun q => z ≤ q)) (F0 m 118 ls []) := by
  obtain ⟨hx, hb, hr, hml, hown, hts, hlocks, hK, hG⟩ := id C
  have hw : ∀ w ∈ tq_W, w.before args s = true := fun w h => hts w (List.mem_cons_of_mem _ h)
  intro N S  H locs ls h hN hW hS hl
  unfold wbX11_sendShip_118 at h
  exact tqb_vret hx hb hr hN h hW hS dX11_sendShip_118 hlocks
set_option maxHeartbeats 4000000 in
set_option maxRecDepth 100000 in
theorem bX11_sendShip_119 {p : Program} {e : Env} {s : State} {m : MethodId} {args : Array Value} {below : List Frame} {meth : Method} {c : Code} {post : tq_Nn → tq_St → Prop} (C : tq_At p s m meth c args cX11_sendShip 7 (none) ((tq_ws yX11_sendShip cX11_sendShip 7 none)) RX11 D cy z ad) {L12 : tq_Nn → tq_St → Nat → Nat → Int32 → Int32 → Prop} (hL12 : ∀ (N : tq_Nn) (S : tq_St) (x1 : Nat) (x2 : Nat) (x3 : Int32) (x4 : Int32) (H : Heap) (locs : List Loc) (ls : Array Slot), L12 N S x1 x2 x3 x4 → tq_nb z A0 s N → tq_wd D cy z H0 ad N (tq_mix S M) H → va_S (fun q => z ≤ q) s.heap H locs → lv_has ls 7 [(0, .ref (ad 1 0)), (1, .ref (ad 10 x1)), (2, .ref (ad 2 x2)), (3, .int x3), (4, .int x4)] → tq_Wb p l e 8 267 s m args below meth c z A0 N H locs (MQ below (va_Qv (fun (u : tq_Nn × tq_St) => post u.1 u.2) (tq_PB D cy z A0 H0 ad M) (fun q => z ≤ q)) args s (z + tq_CX - s.heap.size) (A0 + tq_CY - tq_all s.heap) (fun q => z ≤ q)) (F0 m 12 ls [])) : ∀ (N : tq_Nn) (S : tq_St) (x1 : Nat) (x2 : Nat) (x3 : Int32) (x4 : Int32) (H : Heap) (locs : List Loc) (ls : Array Slot), wbX11_sendShip_119 post L12 N S x1 x2 x3 x4 → tq_nb z A0 s N → tq_wd D cy z H0 ad N (tq_mix S M) H → va_S (fun q => z ≤ q) s.heap H locs → lv_has ls 7 [(0, .ref (ad 1 0)), (1, .ref (ad 10 x1)), (2, .ref (ad 2 x2)), (3, .int x3), (4, .int x4)] → tq_Wb p l e 8 267 s m args below meth c z A0 N H locs (MQ below (va_Qv (fun (u : tq_Nn × tq_St) => post u.1 u.2) (tq_PB D cy z A0 H0 ad M) (fun q => z ≤ q)) args s (z + tq_CX - s.heap.size) (A0 + tq_CY - tq_all s.heap) (fun q => z ≤ q)) (F0 m 119 ls []) := by
  obtain ⟨hx, hb, hr, hml, hown, hts, hlocks, hK, hG⟩ := id C
  have hw : ∀ w ∈ tq_W, w.before args s = true := fun w h => hts w (List.mem_cons_of_mem _ h)
  intro N S x1 x2 x3 x4 H locs ls h hN hW hS hl
  unfold wbX11_sendShip_119 at h
  refine lv_iinc (v := x4 + 1) (lv' := [(4, .int (x4 + 1)), (0, .ref (ad 1 0)), (1, .ref (ad 10 x1)), (2, .ref (ad 2 x2)), (3, .int x3)]) hx hb dX11_sendShip_119 hl (k := 4) rfl rfl (by decide) rfl (fun ls hl => ?_)
  refine lv_goto (tgt := 12) hx hb dX11_sendShip_122 (by decide) ?_
  exact hL12 _ _ _ _ _ _ _ _ _ h hN hW hS (lv_sub hl [1, 2, 3, 4, 0] rfl)
set_option maxHeartbeats 4000000 in
set_option maxRecDepth 100000 in
theorem bX11_sendShip_12 {p : Program} {e : Env} {s : State} {m : MethodId} {args : Array Value} {below : List Frame} {meth : Method} {c : Code} {post : tq_Nn → tq_St → Prop} (C : tq_At p s m meth c args cX11_sendShip 7 (none) ((tq_ws yX11_sendShip cX11_sendShip 7 none)) RX11 D cy z ad)  : ∀ n : Nat, ∀ (N : tq_Nn) (S : tq_St) (x1 : Nat) (x2 : Nat) (x3 : Int32) (x4 : Int32) (H : Heap) (locs : List Loc) (ls : Array Slot), wbX11_sendShip_12 post  n N S x1 x2 x3 x4 → tq_nb z A0 s N → tq_wd D cy z H0 ad N (tq_mix S M) H → va_S (fun q => z ≤ q) s.heap H locs → lv_has ls 7 [(0, .ref (ad 1 0)), (1, .ref (ad 10 x1)), (2, .ref (ad 2 x2)), (3, .int x3), (4, .int x4)] → tq_Wb p l e 8 267 s m args below meth c z A0 N H locs (MQ below (va_Qv (fun (u : tq_Nn × tq_St) => post u.1 u.2) (tq_PB D cy z A0 H0 ad M) (fun q => z ≤ q)) args s (z + tq_CX - s.heap.size) (A0 + tq_CY - tq_all s.heap) (fun q => z ≤ q)) (F0 m 12 ls []) := by
  obtain ⟨hx, hb, hr, hml, hown, hts, hlocks, hK, hG⟩ := id C
  have hw : ∀ w ∈ tq_W, w.before args s = true := fun w h => hts w (List.mem_cons_of_mem _ h)
  intro n
  induction n with
  | zero =>
    intro N S x1 x2 x3 x4 H locs ls h
    exact absurd h (by unfold wbX11_sendShip_12; exact id)
  | succ n ih =>
    intro N S x1 x2 x3 x4 H locs ls h hN hW hS hl
    unfold wbX11_sendShip_12 at h
    refine lv_iload hx hb dX11_sendShip_12 (lv_at hl 4 rfl) ?_
    refine lv_aload_n hx hb dX11_sendShip_14 rfl (lv_at hl 0 rfl) ?_
    refine tqc_get (v := .ref (ad 19 0)) hx hb hw tq_inX11 hown hK hW (by decide) (tq_mk_1 (by decide)) rfl 7 (by decide) (hw _ tw_344) (fun _ h9 => h9) rfl dX11_sendShip_15 ?_
    refine tqc_callVi (As := []) (rest := [.int x4]) (kJl_size (post := fun u r => u = S ∧ r = S 19 0 2) (by decide) (tq_mk_19 (by decide)) ⟨rfl, rfl⟩) ⟨hx, hb, hml, hown, hts⟩ (cwV 0 hts (tq_goodV tw_484 tw_485 tw_486 tw_118 tw_487) rfl rfl rfl (by decide +kernel) ⟨(Nat.le_of_ble_eq_true rfl), (Nat.le_of_ble_eq_true rfl)⟩) (tq_recvL hK hW (by decide) (tq_mk_19 (by decide))) hK hG hW hS rfl hl.1 rfl (Nat.le_of_ble_eq_true rfl) dX11_sendShip_18 hN.f (fun r3 S2 H locs q9 hW hS => ?_)
    rw [q9.1] at hW
    rw [q9.2]
    refine lv_icmp_ge (tgt := 125) hx hb dX11_sendShip_21 (by decide) (fun c4 => ?_) (fun c4 => ?_)
    · have h := h.1 c4
      exact tqb_vret hx hb hr hN h hW hS dX11_sendShip_125 hlocks
    · have h := h.2 c4
      refine lv_aload_n hx hb dX11_sendShip_24 rfl (lv_at hl 0 rfl) ?_
      refine tqc_get (v := .ref (ad 19 0)) hx hb hw tq_inX11 hown hK hW (by decide) (tq_mk_1 (by decide)) rfl 7 (by decide) (hw _ tw_344) (fun _ h9 => h9) rfl dX11_sendShip_25 ?_
      refine lv_iload hx hb dX11_sendShip_28 (lv_at hl 4 rfl) ?_
      obtain ⟨b7, h⟩ := h
      refine tqc_callVr (kr := 8) (As := [.int x4]) (rest := []) (kJl_get (kd := 20) (post := fun u i => u = S ∧ i = tq_el S 19 20 0 x4) (by decide) (by decide) (tq_mk_19 (by decide)) (fun q9 => tq_mk_20 q9) b7 ⟨rfl, rfl⟩) ⟨hx, hb, hml, hown, hts⟩ (cwV 1 hts (tq_goodV tw_827 tw_828 tw_829 tw_118 tw_830) rfl rfl rfl (by decide +kernel) ⟨(Nat.le_of_ble_eq_true rfl), (Nat.le_of_ble_eq_true rfl)⟩) (tq_recvL hK hW (by decide) (tq_mk_19 (by decide))) hK hG hW hS rfl hl.1 rfl (Nat.le_of_ble_eq_true rfl) dX11_sendShip_30 hN.f (fun i6 S5 H locs q9 hW hS => ?_)
      rw [q9.1] at hW
      rw [q9.2]
      obtain ⟨b8, h⟩ := h
      refine va_castS hx hb hown (hw _ tw_839) (hK.1 9 _ rfl).2 (tq_recvC hK hW (by decide) (tq_mk_8 b8) rfl) dX11_sendShip_33 ?_
      refine lv_astore (lv' := [(5, .ref (ad 8 (tq_el S 19 20 0 x4))), (0, .ref (ad 1 0)), (1, .ref (ad 10 x1)), (2, .ref (ad 2 x2)), (3, .int x3), (4, .int x4)]) hx hb dX11_sendShip_36 hl (by decide) rfl (fun ls hl => ?_)
      refine lv_aload hx hb dX11_sendShip_38 (lv_at hl 0 rfl) ?_
      refine tqc_get (v := .int (S 8 (tq_el S 19 20 0 x4) 3)) hx hb hw tq_inX8 hown hK hW (by decide) (tq_mk_8 b8) rfl 3 (by decide) (hw _ tw_904) (fun _ h9 => h9) rfl dX11_sendShip_40 ?_
      refine lv_aload_n hx hb dX11_sendShip_43 rfl (lv_at hl 3 rfl) ?_
      obtain ⟨b9, h⟩ := h
      refine tqc_get (v := .int (S 2 x2 0)) hx hb hw tq_inX5 hown hK hW (by decide) (tq_mk_2 b9) rfl 0 (by decide) (hw _ tw_253) (fun _ h9 => h9) rfl dX11_sendShip_44 ?_
      refine lv_icmp_ne (tgt := 119) hx hb dX11_sendShip_47 (by decide) (fun c10 => ?_) (fun c10 => ?_)
      · have h := h.1 c10
        exact bX11_sendShip_119 C (fun N9 M9 a09 a19 a29 a39 H9 q9 ls9 h9 hN9 hW9 hS9 hl9 => ih N9 M9 a09 a19 a29 a39 H9 q9 ls9 h9 hN9 hW9 hS9 hl9) _ _ _ _ _ _ _ _ _ h hN hW hS (lv_sub hl [1, 2, 3, 4, 5] rfl)
      · have h := h.2 c10
        refine lv_aload hx hb dX11_sendShip_50 (lv_at hl 0 rfl) ?_
        refine tqc_get (v := .ref (ad 54 (tq_el S 19 20 0 x4))) hx hb hw tq_inX8 hown hK hW (by decide) (tq_mk_8 b8) rfl 8 (by decide) (hw _ tw_914) (fun _ h9 => h9) rfl dX11_sendShip_52 ?_
        obtain ⟨b11, h⟩ := h
        refine tqc_callSi (As := [.ref (ad 54 (tq_el S 19 20 0 x4))]) (rest := []) (kX11_sumOf (n := 4) (post := fun u r => u = S ∧ r = bx_sum (S 54 (tq_el S 19 20 0 x4)) 4) (by decide) (by decide) (fun f => tq_mk_54 b11) ⟨rfl, rfl⟩) ⟨hx, hb, hml, hown, hts⟩ (va_cwS 1 hts (tq_goodS tw_1045 tw_968 tw_115 tw_969) rfl rfl rfl (by decide +kernel) ⟨(Nat.le_of_ble_eq_true rfl), (Nat.le_of_ble_eq_true rfl)⟩) hK hG hW hS rfl hl.1 rfl (Nat.le_of_ble_eq_true rfl) dX11_sendShip_55 hN.f (fun r13 S12 H locs q9 hW hS => ?_)
        rw [q9.1] at hW
        rw [q9.2]
        refine lv_iload_n hx hb dX11_sendShip_58 rfl (lv_at hl 4 rfl) ?_
        refine lv_icmp_lt (tgt := 119) hx hb dX11_sendShip_59 (by decide) (fun c14 => ?_) (fun c14 => ?_)
        · have h := h.1 c14
          exact bX11_sendShip_119 C (fun N9 M9 a09 a19 a29 a39 H9 q9 ls9 h9 hN9 hW9 hS9 hl9 => ih N9 M9 a09 a19 a29 a39 H9 q9 ls9 h9 hN9 hW9 hS9 hl9) _ _ _ _ _ _ _ _ _ h hN hW hS (lv_sub hl [1, 2, 3, 4, 5] rfl)
        · have h := h.2 c14
          refine lv_aload_n hx hb dX11_sendShip_62 rfl (lv_at hl 1 rfl) ?_
          refine tqc_get (v := .ref (ad 22 0)) hx hb hw tq_inX11 hown hK hW (by decide) (tq_mk_1 (by decide)) rfl 9 (by decide) (hw _ tw_346) (fun _ h9 => h9) rfl dX11_sendShip_63 ?_
          refine tqc_callVi (As := []) (rest := []) (kJl_size (post := fun u r => u = S ∧ r = S 22 0 2) (by decide) (tq_mk_22 (by decide)) ⟨rfl, rfl⟩) ⟨hx, hb, hml, hown, hts⟩ (cwV 0 hts (tq_goodV tw_484 tw_485 tw_486 tw_118 tw_487) rfl rfl rfl (by decide +kernel) ⟨(Nat.le_of_ble_eq_true rfl), (Nat.le_of_ble_eq_true rfl)⟩) (tq_recvL hK hW (by decide) (tq_mk_22 (by decide))) hK hG hW hS rfl hl.1 rfl (Nat.le_of_ble_eq_true rfl) dX11_sendShip_66 hN.f (fun r16 S15 H locs q9 hW hS => ?_)
          rw [q9.1] at hW
          rw [q9.2]
          refine lv_bipush (v := 99) hx hb dX11_sendShip_69 (by decide) ?_
          refine lv_icmp_ge (tgt := 118) hx hb dX11_sendShip_71 (by decide) (fun c17 => ?_) (fun c17 => ?_)
          · have h := h.1 c17
            exact bX11_sendShip_118 C  _ _  _ _ _ h hN hW hS (lv_sub hl [] rfl)
          · have h := h.2 c17
            refine lv_aload_n hx hb dX11_sendShip_74 rfl (lv_at hl 1 rfl) ?_
            refine lv_aload hx hb dX11_sendShip_75 (lv_at hl 0 rfl) ?_
            refine lv_iconst (v := 0) hx hb dX11_sendShip_77 (by decide) ?_
            refine lv_aload_n hx hb dX11_sendShip_78 rfl (lv_at hl 3 rfl) ?_
            refine tqc_get (v := .int (S 2 x2 4)) hx hb hw tq_inX5 hown hK hW (by decide) (tq_mk_2 b9) rfl 4 (by decide) (hw _ tw_262) (fun _ h9 => h9) rfl dX11_sendShip_79 ?_
            refine lv_aload_n hx hb dX11_sendShip_82 rfl (lv_at hl 1 rfl) ?_
            refine lv_aload hx hb dX11_sendShip_83 (lv_at hl 0 rfl) ?_
            refine lv_aload_n hx hb dX11_sendShip_85 rfl (lv_at hl 3 rfl) ?_
            refine tqc_get (v := .int (S 2 x2 0)) hx hb hw tq_inX5 hown hK hW (by decide) (tq_mk_2 b9) rfl 0 (by decide) (hw _ tw_253) (fun _ h9 => h9) rfl dX11_sendShip_86 ?_
            refine tqc_callVi (As := [.ref (ad 8 (tq_el S 19 20 0 x4)), .int (S 2 x2 0)]) (rest := [.int (S 2 x2 4), .int 0, .ref (ad 8 (tq_el S 19 20 0 x4)), .ref (ad 1 0)]) (kX11_beyondRights h) ⟨hx, hb, hml, hown, hts⟩ (cwV 2 hts (tq_goodV tw_1172 tw_1174 tw_43 tw_115 tw_1175) rfl rfl rfl (by decide +kernel) ⟨(Nat.le_of_ble_eq_true rfl), (Nat.le_of_ble_eq_true rfl)⟩) (tq_recvC hK hW (by decide) (tq_mk_1 (by decide)) rfl) hK hG hW hS rfl hl.1 rfl (Nat.le_of_ble_eq_true rfl) dX11_sendShip_89 hN.f (fun r19 S18 H locs h hW hS => ?_)
            refine tqb_callVr (kr := 9) (As := [.ref (ad 8 (tq_el S 19 20 0 x4)), .int 0, .int (S 2 x2 4), .int r19]) (rest := []) (kX11_leave h) ⟨hx, hb, hml, hown, hts⟩ (cwV 4 hts (tq_goodV tw_974 tw_976 tw_25 tw_115 tw_977) rfl rfl rfl (by decide +kernel) ⟨(Nat.le_of_ble_eq_true rfl), (Nat.le_of_ble_eq_true rfl)⟩) (tq_recvC hK hW (by decide) (tq_mk_1 (by decide)) rfl) hK hG hW hS rfl hl.1 rfl (Nat.le_of_ble_eq_true rfl) dX11_sendShip_92 hN (fun r22 N20 S21 H locs h hN hW hS => ?_)
            refine lv_astore (lv' := [(6, .ref (ad 9 r22)), (5, .ref (ad 8 (tq_el S 19 20 0 x4))), (0, .ref (ad 1 0)), (1, .ref (ad 10 x1)), (2, .ref (ad 2 x2)), (3, .int x3), (4, .int x4)]) hx hb dX11_sendShip_95 hl (by decide) rfl (fun ls hl => ?_)
            refine lv_aload_n hx hb dX11_sendShip_97 rfl (lv_at hl 2 rfl) ?_
            refine lv_aload hx hb dX11_sendShip_98 (lv_at hl 0 rfl) ?_
            refine lv_aload hx hb dX11_sendShip_100 (lv_at hl 1 rfl) ?_
            refine lv_aload_n hx hb dX11_sendShip_102 rfl (lv_at hl 4 rfl) ?_
            refine tqb_callVv (As := [.ref (ad 9 r22), .ref (ad 8 (tq_el S 19 20 0 x4)), .ref (ad 2 x2)]) (rest := []) (kX11_writeInvoice h) ⟨hx, hb, hml, hown, hts⟩ (cwV 3 hts (tq_goodV tw_1176 tw_1178 tw_44 tw_115 tw_1179) rfl rfl rfl (by decide +kernel) ⟨(Nat.le_of_ble_eq_true rfl), (Nat.le_of_ble_eq_true rfl)⟩) (tq_recvC hK hW (by decide) (tq_mk_1 (by decide)) rfl) hK hG hW hS rfl hl.1 rfl (Nat.le_of_ble_eq_true rfl) dX11_sendShip_103 hN (fun  N23 S24 H locs h hN hW hS => ?_)
            refine lv_aload_n hx hb dX11_sendShip_106 rfl (lv_at hl 2 rfl) ?_
            refine lv_aload_n hx hb dX11_sendShip_107 rfl (lv_at hl 3 rfl) ?_
            refine lv_aload_n hx hb dX11_sendShip_108 rfl (lv_at hl 4 rfl) ?_
            refine lv_aload hx hb dX11_sendShip_109 (lv_at hl 0 rfl) ?_
            obtain ⟨b25, h⟩ := h
            refine tqc_get (v := .int (S24 9 r22 0)) hx hb hw tq_inX10 hown hK hW (by decide) (tq_mk_9 b25) rfl 0 (by decide) (hw _ tw_987) (fun _ h9 => h9) rfl dX11_sendShip_111 ?_
            refine lv_iconst (v := 0) hx hb dX11_sendShip_114 (by decide) ?_
            refine tqc_callVv (As := [.ref (ad 10 x1), .ref (ad 2 x2), .int (S24 9 r22 0), .int 0]) (rest := []) (kX11_enterFor h) ⟨hx, hb, hml, hown, hts⟩ (cwV 4 hts (tq_goodV tw_1149 tw_1151 tw_38 tw_115 tw_1152) rfl rfl rfl (by decide +kernel) ⟨(Nat.le_of_ble_eq_true rfl), (Nat.le_of_ble_eq_true rfl)⟩) (tq_recvC hK hW (by decide) (tq_mk_1 (by decide)) rfl) hK hG hW hS rfl hl.1 rfl (Nat.le_of_ble_eq_true rfl) dX11_sendShip_115 hN.f (fun S26 H locs h hW hS => ?_)
            exact bX11_sendShip_118 C  _ _  _ _ _ h hN hW hS (lv_sub hl [] rfl)
set_option maxHeartbeats 4000000 in
set_option maxRecDepth 100000 in
theorem kX11_sendShip {post : tq_Nn → tq_St → Prop} {N : tq_Nn} {S : tq_St} {sz sl : Nat} {p0 : Nat} {p1 : Nat} (h : wpX11_sendShip post N S p0 p1) : tq_bV l yX11_sendShip (tq_ws yX11_sendShip cX11_sendShip 7 none) 8 267 D cy z A0 H0 ad N M S sz sl [.ref (ad 1 0), .ref (ad 10 p0), .ref (ad 2 p1)] post := by
  unfold wpX11_sendShip at h
  refine Met.ofW (cc := cX11_sendShip) (maxL := 7) (ret := none) (by decide) rfl ?_
  intro p e s m args below meth c s₁ B hml hv
  obtain ⟨rfl, ⟨hW, hK, hG⟩, rfl, rfl, hN1, hN2, hN3, hN4⟩ := hv
  have hN : tq_nb z A0 s N := ⟨hN1, hN2, hN3, hN4⟩
  have hx := B.exec
  have hb := B.bytes
  have hr := B.returns
  have hts := atoms_spec (ws := (tq_ws yX11_sendShip cX11_sendShip 7 none)) B.pre
  have hw : ∀ w ∈ tq_W, w.before _ s = true := fun w h => hts w (List.mem_cons_of_mem _ h)
  have hown : s.vm.findClass RX11 = some m.cls := findClass_of_methodNamed B.named
  have hlocks := B.notSynchronized
  have C : tq_At p s m meth c [.ref (ad 1 0), .ref (ad 10 p0), .ref (ad 2 p1)].toArray cX11_sendShip 7 (none) ((tq_ws yX11_sendShip cX11_sendShip 7 none)) RX11 D cy z ad := ⟨hx, hb, hr, hml, hown, hts, hlocks, hK, hG⟩
  have hS : va_S (fun q => z ≤ q) s.heap s.heap [] := va_S.rf
  have hl := lv_entry ([.ref (ad 1 0), .ref (ad 10 p0), .ref (ad 2 p1)]) (n := 7) (Nat.le_of_ble_eq_true rfl)
  rw [lg_entry_eq]
  generalize (lg_sl ([.ref (ad 1 0), .ref (ad 10 p0), .ref (ad 2 p1)]) ++ List.replicate (7 - (lg_sl ([.ref (ad 1 0), .ref (ad 10 p0), .ref (ad 2 p1)])).length) Slot.unset).toArray = ls at hl ⊢
  have hl : lv_has ls 7 [(0, .ref (ad 1 0)), (1, .ref (ad 10 p0)), (2, .ref (ad 2 p1))] := hl
  have hW : tq_wd D cy z H0 ad N (tq_mix S M) s.heap := hW
  refine tq_tight (c1 := z + N 0 0 - s.heap.size) (n1 := A0 + N 0 1 - tq_all s.heap) (by omega) (by omega) ?_
  refine lv_aload_n hx hb dX11_sendShip_0 rfl (lv_at hl 1 rfl) ?_
  obtain ⟨b1, h⟩ := h
  refine tqc_get (v := .int (S 10 p0 4)) hx hb hw tq_inX4 hown hK hW (by decide) (tq_mk_10 b1) rfl 4 (by decide) (hw _ tw_671) (fun _ h9 => h9) rfl dX11_sendShip_1 ?_
  refine lv_iconst (v := 1) hx hb dX11_sendShip_4 (by decide) ?_
  refine va_mmax hx hb (hml.trans hl.1.symm) hown (hw _ tw_1108) (hw _ tw_660) (hw _ tw_132) (hw _ tw_661) (Nat.le_of_ble_eq_true rfl) (Nat.le_of_ble_eq_true rfl) (hN.f).1 (hN.f).2 dX11_sendShip_5 ?_
  refine lv_istore_n (lv' := [(3, .int (if (S 10 p0 4) < 1 then 1 else (S 10 p0 4))), (0, .ref (ad 1 0)), (1, .ref (ad 10 p0)), (2, .ref (ad 2 p1))]) hx hb dX11_sendShip_8 rfl hl (by decide) rfl (fun ls hl => ?_)
  refine lv_iconst (v := 0) hx hb dX11_sendShip_9 (by decide) ?_
  refine lv_istore (lv' := [(4, .int 0), (3, .int (if (S 10 p0 4) < 1 then 1 else (S 10 p0 4))), (0, .ref (ad 1 0)), (1, .ref (ad 10 p0)), (2, .ref (ad 2 p1))]) hx hb dX11_sendShip_10 hl (by decide) rfl (fun ls hl => ?_)
  obtain ⟨nq, h⟩ := h
  exact bX11_sendShip_12 C  nq _ _ _ _ _ _ _ _ _ h hN hW hS (lv_sub hl [2, 3, 4, 1, 0] rfl)
-- X11 carryOut
def wbX11_carryOut_93 (post : tq_Nn → tq_St → Prop)  (N : tq_Nn) (S : tq_St) : Prop :=
  post N S
def wpX11_carryOut (post : tq_Nn → tq_St → Prop) (N : tq_Nn) (S : tq_St) (p0 : Nat) (p1 : Nat) : Prop :=
  N 10 p0 = 1 ∧ (((S 10 p0 2) = 0 → (wpX11_buyBales N (fun S3 => wbX11_carryOut_93 post N S3 ) S p0 p1)) ∧ (¬ (S 10 p0 2) = 0 → (((S 10 p0 2) = 1 → (wpX11_giveAdvance N (fun S5 => wbX11_carryOut_93 post N S5 ) S p0 p1)) ∧ (¬ (S 10 p0 2) = 1 → (((S 10 p0 2) = 2 → (wpX11_ladeShip N (fun S7 => wbX11_carryOut_93 post N S7 ) S p0 p1)) ∧ (¬ (S 10 p0 2) = 2 → (((S 10 p0 2) = 3 → (wpX11_sendShip (fun N9 S10  => wbX11_carryOut_93 post N9 S10 ) N S p0 p1)) ∧ (¬ (S 10 p0 2) = 3 → (((S 10 p0 2) = 4 → (wpX11_drawBill (fun N12 S13  => wbX11_carryOut_93 post N12 S13 ) N S p0 p1)) ∧ (¬ (S 10 p0 2) = 4 → (p1 < 5 ∧ (∀ S15, S15 = tq_up S 2 p1 8 (S 10 p0 4) → (wbX11_carryOut_93 post N S15 )))))))))))))
set_option maxHeartbeats 4000000 in
set_option maxRecDepth 100000 in
theorem bX11_carryOut_93 {p : Program} {e : Env} {s : State} {m : MethodId} {args : Array Value} {below : List Frame} {meth : Method} {c : Code} {post : tq_Nn → tq_St → Prop} (C : tq_At p s m meth c args cX11_carryOut 3 (none) ((tq_ws yX11_carryOut cX11_carryOut 3 none)) RX11 D cy z ad)  : ∀ (N : tq_Nn) (S : tq_St)  (H : Heap) (locs : List Loc) (ls : Array Slot), wbX11_carryOut_93 post  N S  → tq_nb z A0 s N → tq_wd D cy z H0 ad N (tq_mix S M) H → va_S (fun q => z ≤ q) s.heap H locs → lv_has ls 3 [] → tq_Wb p l e 9 293 s m args below meth c z A0 N H locs (MQ below (va_Qv (fun (u : tq_Nn × tq_St) => post u.1 u.2) (tq_PB D cy z A0 H0 ad M) (fun q => z ≤ q)) args s (z + tq_CX - s.heap.size) (A0 + tq_CY - tq_all s.heap) (fun q => z ≤ q)) (F0 m 93 ls []) := by
  obtain ⟨hx, hb, hr, hml, hown, hts, hlocks, hK, hG⟩ := id C
  have hw : ∀ w ∈ tq_W, w.before args s = true := fun w h => hts w (List.mem_cons_of_mem _ h)
  intro N S  H locs ls h hN hW hS hl
  unfold wbX11_carryOut_93 at h
  exact tqb_vret hx hb hr hN h hW hS dX11_carryOut_93 hlocks
set_option maxHeartbeats 4000000 in
set_option maxRecDepth 100000 in
theorem kX11_carryOut {post : tq_Nn → tq_St → Prop} {N : tq_Nn} {S : tq_St} {sz sl : Nat} {p0 : Nat} {p1 : Nat} (h : wpX11_carryOut post N S p0 p1) : tq_bV l yX11_carryOut (tq_ws yX11_carryOut cX11_carryOut 3 none) 9 293 D cy z A0 H0 ad N M S sz sl [.ref (ad 1 0), .ref (ad 10 p0), .ref (ad 2 p1)] post := by
  unfold wpX11_carryOut at h
  refine Met.ofW (cc := cX11_carryOut) (maxL := 3) (ret := none) (by decide) rfl ?_
  intro p e s m args below meth c s₁ B hml hv
  obtain ⟨rfl, ⟨hW, hK, hG⟩, rfl, rfl, hN1, hN2, hN3, hN4⟩ := hv
  have hN : tq_nb z A0 s N := ⟨hN1, hN2, hN3, hN4⟩
  have hx := B.exec
  have hb := B.bytes
  have hr := B.returns
  have hts := atoms_spec (ws := (tq_ws yX11_carryOut cX11_carryOut 3 none)) B.pre
  have hw : ∀ w ∈ tq_W, w.before _ s = true := fun w h => hts w (List.mem_cons_of_mem _ h)
  have hown : s.vm.findClass RX11 = some m.cls := findClass_of_methodNamed B.named
  have hlocks := B.notSynchronized
  have C : tq_At p s m meth c [.ref (ad 1 0), .ref (ad 10 p0), .ref (ad 2 p1)].toArray cX11_carryOut 3 (none) ((tq_ws yX11_carryOut cX11_carryOut 3 none)) RX11 D cy z ad := ⟨hx, hb, hr, hml, hown, hts, hlocks, hK, hG⟩
  have hS : va_S (fun q => z ≤ q) s.heap s.heap [] := va_S.rf
  have hl := lv_entry ([.ref (ad 1 0), .ref (ad 10 p0), .ref (ad 2 p1)]) (n := 3) (Nat.le_of_ble_eq_true rfl)
  rw [lg_entry_eq]
  generalize (lg_sl ([.ref (ad 1 0), .ref (ad 10 p0), .ref (ad 2 p1)]) ++ List.replicate (3 - (lg_sl ([.ref (ad 1 0), .ref (ad 10 p0), .ref (ad 2 p1)])).length) Slot.unset).toArray = ls at hl ⊢
  have hl : lv_has ls 3 [(0, .ref (ad 1 0)), (1, .ref (ad 10 p0)), (2, .ref (ad 2 p1))] := hl
  have hW : tq_wd D cy z H0 ad N (tq_mix S M) s.heap := hW
  refine tq_tight (c1 := z + N 0 0 - s.heap.size) (n1 := A0 + N 0 1 - tq_all s.heap) (by omega) (by omega) ?_
  refine lv_aload_n hx hb dX11_carryOut_0 rfl (lv_at hl 1 rfl) ?_
  obtain ⟨b1, h⟩ := h
  refine tqc_get (v := .int (S 10 p0 2)) hx hb hw tq_inX4 hown hK hW (by decide) (tq_mk_10 b1) rfl 2 (by decide) (hw _ tw_667) (fun _ h9 => h9) rfl dX11_carryOut_1 ?_
  by_cases c2 : (S 10 p0 2) = 0
  · have h := h.1 c2
    refine W.eq (g2 := F0 m 4 ls (.int 0 :: [])) (by rw [c2]) ?_
    refine lv_tableIn (tgt := 40) hx hb dX11_carryOut_4 (by decide) (by decide) rfl (by decide) ?_
    refine lv_aload_n hx hb dX11_carryOut_40 rfl (lv_at hl 0 rfl) ?_
    refine lv_aload_n hx hb dX11_carryOut_41 rfl (lv_at hl 1 rfl) ?_
    refine lv_aload_n hx hb dX11_carryOut_42 rfl (lv_at hl 2 rfl) ?_
    refine tqc_callVv (As := [.ref (ad 10 p0), .ref (ad 2 p1)]) (rest := []) (kX11_buyBales h) ⟨hx, hb, hml, hown, hts⟩ (cwV 2 hts (tq_goodV tw_1140 tw_1142 tw_37 tw_115 tw_1143) rfl rfl rfl (by decide +kernel) ⟨(Nat.le_of_ble_eq_true rfl), (Nat.le_of_ble_eq_true rfl)⟩) (tq_recvC hK hW (by decide) (tq_mk_1 (by decide)) rfl) hK hG hW hS rfl hl.1 rfl (Nat.le_of_ble_eq_true rfl) dX11_carryOut_43 hN.f (fun S3 H locs h hW hS => ?_)
    refine lv_goto (tgt := 93) hx hb dX11_carryOut_46 (by decide) ?_
    exact bX11_carryOut_93 C  _ _  _ _ _ h hN hW hS (lv_sub hl [] rfl)
  · have h := h.2 c2
    by_cases c4 : (S 10 p0 2) = 1
    · have h := h.1 c4
      refine W.eq (g2 := F0 m 4 ls (.int 1 :: [])) (by rw [c4]) ?_
      refine lv_tableIn (tgt := 49) hx hb dX11_carryOut_4 (by decide) (by decide) rfl (by decide) ?_
      refine lv_aload_n hx hb dX11_carryOut_49 rfl (lv_at hl 0 rfl) ?_
      refine lv_aload_n hx hb dX11_carryOut_50 rfl (lv_at hl 1 rfl) ?_
      refine lv_aload_n hx hb dX11_carryOut_51 rfl (lv_at hl 2 rfl) ?_
      refine tqc_callVv (As := [.ref (ad 10 p0), .ref (ad 2 p1)]) (rest := []) (kX11_giveAdvance h) ⟨hx, hb, hml, hown, hts⟩ (cwV 2 hts (tq_goodV tw_1157 tw_1159 tw_40 tw_115 tw_1160) rfl rfl rfl (by decide +kernel) ⟨(Nat.le_of_ble_eq_true rfl), (Nat.le_of_ble_eq_true rfl)⟩) (tq_recvC hK hW (by decide) (tq_mk_1 (by decide)) rfl) hK hG hW hS rfl hl.1 rfl (Nat.le_of_ble_eq_true rfl) dX11_carryOut_52 hN.f (fun S5 H locs h hW hS => ?_)
      refine lv_goto (tgt := 93) hx hb dX11_carryOut_55 (by decide) ?_
      exact bX11_carryOut_93 C  _ _  _ _ _ h hN hW hS (lv_sub hl [] rfl)
    · have h := h.2 c4
      by_cases c6 : (S 10 p0 2) = 2
      · have h := h.1 c6
        refine W.eq (g2 := F0 m 4 ls (.int 2 :: [])) (by rw [c6]) ?_
        refine lv_tableIn (tgt := 58) hx hb dX11_carryOut_4 (by decide) (by decide) rfl (by decide) ?_
        refine lv_aload_n hx hb dX11_carryOut_58 rfl (lv_at hl 0 rfl) ?_
        refine lv_aload_n hx hb dX11_carryOut_59 rfl (lv_at hl 1 rfl) ?_
        refine lv_aload_n hx hb dX11_carryOut_60 rfl (lv_at hl 2 rfl) ?_
        refine tqc_callVv (As := [.ref (ad 10 p0), .ref (ad 2 p1)]) (rest := []) (kX11_ladeShip h) ⟨hx, hb, hml, hown, hts⟩ (cwV 2 hts (tq_goodV tw_1163 tw_1165 tw_41 tw_115 tw_1166) rfl rfl rfl (by decide +kernel) ⟨(Nat.le_of_ble_eq_true rfl), (Nat.le_of_ble_eq_true rfl)⟩) (tq_recvC hK hW (by decide) (tq_mk_1 (by decide)) rfl) hK hG hW hS rfl hl.1 rfl (Nat.le_of_ble_eq_true rfl) dX11_carryOut_61 hN.f (fun S7 H locs h hW hS => ?_)
        refine lv_goto (tgt := 93) hx hb dX11_carryOut_64 (by decide) ?_
        exact bX11_carryOut_93 C  _ _  _ _ _ h hN hW hS (lv_sub hl [] rfl)
      · have h := h.2 c6
        by_cases c8 : (S 10 p0 2) = 3
        · have h := h.1 c8
          refine W.eq (g2 := F0 m 4 ls (.int 3 :: [])) (by rw [c8]) ?_
          refine lv_tableIn (tgt := 67) hx hb dX11_carryOut_4 (by decide) (by decide) rfl (by decide) ?_
          refine lv_aload_n hx hb dX11_carryOut_67 rfl (lv_at hl 0 rfl) ?_
          refine lv_aload_n hx hb dX11_carryOut_68 rfl (lv_at hl 1 rfl) ?_
          refine lv_aload_n hx hb dX11_carryOut_69 rfl (lv_at hl 2 rfl) ?_
          refine tqb_callVv (As := [.ref (ad 10 p0), .ref (ad 2 p1)]) (rest := []) (kX11_sendShip h) ⟨hx, hb, hml, hown, hts⟩ (cwV 2 hts (tq_goodV tw_1168 tw_1170 tw_42 tw_115 tw_1171) rfl rfl rfl (by decide +kernel) ⟨(Nat.le_of_ble_eq_true rfl), (Nat.le_of_ble_eq_true rfl)⟩) (tq_recvC hK hW (by decide) (tq_mk_1 (by decide)) rfl) hK hG hW hS rfl hl.1 rfl (Nat.le_of_ble_eq_true rfl) dX11_carryOut_70 hN (fun  N9 S10 H locs h hN hW hS => ?_)
          refine lv_goto (tgt := 93) hx hb dX11_carryOut_73 (by decide) ?_
          exact bX11_carryOut_93 C  _ _  _ _ _ h hN hW hS (lv_sub hl [] rfl)
        · have h := h.2 c8
          by_cases c11 : (S 10 p0 2) = 4
          · have h := h.1 c11
            refine W.eq (g2 := F0 m 4 ls (.int 4 :: [])) (by rw [c11]) ?_
            refine lv_tableIn (tgt := 76) hx hb dX11_carryOut_4 (by decide) (by decide) rfl (by decide) ?_
            refine lv_aload_n hx hb dX11_carryOut_76 rfl (lv_at hl 0 rfl) ?_
            refine lv_aload_n hx hb dX11_carryOut_77 rfl (lv_at hl 1 rfl) ?_
            refine lv_aload_n hx hb dX11_carryOut_78 rfl (lv_at hl 2 rfl) ?_
            refine tqb_callVv (As := [.ref (ad 10 p0), .ref (ad 2 p1)]) (rest := []) (kX11_drawBill h) ⟨hx, hb, hml, hown, hts⟩ (cwV 2 hts (tq_goodV tw_1180 tw_1182 tw_45 tw_115 tw_1183) rfl rfl rfl (by decide +kernel) ⟨(Nat.le_of_ble_eq_true rfl), (Nat.le_of_ble_eq_true rfl)⟩) (tq_recvC hK hW (by decide) (tq_mk_1 (by decide)) rfl) hK hG hW hS rfl hl.1 rfl (Nat.le_of_ble_eq_true rfl) dX11_carryOut_79 hN (fun  N12 S13 H locs h hN hW hS => ?_)
            refine lv_goto (tgt := 93) hx hb dX11_carryOut_82 (by decide) ?_
            exact bX11_carryOut_93 C  _ _  _ _ _ h hN hW hS (lv_sub hl [] rfl)
          · have h := h.2 c11
            refine lv_tableOut (tgt := 85) hx hb dX11_carryOut_4 (tq_out5 c2 c4 c6 c8 c11) (by decide) ?_
            refine lv_aload_n hx hb dX11_carryOut_85 rfl (lv_at hl 2 rfl) ?_
            refine lv_aload_n hx hb dX11_carryOut_86 rfl (lv_at hl 1 rfl) ?_
            refine tqc_get (v := .int (S 10 p0 4)) hx hb hw tq_inX4 hown hK hW (by decide) (tq_mk_10 b1) rfl 4 (by decide) (hw _ tw_671) (fun _ h9 => h9) rfl dX11_carryOut_87 ?_
            obtain ⟨b14, h⟩ := h
            refine tqc_put hx hb hw tq_inX5 tyX5 tyX5_ok nmX5 hown hK hW hS (by decide) (tq_mk_2 b14) rfl 8 (by decide) (hw _ tw_268) (fun _ h9 => h9) rfl rfl rfl rfl (tq_mk_2 b14) dX11_carryOut_90 (fun H locs hW hS => ?_)
            generalize eS15 : tq_up S 2 p1 8 (S 10 p0 4) = S15 at hW
            have h := h S15 eS15.symm
            exact bX11_carryOut_93 C  _ _  _ _ _ h hN hW hS (lv_sub hl [] rfl)
