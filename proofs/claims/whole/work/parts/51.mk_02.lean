variable {l : Launch} {D : va_G} {cy : Nat → ClassId} {z A0 : Nat} {H0 : Heap} {ad : Nat → Nat → Nat} {M : tq_St}
-- X6 readParagraph
def wbX6_readParagraph_93 (post : tq_Nn → tq_St → Prop)  (N : tq_Nn) (S : tq_St) : Prop :=
  post N S
def wbX6_readParagraph_76 (post : tq_Nn → tq_St → Prop)  (N : tq_Nn) (S : tq_St) (x1 : Nat) (x5 : Nat) : Prop :=
  (0 ≤ (S 3 0 3) → (wbX6_readParagraph_93 post N S )) ∧ (¬ 0 ≤ (S 3 0 3) → (N 7 x1 = 1 ∧ (N 52 x1 = 1 ∧ tq_aok N S 52 53 10 x1 x5 ∧ (∀ N29 S30, tq_added N S 52 53 x1 x5 N29 S30 → (wbX6_readParagraph_93 post N29 S30 )))))
def wbX6_readParagraph_34 (post : tq_Nn → tq_St → Prop)  (N : tq_Nn) (S : tq_St) (x1 : Nat) (x2 : Int32) (x3 : Int32) (x4 : Int32) : Prop :=
  N 0 0 + 1 ≤ tq_CX ∧ N 0 1 + 7 ≤ tq_CY ∧ (∀ i11, ¬ i11 < 1 → i11 ≤ N 0 0 → tq_fr N i11 → ∀ N12, N12 = tq_na N (i11 + 1) 1 i11 5 7 → ∀ S13, S13 = tq_cp S 1 i11 (fun _ => 0) → (N12 7 x1 = 1 ∧ (wpX6_readNumber N12 (fun S16 r17 => wpX4_init (fun N18 S19 => wpX6_takes N18 (fun S20 r21 => (r21 = 0 → (wbX6_readParagraph_76 post N18 S20 x1 i11)) ∧ (¬ r21 = 0 → (wpX6_expect N18 (fun S23 => wpX6_readTests (fun N24 S25  => wbX6_readParagraph_76 post N24 S25 x1 i11) N18 S23 i11) S20 1))) S19 32) N12 S16 i11 (S13 7 x1 0) x2 x3 x4 r17) S13 )))
def wbX6_readParagraph_22 (post : tq_Nn → tq_St → Prop)  (N : tq_Nn) (S : tq_St) (x1 : Nat) (x2 : Int32) (x3 : Int32) : Prop :=
  wpX6_readSort N (fun S6 r7 => wpX6_expect N (fun S8 => wbX6_readParagraph_34 post N S8 x1 x2 x3 r7) S6 0) S 
def wpX6_readParagraph (post : tq_Nn → tq_St → Prop) (N : tq_Nn) (S : tq_St) (p0 : Nat) (p1 : Int32) : Prop :=
  wpX6_readAct N (fun S1 r2 => (r2 = 0 → (wbX6_readParagraph_22 post N S1 p0 p1 r2)) ∧ (¬ r2 = 0 → ((r2 = 1 → (wbX6_readParagraph_22 post N S1 p0 p1 r2)) ∧ (¬ r2 = 1 → ((¬ r2 = 2 → (wbX6_readParagraph_34 post N S1 p0 p1 r2 ((-1)))) ∧ (r2 = 2 → (wbX6_readParagraph_22 post N S1 p0 p1 r2))))))) S 
set_option maxHeartbeats 4000000 in
set_option maxRecDepth 100000 in
theorem bX6_readParagraph_93 {p : Program} {e : Env} {s : State} {m : MethodId} {args : Array Value} {below : List Frame} {meth : Method} {c : Code} {post : tq_Nn → tq_St → Prop} (C : tq_At p s m meth c args cX6_readParagraph 6 (none) ((tq_ws yX6_readParagraph cX6_readParagraph 6 none)) RX6 D cy z ad)  : ∀ (N : tq_Nn) (S : tq_St)  (H : Heap) (locs : List Loc) (ls : Array Slot), wbX6_readParagraph_93 post  N S  → tq_nb z A0 s N → tq_wd D cy z H0 ad N (tq_mix S M) H → va_S (fun q => z ≤ q) s.heap H locs → lv_has ls 6 [] → tq_Wb p l e 8 264 s m args below meth c z A0 N H locs (MQ below (va_Qv (fun (u : tq_Nn × tq_St) => post u.1 u.2) (tq_PB D cy z A0 H0 ad M) (fun q => z ≤ q)) args s (z + tq_CX - s.heap.size) (A0 + tq_CY - tq_all s.heap) (fun q => z ≤ q)) (F0 m 93 ls []) := by
  obtain ⟨hx, hb, hr, hml, hown, hts, hlocks, hK, hG⟩ := id C
  have hw : ∀ w ∈ tq_W, w.before args s = true := fun w h => hts w (List.mem_cons_of_mem _ h)
  intro N S  H locs ls h hN hW hS hl
  unfold wbX6_readParagraph_93 at h
  exact tqb_vret hx hb hr hN h hW hS dX6_readParagraph_93 hlocks
set_option maxHeartbeats 4000000 in
set_option maxRecDepth 100000 in
theorem bX6_readParagraph_76 {p : Program} {e : Env} {s : State} {m : MethodId} {args : Array Value} {below : List Frame} {meth : Method} {c : Code} {post : tq_Nn → tq_St → Prop} (C : tq_At p s m meth c args cX6_readParagraph 6 (none) ((tq_ws yX6_readParagraph cX6_readParagraph 6 none)) RX6 D cy z ad)  : ∀ (N : tq_Nn) (S : tq_St) (x1 : Nat) (x5 : Nat) (H : Heap) (locs : List Loc) (ls : Array Slot), wbX6_readParagraph_76 post  N S x1 x5 → tq_nb z A0 s N → tq_wd D cy z H0 ad N (tq_mix S M) H → va_S (fun q => z ≤ q) s.heap H locs → lv_has ls 6 [(0, .ref (ad 3 0)), (1, .ref (ad 7 x1)), (5, .ref (ad 10 x5))] → tq_Wb p l e 8 264 s m args below meth c z A0 N H locs (MQ below (va_Qv (fun (u : tq_Nn × tq_St) => post u.1 u.2) (tq_PB D cy z A0 H0 ad M) (fun q => z ≤ q)) args s (z + tq_CX - s.heap.size) (A0 + tq_CY - tq_all s.heap) (fun q => z ≤ q)) (F0 m 76 ls []) := by
  obtain ⟨hx, hb, hr, hml, hown, hts, hlocks, hK, hG⟩ := id C
  have hw : ∀ w ∈ tq_W, w.before args s = true := fun w h => hts w (List.mem_cons_of_mem _ h)
  intro N S x1 x5 H locs ls h hN hW hS hl
  unfold wbX6_readParagraph_76 at h
  refine lv_aload_n hx hb dX6_readParagraph_76 rfl (lv_at hl 0 rfl) ?_
  refine tqc_get (v := .int (S 3 0 3)) hx hb hw tq_inX6 hown hK hW (by decide) (tq_mk_3 (by decide)) rfl 3 (by decide) (hw _ tw_188) (fun _ h9 => h9) rfl dX6_readParagraph_77 ?_
  refine lv_if_ge (tgt := 93) hx hb dX6_readParagraph_80 (by decide) (fun c26 => ?_) (fun c26 => ?_)
  · have h := h.1 c26
    exact bX6_readParagraph_93 C  _ _  _ _ _ h hN hW hS (lv_sub hl [] rfl)
  · have h := h.2 c26
    refine lv_aload_n hx hb dX6_readParagraph_83 rfl (lv_at hl 1 rfl) ?_
    obtain ⟨b27, h⟩ := h
    refine tqc_get7 (v := .ref (ad 52 x1)) hx hb hw tq_inX3 tq_inX1 hown hK hW b27 7 (by decide) (hw _ tw_531) (fun _ h9 => h9) rfl dX6_readParagraph_84 ?_
    refine lv_aload hx hb dX6_readParagraph_87 (lv_at hl 2 rfl) ?_
    obtain ⟨b28, h⟩ := h
    obtain ⟨b32, h⟩ := h
    refine tqb_callVi (C := RJx4a65c) (As := [.ref (ad 10 x5)]) (rest := []) (kJl_add (post := fun N1 S1 r => r = 1 ∧ tq_added N S 52 53 x1 x5 N1 S1) (tq_LK_52 hG.adr b28) b32 (fun N1 S1 q => ⟨rfl, q⟩)) ⟨hx, hb, hml, hown, hts⟩ (cwV 1 hts (tq_goodV tw_745 tw_746 tw_747 tw_118 tw_748) rfl rfl rfl (by decide +kernel) ⟨(Nat.le_of_ble_eq_true rfl), (Nat.le_of_ble_eq_true rfl)⟩) (tq_recvL hK hW (by decide) (tq_mk_52 b28)) hK hG hW hS rfl hl.1 rfl (Nat.le_of_ble_eq_true rfl) dX6_readParagraph_89 hN (fun r31 N29 S30 H locs q9 hN hW hS => ?_)
    rw [q9.1]
    have h := h N29 S30 q9.2
    refine lv_pop hx hb dX6_readParagraph_92 rfl ?_
    exact bX6_readParagraph_93 C  _ _  _ _ _ h hN hW hS (lv_sub hl [] rfl)
set_option maxHeartbeats 4000000 in
set_option maxRecDepth 100000 in
theorem bX6_readParagraph_34 {p : Program} {e : Env} {s : State} {m : MethodId} {args : Array Value} {below : List Frame} {meth : Method} {c : Code} {post : tq_Nn → tq_St → Prop} (C : tq_At p s m meth c args cX6_readParagraph 6 (none) ((tq_ws yX6_readParagraph cX6_readParagraph 6 none)) RX6 D cy z ad)  : ∀ (N : tq_Nn) (S : tq_St) (x1 : Nat) (x2 : Int32) (x3 : Int32) (x4 : Int32) (H : Heap) (locs : List Loc) (ls : Array Slot), wbX6_readParagraph_34 post  N S x1 x2 x3 x4 → tq_nb z A0 s N → tq_wd D cy z H0 ad N (tq_mix S M) H → va_S (fun q => z ≤ q) s.heap H locs → lv_has ls 6 [(0, .ref (ad 3 0)), (1, .ref (ad 7 x1)), (2, .int x2), (3, .int x3), (4, .int x4)] → tq_Wb p l e 8 264 s m args below meth c z A0 N H locs (MQ below (va_Qv (fun (u : tq_Nn × tq_St) => post u.1 u.2) (tq_PB D cy z A0 H0 ad M) (fun q => z ≤ q)) args s (z + tq_CX - s.heap.size) (A0 + tq_CY - tq_all s.heap) (fun q => z ≤ q)) (F0 m 34 ls []) := by
  obtain ⟨hx, hb, hr, hml, hown, hts, hlocks, hK, hG⟩ := id C
  have hw : ∀ w ∈ tq_W, w.before args s = true := fun w h => hts w (List.mem_cons_of_mem _ h)
  intro N S x1 x2 x3 x4 H locs ls h hN hW hS hl
  unfold wbX6_readParagraph_34 at h
  obtain ⟨b9, b10, h⟩ := h
  refine tqw_new (ci := 5) (t := 5) (fs := [.int 0, .int 0, .int 0, .int 0, .int 0, .int 0, .null]) hx hb hw tq_inX4 tyX4 tyX4_ok hown (hw _ tw_643) (hw _ tw_644) (hw _ tw_131) hK hG hW hS hN rfl (by decide) (fun _ => rfl) b9 b10 dX6_readParagraph_34 (fun i11 H hz9 hi14 hi2 hfr hN hW hS => ?_)
  generalize eN12 : tq_na N (i11 + 1) 1 i11 5 7 = N12 at hN hW ⊢
  generalize eS13 : tq_cp S 1 i11 (fun _ => 0) = S13 at hW
  have h := h i11 hi14 hi2 hfr N12 eN12.symm S13 eS13.symm
  refine lv_dup hx hb dX6_readParagraph_37 rfl ?_
  refine lv_aload_n hx hb dX6_readParagraph_38 rfl (lv_at hl 1 rfl) ?_
  obtain ⟨b15, h⟩ := h
  refine tqc_get7 (v := .int (S13 7 x1 0)) hx hb hw tq_inX3 tq_inX1 hown hK hW b15 0 (by decide) (hw _ tw_506) (fun _ h9 => h9) rfl dX6_readParagraph_39 ?_
  refine lv_iload_n hx hb dX6_readParagraph_42 rfl (lv_at hl 2 rfl) ?_
  refine lv_iload_n hx hb dX6_readParagraph_43 rfl (lv_at hl 3 rfl) ?_
  refine lv_iload hx hb dX6_readParagraph_44 (lv_at hl 4 rfl) ?_
  refine lv_aload_n hx hb dX6_readParagraph_46 rfl (lv_at hl 0 rfl) ?_
  refine tqc_callVi (As := []) (rest := [.int x4, .int x3, .int x2, .int (S13 7 x1 0), .ref (ad 1 i11), .ref (ad 1 i11)]) (kX6_readNumber h) ⟨hx, hb, hml, hown, hts⟩ (cwV 0 hts (tq_goodV tw_645 tw_647 tw_8 tw_119 tw_648) rfl rfl rfl (by decide +kernel) ⟨(Nat.le_of_ble_eq_true rfl), (Nat.le_of_ble_eq_true rfl)⟩) (tq_recvC hK hW (by decide) (tq_mk_3 (by decide)) rfl) hK hG hW hS rfl hl.1 rfl (Nat.le_of_ble_eq_true rfl) dX6_readParagraph_47 hN.f (fun r17 S16 H locs h hW hS => ?_)
  refine tqb_callIv (As := [.int (S13 7 x1 0), .int x2, .int x3, .int x4, .int r17]) (rest := [.ref (ad 1 i11)]) (kX4_init h) ⟨hx, hb, hml, hown, hts⟩ (cwI 5 hts (tq_goodO tw_655) rfl rfl rfl (hw _ tw_131) (hw _ tw_653) (hw _ tw_654) rfl (by decide +kernel) ⟨(Nat.le_of_ble_eq_true rfl), (Nat.le_of_ble_eq_true rfl)⟩) hK hG hW hS rfl hl.1 rfl (Nat.le_of_ble_eq_true rfl) dX6_readParagraph_50 hN (fun N18 S19 H locs h hN hW hS => ?_)
  refine W.eq (g2 := F0 m 53 ls [.ref (ad 10 i11)]) (by rw [tq_ad1_10 hG.adr hi14]) ?_
  refine lv_astore (lv' := [(5, .ref (ad 10 i11)), (0, .ref (ad 3 0)), (1, .ref (ad 7 x1)), (2, .int x2), (3, .int x3), (4, .int x4)]) hx hb dX6_readParagraph_53 hl (by decide) rfl (fun ls hl => ?_)
  refine lv_aload_n hx hb dX6_readParagraph_55 rfl (lv_at hl 1 rfl) ?_
  refine lv_bipush (v := 32) hx hb dX6_readParagraph_56 (by decide) ?_
  refine tqc_callVi (As := [.int 32]) (rest := []) (kX6_takes h) ⟨hx, hb, hml, hown, hts⟩ (cwV 1 hts (tq_goodV tw_572 tw_574 tw_4 tw_119 tw_575) rfl rfl rfl (by decide +kernel) ⟨(Nat.le_of_ble_eq_true rfl), (Nat.le_of_ble_eq_true rfl)⟩) (tq_recvC hK hW (by decide) (tq_mk_3 (by decide)) rfl) hK hG hW hS rfl hl.1 rfl (Nat.le_of_ble_eq_true rfl) dX6_readParagraph_58 hN.f (fun r21 S20 H locs h hW hS => ?_)
  refine lv_if_eq (tgt := 76) hx hb dX6_readParagraph_61 (by decide) (fun c22 => ?_) (fun c22 => ?_)
  · have h := h.1 c22
    exact bX6_readParagraph_76 C  _ _ _ _ _ _ _ h hN hW hS (lv_sub hl [1, 2, 0] rfl)
  · have h := h.2 c22
    refine lv_aload_n hx hb dX6_readParagraph_64 rfl (lv_at hl 1 rfl) ?_
    refine va_ldcS hx hb hown (hG.2.1 ("TwoSeas$Reader", 62, "if ", 1) (by decide)) dX6_readParagraph_65 ?_
    refine tqc_callVv (As := [.ref (ad 61 1)]) (rest := []) (kX6_expect h) ⟨hx, hb, hml, hown, hts⟩ (cwV 1 hts (tq_goodV tw_577 tw_579 tw_5 tw_119 tw_580) rfl rfl rfl (by decide +kernel) ⟨(Nat.le_of_ble_eq_true rfl), (Nat.le_of_ble_eq_true rfl)⟩) (tq_recvC hK hW (by decide) (tq_mk_3 (by decide)) rfl) hK hG hW hS rfl hl.1 rfl (Nat.le_of_ble_eq_true rfl) dX6_readParagraph_67 hN.f (fun S23 H locs h hW hS => ?_)
    refine lv_aload_n hx hb dX6_readParagraph_70 rfl (lv_at hl 1 rfl) ?_
    refine lv_aload hx hb dX6_readParagraph_71 (lv_at hl 0 rfl) ?_
    refine tqb_callVv (As := [.ref (ad 10 i11)]) (rest := []) (kX6_readTests h) ⟨hx, hb, hml, hown, hts⟩ (cwV 1 hts (tq_goodV tw_694 tw_696 tw_10 tw_119 tw_697) rfl rfl rfl (by decide +kernel) ⟨(Nat.le_of_ble_eq_true rfl), (Nat.le_of_ble_eq_true rfl)⟩) (tq_recvC hK hW (by decide) (tq_mk_3 (by decide)) rfl) hK hG hW hS rfl hl.1 rfl (Nat.le_of_ble_eq_true rfl) dX6_readParagraph_73 hN (fun  N24 S25 H locs h hN hW hS => ?_)
    exact bX6_readParagraph_76 C  _ _ _ _ _ _ _ h hN hW hS (lv_sub hl [1, 2, 0] rfl)
set_option maxHeartbeats 4000000 in
set_option maxRecDepth 100000 in
theorem bX6_readParagraph_22 {p : Program} {e : Env} {s : State} {m : MethodId} {args : Array Value} {below : List Frame} {meth : Method} {c : Code} {post : tq_Nn → tq_St → Prop} (C : tq_At p s m meth c args cX6_readParagraph 6 (none) ((tq_ws yX6_readParagraph cX6_readParagraph 6 none)) RX6 D cy z ad)  : ∀ (N : tq_Nn) (S : tq_St) (x1 : Nat) (x2 : Int32) (x3 : Int32) (H : Heap) (locs : List Loc) (ls : Array Slot), wbX6_readParagraph_22 post  N S x1 x2 x3 → tq_nb z A0 s N → tq_wd D cy z H0 ad N (tq_mix S M) H → va_S (fun q => z ≤ q) s.heap H locs → lv_has ls 6 [(0, .ref (ad 3 0)), (1, .ref (ad 7 x1)), (2, .int x2), (3, .int x3)] → tq_Wb p l e 8 264 s m args below meth c z A0 N H locs (MQ below (va_Qv (fun (u : tq_Nn × tq_St) => post u.1 u.2) (tq_PB D cy z A0 H0 ad M) (fun q => z ≤ q)) args s (z + tq_CX - s.heap.size) (A0 + tq_CY - tq_all s.heap) (fun q => z ≤ q)) (F0 m 22 ls []) := by
  obtain ⟨hx, hb, hr, hml, hown, hts, hlocks, hK, hG⟩ := id C
  have hw : ∀ w ∈ tq_W, w.before args s = true := fun w h => hts w (List.mem_cons_of_mem _ h)
  intro N S x1 x2 x3 H locs ls h hN hW hS hl
  unfold wbX6_readParagraph_22 at h
  refine lv_aload_n hx hb dX6_readParagraph_22 rfl (lv_at hl 0 rfl) ?_
  refine tqc_callVi (As := []) (rest := []) (kX6_readSort h) ⟨hx, hb, hml, hown, hts⟩ (cwV 0 hts (tq_goodV tw_638 tw_640 tw_7 tw_119 tw_641) rfl rfl rfl (by decide +kernel) ⟨(Nat.le_of_ble_eq_true rfl), (Nat.le_of_ble_eq_true rfl)⟩) (tq_recvC hK hW (by decide) (tq_mk_3 (by decide)) rfl) hK hG hW hS rfl hl.1 rfl (Nat.le_of_ble_eq_true rfl) dX6_readParagraph_23 hN.f (fun r7 S6 H locs h hW hS => ?_)
  refine lv_istore (lv' := [(4, .int r7), (0, .ref (ad 3 0)), (1, .ref (ad 7 x1)), (2, .int x2), (3, .int x3)]) hx hb dX6_readParagraph_26 hl (by decide) rfl (fun ls hl => ?_)
  refine lv_aload_n hx hb dX6_readParagraph_28 rfl (lv_at hl 1 rfl) ?_
  refine va_ldcS hx hb hown (hG.2.1 ("TwoSeas$Reader", 43, " ", 0) (by decide)) dX6_readParagraph_29 ?_
  refine tqc_callVv (As := [.ref (ad 61 0)]) (rest := []) (kX6_expect h) ⟨hx, hb, hml, hown, hts⟩ (cwV 1 hts (tq_goodV tw_577 tw_579 tw_5 tw_119 tw_580) rfl rfl rfl (by decide +kernel) ⟨(Nat.le_of_ble_eq_true rfl), (Nat.le_of_ble_eq_true rfl)⟩) (tq_recvC hK hW (by decide) (tq_mk_3 (by decide)) rfl) hK hG hW hS rfl hl.1 rfl (Nat.le_of_ble_eq_true rfl) dX6_readParagraph_31 hN.f (fun S8 H locs h hW hS => ?_)
  exact bX6_readParagraph_34 C  _ _ _ _ _ _ _ _ _ h hN hW hS (lv_sub hl [1, 2, 3, 4, 0] rfl)
set_option maxHeartbeats 4000000 in
set_option maxRecDepth 100000 in
theorem kX6_readParagraph {post : tq_Nn → tq_St → Prop} {N : tq_Nn} {S : tq_St} {sz sl : Nat} {p0 : Nat} {p1 : Int32} (h : wpX6_readParagraph post N S p0 p1) : tq_bV l yX6_readParagraph (tq_ws yX6_readParagraph cX6_readParagraph 6 none) 8 264 D cy z A0 H0 ad N M S sz sl [.ref (ad 3 0), .ref (ad 7 p0), .int p1] post := by
  unfold wpX6_readParagraph at h
  refine Met.ofW (cc := cX6_readParagraph) (maxL := 6) (ret := none) (by decide) rfl ?_
  intro p e s m args below meth c s₁ B hml hv
  obtain ⟨rfl, ⟨hW, hK, hG⟩, rfl, rfl, hN1, hN2, hN3, hN4⟩ := hv
  have hN : tq_nb z A0 s N := ⟨hN1, hN2, hN3, hN4⟩
  have hx := B.exec
  have hb := B.bytes
  have hr := B.returns
  have hts := atoms_spec (ws := (tq_ws yX6_readParagraph cX6_readParagraph 6 none)) B.pre
  have hw : ∀ w ∈ tq_W, w.before _ s = true := fun w h => hts w (List.mem_cons_of_mem _ h)
  have hown : s.vm.findClass RX6 = some m.cls := findClass_of_methodNamed B.named
  have hlocks := B.notSynchronized
  have C : tq_At p s m meth c [.ref (ad 3 0), .ref (ad 7 p0), .int p1].toArray cX6_readParagraph 6 (none) ((tq_ws yX6_readParagraph cX6_readParagraph 6 none)) RX6 D cy z ad := ⟨hx, hb, hr, hml, hown, hts, hlocks, hK, hG⟩
  have hS : va_S (fun q => z ≤ q) s.heap s.heap [] := va_S.rf
  have hl := lv_entry ([.ref (ad 3 0), .ref (ad 7 p0), .int p1]) (n := 6) (Nat.le_of_ble_eq_true rfl)
  rw [lg_entry_eq]
  generalize (lg_sl ([.ref (ad 3 0), .ref (ad 7 p0), .int p1]) ++ List.replicate (6 - (lg_sl ([.ref (ad 3 0), .ref (ad 7 p0), .int p1])).length) Slot.unset).toArray = ls at hl ⊢
  have hl : lv_has ls 6 [(0, .ref (ad 3 0)), (1, .ref (ad 7 p0)), (2, .int p1)] := hl
  have hW : tq_wd D cy z H0 ad N (tq_mix S M) s.heap := hW
  refine tq_tight (c1 := z + N 0 0 - s.heap.size) (n1 := A0 + N 0 1 - tq_all s.heap) (by omega) (by omega) ?_
  refine lv_aload_n hx hb dX6_readParagraph_0 rfl (lv_at hl 0 rfl) ?_
  refine tqc_callVi (As := []) (rest := []) (kX6_readAct h) ⟨hx, hb, hml, hown, hts⟩ (cwV 0 hts (tq_goodV tw_568 tw_570 tw_3 tw_119 tw_571) rfl rfl rfl (by decide +kernel) ⟨(Nat.le_of_ble_eq_true rfl), (Nat.le_of_ble_eq_true rfl)⟩) (tq_recvC hK hW (by decide) (tq_mk_3 (by decide)) rfl) hK hG hW hS rfl hl.1 rfl (Nat.le_of_ble_eq_true rfl) dX6_readParagraph_1 hN.f (fun r2 S1 H locs h hW hS => ?_)
  refine lv_istore_n (lv' := [(3, .int r2), (0, .ref (ad 3 0)), (1, .ref (ad 7 p0)), (2, .int p1)]) hx hb dX6_readParagraph_4 rfl hl (by decide) rfl (fun ls hl => ?_)
  refine lv_iconst (v := (-1)) hx hb dX6_readParagraph_5 (by decide) ?_
  refine lv_istore (lv' := [(4, .int ((-1))), (3, .int r2), (0, .ref (ad 3 0)), (1, .ref (ad 7 p0)), (2, .int p1)]) hx hb dX6_readParagraph_6 hl (by decide) rfl (fun ls hl => ?_)
  refine lv_iload_n hx hb dX6_readParagraph_8 rfl (lv_at hl 1 rfl) ?_
  refine lv_if_eq (tgt := 22) hx hb dX6_readParagraph_9 (by decide) (fun c3 => ?_) (fun c3 => ?_)
  · have h := h.1 c3
    exact bX6_readParagraph_22 C  _ _ _ _ _ _ _ _ h hN hW hS (lv_sub hl [2, 3, 4, 1] rfl)
  · have h := h.2 c3
    refine lv_iload_n hx hb dX6_readParagraph_12 rfl (lv_at hl 1 rfl) ?_
    refine lv_iconst (v := 1) hx hb dX6_readParagraph_13 (by decide) ?_
    refine lv_icmp_eq (tgt := 22) hx hb dX6_readParagraph_14 (by decide) (fun c4 => ?_) (fun c4 => ?_)
    · have h := h.1 c4
      exact bX6_readParagraph_22 C  _ _ _ _ _ _ _ _ h hN hW hS (lv_sub hl [2, 3, 4, 1] rfl)
    · have h := h.2 c4
      refine lv_iload_n hx hb dX6_readParagraph_17 rfl (lv_at hl 1 rfl) ?_
      refine lv_iconst (v := 2) hx hb dX6_readParagraph_18 (by decide) ?_
      refine lv_icmp_ne (tgt := 34) hx hb dX6_readParagraph_19 (by decide) (fun c5 => ?_) (fun c5 => ?_)
      · have h := h.1 c5
        exact bX6_readParagraph_34 C  _ _ _ _ _ _ _ _ _ h hN hW hS (lv_sub hl [2, 3, 4, 1, 0] rfl)
      · have h := h.2 c5
        exact bX6_readParagraph_22 C  _ _ _ _ _ _ _ _ h hN hW hS (lv_sub hl [2, 3, 4, 1] rfl)
-- X6 readInto
def wbX6_readInto_62 (post : tq_Nn → tq_St → Int32 → Prop)  (N : tq_Nn) (S : tq_St) : Prop :=
  (∀ S12, S12 = tq_up S 3 0 1 0 → (post N S12 (S12 3 0 3)))
def wbX6_readInto_47 (post : tq_Nn → tq_St → Int32 → Prop)  (N : tq_Nn) (S : tq_St) : Prop :=
  ((S 3 0 1) ≤ (S 3 0 2) → (wbX6_readInto_62 post N S )) ∧ (¬ (S 3 0 1) ≤ (S 3 0 2) → (wpX6_fail N (fun S11 => wbX6_readInto_62 post N S11 ) S ))
def wbX6_readInto_12 (post : tq_Nn → tq_St → Int32 → Prop) : Nat → tq_Nn → tq_St → Nat → Int32 → Prop
  | 0, _, _, _, _ => False
  | n + 1, N, S, x1, x2 =>
    (6 ≤ x2 → (wbX6_readInto_47 post N S )) ∧ (¬ 6 ≤ x2 → (wpX6_readParagraph (fun N4 S5  => (x2 = 5 → (wbX6_readInto_47 post N4 S5 )) ∧ (¬ x2 = 5 → (wpX6_takes N4 (fun S7 r8 => (¬ r8 = 0 → ((wbX6_readInto_12 post n) N4 S7 x1 (x2 + 1))) ∧ (r8 = 0 → (wbX6_readInto_47 post N4 S7 ))) S5 59))) N S x1 x2))
def wpX6_readInto (post : tq_Nn → tq_St → Int32 → Prop) (N : tq_Nn) (S : tq_St) (p0 : Nat) : Prop :=
  (∀ S1, S1 = tq_up S 3 0 2 0 → ((∀ S2, S2 = tq_up S1 3 0 3 ((-1)) → (∃ nq, wbX6_readInto_12 post nq N S2 p0 0))))
set_option maxHeartbeats 4000000 in
set_option maxRecDepth 100000 in
theorem bX6_readInto_62 {p : Program} {e : Env} {s : State} {m : MethodId} {args : Array Value} {below : List Frame} {meth : Method} {c : Code} {post : tq_Nn → tq_St → Int32 → Prop} (C : tq_At p s m meth c args cX6_readInto 3 ((some .int)) ((tq_ws yX6_readInto cX6_readInto 3 (some .int))) RX6 D cy z ad)  : ∀ (N : tq_Nn) (S : tq_St)  (H : Heap) (locs : List Loc) (ls : Array Slot), wbX6_readInto_62 post  N S  → tq_nb z A0 s N → tq_wd D cy z H0 ad N (tq_mix S M) H → va_S (fun q => z ≤ q) s.heap H locs → lv_has ls 3 [(0, .ref (ad 3 0))] → tq_Wb p l e 9 289 s m args below meth c z A0 N H locs (MQ below (va_Qi (fun r (u : tq_Nn × tq_St) => post u.1 u.2 r) (tq_PB D cy z A0 H0 ad M) (fun q => z ≤ q)) args s (z + tq_CX - s.heap.size) (A0 + tq_CY - tq_all s.heap) (fun q => z ≤ q)) (F0 m 62 ls []) := by
  obtain ⟨hx, hb, hr, hml, hown, hts, hlocks, hK, hG⟩ := id C
  have hw : ∀ w ∈ tq_W, w.before args s = true := fun w h => hts w (List.mem_cons_of_mem _ h)
  intro N S  H locs ls h hN hW hS hl
  unfold wbX6_readInto_62 at h
  refine lv_aload_n hx hb dX6_readInto_62 rfl (lv_at hl 0 rfl) ?_
  refine lv_iconst (v := 0) hx hb dX6_readInto_63 (by decide) ?_
  refine tqc_put hx hb hw tq_inX6 tyX6 tyX6_ok nmX6 hown hK hW hS (by decide) (tq_mk_3 (by decide)) rfl 1 (by decide) (hw _ tw_185) (fun _ h9 => h9) rfl rfl rfl rfl (tq_mk_3 (by decide)) dX6_readInto_64 (fun H locs hW hS => ?_)
  generalize eS12 : tq_up S 3 0 1 0 = S12 at hW
  have h := h S12 eS12.symm
  refine lv_aload_n hx hb dX6_readInto_67 rfl (lv_at hl 0 rfl) ?_
  refine tqc_get (v := .int (S12 3 0 3)) hx hb hw tq_inX6 hown hK hW (by decide) (tq_mk_3 (by decide)) rfl 3 (by decide) (hw _ tw_188) (fun _ h9 => h9) rfl dX6_readInto_68 ?_
  exact tqb_iret (v := S12 3 0 3) hx hb hr hN h hW hS dX6_readInto_71 hlocks
set_option maxHeartbeats 4000000 in
set_option maxRecDepth 100000 in
theorem bX6_readInto_47 {p : Program} {e : Env} {s : State} {m : MethodId} {args : Array Value} {below : List Frame} {meth : Method} {c : Code} {post : tq_Nn → tq_St → Int32 → Prop} (C : tq_At p s m meth c args cX6_readInto 3 ((some .int)) ((tq_ws yX6_readInto cX6_readInto 3 (some .int))) RX6 D cy z ad)  : ∀ (N : tq_Nn) (S : tq_St)  (H : Heap) (locs : List Loc) (ls : Array Slot), wbX6_readInto_47 post  N S  → tq_nb z A0 s N → tq_wd D cy z H0 ad N (tq_mix S M) H → va_S (fun q => z ≤ q) s.heap H locs → lv_has ls 3 [(0, .ref (ad 3 0))] → tq_Wb p l e 9 289 s m args below meth c z A0 N H locs (MQ below (va_Qi (fun r (u : tq_Nn × tq_St) => post u.1 u.2 r) (tq_PB D cy z A0 H0 ad M) (fun q => z ≤ q)) args s (z + tq_CX - s.heap.size) (A0 + tq_CY - tq_all s.heap) (fun q => z ≤ q)) (F0 m 47 ls []) := by
  obtain ⟨hx, hb, hr, hml, hown, hts, hlocks, hK, hG⟩ := id C
  have hw : ∀ w ∈ tq_W, w.before args s = true := fun w h => hts w (List.mem_cons_of_mem _ h)
  intro N S  H locs ls h hN hW hS hl
  unfold wbX6_readInto_47 at h
  refine lv_aload_n hx hb dX6_readInto_47 rfl (lv_at hl 0 rfl) ?_
  refine tqc_get (v := .int (S 3 0 2)) hx hb hw tq_inX6 hown hK hW (by decide) (tq_mk_3 (by decide)) rfl 2 (by decide) (hw _ tw_187) (fun _ h9 => h9) rfl dX6_readInto_48 ?_
  refine lv_aload_n hx hb dX6_readInto_51 rfl (lv_at hl 0 rfl) ?_
  refine tqc_get (v := .int (S 3 0 1)) hx hb hw tq_inX6 hown hK hW (by decide) (tq_mk_3 (by decide)) rfl 1 (by decide) (hw _ tw_185) (fun _ h9 => h9) rfl dX6_readInto_52 ?_
  refine lv_icmp_ge (tgt := 62) hx hb dX6_readInto_55 (by decide) (fun c10 => ?_) (fun c10 => ?_)
  · have h := h.1 c10
    exact bX6_readInto_62 C  _ _  _ _ _ h hN hW hS (lv_sub hl [0] rfl)
  · have h := h.2 c10
    refine lv_aload_n hx hb dX6_readInto_58 rfl (lv_at hl 0 rfl) ?_
    refine tqc_callVv (As := []) (rest := []) (kX6_fail h) ⟨hx, hb, hml, hown, hts⟩ (cwV 0 hts (tq_goodV tw_629 tw_631 tw_6 tw_119 tw_632) rfl rfl rfl (by decide +kernel) ⟨(Nat.le_of_ble_eq_true rfl), (Nat.le_of_ble_eq_true rfl)⟩) (tq_recvC hK hW (by decide) (tq_mk_3 (by decide)) rfl) hK hG hW hS rfl hl.1 rfl (Nat.le_of_ble_eq_true rfl) dX6_readInto_59 hN.f (fun S11 H locs h hW hS => ?_)
    exact bX6_readInto_62 C  _ _  _ _ _ h hN hW hS (lv_sub hl [0] rfl)
set_option maxHeartbeats 4000000 in
set_option maxRecDepth 100000 in
theorem bX6_readInto_12 {p : Program} {e : Env} {s : State} {m : MethodId} {args : Array Value} {below : List Frame} {meth : Method} {c : Code} {post : tq_Nn → tq_St → Int32 → Prop} (C : tq_At p s m meth c args cX6_readInto 3 ((some .int)) ((tq_ws yX6_readInto cX6_readInto 3 (some .int))) RX6 D cy z ad)  : ∀ n : Nat, ∀ (N : tq_Nn) (S : tq_St) (x1 : Nat) (x2 : Int32) (H : Heap) (locs : List Loc) (ls : Array Slot), wbX6_readInto_12 post  n N S x1 x2 → tq_nb z A0 s N → tq_wd D cy z H0 ad N (tq_mix S M) H → va_S (fun q => z ≤ q) s.heap H locs → lv_has ls 3 [(0, .ref (ad 3 0)), (1, .ref (ad 7 x1)), (2, .int x2)] → tq_Wb p l e 9 289 s m args below meth c z A0 N H locs (MQ below (va_Qi (fun r (u : tq_Nn × tq_St) => post u.1 u.2 r) (tq_PB D cy z A0 H0 ad M) (fun q => z ≤ q)) args s (z + tq_CX - s.heap.size) (A0 + tq_CY - tq_all s.heap) (fun q => z ≤ q)) (F0 m 12 ls []) := by
  obtain ⟨hx, hb, hr, hml, hown, hts, hlocks, hK, hG⟩ := id C
  have hw : ∀ w ∈ tq_W, w.before args s = true := fun w h => hts w (List.mem_cons_of_mem _ h)
  intro n
  induction n with
  | zero =>
    intro N S x1 x2 H locs ls h
    exact absurd h (by unfold wbX6_readInto_12; exact id)
  | succ n ih =>
    intro N S x1 x2 H locs ls h hN hW hS hl
    unfold wbX6_readInto_12 at h
    refine lv_iload_n hx hb dX6_readInto_12 rfl (lv_at hl 2 rfl) ?_
    refine lv_bipush (v := 6) hx hb dX6_readInto_13 (by decide) ?_
    refine lv_icmp_ge (tgt := 47) hx hb dX6_readInto_15 (by decide) (fun c3 => ?_) (fun c3 => ?_)
    · have h := h.1 c3
      exact bX6_readInto_47 C  _ _  _ _ _ h hN hW hS (lv_sub hl [0] rfl)
    · have h := h.2 c3
      refine lv_aload_n hx hb dX6_readInto_18 rfl (lv_at hl 0 rfl) ?_
      refine lv_aload_n hx hb dX6_readInto_19 rfl (lv_at hl 1 rfl) ?_
      refine lv_iload_n hx hb dX6_readInto_20 rfl (lv_at hl 2 rfl) ?_
      refine tqb_callVv (As := [.ref (ad 7 x1), .int x2]) (rest := []) (kX6_readParagraph h) ⟨hx, hb, hml, hown, hts⟩ (cwV 2 hts (tq_goodV tw_564 tw_566 tw_2 tw_119 tw_567) rfl rfl rfl (by decide +kernel) ⟨(Nat.le_of_ble_eq_true rfl), (Nat.le_of_ble_eq_true rfl)⟩) (tq_recvC hK hW (by decide) (tq_mk_3 (by decide)) rfl) hK hG hW hS rfl hl.1 rfl (Nat.le_of_ble_eq_true rfl) dX6_readInto_21 hN (fun  N4 S5 H locs h hN hW hS => ?_)
      refine lv_iload_n hx hb dX6_readInto_24 rfl (lv_at hl 2 rfl) ?_
      refine lv_iconst (v := 5) hx hb dX6_readInto_25 (by decide) ?_
      refine lv_icmp_eq (tgt := 47) hx hb dX6_readInto_26 (by decide) (fun c6 => ?_) (fun c6 => ?_)
      · have h := h.1 c6
        exact bX6_readInto_47 C  _ _  _ _ _ h hN hW hS (lv_sub hl [0] rfl)
      · have h := h.2 c6
        refine lv_aload_n hx hb dX6_readInto_29 rfl (lv_at hl 0 rfl) ?_
        refine lv_bipush (v := 59) hx hb dX6_readInto_30 (by decide) ?_
        refine tqc_callVi (As := [.int 59]) (rest := []) (kX6_takes h) ⟨hx, hb, hml, hown, hts⟩ (cwV 1 hts (tq_goodV tw_572 tw_574 tw_4 tw_119 tw_575) rfl rfl rfl (by decide +kernel) ⟨(Nat.le_of_ble_eq_true rfl), (Nat.le_of_ble_eq_true rfl)⟩) (tq_recvC hK hW (by decide) (tq_mk_3 (by decide)) rfl) hK hG hW hS rfl hl.1 rfl (Nat.le_of_ble_eq_true rfl) dX6_readInto_32 hN.f (fun r8 S7 H locs h hW hS => ?_)
        refine lv_if_ne (tgt := 41) hx hb dX6_readInto_35 (by decide) (fun c9 => ?_) (fun c9 => ?_)
        · have h := h.1 c9
          refine lv_iinc (v := x2 + 1) (lv' := [(2, .int (x2 + 1)), (0, .ref (ad 3 0)), (1, .ref (ad 7 x1))]) hx hb dX6_readInto_41 hl (k := 2) rfl rfl (by decide) rfl (fun ls hl => ?_)
          refine lv_goto (tgt := 12) hx hb dX6_readInto_44 (by decide) ?_
          exact ih _ _ _ _ _ _ _ h hN hW hS (lv_sub hl [1, 2, 0] rfl)
        · have h := h.2 c9
          refine lv_goto (tgt := 47) hx hb dX6_readInto_38 (by decide) ?_
          exact bX6_readInto_47 C  _ _  _ _ _ h hN hW hS (lv_sub hl [0] rfl)
set_option maxHeartbeats 4000000 in
set_option maxRecDepth 100000 in
theorem kX6_readInto {post : tq_Nn → tq_St → Int32 → Prop} {N : tq_Nn} {S : tq_St} {sz sl : Nat} {p0 : Nat} (h : wpX6_readInto post N S p0) : tq_bI l yX6_readInto (tq_ws yX6_readInto cX6_readInto 3 (some .int)) 9 289 D cy z A0 H0 ad N M S sz sl [.ref (ad 3 0), .ref (ad 7 p0)] post := by
  unfold wpX6_readInto at h
  refine Met.ofW (cc := cX6_readInto) (maxL := 3) (ret := (some .int)) (by decide) rfl ?_
  intro p e s m args below meth c s₁ B hml hv
  obtain ⟨rfl, ⟨hW, hK, hG⟩, rfl, rfl, hN1, hN2, hN3, hN4⟩ := hv
  have hN : tq_nb z A0 s N := ⟨hN1, hN2, hN3, hN4⟩
  have hx := B.exec
  have hb := B.bytes
  have hr := B.returns
  have hts := atoms_spec (ws := (tq_ws yX6_readInto cX6_readInto 3 (some .int))) B.pre
  have hw : ∀ w ∈ tq_W, w.before _ s = true := fun w h => hts w (List.mem_cons_of_mem _ h)
  have hown : s.vm.findClass RX6 = some m.cls := findClass_of_methodNamed B.named
  have hlocks := B.notSynchronized
  have C : tq_At p s m meth c [.ref (ad 3 0), .ref (ad 7 p0)].toArray cX6_readInto 3 ((some .int)) ((tq_ws yX6_readInto cX6_readInto 3 (some .int))) RX6 D cy z ad := ⟨hx, hb, hr, hml, hown, hts, hlocks, hK, hG⟩
  have hS : va_S (fun q => z ≤ q) s.heap s.heap [] := va_S.rf
  have hl := lv_entry ([.ref (ad 3 0), .ref (ad 7 p0)]) (n := 3) (Nat.le_of_ble_eq_true rfl)
  rw [lg_entry_eq]
  generalize (lg_sl ([.ref (ad 3 0), .ref (ad 7 p0)]) ++ List.replicate (3 - (lg_sl ([.ref (ad 3 0), .ref (ad 7 p0)])).length) Slot.unset).toArray = ls at hl ⊢
  have hl : lv_has ls 3 [(0, .ref (ad 3 0)), (1, .ref (ad 7 p0))] := hl
  have hW : tq_wd D cy z H0 ad N (tq_mix S M) s.heap := hW
  refine tq_tight (c1 := z + N 0 0 - s.heap.size) (n1 := A0 + N 0 1 - tq_all s.heap) (by omega) (by omega) ?_
  refine lv_aload_n hx hb dX6_readInto_0 rfl (lv_at hl 0 rfl) ?_
  refine lv_iconst (v := 0) hx hb dX6_readInto_1 (by decide) ?_
  refine tqc_put hx hb hw tq_inX6 tyX6 tyX6_ok nmX6 hown hK hW hS (by decide) (tq_mk_3 (by decide)) rfl 2 (by decide) (hw _ tw_187) (fun _ h9 => h9) rfl rfl rfl rfl (tq_mk_3 (by decide)) dX6_readInto_2 (fun H locs hW hS => ?_)
  generalize eS1 : tq_up S 3 0 2 0 = S1 at hW
  have h := h S1 eS1.symm
  refine lv_aload_n hx hb dX6_readInto_5 rfl (lv_at hl 0 rfl) ?_
  refine lv_iconst (v := (-1)) hx hb dX6_readInto_6 (by decide) ?_
  refine tqc_put hx hb hw tq_inX6 tyX6 tyX6_ok nmX6 hown hK hW hS (by decide) (tq_mk_3 (by decide)) rfl 3 (by decide) (hw _ tw_188) (fun _ h9 => h9) rfl rfl rfl rfl (tq_mk_3 (by decide)) dX6_readInto_7 (fun H locs hW hS => ?_)
  generalize eS2 : tq_up S1 3 0 3 ((-1)) = S2 at hW
  have h := h S2 eS2.symm
  refine lv_iconst (v := 0) hx hb dX6_readInto_10 (by decide) ?_
  refine lv_istore_n (lv' := [(2, .int 0), (0, .ref (ad 3 0)), (1, .ref (ad 7 p0))]) hx hb dX6_readInto_11 rfl hl (by decide) rfl (fun ls hl => ?_)
  obtain ⟨nq, h⟩ := h
  exact bX6_readInto_12 C  nq _ _ _ _ _ _ _ h hN hW hS (lv_sub hl [1, 2, 0] rfl)
-- X5 settleForce
def wbX5_settleForce_27 (post : tq_Nn → tq_St → Prop) (L2 : tq_Nn → tq_St → Nat → Int32 → Prop) : Nat → tq_Nn → tq_St → Nat → Int32 → Nat → Int32 → Prop
  | 0, _, _, _, _, _, _ => False
  | n + 1, N, S, x0, x1, x2, x3 =>
    N 7 x2 = 1 ∧ (N 52 x2 = 1 ∧ (((S 52 x2 2) ≤ x3 → (L2 N S x0 (x1 + 1))) ∧ (¬ (S 52 x2 2) ≤ x3 → (x0 < 5 ∧ (tq_gok N S 52 53 x2 x3 ∧ (N 10 (tq_el S 52 53 x2 x3) = 1 ∧ (vp_in (S 10 (tq_el S 52 53 x2 x3) 5) 28 ∧ (∀ S32, S32 = tq_up S 40 x0 ((S 10 (tq_el S 52 53 x2 x3) 5).toNatClampNeg) x1 → ((wbX5_settleForce_27 post L2 n) N S32 x0 x1 x2 (x3 + 1))))))))))
def wbX5_settleForce_152 (post : tq_Nn → tq_St → Prop) (L79 : tq_Nn → tq_St → Nat → Int32 → Prop) (L104 : tq_Nn → tq_St → Nat → Int32 → Nat → Int32 → Prop) (N : tq_Nn) (S : tq_St) (x0 : Nat) (x1 : Int32) (x2 : Nat) (x3 : Int32) : Prop :=
  L104 N S x0 x1 x2 (x3 + 1)
def wbX5_settleForce_104 (post : tq_Nn → tq_St → Prop) (L79 : tq_Nn → tq_St → Nat → Int32 → Prop) : Nat → tq_Nn → tq_St → Nat → Int32 → Nat → Int32 → Prop
  | 0, _, _, _, _, _, _ => False
  | n + 1, N, S, x0, x1, x2, x3 =>
    N 7 x2 = 1 ∧ (N 52 x2 = 1 ∧ (((S 52 x2 2) ≤ x3 → (L79 N S x0 (x1 + 1))) ∧ (¬ (S 52 x2 2) ≤ x3 → (tq_gok N S 52 53 x2 x3 ∧ (N 10 (tq_el S 52 53 x2 x3) = 1 ∧ (x0 < 5 ∧ (vp_in (S 10 (tq_el S 52 53 x2 x3) 5) 28 ∧ ((¬ (S 40 x0 ((S 10 (tq_el S 52 53 x2 x3) 5).toNatClampNeg)) = x1 → (wbX5_settleForce_152 post L79 (wbX5_settleForce_104 post L79 n) N S x0 x1 x2 x3)) ∧ ((S 40 x0 ((S 10 (tq_el S 52 53 x2 x3) 5).toNatClampNeg)) = x1 → (tq_aok N S 38 39 10 x0 (tq_el S 52 53 x2 x3) ∧ (∀ N45 S46, tq_added N S 38 39 x0 (tq_el S 52 53 x2 x3) N45 S46 → (wbX5_settleForce_152 post L79 (wbX5_settleForce_104 post L79 n) N45 S46 x0 x1 x2 x3))))))))))))
def wbX5_settleForce_79 (post : tq_Nn → tq_St → Prop) : Nat → tq_Nn → tq_St → Nat → Int32 → Prop
  | 0, _, _, _, _ => False
  | n + 1, N, S, x0, x1 =>
    x0 < 5 ∧ (((S 36 x0 2) ≤ x1 → (post N S)) ∧ (¬ (S 36 x0 2) ≤ x1 → (tq_gok N S 36 37 x0 x1 ∧ (N 7 (tq_el S 36 37 x0 x1) = 1 ∧ (∃ nq, wbX5_settleForce_104 post (wbX5_settleForce_79 post n) nq N S x0 x1 (tq_el S 36 37 x0 x1) 0)))))
def wbX5_settleForce_2 (post : tq_Nn → tq_St → Prop) : Nat → tq_Nn → tq_St → Nat → Int32 → Prop
  | 0, _, _, _, _ => False
  | n + 1, N, S, x0, x1 =>
    x0 < 5 ∧ (((S 36 x0 2) ≤ x1 → (∃ n6 c7 : Nat, tq_lst N S 38 39 x0 n6 c7 ∧ (∀ S5, S5 = tq_clred S 38 39 x0 n6 → (∃ nq, wbX5_settleForce_79 post nq N S5 x0 0)))) ∧ (¬ (S 36 x0 2) ≤ x1 → (tq_gok N S 36 37 x0 x1 ∧ (N 7 (tq_el S 36 37 x0 x1) = 1 ∧ (∃ nq, wbX5_settleForce_27 post (wbX5_settleForce_2 post n) nq N S x0 x1 (tq_el S 36 37 x0 x1) 0)))))
def wpX5_settleForce (post : tq_Nn → tq_St → Prop) (N : tq_Nn) (S : tq_St) (o : Nat) : Prop :=
  ∃ nq, wbX5_settleForce_2 post nq N S o 0
set_option maxHeartbeats 4000000 in
set_option maxRecDepth 100000 in
theorem bX5_settleForce_27 {p : Program} {e : Env} {s : State} {m : MethodId} {args : Array Value} {below : List Frame} {meth : Method} {c : Code} {post : tq_Nn → tq_St → Prop} (C : tq_At p s m meth c args cX5_settleForce 5 (none) ((tq_ws yX5_settleForce cX5_settleForce 5 none)) RX5 D cy z ad) {L2 : tq_Nn → tq_St → Nat → Int32 → Prop} (hL2 : ∀ (N : tq_Nn) (S : tq_St) (x0 : Nat) (x1 : Int32) (H : Heap) (locs : List Loc) (ls : Array Slot), L2 N S x0 x1 → tq_nb z A0 s N → tq_wd D cy z H0 ad N (tq_mix S M) H → va_S (fun q => z ≤ q) s.heap H locs → lv_has ls 5 [(0, .ref (ad 2 x0)), (1, .int x1)] → tq_Wb p l e 7 241 s m args below meth c z A0 N H locs (MQ below (va_Qv (fun (u : tq_Nn × tq_St) => post u.1 u.2) (tq_PB D cy z A0 H0 ad M) (fun q => z ≤ q)) args s (z + tq_CX - s.heap.size) (A0 + tq_CY - tq_all s.heap) (fun q => z ≤ q)) (F0 m 2 ls [])) : ∀ n : Nat, ∀ (N : tq_Nn) (S : tq_St) (x0 : Nat) (x1 : Int32) (x2 : Nat) (x3 : Int32) (H : Heap) (locs : List Loc) (ls : Array Slot), wbX5_settleForce_27 post L2 n N S x0 x1 x2 x3 → tq_nb z A0 s N → tq_wd D cy z H0 ad N (tq_mix S M) H → va_S (fun q => z ≤ q) s.heap H locs → lv_has ls 5 [(0, .ref (ad 2 x0)), (1, .int x1), (2, .ref (ad 7 x2)), (3, .int x3)] → tq_Wb p l e 7 241 s m args below meth c z A0 N H locs (MQ below (va_Qv (fun (u : tq_Nn × tq_St) => post u.1 u.2) (tq_PB D cy z A0 H0 ad M) (fun q => z ≤ q)) args s (z + tq_CX - s.heap.size) (A0 + tq_CY - tq_all s.heap) (fun q => z ≤ q)) (F0 m 27 ls []) := by
  obtain ⟨hx, hb, hr, hml, hown, hts, hlocks, hK, hG⟩ := id C
  have hw : ∀ w ∈ tq_W, w.before args s = true := fun w h => hts w (List.mem_cons_of_mem _ h)
  intro n
  induction n with
  | zero =>
    intro N S x0 x1 x2 x3 H locs ls h
    exact absurd h (by unfold wbX5_settleForce_27; exact id)
  | succ n ih =>
    intro N S x0 x1 x2 x3 H locs ls h hN hW hS hl
    unfold wbX5_settleForce_27 at h
    refine lv_iload_n hx hb dX5_settleForce_27 rfl (lv_at hl 3 rfl) ?_
    refine lv_aload_n hx hb dX5_settleForce_28 rfl (lv_at hl 2 rfl) ?_
    obtain ⟨b21, h⟩ := h
    refine tqc_get7 (v := .ref (ad 52 x2)) hx hb hw tq_inX3 tq_inX1 hown hK hW b21 7 (by decide) (hw _ tw_532) (fun _ h9 => h9) rfl dX5_settleForce_29 ?_
    obtain ⟨b22, h⟩ := h
    refine tqc_callVi (As := []) (rest := [.int x3]) (kJl_size (post := fun u r => u = S ∧ r = S 52 x2 2) (by decide) (tq_mk_52 b22) ⟨rfl, rfl⟩) ⟨hx, hb, hml, hown, hts⟩ (cwV 0 hts (tq_goodV tw_1082 tw_485 tw_486 tw_118 tw_487) rfl rfl rfl (by decide +kernel) ⟨(Nat.le_of_ble_eq_true rfl), (Nat.le_of_ble_eq_true rfl)⟩) (tq_recvL hK hW (by decide) (tq_mk_52 b22)) hK hG hW hS rfl hl.1 rfl (Nat.le_of_ble_eq_true rfl) dX5_settleForce_32 hN.f (fun r24 S23 H locs q9 hW hS => ?_)
    rw [q9.1] at hW
    rw [q9.2]
    refine lv_icmp_ge (tgt := 64) hx hb dX5_settleForce_35 (by decide) (fun c25 => ?_) (fun c25 => ?_)
    · have h := h.1 c25
      refine lv_iinc (v := x1 + 1) (lv' := [(1, .int (x1 + 1)), (0, .ref (ad 2 x0)), (2, .ref (ad 7 x2)), (3, .int x3)]) hx hb dX5_settleForce_64 hl (k := 1) rfl rfl (by decide) rfl (fun ls hl => ?_)
      refine lv_goto (tgt := 2) hx hb dX5_settleForce_67 (by decide) ?_
      exact hL2 _ _ _ _ _ _ _ h hN hW hS (lv_sub hl [1, 0] rfl)
    · have h := h.2 c25
      refine lv_aload_n hx hb dX5_settleForce_38 rfl (lv_at hl 0 rfl) ?_
      obtain ⟨b26, h⟩ := h
      refine tqc_get (v := .ref (ad 40 x0)) hx hb hw tq_inX5 hown hK hW (by decide) (tq_mk_2 b26) rfl 14 (by decide) (hw _ tw_278) (fun _ h9 => h9) rfl dX5_settleForce_39 ?_
      refine lv_aload_n hx hb dX5_settleForce_42 rfl (lv_at hl 2 rfl) ?_
      refine tqc_get7 (v := .ref (ad 52 x2)) hx hb hw tq_inX3 tq_inX1 hown hK hW b21 7 (by decide) (hw _ tw_532) (fun _ h9 => h9) rfl dX5_settleForce_43 ?_
      refine lv_iload_n hx hb dX5_settleForce_46 rfl (lv_at hl 3 rfl) ?_
      obtain ⟨b29, h⟩ := h
      refine tqc_callVr (kr := 10) (As := [.int x3]) (rest := [.ref (ad 40 x0)]) (kJl_get (kd := 53) (post := fun u i => u = S ∧ i = tq_el S 52 53 x2 x3) (by decide) (by decide) (tq_mk_52 b22) (fun q9 => tq_mk_53 q9) b29 ⟨rfl, rfl⟩) ⟨hx, hb, hml, hown, hts⟩ (cwV 1 hts (tq_goodV tw_1083 tw_828 tw_829 tw_118 tw_830) rfl rfl rfl (by decide +kernel) ⟨(Nat.le_of_ble_eq_true rfl), (Nat.le_of_ble_eq_true rfl)⟩) (tq_recvL hK hW (by decide) (tq_mk_52 b22)) hK hG hW hS rfl hl.1 rfl (Nat.le_of_ble_eq_true rfl) dX5_settleForce_47 hN.f (fun i28 S27 H locs q9 hW hS => ?_)
      rw [q9.1] at hW
      rw [q9.2]
      obtain ⟨b30, h⟩ := h
      refine va_castS hx hb hown (hw _ tw_1102) (hK.1 5 _ rfl).2 (tq_recvC hK hW (by decide) (tq_mk_10 b30) rfl) dX5_settleForce_50 ?_
      refine tqc_get (v := .int (S 10 (tq_el S 52 53 x2 x3) 5)) hx hb hw tq_inX4 hown hK hW (by decide) (tq_mk_10 b30) rfl 5 (by decide) (hw _ tw_673) (fun _ h9 => h9) rfl dX5_settleForce_53 ?_
      refine lv_iload_n hx hb dX5_settleForce_56 rfl (lv_at hl 1 rfl) ?_
      obtain ⟨b31, h⟩ := h
      refine tqc_iast (jn := (S 10 (tq_el S 52 53 x2 x3) 5).toNatClampNeg) hx hb hK hW hS (by decide) (tq_mk_40 b26) b31 rfl (tq_mk_40 b26) dX5_settleForce_57 (fun H locs hW hS => ?_)
      generalize eS32 : tq_up S 40 x0 ((S 10 (tq_el S 52 53 x2 x3) 5).toNatClampNeg) x1 = S32 at hW
      have h := h S32 eS32.symm
      refine lv_iinc (v := x3 + 1) (lv' := [(3, .int (x3 + 1)), (0, .ref (ad 2 x0)), (1, .int x1), (2, .ref (ad 7 x2))]) hx hb dX5_settleForce_58 hl (k := 3) rfl rfl (by decide) rfl (fun ls hl => ?_)
      refine lv_goto (tgt := 27) hx hb dX5_settleForce_61 (by decide) ?_
      exact ih _ _ _ _ _ _ _ _ _ h hN hW hS (lv_sub hl [1, 2, 3, 0] rfl)
set_option maxHeartbeats 4000000 in
set_option maxRecDepth 100000 in
theorem bX5_settleForce_152 {p : Program} {e : Env} {s : State} {m : MethodId} {args : Array Value} {below : List Frame} {meth : Method} {c : Code} {post : tq_Nn → tq_St → Prop} (C : tq_At p s m meth c args cX5_settleForce 5 (none) ((tq_ws yX5_settleForce cX5_settleForce 5 none)) RX5 D cy z ad) {L79 : tq_Nn → tq_St → Nat → Int32 → Prop} (hL79 : ∀ (N : tq_Nn) (S : tq_St) (x0 : Nat) (x1 : Int32) (H : Heap) (locs : List Loc) (ls : Array Slot), L79 N S x0 x1 → tq_nb z A0 s N → tq_wd D cy z H0 ad N (tq_mix S M) H → va_S (fun q => z ≤ q) s.heap H locs → lv_has ls 5 [(0, .ref (ad 2 x0)), (1, .int x1)] → tq_Wb p l e 7 241 s m args below meth c z A0 N H locs (MQ below (va_Qv (fun (u : tq_Nn × tq_St) => post u.1 u.2) (tq_PB D cy z A0 H0 ad M) (fun q => z ≤ q)) args s (z + tq_CX - s.heap.size) (A0 + tq_CY - tq_all s.heap) (fun q => z ≤ q)) (F0 m 79 ls [])) {L104 : tq_Nn → tq_St → Nat → Int32 → Nat → Int32 → Prop} (hL104 : ∀ (N : tq_Nn) (S : tq_St) (x0 : Nat) (x1 : Int32) (x2 : Nat) (x3 : Int32) (H : Heap) (locs : List Loc) (ls : Array Slot), L104 N S x0 x1 x2 x3 → tq_nb z A0 s N → tq_wd D cy z H0 ad N (tq_mix S M) H → va_S (fun q => z ≤ q) s.heap H locs → lv_has ls 5 [(0, .ref (ad 2 x0)), (1, .int x1), (2, .ref (ad 7 x2)), (3, .int x3)] → tq_Wb p l e 7 241 s m args below meth c z A0 N H locs (MQ below (va_Qv (fun (u : tq_Nn × tq_St) => post u.1 u.2) (tq_PB D cy z A0 H0 ad M) (fun q => z ≤ q)) args s (z + tq_CX - s.heap.size) (A0 + tq_CY - tq_all s.heap) (fun q => z ≤ q)) (F0 m 104 ls [])) : ∀ (N : tq_Nn) (S : tq_St) (x0 : Nat) (x1 : Int32) (x2 : Nat) (x3 : Int32) (H : Heap) (locs : List Loc) (ls : Array Slot), wbX5_settleForce_152 post L79 L104 N S x0 x1 x2 x3 → tq_nb z A0 s N → tq_wd D cy z H0 ad N (tq_mix S M) H → va_S (fun q => z ≤ q) s.heap H locs → lv_has ls 5 [(0, .ref (ad 2 x0)), (1, .int x1), (2, .ref (ad 7 x2)), (3, .int x3)] → tq_Wb p l e 7 241 s m args below meth c z A0 N H locs (MQ below (va_Qv (fun (u : tq_Nn × tq_St) => post u.1 u.2) (tq_PB D cy z A0 H0 ad M) (fun q => z ≤ q)) args s (z + tq_CX - s.heap.size) (A0 + tq_CY - tq_all s.heap) (fun q => z ≤ q)) (F0 m 152 ls []) := by
  obtain ⟨hx, hb, hr, hml, hown, hts, hlocks, hK, hG⟩ := id C
  have hw : ∀ w ∈ tq_W, w.before args s = true := fun w h => hts w (List.mem_cons_of_mem _ h)
  intro N S x0 x1 x2 x3 H locs ls h hN hW hS hl
  unfold wbX5_settleForce_152 at h
  refine lv_iinc (v := x3 + 1) (lv' := [(3, .int (x3 + 1)), (0, .ref (ad 2 x0)), (1, .int x1), (2, .ref (ad 7 x2))]) hx hb dX5_settleForce_152 hl (k := 3) rfl rfl (by decide) rfl (fun ls hl => ?_)
  refine lv_goto (tgt := 104) hx hb dX5_settleForce_155 (by decide) ?_
  exact hL104 _ _ _ _ _ _ _ _ _ h hN hW hS (lv_sub hl [1, 2, 3, 0] rfl)
set_option maxHeartbeats 4000000 in
set_option maxRecDepth 100000 in
theorem bX5_settleForce_104 {p : Program} {e : Env} {s : State} {m : MethodId} {args : Array Value} {below : List Frame} {meth : Method} {c : Code} {post : tq_Nn → tq_St → Prop} (C : tq_At p s m meth c args cX5_settleForce 5 (none) ((tq_ws yX5_settleForce cX5_settleForce 5 none)) RX5 D cy z ad) {L79 : tq_Nn → tq_St → Nat → Int32 → Prop} (hL79 : ∀ (N : tq_Nn) (S : tq_St) (x0 : Nat) (x1 : Int32) (H : Heap) (locs : List Loc) (ls : Array Slot), L79 N S x0 x1 → tq_nb z A0 s N → tq_wd D cy z H0 ad N (tq_mix S M) H → va_S (fun q => z ≤ q) s.heap H locs → lv_has ls 5 [(0, .ref (ad 2 x0)), (1, .int x1)] → tq_Wb p l e 7 241 s m args below meth c z A0 N H locs (MQ below (va_Qv (fun (u : tq_Nn × tq_St) => post u.1 u.2) (tq_PB D cy z A0 H0 ad M) (fun q => z ≤ q)) args s (z + tq_CX - s.heap.size) (A0 + tq_CY - tq_all s.heap) (fun q => z ≤ q)) (F0 m 79 ls [])) : ∀ n : Nat, ∀ (N : tq_Nn) (S : tq_St) (x0 : Nat) (x1 : Int32) (x2 : Nat) (x3 : Int32) (H : Heap) (locs : List Loc) (ls : Array Slot), wbX5_settleForce_104 post L79 n N S x0 x1 x2 x3 → tq_nb z A0 s N → tq_wd D cy z H0 ad N (tq_mix S M) H → va_S (fun q => z ≤ q) s.heap H locs → lv_has ls 5 [(0, .ref (ad 2 x0)), (1, .int x1), (2, .ref (ad 7 x2)), (3, .int x3)] → tq_Wb p l e 7 241 s m args below meth c z A0 N H locs (MQ below (va_Qv (fun (u : tq_Nn × tq_St) => post u.1 u.2) (tq_PB D cy z A0 H0 ad M) (fun q => z ≤ q)) args s (z + tq_CX - s.heap.size) (A0 + tq_CY - tq_all s.heap) (fun q => z ≤ q)) (F0 m 104 ls []) := by
  obtain ⟨hx, hb, hr, hml, hown, hts, hlocks, hK, hG⟩ := id C
  have hw : ∀ w ∈ tq_W, w.before args s = true := fun w h => hts w (List.mem_cons_of_mem _ h)
  intro n
  induction n with
  | zero =>
    intro N S x0 x1 x2 x3 H locs ls h
    exact absurd h (by unfold wbX5_settleForce_104; exact id)
  | succ n ih =>
    intro N S x0 x1 x2 x3 H locs ls h hN hW hS hl
    unfold wbX5_settleForce_104 at h
    refine lv_iload_n hx hb dX5_settleForce_104 rfl (lv_at hl 3 rfl) ?_
    refine lv_aload_n hx hb dX5_settleForce_105 rfl (lv_at hl 2 rfl) ?_
    obtain ⟨b33, h⟩ := h
    refine tqc_get7 (v := .ref (ad 52 x2)) hx hb hw tq_inX3 tq_inX1 hown hK hW b33 7 (by decide) (hw _ tw_532) (fun _ h9 => h9) rfl dX5_settleForce_106 ?_
    obtain ⟨b34, h⟩ := h
    refine tqc_callVi (As := []) (rest := [.int x3]) (kJl_size (post := fun u r => u = S ∧ r = S 52 x2 2) (by decide) (tq_mk_52 b34) ⟨rfl, rfl⟩) ⟨hx, hb, hml, hown, hts⟩ (cwV 0 hts (tq_goodV tw_1082 tw_485 tw_486 tw_118 tw_487) rfl rfl rfl (by decide +kernel) ⟨(Nat.le_of_ble_eq_true rfl), (Nat.le_of_ble_eq_true rfl)⟩) (tq_recvL hK hW (by decide) (tq_mk_52 b34)) hK hG hW hS rfl hl.1 rfl (Nat.le_of_ble_eq_true rfl) dX5_settleForce_109 hN.f (fun r36 S35 H locs q9 hW hS => ?_)
    rw [q9.1] at hW
    rw [q9.2]
    refine lv_icmp_ge (tgt := 158) hx hb dX5_settleForce_112 (by decide) (fun c37 => ?_) (fun c37 => ?_)
    · have h := h.1 c37
      refine lv_iinc (v := x1 + 1) (lv' := [(1, .int (x1 + 1)), (0, .ref (ad 2 x0)), (2, .ref (ad 7 x2)), (3, .int x3)]) hx hb dX5_settleForce_158 hl (k := 1) rfl rfl (by decide) rfl (fun ls hl => ?_)
      refine lv_goto (tgt := 79) hx hb dX5_settleForce_161 (by decide) ?_
      exact hL79 _ _ _ _ _ _ _ h hN hW hS (lv_sub hl [1, 0] rfl)
    · have h := h.2 c37
      refine lv_aload_n hx hb dX5_settleForce_115 rfl (lv_at hl 2 rfl) ?_
      refine tqc_get7 (v := .ref (ad 52 x2)) hx hb hw tq_inX3 tq_inX1 hown hK hW b33 7 (by decide) (hw _ tw_532) (fun _ h9 => h9) rfl dX5_settleForce_116 ?_
      refine lv_iload_n hx hb dX5_settleForce_119 rfl (lv_at hl 3 rfl) ?_
      obtain ⟨b40, h⟩ := h
      refine tqc_callVr (kr := 10) (As := [.int x3]) (rest := []) (kJl_get (kd := 53) (post := fun u i => u = S ∧ i = tq_el S 52 53 x2 x3) (by decide) (by decide) (tq_mk_52 b34) (fun q9 => tq_mk_53 q9) b40 ⟨rfl, rfl⟩) ⟨hx, hb, hml, hown, hts⟩ (cwV 1 hts (tq_goodV tw_1083 tw_828 tw_829 tw_118 tw_830) rfl rfl rfl (by decide +kernel) ⟨(Nat.le_of_ble_eq_true rfl), (Nat.le_of_ble_eq_true rfl)⟩) (tq_recvL hK hW (by decide) (tq_mk_52 b34)) hK hG hW hS rfl hl.1 rfl (Nat.le_of_ble_eq_true rfl) dX5_settleForce_120 hN.f (fun i39 S38 H locs q9 hW hS => ?_)
      rw [q9.1] at hW
      rw [q9.2]
      obtain ⟨b41, h⟩ := h
      refine va_castS hx hb hown (hw _ tw_1102) (hK.1 5 _ rfl).2 (tq_recvC hK hW (by decide) (tq_mk_10 b41) rfl) dX5_settleForce_123 ?_
      refine lv_astore (lv' := [(4, .ref (ad 10 (tq_el S 52 53 x2 x3))), (0, .ref (ad 2 x0)), (1, .int x1), (2, .ref (ad 7 x2)), (3, .int x3)]) hx hb dX5_settleForce_126 hl (by decide) rfl (fun ls hl => ?_)
      refine lv_aload_n hx hb dX5_settleForce_128 rfl (lv_at hl 1 rfl) ?_
      obtain ⟨b42, h⟩ := h
      refine tqc_get (v := .ref (ad 40 x0)) hx hb hw tq_inX5 hown hK hW (by decide) (tq_mk_2 b42) rfl 14 (by decide) (hw _ tw_278) (fun _ h9 => h9) rfl dX5_settleForce_129 ?_
      refine lv_aload hx hb dX5_settleForce_132 (lv_at hl 0 rfl) ?_
      refine tqc_get (v := .int (S 10 (tq_el S 52 53 x2 x3) 5)) hx hb hw tq_inX4 hown hK hW (by decide) (tq_mk_10 b41) rfl 5 (by decide) (hw _ tw_673) (fun _ h9 => h9) rfl dX5_settleForce_134 ?_
      obtain ⟨b43, h⟩ := h
      refine tqc_iald (jn := (S 10 (tq_el S 52 53 x2 x3) 5).toNatClampNeg) hx hb hK hW (by decide) (tq_mk_40 b42) b43 rfl dX5_settleForce_137 ?_
      refine lv_iload_n hx hb dX5_settleForce_138 rfl (lv_at hl 2 rfl) ?_
      refine lv_icmp_ne (tgt := 152) hx hb dX5_settleForce_139 (by decide) (fun c44 => ?_) (fun c44 => ?_)
      · have h := h.1 c44
        exact bX5_settleForce_152 C (fun N9 M9 a09 a19 H9 q9 ls9 h9 hN9 hW9 hS9 hl9 => hL79 N9 M9 a09 a19 H9 q9 ls9 h9 hN9 hW9 hS9 hl9) (fun N9 M9 a09 a19 a29 a39 H9 q9 ls9 h9 hN9 hW9 hS9 hl9 => ih N9 M9 a09 a19 a29 a39 H9 q9 ls9 h9 hN9 hW9 hS9 hl9) _ _ _ _ _ _ _ _ _ h hN hW hS (lv_sub hl [1, 2, 3, 4] rfl)
      · have h := h.2 c44
        refine lv_aload_n hx hb dX5_settleForce_142 rfl (lv_at hl 1 rfl) ?_
        refine tqc_get (v := .ref (ad 38 x0)) hx hb hw tq_inX5 hown hK hW (by decide) (tq_mk_2 b42) rfl 13 (by decide) (hw _ tw_276) (fun _ h9 => h9) rfl dX5_settleForce_143 ?_
        refine lv_aload hx hb dX5_settleForce_146 (lv_at hl 0 rfl) ?_
        obtain ⟨b48, h⟩ := h
        refine tqb_callVi (C := RJx4a65c) (As := [.ref (ad 10 (tq_el S 52 53 x2 x3))]) (rest := []) (kJl_add (post := fun N1 S1 r => r = 1 ∧ tq_added N S 38 39 x0 (tq_el S 52 53 x2 x3) N1 S1) (tq_LK_38 hG.adr b42) b48 (fun N1 S1 q => ⟨rfl, q⟩)) ⟨hx, hb, hml, hown, hts⟩ (cwV 1 hts (tq_goodV tw_1107 tw_746 tw_747 tw_118 tw_748) rfl rfl rfl (by decide +kernel) ⟨(Nat.le_of_ble_eq_true rfl), (Nat.le_of_ble_eq_true rfl)⟩) (tq_recvL hK hW (by decide) (tq_mk_38 b42)) hK hG hW hS rfl hl.1 rfl (Nat.le_of_ble_eq_true rfl) dX5_settleForce_148 hN (fun r47 N45 S46 H locs q9 hN hW hS => ?_)
        rw [q9.1]
        have h := h N45 S46 q9.2
        refine lv_pop hx hb dX5_settleForce_151 rfl ?_
        exact bX5_settleForce_152 C (fun N9 M9 a09 a19 H9 q9 ls9 h9 hN9 hW9 hS9 hl9 => hL79 N9 M9 a09 a19 H9 q9 ls9 h9 hN9 hW9 hS9 hl9) (fun N9 M9 a09 a19 a29 a39 H9 q9 ls9 h9 hN9 hW9 hS9 hl9 => ih N9 M9 a09 a19 a29 a39 H9 q9 ls9 h9 hN9 hW9 hS9 hl9) _ _ _ _ _ _ _ _ _ h hN hW hS (lv_sub hl [1, 2, 3, 4] rfl)
set_option maxHeartbeats 4000000 in
set_option maxRecDepth 100000 in
theorem bX5_settleForce_79 {p : Program} {e : Env} {s : State} {m : MethodId} {args : Array Value} {below : List Frame} {meth : Method} {c : Code} {post : tq_Nn → tq_St → Prop} (C : tq_At p s m meth c args cX5_settleForce 5 (none) ((tq_ws yX5_settleForce cX5_settleForce 5 none)) RX5 D cy z ad)  : ∀ n : Nat, ∀ (N : tq_Nn) (S : tq_St) (x0 : Nat) (x1 : Int32) (H : Heap) (locs : List Loc) (ls : Array Slot), wbX5_settleForce_79 post  n N S x0 x1 → tq_nb z A0 s N → tq_wd D cy z H0 ad N (tq_mix S M) H → va_S (fun q => z ≤ q) s.heap H locs → lv_has ls 5 [(0, .ref (ad 2 x0)), (1, .int x1)] → tq_Wb p l e 7 241 s m args below meth c z A0 N H locs (MQ below (va_Qv (fun (u : tq_Nn × tq_St) => post u.1 u.2) (tq_PB D cy z A0 H0 ad M) (fun q => z ≤ q)) args s (z + tq_CX - s.heap.size) (A0 + tq_CY - tq_all s.heap) (fun q => z ≤ q)) (F0 m 79 ls []) := by
  obtain ⟨hx, hb, hr, hml, hown, hts, hlocks, hK, hG⟩ := id C
  have hw : ∀ w ∈ tq_W, w.before args s = true := fun w h => hts w (List.mem_cons_of_mem _ h)
  intro n
  induction n with
  | zero =>
    intro N S x0 x1 H locs ls h
    exact absurd h (by unfold wbX5_settleForce_79; exact id)
  | succ n ih =>
    intro N S x0 x1 H locs ls h hN hW hS hl
    unfold wbX5_settleForce_79 at h
    refine lv_iload_n hx hb dX5_settleForce_79 rfl (lv_at hl 1 rfl) ?_
    refine lv_aload_n hx hb dX5_settleForce_80 rfl (lv_at hl 0 rfl) ?_
    obtain ⟨b13, h⟩ := h
    refine tqc_get (v := .ref (ad 36 x0)) hx hb hw tq_inX5 hown hK hW (by decide) (tq_mk_2 b13) rfl 12 (by decide) (hw _ tw_275) (fun _ h9 => h9) rfl dX5_settleForce_81 ?_
    refine tqc_callVi (As := []) (rest := [.int x1]) (kJl_size (post := fun u r => u = S ∧ r = S 36 x0 2) (by decide) (tq_mk_36 b13) ⟨rfl, rfl⟩) ⟨hx, hb, hml, hown, hts⟩ (cwV 0 hts (tq_goodV tw_1082 tw_485 tw_486 tw_118 tw_487) rfl rfl rfl (by decide +kernel) ⟨(Nat.le_of_ble_eq_true rfl), (Nat.le_of_ble_eq_true rfl)⟩) (tq_recvL hK hW (by decide) (tq_mk_36 b13)) hK hG hW hS rfl hl.1 rfl (Nat.le_of_ble_eq_true rfl) dX5_settleForce_84 hN.f (fun r15 S14 H locs q9 hW hS => ?_)
    rw [q9.1] at hW
    rw [q9.2]
    refine lv_icmp_ge (tgt := 164) hx hb dX5_settleForce_87 (by decide) (fun c16 => ?_) (fun c16 => ?_)
    · have h := h.1 c16
      exact tqb_vret hx hb hr hN h hW hS dX5_settleForce_164 hlocks
    · have h := h.2 c16
      refine lv_aload_n hx hb dX5_settleForce_90 rfl (lv_at hl 0 rfl) ?_
      refine tqc_get (v := .ref (ad 36 x0)) hx hb hw tq_inX5 hown hK hW (by decide) (tq_mk_2 b13) rfl 12 (by decide) (hw _ tw_275) (fun _ h9 => h9) rfl dX5_settleForce_91 ?_
      refine lv_iload_n hx hb dX5_settleForce_94 rfl (lv_at hl 1 rfl) ?_
      obtain ⟨b19, h⟩ := h
      refine tqc_callVr (kr := 7) (As := [.int x1]) (rest := []) (kJl_get (kd := 37) (post := fun u i => u = S ∧ i = tq_el S 36 37 x0 x1) (by decide) (by decide) (tq_mk_36 b13) (fun q9 => tq_mk_37 q9) b19 ⟨rfl, rfl⟩) ⟨hx, hb, hml, hown, hts⟩ (cwV 1 hts (tq_goodV tw_1083 tw_828 tw_829 tw_118 tw_830) rfl rfl rfl (by decide +kernel) ⟨(Nat.le_of_ble_eq_true rfl), (Nat.le_of_ble_eq_true rfl)⟩) (tq_recvL hK hW (by decide) (tq_mk_36 b13)) hK hG hW hS rfl hl.1 rfl (Nat.le_of_ble_eq_true rfl) dX5_settleForce_95 hN.f (fun i18 S17 H locs q9 hW hS => ?_)
      rw [q9.1] at hW
      rw [q9.2]
      obtain ⟨b20, h⟩ := h
      refine tqc_cast7 hx hb hown (hw _ tw_1084) hK hG hW b20 dX5_settleForce_98 ?_
      refine lv_astore_n (lv' := [(2, .ref (ad 7 (tq_el S 36 37 x0 x1))), (0, .ref (ad 2 x0)), (1, .int x1)]) hx hb dX5_settleForce_101 rfl hl (by decide) rfl (fun ls hl => ?_)
      refine lv_iconst (v := 0) hx hb dX5_settleForce_102 (by decide) ?_
      refine lv_istore_n (lv' := [(3, .int 0), (2, .ref (ad 7 (tq_el S 36 37 x0 x1))), (0, .ref (ad 2 x0)), (1, .int x1)]) hx hb dX5_settleForce_103 rfl hl (by decide) rfl (fun ls hl => ?_)
      obtain ⟨nq, h⟩ := h
      exact bX5_settleForce_104 C (fun N9 M9 a09 a19 H9 q9 ls9 h9 hN9 hW9 hS9 hl9 => ih N9 M9 a09 a19 H9 q9 ls9 h9 hN9 hW9 hS9 hl9) nq _ _ _ _ _ _ _ _ _ h hN hW hS (lv_sub hl [2, 3, 1, 0] rfl)
set_option maxHeartbeats 4000000 in
set_option maxRecDepth 100000 in
theorem bX5_settleForce_2 {p : Program} {e : Env} {s : State} {m : MethodId} {args : Array Value} {below : List Frame} {meth : Method} {c : Code} {post : tq_Nn → tq_St → Prop} (C : tq_At p s m meth c args cX5_settleForce 5 (none) ((tq_ws yX5_settleForce cX5_settleForce 5 none)) RX5 D cy z ad)  : ∀ n : Nat, ∀ (N : tq_Nn) (S : tq_St) (x0 : Nat) (x1 : Int32) (H : Heap) (locs : List Loc) (ls : Array Slot), wbX5_settleForce_2 post  n N S x0 x1 → tq_nb z A0 s N → tq_wd D cy z H0 ad N (tq_mix S M) H → va_S (fun q => z ≤ q) s.heap H locs → lv_has ls 5 [(0, .ref (ad 2 x0)), (1, .int x1)] → tq_Wb p l e 7 241 s m args below meth c z A0 N H locs (MQ below (va_Qv (fun (u : tq_Nn × tq_St) => post u.1 u.2) (tq_PB D cy z A0 H0 ad M) (fun q => z ≤ q)) args s (z + tq_CX - s.heap.size) (A0 + tq_CY - tq_all s.heap) (fun q => z ≤ q)) (F0 m 2 ls []) := by
  obtain ⟨hx, hb, hr, hml, hown, hts, hlocks, hK, hG⟩ := id C
  have hw : ∀ w ∈ tq_W, w.before args s = true := fun w h => hts w (List.mem_cons_of_mem _ h)
  intro n
  induction n with
  | zero =>
    intro N S x0 x1 H locs ls h
    exact absurd h (by unfold wbX5_settleForce_2; exact id)
  | succ n ih =>
    intro N S x0 x1 H locs ls h hN hW hS hl
    unfold wbX5_settleForce_2 at h
    refine lv_iload_n hx hb dX5_settleForce_2 rfl (lv_at hl 1 rfl) ?_
    refine lv_aload_n hx hb dX5_settleForce_3 rfl (lv_at hl 0 rfl) ?_
    obtain ⟨b1, h⟩ := h
    refine tqc_get (v := .ref (ad 36 x0)) hx hb hw tq_inX5 hown hK hW (by decide) (tq_mk_2 b1) rfl 12 (by decide) (hw _ tw_275) (fun _ h9 => h9) rfl dX5_settleForce_4 ?_
    refine tqc_callVi (As := []) (rest := [.int x1]) (kJl_size (post := fun u r => u = S ∧ r = S 36 x0 2) (by decide) (tq_mk_36 b1) ⟨rfl, rfl⟩) ⟨hx, hb, hml, hown, hts⟩ (cwV 0 hts (tq_goodV tw_1082 tw_485 tw_486 tw_118 tw_487) rfl rfl rfl (by decide +kernel) ⟨(Nat.le_of_ble_eq_true rfl), (Nat.le_of_ble_eq_true rfl)⟩) (tq_recvL hK hW (by decide) (tq_mk_36 b1)) hK hG hW hS rfl hl.1 rfl (Nat.le_of_ble_eq_true rfl) dX5_settleForce_7 hN.f (fun r3 S2 H locs q9 hW hS => ?_)
    rw [q9.1] at hW
    rw [q9.2]
    refine lv_icmp_ge (tgt := 70) hx hb dX5_settleForce_10 (by decide) (fun c4 => ?_) (fun c4 => ?_)
    · have h := h.1 c4
      refine lv_aload_n hx hb dX5_settleForce_70 rfl (lv_at hl 0 rfl) ?_
      refine tqc_get (v := .ref (ad 38 x0)) hx hb hw tq_inX5 hown hK hW (by decide) (tq_mk_2 b1) rfl 13 (by decide) (hw _ tw_276) (fun _ h9 => h9) rfl dX5_settleForce_71 ?_
      obtain ⟨n6, c7, b8, h⟩ := h
      refine tqc_callVv (C := RJx4a65c) (As := []) (rest := []) (kJl_clr (post := fun u => u = tq_clred S 38 39 x0 n6) (tq_LK_38 hG.adr b1) b8 rfl) ⟨hx, hb, hml, hown, hts⟩ (cwV 0 hts (tq_goodV tw_1103 tw_1104 tw_1105 tw_118 tw_1106) rfl rfl rfl (by decide +kernel) ⟨(Nat.le_of_ble_eq_true rfl), (Nat.le_of_ble_eq_true rfl)⟩) (tq_recvL hK hW (by decide) (tq_mk_38 b1)) hK hG hW hS rfl hl.1 rfl (Nat.le_of_ble_eq_true rfl) dX5_settleForce_74 hN.f (fun S5 H locs q9 hW hS => ?_)
      have h := h S5 q9
      refine lv_iconst (v := 0) hx hb dX5_settleForce_77 (by decide) ?_
      refine lv_istore_n (lv' := [(1, .int 0), (0, .ref (ad 2 x0))]) hx hb dX5_settleForce_78 rfl hl (by decide) rfl (fun ls hl => ?_)
      obtain ⟨nq, h⟩ := h
      exact bX5_settleForce_79 C  nq _ _ _ _ _ _ _ h hN hW hS (lv_sub hl [1, 0] rfl)
    · have h := h.2 c4
      refine lv_aload_n hx hb dX5_settleForce_13 rfl (lv_at hl 0 rfl) ?_
      refine tqc_get (v := .ref (ad 36 x0)) hx hb hw tq_inX5 hown hK hW (by decide) (tq_mk_2 b1) rfl 12 (by decide) (hw _ tw_275) (fun _ h9 => h9) rfl dX5_settleForce_14 ?_
      refine lv_iload_n hx hb dX5_settleForce_17 rfl (lv_at hl 1 rfl) ?_
      obtain ⟨b11, h⟩ := h
      refine tqc_callVr (kr := 7) (As := [.int x1]) (rest := []) (kJl_get (kd := 37) (post := fun u i => u = S ∧ i = tq_el S 36 37 x0 x1) (by decide) (by decide) (tq_mk_36 b1) (fun q9 => tq_mk_37 q9) b11 ⟨rfl, rfl⟩) ⟨hx, hb, hml, hown, hts⟩ (cwV 1 hts (tq_goodV tw_1083 tw_828 tw_829 tw_118 tw_830) rfl rfl rfl (by decide +kernel) ⟨(Nat.le_of_ble_eq_true rfl), (Nat.le_of_ble_eq_true rfl)⟩) (tq_recvL hK hW (by decide) (tq_mk_36 b1)) hK hG hW hS rfl hl.1 rfl (Nat.le_of_ble_eq_true rfl) dX5_settleForce_18 hN.f (fun i10 S9 H locs q9 hW hS => ?_)
      rw [q9.1] at hW
      rw [q9.2]
      obtain ⟨b12, h⟩ := h
      refine tqc_cast7 hx hb hown (hw _ tw_1084) hK hG hW b12 dX5_settleForce_21 ?_
      refine lv_astore_n (lv' := [(2, .ref (ad 7 (tq_el S 36 37 x0 x1))), (0, .ref (ad 2 x0)), (1, .int x1)]) hx hb dX5_settleForce_24 rfl hl (by decide) rfl (fun ls hl => ?_)
      refine lv_iconst (v := 0) hx hb dX5_settleForce_25 (by decide) ?_
      refine lv_istore_n (lv' := [(3, .int 0), (2, .ref (ad 7 (tq_el S 36 37 x0 x1))), (0, .ref (ad 2 x0)), (1, .int x1)]) hx hb dX5_settleForce_26 rfl hl (by decide) rfl (fun ls hl => ?_)
      obtain ⟨nq, h⟩ := h
      exact bX5_settleForce_27 C (fun N9 M9 a09 a19 H9 q9 ls9 h9 hN9 hW9 hS9 hl9 => ih N9 M9 a09 a19 H9 q9 ls9 h9 hN9 hW9 hS9 hl9) nq _ _ _ _ _ _ _ _ _ h hN hW hS (lv_sub hl [2, 3, 1, 0] rfl)
set_option maxHeartbeats 4000000 in
set_option maxRecDepth 100000 in
theorem kX5_settleForce {post : tq_Nn → tq_St → Prop} {N : tq_Nn} {S : tq_St} {sz sl : Nat} {o : Nat} (h : wpX5_settleForce post N S o) : tq_bV l yX5_settleForce (tq_ws yX5_settleForce cX5_settleForce 5 none) 7 241 D cy z A0 H0 ad N M S sz sl [.ref (ad 2 o)] post := by
  unfold wpX5_settleForce at h
  refine Met.ofW (cc := cX5_settleForce) (maxL := 5) (ret := none) (by decide) rfl ?_
  intro p e s m args below meth c s₁ B hml hv
  obtain ⟨rfl, ⟨hW, hK, hG⟩, rfl, rfl, hN1, hN2, hN3, hN4⟩ := hv
  have hN : tq_nb z A0 s N := ⟨hN1, hN2, hN3, hN4⟩
  have hx := B.exec
  have hb := B.bytes
  have hr := B.returns
  have hts := atoms_spec (ws := (tq_ws yX5_settleForce cX5_settleForce 5 none)) B.pre
  have hw : ∀ w ∈ tq_W, w.before _ s = true := fun w h => hts w (List.mem_cons_of_mem _ h)
  have hown : s.vm.findClass RX5 = some m.cls := findClass_of_methodNamed B.named
  have hlocks := B.notSynchronized
  have C : tq_At p s m meth c [.ref (ad 2 o)].toArray cX5_settleForce 5 (none) ((tq_ws yX5_settleForce cX5_settleForce 5 none)) RX5 D cy z ad := ⟨hx, hb, hr, hml, hown, hts, hlocks, hK, hG⟩
  have hS : va_S (fun q => z ≤ q) s.heap s.heap [] := va_S.rf
  have hl := lv_entry ([.ref (ad 2 o)]) (n := 5) (Nat.le_of_ble_eq_true rfl)
  rw [lg_entry_eq]
  generalize (lg_sl ([.ref (ad 2 o)]) ++ List.replicate (5 - (lg_sl ([.ref (ad 2 o)])).length) Slot.unset).toArray = ls at hl ⊢
  have hl : lv_has ls 5 [(0, .ref (ad 2 o))] := hl
  have hW : tq_wd D cy z H0 ad N (tq_mix S M) s.heap := hW
  refine tq_tight (c1 := z + N 0 0 - s.heap.size) (n1 := A0 + N 0 1 - tq_all s.heap) (by omega) (by omega) ?_
  refine lv_iconst (v := 0) hx hb dX5_settleForce_0 (by decide) ?_
  refine lv_istore_n (lv' := [(1, .int 0), (0, .ref (ad 2 o))]) hx hb dX5_settleForce_1 rfl hl (by decide) rfl (fun ls hl => ?_)
  obtain ⟨nq, h⟩ := h
  exact bX5_settleForce_2 C  nq _ _ _ _ _ _ _ h hN hW hS (lv_sub hl [1, 0] rfl)
