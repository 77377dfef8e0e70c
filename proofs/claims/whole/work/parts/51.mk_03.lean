variable {l : Launch} {D : va_G} {cy : Nat → ClassId} {z A0 : Nat} {H0 : Heap} {ad : Nat → Nat → Nat} {M : tq_St}
-- X5 receiveOrder
def wbX5_receiveOrder_39 (post : tq_Nn → tq_St → Prop)  (N : tq_Nn) (S : tq_St) (x0 : Nat) (x1 : Nat) (x2 : Int32) : Prop :=
  x0 < 5 ∧ (∃ n16 p17 : Nat, tq_aok N S 36 37 7 x0 x1 ∧ S 36 x0 2 = nI n16 ∧ n16 ≤ 4000 ∧ p17 ≤ n16 ∧ x2 = nI p17 ∧ (∀ N14 S15, tq_addedAt N S 36 37 x0 p17 x1 N14 S15 → (wpX5_settleForce (fun N23 S24  => post N23 S24) N14 S15 x0)))
def wbX5_receiveOrder_8 (post : tq_Nn → tq_St → Prop) : Nat → tq_Nn → tq_St → Nat → Nat → Int32 → Prop
  | 0, _, _, _, _, _ => False
  | n + 1, N, S, x0, x1, x2 =>
    (x2 ≤ 0 → (wbX5_receiveOrder_39 post N S x0 x1 x2)) ∧ (¬ x2 ≤ 0 → (x0 < 5 ∧ (tq_gok N S 36 37 x0 (x2 - 1) ∧ (N 7 (tq_el S 36 37 x0 (x2 - 1)) = 1 ∧ (wpX5_comesBehind N (fun S10 r11 => (r11 = 0 → (wbX5_receiveOrder_39 post N S10 x0 x1 x2)) ∧ (¬ r11 = 0 → ((wbX5_receiveOrder_8 post n) N S10 x0 x1 (x2 + (-1))))) S x0 (tq_el S 36 37 x0 (x2 - 1)) x1)))))
def wpX5_receiveOrder (post : tq_Nn → tq_St → Prop) (N : tq_Nn) (S : tq_St) (o : Nat) (p1 : Nat) : Prop :=
  o < 5 ∧ (∃ nq, wbX5_receiveOrder_8 post nq N S o p1 (S 36 o 2))
set_option maxHeartbeats 4000000 in
set_option maxRecDepth 100000 in
theorem bX5_receiveOrder_39 {p : Program} {e : Env} {s : State} {m : MethodId} {args : Array Value} {below : List Frame} {meth : Method} {c : Code} {post : tq_Nn → tq_St → Prop} (C : tq_At p s m meth c args cX5_receiveOrder 3 (none) ((tq_ws yX5_receiveOrder cX5_receiveOrder 3 none)) RX5 D cy z ad)  : ∀ (N : tq_Nn) (S : tq_St) (x0 : Nat) (x1 : Nat) (x2 : Int32) (H : Heap) (locs : List Loc) (ls : Array Slot), wbX5_receiveOrder_39 post  N S x0 x1 x2 → tq_nb z A0 s N → tq_wd D cy z H0 ad N (tq_mix S M) H → va_S (fun q => z ≤ q) s.heap H locs → lv_has ls 3 [(0, .ref (ad 2 x0)), (1, .ref (ad 7 x1)), (2, .int x2)] → tq_Wb p l e 8 265 s m args below meth c z A0 N H locs (MQ below (va_Qv (fun (u : tq_Nn × tq_St) => post u.1 u.2) (tq_PB D cy z A0 H0 ad M) (fun q => z ≤ q)) args s (z + tq_CX - s.heap.size) (A0 + tq_CY - tq_all s.heap) (fun q => z ≤ q)) (F0 m 39 ls []) := by
  obtain ⟨hx, hb, hr, hml, hown, hts, hlocks, hK, hG⟩ := id C
  have hw : ∀ w ∈ tq_W, w.before args s = true := fun w h => hts w (List.mem_cons_of_mem _ h)
  intro N S x0 x1 x2 H locs ls h hN hW hS hl
  unfold wbX5_receiveOrder_39 at h
  refine lv_aload_n hx hb dX5_receiveOrder_39 rfl (lv_at hl 0 rfl) ?_
  obtain ⟨b13, h⟩ := h
  refine tqc_get (v := .ref (ad 36 x0)) hx hb hw tq_inX5 hown hK hW (by decide) (tq_mk_2 b13) rfl 12 (by decide) (hw _ tw_275) (fun _ h9 => h9) rfl dX5_receiveOrder_40 ?_
  refine lv_iload_n hx hb dX5_receiveOrder_43 rfl (lv_at hl 2 rfl) ?_
  refine lv_aload_n hx hb dX5_receiveOrder_44 rfl (lv_at hl 1 rfl) ?_
  obtain ⟨n16, p17, b18, b19, b20, b21, b22, h⟩ := h
  refine W.eq (g2 := F0 m 45 ls ([.ref (ad 7 x1), .int (nI p17), .ref (ad 36 x0)])) (by rw [b22]) ?_
  refine tqb_callVv (C := RJx4a65c) (As := [.int (nI p17), .ref (ad 7 x1)]) (rest := []) (kJl_addAt (post := fun N1 S1 => tq_addedAt N S 36 37 x0 p17 x1 N1 S1) (tq_LK_36 hG.adr b13) b18 b19 b20 b21 (fun N1 S1 q => q)) ⟨hx, hb, hml, hown, hts⟩ (cwV 2 hts (tq_goodV tw_1089 tw_1090 tw_1091 tw_118 tw_1092) rfl rfl rfl (by decide +kernel) ⟨(Nat.le_of_ble_eq_true rfl), (Nat.le_of_ble_eq_true rfl)⟩) (tq_recvL hK hW (by decide) (tq_mk_36 b13)) hK hG hW hS rfl hl.1 rfl (Nat.le_of_ble_eq_true rfl) dX5_receiveOrder_45 hN (fun N14 S15 H locs q9 hN hW hS => ?_)
  have h := h N14 S15 q9
  refine lv_aload_n hx hb dX5_receiveOrder_48 rfl (lv_at hl 0 rfl) ?_
  refine tqb_callVv (As := []) (rest := []) (kX5_settleForce h) ⟨hx, hb, hml, hown, hts⟩ (cwV 0 hts (tq_goodV tw_1098 tw_1100 tw_33 tw_122 tw_1101) rfl rfl rfl (by decide +kernel) ⟨(Nat.le_of_ble_eq_true rfl), (Nat.le_of_ble_eq_true rfl)⟩) (tq_recvC hK hW (by decide) (tq_mk_2 b13) rfl) hK hG hW hS rfl hl.1 rfl (Nat.le_of_ble_eq_true rfl) dX5_receiveOrder_49 hN (fun  N23 S24 H locs h hN hW hS => ?_)
  exact tqb_vret hx hb hr hN h hW hS dX5_receiveOrder_52 hlocks
set_option maxHeartbeats 4000000 in
set_option maxRecDepth 100000 in
theorem bX5_receiveOrder_8 {p : Program} {e : Env} {s : State} {m : MethodId} {args : Array Value} {below : List Frame} {meth : Method} {c : Code} {post : tq_Nn → tq_St → Prop} (C : tq_At p s m meth c args cX5_receiveOrder 3 (none) ((tq_ws yX5_receiveOrder cX5_receiveOrder 3 none)) RX5 D cy z ad)  : ∀ n : Nat, ∀ (N : tq_Nn) (S : tq_St) (x0 : Nat) (x1 : Nat) (x2 : Int32) (H : Heap) (locs : List Loc) (ls : Array Slot), wbX5_receiveOrder_8 post  n N S x0 x1 x2 → tq_nb z A0 s N → tq_wd D cy z H0 ad N (tq_mix S M) H → va_S (fun q => z ≤ q) s.heap H locs → lv_has ls 3 [(0, .ref (ad 2 x0)), (1, .ref (ad 7 x1)), (2, .int x2)] → tq_Wb p l e 8 265 s m args below meth c z A0 N H locs (MQ below (va_Qv (fun (u : tq_Nn × tq_St) => post u.1 u.2) (tq_PB D cy z A0 H0 ad M) (fun q => z ≤ q)) args s (z + tq_CX - s.heap.size) (A0 + tq_CY - tq_all s.heap) (fun q => z ≤ q)) (F0 m 8 ls []) := by
  obtain ⟨hx, hb, hr, hml, hown, hts, hlocks, hK, hG⟩ := id C
  have hw : ∀ w ∈ tq_W, w.before args s = true := fun w h => hts w (List.mem_cons_of_mem _ h)
  intro n
  induction n with
  | zero =>
    intro N S x0 x1 x2 H locs ls h
    exact absurd h (by unfold wbX5_receiveOrder_8; exact id)
  | succ n ih =>
    intro N S x0 x1 x2 H locs ls h hN hW hS hl
    unfold wbX5_receiveOrder_8 at h
    refine lv_iload_n hx hb dX5_receiveOrder_8 rfl (lv_at hl 2 rfl) ?_
    refine lv_if_le (tgt := 39) hx hb dX5_receiveOrder_9 (by decide) (fun c4 => ?_) (fun c4 => ?_)
    · have h := h.1 c4
      exact bX5_receiveOrder_39 C  _ _ _ _ _ _ _ _ h hN hW hS (lv_sub hl [0, 1, 2] rfl)
    · have h := h.2 c4
      refine lv_aload_n hx hb dX5_receiveOrder_12 rfl (lv_at hl 0 rfl) ?_
      refine lv_aload_n hx hb dX5_receiveOrder_13 rfl (lv_at hl 0 rfl) ?_
      obtain ⟨b5, h⟩ := h
      refine tqc_get (v := .ref (ad 36 x0)) hx hb hw tq_inX5 hown hK hW (by decide) (tq_mk_2 b5) rfl 12 (by decide) (hw _ tw_275) (fun _ h9 => h9) rfl dX5_receiveOrder_14 ?_
      refine lv_iload_n hx hb dX5_receiveOrder_17 rfl (lv_at hl 2 rfl) ?_
      refine lv_iconst (v := 1) hx hb dX5_receiveOrder_18 (by decide) ?_
      refine lv_isub hx hb dX5_receiveOrder_19 ?_
      obtain ⟨b8, h⟩ := h
      refine tqc_callVr (kr := 7) (As := [.int (x2 - 1)]) (rest := [.ref (ad 2 x0)]) (kJl_get (kd := 37) (post := fun u i => u = S ∧ i = tq_el S 36 37 x0 (x2 - 1)) (by decide) (by decide) (tq_mk_36 b5) (fun q9 => tq_mk_37 q9) b8 ⟨rfl, rfl⟩) ⟨hx, hb, hml, hown, hts⟩ (cwV 1 hts (tq_goodV tw_1083 tw_828 tw_829 tw_118 tw_830) rfl rfl rfl (by decide +kernel) ⟨(Nat.le_of_ble_eq_true rfl), (Nat.le_of_ble_eq_true rfl)⟩) (tq_recvL hK hW (by decide) (tq_mk_36 b5)) hK hG hW hS rfl hl.1 rfl (Nat.le_of_ble_eq_true rfl) dX5_receiveOrder_20 hN.f (fun i7 S6 H locs q9 hW hS => ?_)
      rw [q9.1] at hW
      rw [q9.2]
      obtain ⟨b9, h⟩ := h
      refine tqc_cast7 hx hb hown (hw _ tw_1084) hK hG hW b9 dX5_receiveOrder_23 ?_
      refine lv_aload_n hx hb dX5_receiveOrder_26 rfl (lv_at hl 1 rfl) ?_
      refine tqc_callVi (As := [.ref (ad 7 (tq_el S 36 37 x0 (x2 - 1))), .ref (ad 7 x1)]) (rest := []) (kX5_comesBehind h) ⟨hx, hb, hml, hown, hts⟩ (cwV 2 hts (tq_goodV tw_1085 tw_1087 tw_31 tw_122 tw_1088) rfl rfl rfl (by decide +kernel) ⟨(Nat.le_of_ble_eq_true rfl), (Nat.le_of_ble_eq_true rfl)⟩) (tq_recvC hK hW (by decide) (tq_mk_2 b5) rfl) hK hG hW hS rfl hl.1 rfl (Nat.le_of_ble_eq_true rfl) dX5_receiveOrder_27 hN.f (fun r11 S10 H locs h hW hS => ?_)
      refine lv_if_eq (tgt := 39) hx hb dX5_receiveOrder_30 (by decide) (fun c12 => ?_) (fun c12 => ?_)
      · have h := h.1 c12
        exact bX5_receiveOrder_39 C  _ _ _ _ _ _ _ _ h hN hW hS (lv_sub hl [0, 1, 2] rfl)
      · have h := h.2 c12
        refine lv_iinc (v := x2 + (-1)) (lv' := [(2, .int (x2 + (-1))), (0, .ref (ad 2 x0)), (1, .ref (ad 7 x1))]) hx hb dX5_receiveOrder_33 hl (k := 2) rfl rfl (by decide) rfl (fun ls hl => ?_)
        refine lv_goto (tgt := 8) hx hb dX5_receiveOrder_36 (by decide) ?_
        exact ih _ _ _ _ _ _ _ _ h hN hW hS (lv_sub hl [1, 2, 0] rfl)
set_option maxHeartbeats 4000000 in
set_option maxRecDepth 100000 in
theorem kX5_receiveOrder {post : tq_Nn → tq_St → Prop} {N : tq_Nn} {S : tq_St} {sz sl : Nat} {o : Nat} {p1 : Nat} (h : wpX5_receiveOrder post N S o p1) : tq_bV l yX5_receiveOrder (tq_ws yX5_receiveOrder cX5_receiveOrder 3 none) 8 265 D cy z A0 H0 ad N M S sz sl [.ref (ad 2 o), .ref (ad 7 p1)] post := by
  unfold wpX5_receiveOrder at h
  refine Met.ofW (cc := cX5_receiveOrder) (maxL := 3) (ret := none) (by decide) rfl ?_
  intro p e s m args below meth c s₁ B hml hv
  obtain ⟨rfl, ⟨hW, hK, hG⟩, rfl, rfl, hN1, hN2, hN3, hN4⟩ := hv
  have hN : tq_nb z A0 s N := ⟨hN1, hN2, hN3, hN4⟩
  have hx := B.exec
  have hb := B.bytes
  have hr := B.returns
  have hts := atoms_spec (ws := (tq_ws yX5_receiveOrder cX5_receiveOrder 3 none)) B.pre
  have hw : ∀ w ∈ tq_W, w.before _ s = true := fun w h => hts w (List.mem_cons_of_mem _ h)
  have hown : s.vm.findClass RX5 = some m.cls := findClass_of_methodNamed B.named
  have hlocks := B.notSynchronized
  have C : tq_At p s m meth c [.ref (ad 2 o), .ref (ad 7 p1)].toArray cX5_receiveOrder 3 (none) ((tq_ws yX5_receiveOrder cX5_receiveOrder 3 none)) RX5 D cy z ad := ⟨hx, hb, hr, hml, hown, hts, hlocks, hK, hG⟩
  have hS : va_S (fun q => z ≤ q) s.heap s.heap [] := va_S.rf
  have hl := lv_entry ([.ref (ad 2 o), .ref (ad 7 p1)]) (n := 3) (Nat.le_of_ble_eq_true rfl)
  rw [lg_entry_eq]
  generalize (lg_sl ([.ref (ad 2 o), .ref (ad 7 p1)]) ++ List.replicate (3 - (lg_sl ([.ref (ad 2 o), .ref (ad 7 p1)])).length) Slot.unset).toArray = ls at hl ⊢
  have hl : lv_has ls 3 [(0, .ref (ad 2 o)), (1, .ref (ad 7 p1))] := hl
  have hW : tq_wd D cy z H0 ad N (tq_mix S M) s.heap := hW
  refine tq_tight (c1 := z + N 0 0 - s.heap.size) (n1 := A0 + N 0 1 - tq_all s.heap) (by omega) (by omega) ?_
  refine lv_aload_n hx hb dX5_receiveOrder_0 rfl (lv_at hl 0 rfl) ?_
  obtain ⟨b1, h⟩ := h
  refine tqc_get (v := .ref (ad 36 o)) hx hb hw tq_inX5 hown hK hW (by decide) (tq_mk_2 b1) rfl 12 (by decide) (hw _ tw_275) (fun _ h9 => h9) rfl dX5_receiveOrder_1 ?_
  refine tqc_callVi (As := []) (rest := []) (kJl_size (post := fun u r => u = S ∧ r = S 36 o 2) (by decide) (tq_mk_36 b1) ⟨rfl, rfl⟩) ⟨hx, hb, hml, hown, hts⟩ (cwV 0 hts (tq_goodV tw_1082 tw_485 tw_486 tw_118 tw_487) rfl rfl rfl (by decide +kernel) ⟨(Nat.le_of_ble_eq_true rfl), (Nat.le_of_ble_eq_true rfl)⟩) (tq_recvL hK hW (by decide) (tq_mk_36 b1)) hK hG hW hS rfl hl.1 rfl (Nat.le_of_ble_eq_true rfl) dX5_receiveOrder_4 hN.f (fun r3 S2 H locs q9 hW hS => ?_)
  rw [q9.1] at hW
  rw [q9.2]
  refine lv_istore_n (lv' := [(2, .int (S 36 o 2)), (0, .ref (ad 2 o)), (1, .ref (ad 7 p1))]) hx hb dX5_receiveOrder_7 rfl hl (by decide) rfl (fun ls hl => ?_)
  obtain ⟨nq, h⟩ := h
  exact bX5_receiveOrder_8 C  nq _ _ _ _ _ _ _ _ h hN hW hS (lv_sub hl [1, 2, 0] rfl)
-- X11 write
def wpX11_write (post : tq_Nn → tq_St → Nat → Prop) (N : tq_Nn) (S : tq_St) (p0 : Int32) (p1 : Nat) (p2 : Int32) : Prop :=
  N 0 0 + 1 ≤ tq_CX ∧ N 0 1 + 10 ≤ tq_CY ∧ (∀ i3, ¬ i3 < 1 → i3 ≤ N 0 0 → tq_fr N i3 → ∀ N4, N4 = tq_na N (i3 + 1) 1 i3 1 10 → ∀ S5, S5 = tq_cp S 1 i3 (fun _ => 0) → (wpX3_init (fun N9 S10 => tq_aok N9 S10 15 16 7 0 i3 ∧ (∀ N11 S12, tq_added N9 S10 15 16 0 i3 N11 S12 → (post N11 S12 i3))) N4 S5 i3 (S5 15 0 2) p0 p1 p2 (S5 1 0 0)))
set_option maxHeartbeats 4000000 in
set_option maxRecDepth 100000 in
theorem kX11_write {post : tq_Nn → tq_St → Nat → Prop} {N : tq_Nn} {S : tq_St} {sz sl : Nat} {p0 : Int32} {p1 : Nat} {p2 : Int32} (h : wpX11_write post N S p0 p1 p2) : tq_bR 7 l yX11_write (tq_ws yX11_write cX11_write 5 (some (.object "TwoSeas$Paper"))) 7 241 D cy z A0 H0 ad N M S sz sl [.ref (ad 1 0), .int p0, .ref (ad 2 p1), .int p2] post := by
  unfold wpX11_write at h
  refine Met.ofW (cc := cX11_write) (maxL := 5) (ret := (some (.object "TwoSeas$Paper"))) (by decide) rfl ?_
  intro p e s m args below meth c s₁ B hml hv
  obtain ⟨rfl, ⟨hW, hK, hG⟩, rfl, rfl, hN1, hN2, hN3, hN4⟩ := hv
  have hN : tq_nb z A0 s N := ⟨hN1, hN2, hN3, hN4⟩
  have hx := B.exec
  have hb := B.bytes
  have hr := B.returns
  have hts := atoms_spec (ws := (tq_ws yX11_write cX11_write 5 (some (.object "TwoSeas$Paper")))) B.pre
  have hw : ∀ w ∈ tq_W, w.before _ s = true := fun w h => hts w (List.mem_cons_of_mem _ h)
  have hown : s.vm.findClass RX11 = some m.cls := findClass_of_methodNamed B.named
  have hlocks := B.notSynchronized
  have C : tq_At p s m meth c [.ref (ad 1 0), .int p0, .ref (ad 2 p1), .int p2].toArray cX11_write 5 ((some (.object "TwoSeas$Paper"))) ((tq_ws yX11_write cX11_write 5 (some (.object "TwoSeas$Paper")))) RX11 D cy z ad := ⟨hx, hb, hr, hml, hown, hts, hlocks, hK, hG⟩
  have hS : va_S (fun q => z ≤ q) s.heap s.heap [] := va_S.rf
  have hl := lv_entry ([.ref (ad 1 0), .int p0, .ref (ad 2 p1), .int p2]) (n := 5) (Nat.le_of_ble_eq_true rfl)
  rw [lg_entry_eq]
  generalize (lg_sl ([.ref (ad 1 0), .int p0, .ref (ad 2 p1), .int p2]) ++ List.replicate (5 - (lg_sl ([.ref (ad 1 0), .int p0, .ref (ad 2 p1), .int p2])).length) Slot.unset).toArray = ls at hl ⊢
  have hl : lv_has ls 5 [(0, .ref (ad 1 0)), (1, .int p0), (2, .ref (ad 2 p1)), (3, .int p2)] := hl
  have hW : tq_wd D cy z H0 ad N (tq_mix S M) s.heap := hW
  refine tq_tight (c1 := z + N 0 0 - s.heap.size) (n1 := A0 + N 0 1 - tq_all s.heap) (by omega) (by omega) ?_
  obtain ⟨b1, b2, h⟩ := h
  refine tqw_new (ci := 4) (t := 1) (fs := [.int 0, .int 0, .int 0, .int 0, .int 0, .null, .null, .null, .int 0, .int 0]) hx hb hw tq_inX3 tyX3 tyX3_ok hown (hw _ tw_488) (hw _ tw_489) (hw _ tw_126) hK hG hW hS hN rfl (by decide) (fun _ => rfl) b1 b2 dX11_write_0 (fun i3 H hz9 hi6 hi2 hfr hN hW hS => ?_)
  generalize eN4 : tq_na N (i3 + 1) 1 i3 1 10 = N4 at hN hW ⊢
  generalize eS5 : tq_cp S 1 i3 (fun _ => 0) = S5 at hW
  have h := h i3 hi6 hi2 hfr N4 eN4.symm S5 eS5.symm
  refine lv_dup hx hb dX11_write_3 rfl ?_
  refine lv_aload_n hx hb dX11_write_4 rfl (lv_at hl 0 rfl) ?_
  refine tqc_get (v := .ref (ad 15 0)) hx hb hw tq_inX11 hown hK hW (by decide) (tq_mk_1 (by decide)) rfl 5 (by decide) (hw _ tw_342) (fun _ h9 => h9) rfl dX11_write_5 ?_
  refine tqc_callVi (As := []) (rest := [.ref (ad 1 i3), .ref (ad 1 i3)]) (kJl_size (post := fun u r => u = S5 ∧ r = S5 15 0 2) (by decide) (tq_mk_15 (by decide)) ⟨rfl, rfl⟩) ⟨hx, hb, hml, hown, hts⟩ (cwV 0 hts (tq_goodV tw_484 tw_485 tw_486 tw_118 tw_487) rfl rfl rfl (by decide +kernel) ⟨(Nat.le_of_ble_eq_true rfl), (Nat.le_of_ble_eq_true rfl)⟩) (tq_recvL hK hW (by decide) (tq_mk_15 (by decide))) hK hG hW hS rfl hl.1 rfl (Nat.le_of_ble_eq_true rfl) dX11_write_8 hN.f (fun r8 S7 H locs q9 hW hS => ?_)
  rw [q9.1] at hW
  rw [q9.2]
  refine lv_iload_n hx hb dX11_write_11 rfl (lv_at hl 1 rfl) ?_
  refine lv_aload_n hx hb dX11_write_12 rfl (lv_at hl 2 rfl) ?_
  refine lv_iload_n hx hb dX11_write_13 rfl (lv_at hl 3 rfl) ?_
  refine lv_aload_n hx hb dX11_write_14 rfl (lv_at hl 0 rfl) ?_
  refine tqc_get (v := .int (S5 1 0 0)) hx hb hw tq_inX11 hown hK hW (by decide) (tq_mk_1 (by decide)) rfl 0 (by decide) (hw _ tw_337) (fun _ h9 => h9) rfl dX11_write_15 ?_
  refine tqb_callIv (As := [.int (S5 15 0 2), .int p0, .ref (ad 2 p1), .int p2, .int (S5 1 0 0)]) (rest := [.ref (ad 1 i3)]) (kX3_init h) ⟨hx, hb, hml, hown, hts⟩ (cwI 5 hts (tq_goodO tw_492) rfl rfl rfl (hw _ tw_126) (hw _ tw_490) (hw _ tw_491) rfl (by decide +kernel) ⟨(Nat.le_of_ble_eq_true rfl), (Nat.le_of_ble_eq_true rfl)⟩) hK hG hW hS rfl hl.1 rfl (Nat.le_of_ble_eq_true rfl) dX11_write_18 hN (fun N9 S10 H locs h hN hW hS => ?_)
  refine W.eq (g2 := F0 m 21 ls [.ref (ad 7 i3)]) (by rw [tq_ad1_7 hG.adr hi6]) ?_
  refine lv_astore (lv' := [(4, .ref (ad 7 i3)), (0, .ref (ad 1 0)), (1, .int p0), (2, .ref (ad 2 p1)), (3, .int p2)]) hx hb dX11_write_21 hl (by decide) rfl (fun ls hl => ?_)
  refine lv_aload_n hx hb dX11_write_23 rfl (lv_at hl 1 rfl) ?_
  refine tqc_get (v := .ref (ad 15 0)) hx hb hw tq_inX11 hown hK hW (by decide) (tq_mk_1 (by decide)) rfl 5 (by decide) (hw _ tw_342) (fun _ h9 => h9) rfl dX11_write_24 ?_
  refine lv_aload hx hb dX11_write_27 (lv_at hl 0 rfl) ?_
  obtain ⟨b14, h⟩ := h
  refine tqb_callVi (C := RJx4a65c) (As := [.ref (ad 7 i3)]) (rest := []) (kJl_add (post := fun N1 S1 r => r = 1 ∧ tq_added N9 S10 15 16 0 i3 N1 S1) (tq_LK_15 hG.adr (by decide)) b14 (fun N1 S1 q => ⟨rfl, q⟩)) ⟨hx, hb, hml, hown, hts⟩ (cwV 1 hts (tq_goodV tw_806 tw_746 tw_747 tw_118 tw_748) rfl rfl rfl (by decide +kernel) ⟨(Nat.le_of_ble_eq_true rfl), (Nat.le_of_ble_eq_true rfl)⟩) (tq_recvL hK hW (by decide) (tq_mk_15 (by decide))) hK hG hW hS rfl hl.1 rfl (Nat.le_of_ble_eq_true rfl) dX11_write_29 hN (fun r13 N11 S12 H locs q9 hN hW hS => ?_)
  rw [q9.1]
  have h := h N11 S12 q9.2
  refine lv_pop hx hb dX11_write_32 rfl ?_
  refine lv_aload hx hb dX11_write_33 (lv_at hl 0 rfl) ?_
  exact tqb_aret (k := 7) (i := i3) hx hb hr (Or.inl ⟨_, rfl⟩) hN h hW hS dX11_write_35 hlocks
-- X11 leave
def wbX11_leave_26 (post : tq_Nn → tq_St → Nat → Prop)  (N : tq_Nn) (S : tq_St) (x1 : Nat) (x2 : Int32) (x4 : Int32) (y0 : Int32) (y1 : Int32) : Prop :=
  N 0 0 + 1 ≤ tq_CX ∧ N 0 1 + 12 ≤ tq_CY ∧ (∀ i4, ¬ i4 < 1 → i4 ≤ N 0 0 → tq_fr N i4 → ∀ N5, N5 = tq_na N (i4 + 1) 1 i4 4 12 → ∀ S6, S6 = tq_cp S 1 i4 (fun _ => 0) → (wpX10_init (fun N10 S11 => N10 9 i4 = 1 ∧ (∀ S13, S13 = tq_up S11 9 i4 11 x4 → (tq_aok N10 S13 22 23 9 0 i4 ∧ (∀ N14 S15, tq_added N10 S13 22 23 0 i4 N14 S15 → (N14 8 x1 = 1 ∧ (∀ S19, S19 = tq_up S15 8 x1 3 ((-1)) → ((∀ S20, S20 = tq_up S19 8 x1 4 (y1 + y0) → (N14 9 i4 = 1 ∧ ((∀ S22, S22 = tq_up S20 8 x1 6 (S20 9 i4 0) → (post N14 S22 i4)))))))))))) N5 S6 i4 (S6 22 0 2) x1 x2 (S6 1 0 0) (y1 + y0)))
def wpX11_leave (post : tq_Nn → tq_St → Nat → Prop) (N : tq_Nn) (S : tq_St) (p0 : Nat) (p1 : Int32) (p2 : Int32) (p3 : Int32) : Prop :=
  (((S 1 0 0) - (S 1 0 0) / 360 * 360) < 240 → (wbX11_leave_26 post N S p0 p1 p3 0 ((S 1 0 0) + p2))) ∧ (¬ ((S 1 0 0) - (S 1 0 0) / 360 * 360) < 240 → (wbX11_leave_26 post N S p0 p1 p3 60 ((S 1 0 0) + p2)))
set_option maxHeartbeats 4000000 in
set_option maxRecDepth 100000 in
theorem bX11_leave_26 {p : Program} {e : Env} {s : State} {m : MethodId} {args : Array Value} {below : List Frame} {meth : Method} {c : Code} {post : tq_Nn → tq_St → Nat → Prop} (C : tq_At p s m meth c args cX11_leave 7 ((some (.object "TwoSeas$Voyage"))) ((tq_ws yX11_leave cX11_leave 7 (some (.object "TwoSeas$Voyage")))) RX11 D cy z ad)  : ∀ (N : tq_Nn) (S : tq_St) (x1 : Nat) (x2 : Int32) (x4 : Int32) (y0 : Int32) (y1 : Int32) (H : Heap) (locs : List Loc) (ls : Array Slot), wbX11_leave_26 post  N S x1 x2 x4 y0 y1 → tq_nb z A0 s N → tq_wd D cy z H0 ad N (tq_mix S M) H → va_S (fun q => z ≤ q) s.heap H locs → lv_has ls 7 [(0, .ref (ad 1 0)), (1, .ref (ad 8 x1)), (2, .int x2), (4, .int x4)] → tq_Wb p l e 7 241 s m args below meth c z A0 N H locs (MQ below (va_Qr (fun (u : (tq_Nn × tq_St) × Nat) => post u.1.1 u.1.2 u.2) (fun u a t => a = ad 9 u.2 ∧ tq_PB D cy z A0 H0 ad M u.1 t) (fun q => z ≤ q)) args s (z + tq_CX - s.heap.size) (A0 + tq_CY - tq_all s.heap) (fun q => z ≤ q)) (F0 m 26 ls [.int y0, .int y1]) := by
  obtain ⟨hx, hb, hr, hml, hown, hts, hlocks, hK, hG⟩ := id C
  have hw : ∀ w ∈ tq_W, w.before args s = true := fun w h => hts w (List.mem_cons_of_mem _ h)
  intro N S x1 x2 x4 y0 y1 H locs ls h hN hW hS hl
  unfold wbX11_leave_26 at h
  refine lv_iadd hx hb dX11_leave_26 ?_
  refine lv_istore (lv' := [(5, .int (y1 + y0)), (0, .ref (ad 1 0)), (1, .ref (ad 8 x1)), (2, .int x2), (4, .int x4)]) hx hb dX11_leave_27 hl (by decide) rfl (fun ls hl => ?_)
  obtain ⟨b2, b3, h⟩ := h
  refine tqw_new (ci := 11) (t := 4) (fs := [.int 0, .int 0, .int 0, .int 0, .int 0, .int 0, .null, .null, .int 0, .int 0, .int 0, .int 0]) hx hb hw tq_inX10 tyX10 tyX10_ok hown (hw _ tw_978) (hw _ tw_979) (hw _ tw_138) hK hG hW hS hN rfl (by decide) (fun _ => rfl) b2 b3 dX11_leave_29 (fun i4 H hz9 hi7 hi2 hfr hN hW hS => ?_)
  generalize eN5 : tq_na N (i4 + 1) 1 i4 4 12 = N5 at hN hW ⊢
  generalize eS6 : tq_cp S 1 i4 (fun _ => 0) = S6 at hW
  have h := h i4 hi7 hi2 hfr N5 eN5.symm S6 eS6.symm
  refine lv_dup hx hb dX11_leave_32 rfl ?_
  refine lv_aload_n hx hb dX11_leave_33 rfl (lv_at hl 1 rfl) ?_
  refine tqc_get (v := .ref (ad 22 0)) hx hb hw tq_inX11 hown hK hW (by decide) (tq_mk_1 (by decide)) rfl 9 (by decide) (hw _ tw_346) (fun _ h9 => h9) rfl dX11_leave_34 ?_
  refine tqc_callVi (As := []) (rest := [.ref (ad 1 i4), .ref (ad 1 i4)]) (kJl_size (post := fun u r => u = S6 ∧ r = S6 22 0 2) (by decide) (tq_mk_22 (by decide)) ⟨rfl, rfl⟩) ⟨hx, hb, hml, hown, hts⟩ (cwV 0 hts (tq_goodV tw_484 tw_485 tw_486 tw_118 tw_487) rfl rfl rfl (by decide +kernel) ⟨(Nat.le_of_ble_eq_true rfl), (Nat.le_of_ble_eq_true rfl)⟩) (tq_recvL hK hW (by decide) (tq_mk_22 (by decide))) hK hG hW hS rfl hl.1 rfl (Nat.le_of_ble_eq_true rfl) dX11_leave_37 hN.f (fun r9 S8 H locs q9 hW hS => ?_)
  rw [q9.1] at hW
  rw [q9.2]
  refine lv_aload_n hx hb dX11_leave_40 rfl (lv_at hl 2 rfl) ?_
  refine lv_iload_n hx hb dX11_leave_41 rfl (lv_at hl 3 rfl) ?_
  refine lv_aload_n hx hb dX11_leave_42 rfl (lv_at hl 1 rfl) ?_
  refine tqc_get (v := .int (S6 1 0 0)) hx hb hw tq_inX11 hown hK hW (by decide) (tq_mk_1 (by decide)) rfl 0 (by decide) (hw _ tw_337) (fun _ h9 => h9) rfl dX11_leave_43 ?_
  refine lv_iload hx hb dX11_leave_46 (lv_at hl 0 rfl) ?_
  refine tqb_callIv (As := [.int (S6 22 0 2), .ref (ad 8 x1), .int x2, .int (S6 1 0 0), .int (y1 + y0)]) (rest := [.ref (ad 1 i4)]) (kX10_init h) ⟨hx, hb, hml, hown, hts⟩ (cwI 5 hts (tq_goodO tw_982) rfl rfl rfl (hw _ tw_138) (hw _ tw_980) (hw _ tw_981) rfl (by decide +kernel) ⟨(Nat.le_of_ble_eq_true rfl), (Nat.le_of_ble_eq_true rfl)⟩) hK hG hW hS rfl hl.1 rfl (Nat.le_of_ble_eq_true rfl) dX11_leave_48 hN (fun N10 S11 H locs h hN hW hS => ?_)
  refine W.eq (g2 := F0 m 51 ls [.ref (ad 9 i4)]) (by rw [tq_ad1_9 hG.adr hi7]) ?_
  refine lv_astore (lv' := [(6, .ref (ad 9 i4)), (5, .int (y1 + y0)), (0, .ref (ad 1 0)), (1, .ref (ad 8 x1)), (2, .int x2), (4, .int x4)]) hx hb dX11_leave_51 hl (by decide) rfl (fun ls hl => ?_)
  refine lv_aload hx hb dX11_leave_53 (lv_at hl 0 rfl) ?_
  refine lv_iload hx hb dX11_leave_55 (lv_at hl 5 rfl) ?_
  obtain ⟨b12, h⟩ := h
  refine tqc_put hx hb hw tq_inX10 tyX10 tyX10_ok nmX10 hown hK hW hS (by decide) (tq_mk_9 b12) rfl 11 (by decide) (hw _ tw_1007) (fun _ h9 => h9) rfl rfl rfl rfl (tq_mk_9 b12) dX11_leave_57 (fun H locs hW hS => ?_)
  generalize eS13 : tq_up S11 9 i4 11 x4 = S13 at hW
  have h := h S13 eS13.symm
  refine lv_aload_n hx hb dX11_leave_60 rfl (lv_at hl 2 rfl) ?_
  refine tqc_get (v := .ref (ad 22 0)) hx hb hw tq_inX11 hown hK hW (by decide) (tq_mk_1 (by decide)) rfl 9 (by decide) (hw _ tw_346) (fun _ h9 => h9) rfl dX11_leave_61 ?_
  refine lv_aload hx hb dX11_leave_64 (lv_at hl 0 rfl) ?_
  obtain ⟨b17, h⟩ := h
  refine tqb_callVi (C := RJx4a65c) (As := [.ref (ad 9 i4)]) (rest := []) (kJl_add (post := fun N1 S1 r => r = 1 ∧ tq_added N10 S13 22 23 0 i4 N1 S1) (tq_LK_22 hG.adr (by decide)) b17 (fun N1 S1 q => ⟨rfl, q⟩)) ⟨hx, hb, hml, hown, hts⟩ (cwV 1 hts (tq_goodV tw_806 tw_746 tw_747 tw_118 tw_748) rfl rfl rfl (by decide +kernel) ⟨(Nat.le_of_ble_eq_true rfl), (Nat.le_of_ble_eq_true rfl)⟩) (tq_recvL hK hW (by decide) (tq_mk_22 (by decide))) hK hG hW hS rfl hl.1 rfl (Nat.le_of_ble_eq_true rfl) dX11_leave_66 hN (fun r16 N14 S15 H locs q9 hN hW hS => ?_)
  rw [q9.1]
  have h := h N14 S15 q9.2
  refine lv_pop hx hb dX11_leave_69 rfl ?_
  refine lv_aload_n hx hb dX11_leave_70 rfl (lv_at hl 3 rfl) ?_
  refine lv_iconst (v := (-1)) hx hb dX11_leave_71 (by decide) ?_
  obtain ⟨b18, h⟩ := h
  refine tqc_put hx hb hw tq_inX8 tyX8 tyX8_ok nmX8 hown hK hW hS (by decide) (tq_mk_8 b18) rfl 3 (by decide) (hw _ tw_904) (fun _ h9 => h9) rfl rfl rfl rfl (tq_mk_8 b18) dX11_leave_72 (fun H locs hW hS => ?_)
  generalize eS19 : tq_up S15 8 x1 3 ((-1)) = S19 at hW
  have h := h S19 eS19.symm
  refine lv_aload_n hx hb dX11_leave_75 rfl (lv_at hl 3 rfl) ?_
  refine lv_iload hx hb dX11_leave_76 (lv_at hl 1 rfl) ?_
  refine tqc_put hx hb hw tq_inX8 tyX8 tyX8_ok nmX8 hown hK hW hS (by decide) (tq_mk_8 b18) rfl 4 (by decide) (hw _ tw_906) (fun _ h9 => h9) rfl rfl rfl rfl (tq_mk_8 b18) dX11_leave_78 (fun H locs hW hS => ?_)
  generalize eS20 : tq_up S19 8 x1 4 (y1 + y0) = S20 at hW
  have h := h S20 eS20.symm
  refine lv_aload_n hx hb dX11_leave_81 rfl (lv_at hl 3 rfl) ?_
  refine lv_aload hx hb dX11_leave_82 (lv_at hl 0 rfl) ?_
  obtain ⟨b21, h⟩ := h
  refine tqc_get (v := .int (S20 9 i4 0)) hx hb hw tq_inX10 hown hK hW (by decide) (tq_mk_9 b21) rfl 0 (by decide) (hw _ tw_987) (fun _ h9 => h9) rfl dX11_leave_84 ?_
  refine tqc_put hx hb hw tq_inX8 tyX8 tyX8_ok nmX8 hown hK hW hS (by decide) (tq_mk_8 b18) rfl 6 (by decide) (hw _ tw_909) (fun _ h9 => h9) rfl rfl rfl rfl (tq_mk_8 b18) dX11_leave_87 (fun H locs hW hS => ?_)
  generalize eS22 : tq_up S20 8 x1 6 (S20 9 i4 0) = S22 at hW
  have h := h S22 eS22.symm
  refine lv_aload hx hb dX11_leave_90 (lv_at hl 0 rfl) ?_
  exact tqb_aret (k := 9) (i := i4) hx hb hr (Or.inl ⟨_, rfl⟩) hN h hW hS dX11_leave_92 hlocks
set_option maxHeartbeats 4000000 in
set_option maxRecDepth 100000 in
theorem kX11_leave {post : tq_Nn → tq_St → Nat → Prop} {N : tq_Nn} {S : tq_St} {sz sl : Nat} {p0 : Nat} {p1 : Int32} {p2 : Int32} {p3 : Int32} (h : wpX11_leave post N S p0 p1 p2 p3) : tq_bR 9 l yX11_leave (tq_ws yX11_leave cX11_leave 7 (some (.object "TwoSeas$Voyage"))) 7 241 D cy z A0 H0 ad N M S sz sl [.ref (ad 1 0), .ref (ad 8 p0), .int p1, .int p2, .int p3] post := by
  unfold wpX11_leave at h
  refine Met.ofW (cc := cX11_leave) (maxL := 7) (ret := (some (.object "TwoSeas$Voyage"))) (by decide) rfl ?_
  intro p e s m args below meth c s₁ B hml hv
  obtain ⟨rfl, ⟨hW, hK, hG⟩, rfl, rfl, hN1, hN2, hN3, hN4⟩ := hv
  have hN : tq_nb z A0 s N := ⟨hN1, hN2, hN3, hN4⟩
  have hx := B.exec
  have hb := B.bytes
  have hr := B.returns
  have hts := atoms_spec (ws := (tq_ws yX11_leave cX11_leave 7 (some (.object "TwoSeas$Voyage")))) B.pre
  have hw : ∀ w ∈ tq_W, w.before _ s = true := fun w h => hts w (List.mem_cons_of_mem _ h)
  have hown : s.vm.findClass RX11 = some m.cls := findClass_of_methodNamed B.named
  have hlocks := B.notSynchronized
  have C : tq_At p s m meth c [.ref (ad 1 0), .ref (ad 8 p0), .int p1, .int p2, .int p3].toArray cX11_leave 7 ((some (.object "TwoSeas$Voyage"))) ((tq_ws yX11_leave cX11_leave 7 (some (.object "TwoSeas$Voyage")))) RX11 D cy z ad := ⟨hx, hb, hr, hml, hown, hts, hlocks, hK, hG⟩
  have hS : va_S (fun q => z ≤ q) s.heap s.heap [] := va_S.rf
  have hl := lv_entry ([.ref (ad 1 0), .ref (ad 8 p0), .int p1, .int p2, .int p3]) (n := 7) (Nat.le_of_ble_eq_true rfl)
  rw [lg_entry_eq]
  generalize (lg_sl ([.ref (ad 1 0), .ref (ad 8 p0), .int p1, .int p2, .int p3]) ++ List.replicate (7 - (lg_sl ([.ref (ad 1 0), .ref (ad 8 p0), .int p1, .int p2, .int p3])).length) Slot.unset).toArray = ls at hl ⊢
  have hl : lv_has ls 7 [(0, .ref (ad 1 0)), (1, .ref (ad 8 p0)), (2, .int p1), (3, .int p2), (4, .int p3)] := hl
  have hW : tq_wd D cy z H0 ad N (tq_mix S M) s.heap := hW
  refine tq_tight (c1 := z + N 0 0 - s.heap.size) (n1 := A0 + N 0 1 - tq_all s.heap) (by omega) (by omega) ?_
  refine lv_aload_n hx hb dX11_leave_0 rfl (lv_at hl 0 rfl) ?_
  refine tqc_get (v := .int (S 1 0 0)) hx hb hw tq_inX11 hown hK hW (by decide) (tq_mk_1 (by decide)) rfl 0 (by decide) (hw _ tw_337) (fun _ h9 => h9) rfl dX11_leave_1 ?_
  refine lv_iload_n hx hb dX11_leave_4 rfl (lv_at hl 3 rfl) ?_
  refine lv_iadd hx hb dX11_leave_5 ?_
  refine lv_aload_n hx hb dX11_leave_6 rfl (lv_at hl 0 rfl) ?_
  refine tqc_get (v := .int (S 1 0 0)) hx hb hw tq_inX11 hown hK hW (by decide) (tq_mk_1 (by decide)) rfl 0 (by decide) (hw _ tw_337) (fun _ h9 => h9) rfl dX11_leave_7 ?_
  refine lv_sipush (v := 360) hx hb dX11_leave_10 (by decide) ?_
  refine lv_irem hx hb dX11_leave_13 (by decide) ?_
  refine lv_sipush (v := 240) hx hb dX11_leave_14 (by decide) ?_
  refine lv_icmp_lt (tgt := 25) hx hb dX11_leave_17 (by decide) (fun c1 => ?_) (fun c1 => ?_)
  · have h := h.1 c1
    refine lv_iconst (v := 0) hx hb dX11_leave_25 (by decide) ?_
    exact bX11_leave_26 C  _ _ _ _ _ _ _ _ _ _ h hN hW hS (lv_sub hl [0, 1, 2, 4] rfl)
  · have h := h.2 c1
    refine lv_bipush (v := 60) hx hb dX11_leave_20 (by decide) ?_
    refine lv_goto (tgt := 26) hx hb dX11_leave_22 (by decide) ?_
    exact bX11_leave_26 C  _ _ _ _ _ _ _ _ _ _ h hN hW hS (lv_sub hl [0, 1, 2, 4] rfl)
-- X11 readAt
def wbX11_readAt_72 (post : tq_Nn → tq_St → Prop)  (N : tq_Nn) (S : tq_St) : Prop :=
  post N S
def wbX11_readAt_39 (post : tq_Nn → tq_St → Prop)  (N : tq_Nn) (S : tq_St) (x1 : Nat) : Prop :=
  N 7 x1 = 1 ∧ ((¬ (S 7 x1 1) = 4 → (wbX11_readAt_72 post N S )) ∧ ((S 7 x1 1) = 4 → (vp_in (S 7 x1 2) 5 ∧ ((∀ S13, S13 = tq_up S 2 ((S 7 x1 2).toNatClampNeg) 16 (if (S 2 ((S 7 x1 2).toNatClampNeg) 16) < (S 7 x1 4) then (S 7 x1 4) else (S 2 ((S 7 x1 2).toNatClampNeg) 16)) → (wbX11_readAt_72 post N S13 ))))))
def wpX11_readAt (post : tq_Nn → tq_St → Prop) (N : tq_Nn) (S : tq_St) (p0 : Nat) (p1 : Nat) : Prop :=
  N 7 p0 = 1 ∧ (p1 < 5 ∧ (vp_in (S 2 p1 0) 5 ∧ N 50 p0 = 1 ∧ (((S 50 p0 ((S 2 p1 0).toNatClampNeg)) < 0 → (∀ S6, S6 = tq_up S 50 p0 ((S 2 p1 0).toNatClampNeg) (S 1 0 0) → ((¬ (S6 7 p0 1) = 2 → (wbX11_readAt_39 post N S6 p0)) ∧ ((S6 7 p0 1) = 2 → (wpX5_receiveOrder (fun N8 S9  => wbX11_readAt_39 post N8 S9 p0) N S6 p1 p0))))) ∧ (¬ (S 50 p0 ((S 2 p1 0).toNatClampNeg)) < 0 → (post N S)))))
set_option maxHeartbeats 4000000 in
set_option maxRecDepth 100000 in
theorem bX11_readAt_72 {p : Program} {e : Env} {s : State} {m : MethodId} {args : Array Value} {below : List Frame} {meth : Method} {c : Code} {post : tq_Nn → tq_St → Prop} (C : tq_At p s m meth c args cX11_readAt 4 (none) ((tq_ws yX11_readAt cX11_readAt 4 none)) RX11 D cy z ad)  : ∀ (N : tq_Nn) (S : tq_St)  (H : Heap) (locs : List Loc) (ls : Array Slot), wbX11_readAt_72 post  N S  → tq_nb z A0 s N → tq_wd D cy z H0 ad N (tq_mix S M) H → va_S (fun q => z ≤ q) s.heap H locs → lv_has ls 4 [] → tq_Wb p l e 9 287 s m args below meth c z A0 N H locs (MQ below (va_Qv (fun (u : tq_Nn × tq_St) => post u.1 u.2) (tq_PB D cy z A0 H0 ad M) (fun q => z ≤ q)) args s (z + tq_CX - s.heap.size) (A0 + tq_CY - tq_all s.heap) (fun q => z ≤ q)) (F0 m 72 ls []) := by
  obtain ⟨hx, hb, hr, hml, hown, hts, hlocks, hK, hG⟩ := id C
  have hw : ∀ w ∈ tq_W, w.before args s = true := fun w h => hts w (List.mem_cons_of_mem _ h)
  intro N S  H locs ls h hN hW hS hl
  unfold wbX11_readAt_72 at h
  exact tqb_vret hx hb hr hN h hW hS dX11_readAt_72 hlocks
set_option maxHeartbeats 4000000 in
set_option maxRecDepth 100000 in
theorem bX11_readAt_39 {p : Program} {e : Env} {s : State} {m : MethodId} {args : Array Value} {below : List Frame} {meth : Method} {c : Code} {post : tq_Nn → tq_St → Prop} (C : tq_At p s m meth c args cX11_readAt 4 (none) ((tq_ws yX11_readAt cX11_readAt 4 none)) RX11 D cy z ad)  : ∀ (N : tq_Nn) (S : tq_St) (x1 : Nat) (H : Heap) (locs : List Loc) (ls : Array Slot), wbX11_readAt_39 post  N S x1 → tq_nb z A0 s N → tq_wd D cy z H0 ad N (tq_mix S M) H → va_S (fun q => z ≤ q) s.heap H locs → lv_has ls 4 [(0, .ref (ad 1 0)), (1, .ref (ad 7 x1))] → tq_Wb p l e 9 287 s m args below meth c z A0 N H locs (MQ below (va_Qv (fun (u : tq_Nn × tq_St) => post u.1 u.2) (tq_PB D cy z A0 H0 ad M) (fun q => z ≤ q)) args s (z + tq_CX - s.heap.size) (A0 + tq_CY - tq_all s.heap) (fun q => z ≤ q)) (F0 m 39 ls []) := by
  obtain ⟨hx, hb, hr, hml, hown, hts, hlocks, hK, hG⟩ := id C
  have hw : ∀ w ∈ tq_W, w.before args s = true := fun w h => hts w (List.mem_cons_of_mem _ h)
  intro N S x1 H locs ls h hN hW hS hl
  unfold wbX11_readAt_39 at h
  refine lv_aload_n hx hb dX11_readAt_39 rfl (lv_at hl 1 rfl) ?_
  obtain ⟨b10, h⟩ := h
  refine tqc_get7 (v := .int (S 7 x1 1)) hx hb hw tq_inX3 tq_inX1 hown hK hW b10 1 (by decide) (hw _ tw_513) (fun _ h9 => h9) rfl dX11_readAt_40 ?_
  refine lv_iconst (v := 4) hx hb dX11_readAt_43 (by decide) ?_
  refine lv_icmp_ne (tgt := 72) hx hb dX11_readAt_44 (by decide) (fun c11 => ?_) (fun c11 => ?_)
  · have h := h.1 c11
    exact bX11_readAt_72 C  _ _  _ _ _ h hN hW hS (lv_sub hl [] rfl)
  · have h := h.2 c11
    refine lv_aload_n hx hb dX11_readAt_47 rfl (lv_at hl 0 rfl) ?_
    refine tqc_get (v := .ref (ad 12 0)) hx hb hw tq_inX11 hown hK hW (by decide) (tq_mk_1 (by decide)) rfl 1 (by decide) (hw _ tw_338) (fun _ h9 => h9) rfl dX11_readAt_48 ?_
    refine lv_aload_n hx hb dX11_readAt_51 rfl (lv_at hl 1 rfl) ?_
    refine tqc_get7 (v := .int (S 7 x1 2)) hx hb hw tq_inX3 tq_inX1 hown hK hW b10 2 (by decide) (hw _ tw_515) (fun _ h9 => h9) rfl dX11_readAt_52 ?_
    obtain ⟨b12, h⟩ := h
    refine tqc_aald (jn := (S 7 x1 2).toNatClampNeg) (v := .ref (ad 2 ((S 7 x1 2).toNatClampNeg))) hx hb hK hW (by decide) (tq_mk_12 (by decide)) 3 rfl rfl b12 rfl rfl dX11_readAt_55 ?_
    refine lv_astore_n (lv' := [(3, .ref (ad 2 ((S 7 x1 2).toNatClampNeg))), (0, .ref (ad 1 0)), (1, .ref (ad 7 x1))]) hx hb dX11_readAt_56 rfl hl (by decide) rfl (fun ls hl => ?_)
    refine lv_aload_n hx hb dX11_readAt_57 rfl (lv_at hl 0 rfl) ?_
    refine lv_aload_n hx hb dX11_readAt_58 rfl (lv_at hl 0 rfl) ?_
    refine tqc_get (v := .int (S 2 ((S 7 x1 2).toNatClampNeg) 16)) hx hb hw tq_inX5 hown hK hW (by decide) (tq_mk_2 (tq_lt b12)) rfl 16 (by decide) (hw _ tw_281) (fun _ h9 => h9) rfl dX11_readAt_59 ?_
    refine lv_aload_n hx hb dX11_readAt_62 rfl (lv_at hl 2 rfl) ?_
    refine tqc_get7 (v := .int (S 7 x1 4)) hx hb hw tq_inX3 tq_inX1 hown hK hW b10 4 (by decide) (hw _ tw_522) (fun _ h9 => h9) rfl dX11_readAt_63 ?_
    refine va_mmax hx hb (hml.trans hl.1.symm) hown (hw _ tw_1108) (hw _ tw_660) (hw _ tw_132) (hw _ tw_661) (Nat.le_of_ble_eq_true rfl) (Nat.le_of_ble_eq_true rfl) (hN.f).1 (hN.f).2 dX11_readAt_66 ?_
    refine tqc_put hx hb hw tq_inX5 tyX5 tyX5_ok nmX5 hown hK hW hS (by decide) (tq_mk_2 (tq_lt b12)) rfl 16 (by decide) (hw _ tw_281) (fun _ h9 => h9) rfl rfl rfl rfl (tq_mk_2 (tq_lt b12)) dX11_readAt_69 (fun H locs hW hS => ?_)
    generalize eS13 : tq_up S 2 ((S 7 x1 2).toNatClampNeg) 16 (if (S 2 ((S 7 x1 2).toNatClampNeg) 16) < (S 7 x1 4) then (S 7 x1 4) else (S 2 ((S 7 x1 2).toNatClampNeg) 16)) = S13 at hW
    have h := h S13 eS13.symm
    exact bX11_readAt_72 C  _ _  _ _ _ h hN hW hS (lv_sub hl [] rfl)
set_option maxHeartbeats 4000000 in
set_option maxRecDepth 100000 in
theorem kX11_readAt {post : tq_Nn → tq_St → Prop} {N : tq_Nn} {S : tq_St} {sz sl : Nat} {p0 : Nat} {p1 : Nat} (h : wpX11_readAt post N S p0 p1) : tq_bV l yX11_readAt (tq_ws yX11_readAt cX11_readAt 4 none) 9 287 D cy z A0 H0 ad N M S sz sl [.ref (ad 1 0), .ref (ad 7 p0), .ref (ad 2 p1)] post := by
  unfold wpX11_readAt at h
  refine Met.ofW (cc := cX11_readAt) (maxL := 4) (ret := none) (by decide) rfl ?_
  intro p e s m args below meth c s₁ B hml hv
  obtain ⟨rfl, ⟨hW, hK, hG⟩, rfl, rfl, hN1, hN2, hN3, hN4⟩ := hv
  have hN : tq_nb z A0 s N := ⟨hN1, hN2, hN3, hN4⟩
  have hx := B.exec
  have hb := B.bytes
  have hr := B.returns
  have hts := atoms_spec (ws := (tq_ws yX11_readAt cX11_readAt 4 none)) B.pre
  have hw : ∀ w ∈ tq_W, w.before _ s = true := fun w h => hts w (List.mem_cons_of_mem _ h)
  have hown : s.vm.findClass RX11 = some m.cls := findClass_of_methodNamed B.named
  have hlocks := B.notSynchronized
  have C : tq_At p s m meth c [.ref (ad 1 0), .ref (ad 7 p0), .ref (ad 2 p1)].toArray cX11_readAt 4 (none) ((tq_ws yX11_readAt cX11_readAt 4 none)) RX11 D cy z ad := ⟨hx, hb, hr, hml, hown, hts, hlocks, hK, hG⟩
  have hS : va_S (fun q => z ≤ q) s.heap s.heap [] := va_S.rf
  have hl := lv_entry ([.ref (ad 1 0), .ref (ad 7 p0), .ref (ad 2 p1)]) (n := 4) (Nat.le_of_ble_eq_true rfl)
  rw [lg_entry_eq]
  generalize (lg_sl ([.ref (ad 1 0), .ref (ad 7 p0), .ref (ad 2 p1)]) ++ List.replicate (4 - (lg_sl ([.ref (ad 1 0), .ref (ad 7 p0), .ref (ad 2 p1)])).length) Slot.unset).toArray = ls at hl ⊢
  have hl : lv_has ls 4 [(0, .ref (ad 1 0)), (1, .ref (ad 7 p0)), (2, .ref (ad 2 p1))] := hl
  have hW : tq_wd D cy z H0 ad N (tq_mix S M) s.heap := hW
  refine tq_tight (c1 := z + N 0 0 - s.heap.size) (n1 := A0 + N 0 1 - tq_all s.heap) (by omega) (by omega) ?_
  refine lv_aload_n hx hb dX11_readAt_0 rfl (lv_at hl 1 rfl) ?_
  obtain ⟨b1, h⟩ := h
  refine tqc_get7 (v := .ref (ad 50 p0)) hx hb hw tq_inX3 tq_inX1 hown hK hW b1 5 (by decide) (hw _ tw_525) (fun _ h9 => h9) rfl dX11_readAt_1 ?_
  refine lv_aload_n hx hb dX11_readAt_4 rfl (lv_at hl 2 rfl) ?_
  obtain ⟨b2, h⟩ := h
  refine tqc_get (v := .int (S 2 p1 0)) hx hb hw tq_inX5 hown hK hW (by decide) (tq_mk_2 b2) rfl 0 (by decide) (hw _ tw_253) (fun _ h9 => h9) rfl dX11_readAt_5 ?_
  obtain ⟨b3, h⟩ := h
  obtain ⟨b4, h⟩ := h
  refine tqc_iald (jn := (S 2 p1 0).toNatClampNeg) hx hb hK hW (by decide) (tq_mk_50 b4) b3 rfl dX11_readAt_8 ?_
  refine lv_if_lt (tgt := 13) hx hb dX11_readAt_9 (by decide) (fun c5 => ?_) (fun c5 => ?_)
  · have h := h.1 c5
    refine lv_aload_n hx hb dX11_readAt_13 rfl (lv_at hl 1 rfl) ?_
    refine tqc_get7 (v := .ref (ad 50 p0)) hx hb hw tq_inX3 tq_inX1 hown hK hW b1 5 (by decide) (hw _ tw_525) (fun _ h9 => h9) rfl dX11_readAt_14 ?_
    refine lv_aload_n hx hb dX11_readAt_17 rfl (lv_at hl 2 rfl) ?_
    refine tqc_get (v := .int (S 2 p1 0)) hx hb hw tq_inX5 hown hK hW (by decide) (tq_mk_2 b2) rfl 0 (by decide) (hw _ tw_253) (fun _ h9 => h9) rfl dX11_readAt_18 ?_
    refine lv_aload_n hx hb dX11_readAt_21 rfl (lv_at hl 0 rfl) ?_
    refine tqc_get (v := .int (S 1 0 0)) hx hb hw tq_inX11 hown hK hW (by decide) (tq_mk_1 (by decide)) rfl 0 (by decide) (hw _ tw_337) (fun _ h9 => h9) rfl dX11_readAt_22 ?_
    refine tqc_iast (jn := (S 2 p1 0).toNatClampNeg) hx hb hK hW hS (by decide) (tq_mk_50 b4) b3 rfl (tq_mk_50 b4) dX11_readAt_25 (fun H locs hW hS => ?_)
    generalize eS6 : tq_up S 50 p0 ((S 2 p1 0).toNatClampNeg) (S 1 0 0) = S6 at hW
    have h := h S6 eS6.symm
    refine lv_aload_n hx hb dX11_readAt_26 rfl (lv_at hl 1 rfl) ?_
    refine tqc_get7 (v := .int (S6 7 p0 1)) hx hb hw tq_inX3 tq_inX1 hown hK hW b1 1 (by decide) (hw _ tw_513) (fun _ h9 => h9) rfl dX11_readAt_27 ?_
    refine lv_iconst (v := 2) hx hb dX11_readAt_30 (by decide) ?_
    refine lv_icmp_ne (tgt := 39) hx hb dX11_readAt_31 (by decide) (fun c7 => ?_) (fun c7 => ?_)
    · have h := h.1 c7
      exact bX11_readAt_39 C  _ _ _ _ _ _ h hN hW hS (lv_sub hl [0, 1] rfl)
    · have h := h.2 c7
      refine lv_aload_n hx hb dX11_readAt_34 rfl (lv_at hl 2 rfl) ?_
      refine lv_aload_n hx hb dX11_readAt_35 rfl (lv_at hl 1 rfl) ?_
      refine tqb_callVv (As := [.ref (ad 7 p0)]) (rest := []) (kX5_receiveOrder h) ⟨hx, hb, hml, hown, hts⟩ (cwV 1 hts (tq_goodV tw_1078 tw_1079 tw_1080 tw_122 tw_1081) rfl rfl rfl (by decide +kernel) ⟨(Nat.le_of_ble_eq_true rfl), (Nat.le_of_ble_eq_true rfl)⟩) (tq_recvC hK hW (by decide) (tq_mk_2 b2) rfl) hK hG hW hS rfl hl.1 rfl (Nat.le_of_ble_eq_true rfl) dX11_readAt_36 hN (fun  N8 S9 H locs h hN hW hS => ?_)
      exact bX11_readAt_39 C  _ _ _ _ _ _ h hN hW hS (lv_sub hl [0, 1] rfl)
  · have h := h.2 c5
    exact tqb_vret hx hb hr hN h hW hS dX11_readAt_12 hlocks
