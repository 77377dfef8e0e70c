variable {l : Launch} {D : va_G} {cy : Nat → ClassId} {z A0 : Nat} {H0 : Heap} {ad : Nat → Nat → Nat} {M : tq_St}
-- X11 workAt
def wbX11_workAt_57 (post : tq_Nn → tq_St → Prop) (L19 : tq_Nn → tq_St → Nat → Int32 → Prop) (N : tq_Nn) (S : tq_St) (x1 : Nat) (x2 : Int32) : Prop :=
  L19 N S x1 (x2 + 1)
def wbX11_workAt_19 (post : tq_Nn → tq_St → Prop) : Nat → tq_Nn → tq_St → Nat → Int32 → Prop
  | 0, _, _, _, _ => False
  | n + 1, N, S, x1, x2 =>
    x1 < 5 ∧ (((S 38 x1 2) ≤ x2 → (post N S)) ∧ (¬ (S 38 x1 2) ≤ x2 → (tq_gok N S 38 39 x1 x2 ∧ (N 10 (tq_el S 38 39 x1 x2) = 1 ∧ (wpX11_testsHold N (fun S13 r14 => (r14 = 0 → (wbX11_workAt_57 post (wbX11_workAt_19 post n) N S13 x1 x2)) ∧ (¬ r14 = 0 → (wpX11_carryOut (fun N16 S17  => wbX11_workAt_57 post (wbX11_workAt_19 post n) N16 S17 x1 x2) N S13 (tq_el S 38 39 x1 x2) x1))) S (tq_el S 38 39 x1 x2) x1)))))
def wpX11_workAt (post : tq_Nn → tq_St → Prop) (N : tq_Nn) (S : tq_St) (p0 : Nat) : Prop :=
  p0 < 5 ∧ wpX5_receiveAdvances N (fun S2 => wpX5_coolDown N (fun S3 => (∀ S4, S4 = tq_up S3 2 p0 8 0 → (∃ nq, wbX11_workAt_19 post nq N S4 p0 0))) S2 p0) S p0 (S 1 0 0)
set_option maxHeartbeats 4000000 in
set_option maxRecDepth 100000 in
theorem bX11_workAt_57 {p : Program} {e : Env} {s : State} {m : MethodId} {args : Array Value} {below : List Frame} {meth : Method} {c : Code} {post : tq_Nn → tq_St → Prop} (C : tq_At p s m meth c args cX11_workAt 4 (none) ((tq_ws yX11_workAt cX11_workAt 4 none)) RX11 D cy z ad) {L19 : tq_Nn → tq_St → Nat → Int32 → Prop} (hL19 : ∀ (N : tq_Nn) (S : tq_St) (x1 : Nat) (x2 : Int32) (H : Heap) (locs : List Loc) (ls : Array Slot), L19 N S x1 x2 → tq_nb z A0 s N → tq_wd D cy z H0 ad N (tq_mix S M) H → va_S (fun q => z ≤ q) s.heap H locs → lv_has ls 4 [(0, .ref (ad 1 0)), (1, .ref (ad 2 x1)), (2, .int x2)] → tq_Wb p l e 10 315 s m args below meth c z A0 N H locs (MQ below (va_Qv (fun (u : tq_Nn × tq_St) => post u.1 u.2) (tq_PB D cy z A0 H0 ad M) (fun q => z ≤ q)) args s (z + tq_CX - s.heap.size) (A0 + tq_CY - tq_all s.heap) (fun q => z ≤ q)) (F0 m 19 ls [])) : ∀ (N : tq_Nn) (S : tq_St) (x1 : Nat) (x2 : Int32) (H : Heap) (locs : List Loc) (ls : Array Slot), wbX11_workAt_57 post L19 N S x1 x2 → tq_nb z A0 s N → tq_wd D cy z H0 ad N (tq_mix S M) H → va_S (fun q => z ≤ q) s.heap H locs → lv_has ls 4 [(0, .ref (ad 1 0)), (1, .ref (ad 2 x1)), (2, .int x2)] → tq_Wb p l e 10 315 s m args below meth c z A0 N H locs (MQ below (va_Qv (fun (u : tq_Nn × tq_St) => post u.1 u.2) (tq_PB D cy z A0 H0 ad M) (fun q => z ≤ q)) args s (z + tq_CX - s.heap.size) (A0 + tq_CY - tq_all s.heap) (fun q => z ≤ q)) (F0 m 57 ls []) := by
  obtain ⟨hx, hb, hr, hml, hown, hts, hlocks, hK, hG⟩ := id C
  have hw : ∀ w ∈ tq_W, w.before args s = true := fun w h => hts w (List.mem_cons_of_mem _ h)
  intro N S x1 x2 H locs ls h hN hW hS hl
  unfold wbX11_workAt_57 at h
  refine lv_iinc (v := x2 + 1) (lv' := [(2, .int (x2 + 1)), (0, .ref (ad 1 0)), (1, .ref (ad 2 x1))]) hx hb dX11_workAt_57 hl (k := 2) rfl rfl (by decide) rfl (fun ls hl => ?_)
  refine lv_goto (tgt := 19) hx hb dX11_workAt_60 (by decide) ?_
  exact hL19 _ _ _ _ _ _ _ h hN hW hS (lv_sub hl [1, 2, 0] rfl)
set_option maxHeartbeats 4000000 in
set_option maxRecDepth 100000 in
theorem bX11_workAt_19 {p : Program} {e : Env} {s : State} {m : MethodId} {args : Array Value} {below : List Frame} {meth : Method} {c : Code} {post : tq_Nn → tq_St → Prop} (C : tq_At p s m meth c args cX11_workAt 4 (none) ((tq_ws yX11_workAt cX11_workAt 4 none)) RX11 D cy z ad)  : ∀ n : Nat, ∀ (N : tq_Nn) (S : tq_St) (x1 : Nat) (x2 : Int32) (H : Heap) (locs : List Loc) (ls : Array Slot), wbX11_workAt_19 post  n N S x1 x2 → tq_nb z A0 s N → tq_wd D cy z H0 ad N (tq_mix S M) H → va_S (fun q => z ≤ q) s.heap H locs → lv_has ls 4 [(0, .ref (ad 1 0)), (1, .ref (ad 2 x1)), (2, .int x2)] → tq_Wb p l e 10 315 s m args below meth c z A0 N H locs (MQ below (va_Qv (fun (u : tq_Nn × tq_St) => post u.1 u.2) (tq_PB D cy z A0 H0 ad M) (fun q => z ≤ q)) args s (z + tq_CX - s.heap.size) (A0 + tq_CY - tq_all s.heap) (fun q => z ≤ q)) (F0 m 19 ls []) := by
  obtain ⟨hx, hb, hr, hml, hown, hts, hlocks, hK, hG⟩ := id C
  have hw : ∀ w ∈ tq_W, w.before args s = true := fun w h => hts w (List.mem_cons_of_mem _ h)
  intro n
  induction n with
  | zero =>
    intro N S x1 x2 H locs ls h
    exact absurd h (by unfold wbX11_workAt_19; exact id)
  | succ n ih =>
    intro N S x1 x2 H locs ls h hN hW hS hl
    unfold wbX11_workAt_19 at h
    refine lv_iload_n hx hb dX11_workAt_19 rfl (lv_at hl 2 rfl) ?_
    refine lv_aload_n hx hb dX11_workAt_20 rfl (lv_at hl 1 rfl) ?_
    obtain ⟨b5, h⟩ := h
    refine tqc_get (v := .ref (ad 38 x1)) hx hb hw tq_inX5 hown hK hW (by decide) (tq_mk_2 b5) rfl 13 (by decide) (hw _ tw_277) (fun _ h9 => h9) rfl dX11_workAt_21 ?_
    refine tqc_callVi (As := []) (rest := [.int x2]) (kJl_size (post := fun u r => u = S ∧ r = S 38 x1 2) (by decide) (tq_mk_38 b5) ⟨rfl, rfl⟩) ⟨hx, hb, hml, hown, hts⟩ (cwV 0 hts (tq_goodV tw_484 tw_485 tw_486 tw_118 tw_487) rfl rfl rfl (by decide +kernel) ⟨(Nat.le_of_ble_eq_true rfl), (Nat.le_of_ble_eq_true rfl)⟩) (tq_recvL hK hW (by decide) (tq_mk_38 b5)) hK hG hW hS rfl hl.1 rfl (Nat.le_of_ble_eq_true rfl) dX11_workAt_24 hN.f (fun r7 S6 H locs q9 hW hS => ?_)
    rw [q9.1] at hW
    rw [q9.2]
    refine lv_icmp_ge (tgt := 63) hx hb dX11_workAt_27 (by decide) (fun c8 => ?_) (fun c8 => ?_)
    · have h := h.1 c8
      exact tqb_vret hx hb hr hN h hW hS dX11_workAt_63 hlocks
    · have h := h.2 c8
      refine lv_aload_n hx hb dX11_workAt_30 rfl (lv_at hl 1 rfl) ?_
      refine tqc_get (v := .ref (ad 38 x1)) hx hb hw tq_inX5 hown hK hW (by decide) (tq_mk_2 b5) rfl 13 (by decide) (hw _ tw_277) (fun _ h9 => h9) rfl dX11_workAt_31 ?_
      refine lv_iload_n hx hb dX11_workAt_34 rfl (lv_at hl 2 rfl) ?_
      obtain ⟨b11, h⟩ := h
      refine tqc_callVr (kr := 10) (As := [.int x2]) (rest := []) (kJl_get (kd := 39) (post := fun u i => u = S ∧ i = tq_el S 38 39 x1 x2) (by decide) (by decide) (tq_mk_38 b5) (fun q9 => tq_mk_39 q9) b11 ⟨rfl, rfl⟩) ⟨hx, hb, hml, hown, hts⟩ (cwV 1 hts (tq_goodV tw_827 tw_828 tw_829 tw_118 tw_830) rfl rfl rfl (by decide +kernel) ⟨(Nat.le_of_ble_eq_true rfl), (Nat.le_of_ble_eq_true rfl)⟩) (tq_recvL hK hW (by decide) (tq_mk_38 b5)) hK hG hW hS rfl hl.1 rfl (Nat.le_of_ble_eq_true rfl) dX11_workAt_35 hN.f (fun i10 S9 H locs q9 hW hS => ?_)
      rw [q9.1] at hW
      rw [q9.2]
      obtain ⟨b12, h⟩ := h
      refine va_castS hx hb hown (hw _ tw_866) (hK.1 5 _ rfl).2 (tq_recvC hK hW (by decide) (tq_mk_10 b12) rfl) dX11_workAt_38 ?_
      refine lv_astore_n (lv' := [(3, .ref (ad 10 (tq_el S 38 39 x1 x2))), (0, .ref (ad 1 0)), (1, .ref (ad 2 x1)), (2, .int x2)]) hx hb dX11_workAt_41 rfl hl (by decide) rfl (fun ls hl => ?_)
      refine lv_aload_n hx hb dX11_workAt_42 rfl (lv_at hl 1 rfl) ?_
      refine lv_aload_n hx hb dX11_workAt_43 rfl (lv_at hl 0 rfl) ?_
      refine lv_aload_n hx hb dX11_workAt_44 rfl (lv_at hl 2 rfl) ?_
      refine tqc_callVi (As := [.ref (ad 10 (tq_el S 38 39 x1 x2)), .ref (ad 2 x1)]) (rest := []) (kX11_testsHold h) ⟨hx, hb, hml, hown, hts⟩ (cwV 2 hts (tq_goodV tw_871 tw_873 tw_21 tw_115 tw_874) rfl rfl rfl (by decide +kernel) ⟨(Nat.le_of_ble_eq_true rfl), (Nat.le_of_ble_eq_true rfl)⟩) (tq_recvC hK hW (by decide) (tq_mk_1 (by decide)) rfl) hK hG hW hS rfl hl.1 rfl (Nat.le_of_ble_eq_true rfl) dX11_workAt_45 hN.f (fun r14 S13 H locs h hW hS => ?_)
      refine lv_if_eq (tgt := 57) hx hb dX11_workAt_48 (by decide) (fun c15 => ?_) (fun c15 => ?_)
      · have h := h.1 c15
        exact bX11_workAt_57 C (fun N9 M9 a09 a19 H9 q9 ls9 h9 hN9 hW9 hS9 hl9 => ih N9 M9 a09 a19 H9 q9 ls9 h9 hN9 hW9 hS9 hl9) _ _ _ _ _ _ _ h hN hW hS (lv_sub hl [1, 2, 3] rfl)
      · have h := h.2 c15
        refine lv_aload_n hx hb dX11_workAt_51 rfl (lv_at hl 1 rfl) ?_
        refine lv_aload_n hx hb dX11_workAt_52 rfl (lv_at hl 0 rfl) ?_
        refine lv_aload_n hx hb dX11_workAt_53 rfl (lv_at hl 2 rfl) ?_
        refine tqb_callVv (As := [.ref (ad 10 (tq_el S 38 39 x1 x2)), .ref (ad 2 x1)]) (rest := []) (kX11_carryOut h) ⟨hx, hb, hml, hown, hts⟩ (cwV 2 hts (tq_goodV tw_1136 tw_1138 tw_36 tw_115 tw_1139) rfl rfl rfl (by decide +kernel) ⟨(Nat.le_of_ble_eq_true rfl), (Nat.le_of_ble_eq_true rfl)⟩) (tq_recvC hK hW (by decide) (tq_mk_1 (by decide)) rfl) hK hG hW hS rfl hl.1 rfl (Nat.le_of_ble_eq_true rfl) dX11_workAt_54 hN (fun  N16 S17 H locs h hN hW hS => ?_)
        exact bX11_workAt_57 C (fun N9 M9 a09 a19 H9 q9 ls9 h9 hN9 hW9 hS9 hl9 => ih N9 M9 a09 a19 H9 q9 ls9 h9 hN9 hW9 hS9 hl9) _ _ _ _ _ _ _ h hN hW hS (lv_sub hl [1, 2, 3] rfl)
set_option maxHeartbeats 4000000 in
set_option maxRecDepth 100000 in
theorem kX11_workAt {post : tq_Nn → tq_St → Prop} {N : tq_Nn} {S : tq_St} {sz sl : Nat} {p0 : Nat} (h : wpX11_workAt post N S p0) : tq_bV l yX11_workAt (tq_ws yX11_workAt cX11_workAt 4 none) 10 315 D cy z A0 H0 ad N M S sz sl [.ref (ad 1 0), .ref (ad 2 p0)] post := by
  unfold wpX11_workAt at h
  refine Met.ofW (cc := cX11_workAt) (maxL := 4) (ret := none) (by decide) rfl ?_
  intro p e s m args below meth c s₁ B hml hv
  obtain ⟨rfl, ⟨hW, hK, hG⟩, rfl, rfl, hN1, hN2, hN3, hN4⟩ := hv
  have hN : tq_nb z A0 s N := ⟨hN1, hN2, hN3, hN4⟩
  have hx := B.exec
  have hb := B.bytes
  have hr := B.returns
  have hts := atoms_spec (ws := (tq_ws yX11_workAt cX11_workAt 4 none)) B.pre
  have hw : ∀ w ∈ tq_W, w.before _ s = true := fun w h => hts w (List.mem_cons_of_mem _ h)
  have hown : s.vm.findClass RX11 = some m.cls := findClass_of_methodNamed B.named
  have hlocks := B.notSynchronized
  have C : tq_At p s m meth c [.ref (ad 1 0), .ref (ad 2 p0)].toArray cX11_workAt 4 (none) ((tq_ws yX11_workAt cX11_workAt 4 none)) RX11 D cy z ad := ⟨hx, hb, hr, hml, hown, hts, hlocks, hK, hG⟩
  have hS : va_S (fun q => z ≤ q) s.heap s.heap [] := va_S.rf
  have hl := lv_entry ([.ref (ad 1 0), .ref (ad 2 p0)]) (n := 4) (Nat.le_of_ble_eq_true rfl)
  rw [lg_entry_eq]
  generalize (lg_sl ([.ref (ad 1 0), .ref (ad 2 p0)]) ++ List.replicate (4 - (lg_sl ([.ref (ad 1 0), .ref (ad 2 p0)])).length) Slot.unset).toArray = ls at hl ⊢
  have hl : lv_has ls 4 [(0, .ref (ad 1 0)), (1, .ref (ad 2 p0))] := hl
  have hW : tq_wd D cy z H0 ad N (tq_mix S M) s.heap := hW
  refine tq_tight (c1 := z + N 0 0 - s.heap.size) (n1 := A0 + N 0 1 - tq_all s.heap) (by omega) (by omega) ?_
  refine lv_aload_n hx hb dX11_workAt_0 rfl (lv_at hl 1 rfl) ?_
  refine lv_aload_n hx hb dX11_workAt_1 rfl (lv_at hl 0 rfl) ?_
  refine tqc_get (v := .int (S 1 0 0)) hx hb hw tq_inX11 hown hK hW (by decide) (tq_mk_1 (by decide)) rfl 0 (by decide) (hw _ tw_337) (fun _ h9 => h9) rfl dX11_workAt_2 ?_
  obtain ⟨b1, h⟩ := h
  refine tqc_callVv (As := [.int (S 1 0 0)]) (rest := []) (kX5_receiveAdvances h) ⟨hx, hb, hml, hown, hts⟩ (cwV 1 hts (tq_goodV tw_1127 tw_1128 tw_1129 tw_122 tw_1130) rfl rfl rfl (by decide +kernel) ⟨(Nat.le_of_ble_eq_true rfl), (Nat.le_of_ble_eq_true rfl)⟩) (tq_recvC hK hW (by decide) (tq_mk_2 b1) rfl) hK hG hW hS rfl hl.1 rfl (Nat.le_of_ble_eq_true rfl) dX11_workAt_5 hN.f (fun S2 H locs h hW hS => ?_)
  refine lv_aload_n hx hb dX11_workAt_8 rfl (lv_at hl 1 rfl) ?_
  refine tqc_callVv (As := []) (rest := []) (kX5_coolDown h) ⟨hx, hb, hml, hown, hts⟩ (cwV 0 hts (tq_goodV tw_1131 tw_1132 tw_1133 tw_122 tw_1134) rfl rfl rfl (by decide +kernel) ⟨(Nat.le_of_ble_eq_true rfl), (Nat.le_of_ble_eq_true rfl)⟩) (tq_recvC hK hW (by decide) (tq_mk_2 b1) rfl) hK hG hW hS rfl hl.1 rfl (Nat.le_of_ble_eq_true rfl) dX11_workAt_9 hN.f (fun S3 H locs h hW hS => ?_)
  refine lv_aload_n hx hb dX11_workAt_12 rfl (lv_at hl 1 rfl) ?_
  refine lv_iconst (v := 0) hx hb dX11_workAt_13 (by decide) ?_
  refine tqc_put hx hb hw tq_inX5 tyX5 tyX5_ok nmX5 hown hK hW hS (by decide) (tq_mk_2 b1) rfl 8 (by decide) (hw _ tw_268) (fun _ h9 => h9) rfl rfl rfl rfl (tq_mk_2 b1) dX11_workAt_14 (fun H locs hW hS => ?_)
  generalize eS4 : tq_up S3 2 p0 8 0 = S4 at hW
  have h := h S4 eS4.symm
  refine lv_iconst (v := 0) hx hb dX11_workAt_17 (by decide) ?_
  refine lv_istore_n (lv' := [(2, .int 0), (0, .ref (ad 1 0)), (1, .ref (ad 2 p0))]) hx hb dX11_workAt_18 rfl hl (by decide) rfl (fun ls hl => ?_)
  obtain ⟨nq, h⟩ := h
  exact bX11_workAt_19 C  nq _ _ _ _ _ _ _ h hN hW hS (lv_sub hl [1, 2, 0] rfl)
-- X11 comeDay
def wbX11_comeDay_84 (post : tq_Nn → tq_St → Prop) (L12 : tq_Nn → tq_St → Int32 → Prop) (N : tq_Nn) (S : tq_St) (x1 : Int32) : Prop :=
  L12 N S (x1 + 1)
def wbX11_comeDay_139 (post : tq_Nn → tq_St → Prop) (L92 : tq_Nn → tq_St → Int32 → Prop) (N : tq_Nn) (S : tq_St) (x1 : Int32) : Prop :=
  L92 N S (x1 + 1)
def wbX11_comeDay_147 (post : tq_Nn → tq_St → Prop) : Nat → tq_Nn → tq_St → Int32 → Prop
  | 0, _, _, _ => False
  | n + 1, N, S, x1 =>
    (5 ≤ x1 → (post N S)) ∧ (¬ 5 ≤ x1 → (vp_in x1 5 ∧ (wpX11_workAt (fun N33 S34  => (wbX11_comeDay_147 post n) N33 S34 (x1 + 1)) N S x1.toNatClampNeg)))
def wbX11_comeDay_92 (post : tq_Nn → tq_St → Prop) : Nat → tq_Nn → tq_St → Int32 → Prop
  | 0, _, _, _ => False
  | n + 1, N, S, x1 =>
    ((S 17 0 2) ≤ x1 → (∃ nq, wbX11_comeDay_147 post nq N S 1)) ∧ (¬ (S 17 0 2) ≤ x1 → (tq_gok N S 17 18 0 x1 ∧ (N 7 (tq_el S 17 18 0 x1) = 1 ∧ ¬ S 7 (tq_el S 17 18 0 x1) 13 = 0 ∧ ((¬ (S 7 (tq_el S 17 18 0 x1) 10) = 1 → (wbX11_comeDay_139 post (wbX11_comeDay_92 post n) N S x1)) ∧ ((S 7 (tq_el S 17 18 0 x1) 10) = 1 → ((¬ (S 7 (tq_el S 17 18 0 x1) 11) = (S 1 0 0) → (wbX11_comeDay_139 post (wbX11_comeDay_92 post n) N S x1)) ∧ ((S 7 (tq_el S 17 18 0 x1) 11) = (S 1 0 0) → (wpX11_fallDue N (fun S30 => wbX11_comeDay_139 post (wbX11_comeDay_92 post n) N S30 x1) S (tq_el S 17 18 0 x1)))))))))
def wbX11_comeDay_12 (post : tq_Nn → tq_St → Prop) : Nat → tq_Nn → tq_St → Int32 → Prop
  | 0, _, _, _ => False
  | n + 1, N, S, x1 =>
    ((S 19 0 2) ≤ x1 → (∃ nq, wbX11_comeDay_92 post nq N S 0)) ∧ (¬ (S 19 0 2) ≤ x1 → (tq_gok N S 19 20 0 x1 ∧ (N 8 (tq_el S 19 20 0 x1) = 1 ∧ ((¬ (S 8 (tq_el S 19 20 0 x1) 3) = ((-1)) → (wbX11_comeDay_84 post (wbX11_comeDay_12 post n) N S x1)) ∧ ((S 8 (tq_el S 19 20 0 x1) 3) = ((-1)) → ((¬ (S 8 (tq_el S 19 20 0 x1) 4) = (S 1 0 0) → (wbX11_comeDay_84 post (wbX11_comeDay_12 post n) N S x1)) ∧ ((S 8 (tq_el S 19 20 0 x1) 4) = (S 1 0 0) → (wpX11_isVoyage N (fun S11 r12 => (r12 = 0 → (wbX11_comeDay_84 post (wbX11_comeDay_12 post n) N S11 x1)) ∧ (¬ r12 = 0 → (tq_gok N S11 22 23 0 (S11 8 (tq_el S 19 20 0 x1) 6) ∧ (N 9 (tq_el S11 22 23 0 (S11 8 (tq_el S 19 20 0 x1) 6)) = 1 ∧ (wpX11_endVoyage (fun N18 S19  => wbX11_comeDay_84 post (wbX11_comeDay_12 post n) N18 S19 x1) N S11 (tq_el S 19 20 0 x1) (tq_el S11 22 23 0 (S11 8 (tq_el S 19 20 0 x1) 6))))))) S (S 8 (tq_el S 19 20 0 x1) 6)))))))))
def wpX11_comeDay (post : tq_Nn → tq_St → Prop) (N : tq_Nn) (S : tq_St)  : Prop :=
  (∀ S1, S1 = tq_up S 1 0 0 ((S 1 0 0) + 1) → (∃ nq, wbX11_comeDay_12 post nq N S1 0))
set_option maxHeartbeats 4000000 in
set_option maxRecDepth 100000 in
theorem bX11_comeDay_84 {p : Program} {e : Env} {s : State} {m : MethodId} {args : Array Value} {below : List Frame} {meth : Method} {c : Code} {post : tq_Nn → tq_St → Prop} (C : tq_At p s m meth c args cX11_comeDay 3 (none) ((tq_ws yX11_comeDay cX11_comeDay 3 none)) RX11 D cy z ad) {L12 : tq_Nn → tq_St → Int32 → Prop} (hL12 : ∀ (N : tq_Nn) (S : tq_St) (x1 : Int32) (H : Heap) (locs : List Loc) (ls : Array Slot), L12 N S x1 → tq_nb z A0 s N → tq_wd D cy z H0 ad N (tq_mix S M) H → va_S (fun q => z ≤ q) s.heap H locs → lv_has ls 3 [(0, .ref (ad 1 0)), (1, .int x1)] → tq_Wb p l e 12 355 s m args below meth c z A0 N H locs (MQ below (va_Qv (fun (u : tq_Nn × tq_St) => post u.1 u.2) (tq_PB D cy z A0 H0 ad M) (fun q => z ≤ q)) args s (z + tq_CX - s.heap.size) (A0 + tq_CY - tq_all s.heap) (fun q => z ≤ q)) (F0 m 12 ls [])) : ∀ (N : tq_Nn) (S : tq_St) (x1 : Int32) (H : Heap) (locs : List Loc) (ls : Array Slot), wbX11_comeDay_84 post L12 N S x1 → tq_nb z A0 s N → tq_wd D cy z H0 ad N (tq_mix S M) H → va_S (fun q => z ≤ q) s.heap H locs → lv_has ls 3 [(0, .ref (ad 1 0)), (1, .int x1)] → tq_Wb p l e 12 355 s m args below meth c z A0 N H locs (MQ below (va_Qv (fun (u : tq_Nn × tq_St) => post u.1 u.2) (tq_PB D cy z A0 H0 ad M) (fun q => z ≤ q)) args s (z + tq_CX - s.heap.size) (A0 + tq_CY - tq_all s.heap) (fun q => z ≤ q)) (F0 m 84 ls []) := by
  obtain ⟨hx, hb, hr, hml, hown, hts, hlocks, hK, hG⟩ := id C
  have hw : ∀ w ∈ tq_W, w.before args s = true := fun w h => hts w (List.mem_cons_of_mem _ h)
  intro N S x1 H locs ls h hN hW hS hl
  unfold wbX11_comeDay_84 at h
  refine lv_iinc (v := x1 + 1) (lv' := [(1, .int (x1 + 1)), (0, .ref (ad 1 0))]) hx hb dX11_comeDay_84 hl (k := 1) rfl rfl (by decide) rfl (fun ls hl => ?_)
  refine lv_goto (tgt := 12) hx hb dX11_comeDay_87 (by decide) ?_
  exact hL12 _ _ _ _ _ _ h hN hW hS (lv_sub hl [1, 0] rfl)
set_option maxHeartbeats 4000000 in
set_option maxRecDepth 100000 in
theorem bX11_comeDay_139 {p : Program} {e : Env} {s : State} {m : MethodId} {args : Array Value} {below : List Frame} {meth : Method} {c : Code} {post : tq_Nn → tq_St → Prop} (C : tq_At p s m meth c args cX11_comeDay 3 (none) ((tq_ws yX11_comeDay cX11_comeDay 3 none)) RX11 D cy z ad) {L92 : tq_Nn → tq_St → Int32 → Prop} (hL92 : ∀ (N : tq_Nn) (S : tq_St) (x1 : Int32) (H : Heap) (locs : List Loc) (ls : Array Slot), L92 N S x1 → tq_nb z A0 s N → tq_wd D cy z H0 ad N (tq_mix S M) H → va_S (fun q => z ≤ q) s.heap H locs → lv_has ls 3 [(0, .ref (ad 1 0)), (1, .int x1)] → tq_Wb p l e 12 355 s m args below meth c z A0 N H locs (MQ below (va_Qv (fun (u : tq_Nn × tq_St) => post u.1 u.2) (tq_PB D cy z A0 H0 ad M) (fun q => z ≤ q)) args s (z + tq_CX - s.heap.size) (A0 + tq_CY - tq_all s.heap) (fun q => z ≤ q)) (F0 m 92 ls [])) : ∀ (N : tq_Nn) (S : tq_St) (x1 : Int32) (H : Heap) (locs : List Loc) (ls : Array Slot), wbX11_comeDay_139 post L92 N S x1 → tq_nb z A0 s N → tq_wd D cy z H0 ad N (tq_mix S M) H → va_S (fun q => z ≤ q) s.heap H locs → lv_has ls 3 [(0, .ref (ad 1 0)), (1, .int x1)] → tq_Wb p l e 12 355 s m args below meth c z A0 N H locs (MQ below (va_Qv (fun (u : tq_Nn × tq_St) => post u.1 u.2) (tq_PB D cy z A0 H0 ad M) (fun q => z ≤ q)) args s (z + tq_CX - s.heap.size) (A0 + tq_CY - tq_all s.heap) (fun q => z ≤ q)) (F0 m 139 ls []) := by
  obtain ⟨hx, hb, hr, hml, hown, hts, hlocks, hK, hG⟩ := id C
  have hw : ∀ w ∈ tq_W, w.before args s = true := fun w h => hts w (List.mem_cons_of_mem _ h)
  intro N S x1 H locs ls h hN hW hS hl
  unfold wbX11_comeDay_139 at h
  refine lv_iinc (v := x1 + 1) (lv' := [(1, .int (x1 + 1)), (0, .ref (ad 1 0))]) hx hb dX11_comeDay_139 hl (k := 1) rfl rfl (by decide) rfl (fun ls hl => ?_)
  refine lv_goto (tgt := 92) hx hb dX11_comeDay_142 (by decide) ?_
  exact hL92 _ _ _ _ _ _ h hN hW hS (lv_sub hl [1, 0] rfl)
set_option maxHeartbeats 4000000 in
set_option maxRecDepth 100000 in
theorem bX11_comeDay_147 {p : Program} {e : Env} {s : State} {m : MethodId} {args : Array Value} {below : List Frame} {meth : Method} {c : Code} {post : tq_Nn → tq_St → Prop} (C : tq_At p s m meth c args cX11_comeDay 3 (none) ((tq_ws yX11_comeDay cX11_comeDay 3 none)) RX11 D cy z ad)  : ∀ n : Nat, ∀ (N : tq_Nn) (S : tq_St) (x1 : Int32) (H : Heap) (locs : List Loc) (ls : Array Slot), wbX11_comeDay_147 post  n N S x1 → tq_nb z A0 s N → tq_wd D cy z H0 ad N (tq_mix S M) H → va_S (fun q => z ≤ q) s.heap H locs → lv_has ls 3 [(0, .ref (ad 1 0)), (1, .int x1)] → tq_Wb p l e 12 355 s m args below meth c z A0 N H locs (MQ below (va_Qv (fun (u : tq_Nn × tq_St) => post u.1 u.2) (tq_PB D cy z A0 H0 ad M) (fun q => z ≤ q)) args s (z + tq_CX - s.heap.size) (A0 + tq_CY - tq_all s.heap) (fun q => z ≤ q)) (F0 m 147 ls []) := by
  obtain ⟨hx, hb, hr, hml, hown, hts, hlocks, hK, hG⟩ := id C
  have hw : ∀ w ∈ tq_W, w.before args s = true := fun w h => hts w (List.mem_cons_of_mem _ h)
  intro n
  induction n with
  | zero =>
    intro N S x1 H locs ls h
    exact absurd h (by unfold wbX11_comeDay_147; exact id)
  | succ n ih =>
    intro N S x1 H locs ls h hN hW hS hl
    unfold wbX11_comeDay_147 at h
    refine lv_iload_n hx hb dX11_comeDay_147 rfl (lv_at hl 1 rfl) ?_
    refine lv_iconst (v := 5) hx hb dX11_comeDay_148 (by decide) ?_
    refine lv_icmp_ge (tgt := 168) hx hb dX11_comeDay_149 (by decide) (fun c31 => ?_) (fun c31 => ?_)
    · have h := h.1 c31
      exact tqb_vret hx hb hr hN h hW hS dX11_comeDay_168 hlocks
    · have h := h.2 c31
      refine lv_aload_n hx hb dX11_comeDay_152 rfl (lv_at hl 0 rfl) ?_
      refine lv_aload_n hx hb dX11_comeDay_153 rfl (lv_at hl 0 rfl) ?_
      refine tqc_get (v := .ref (ad 12 0)) hx hb hw tq_inX11 hown hK hW (by decide) (tq_mk_1 (by decide)) rfl 1 (by decide) (hw _ tw_338) (fun _ h9 => h9) rfl dX11_comeDay_154 ?_
      refine lv_iload_n hx hb dX11_comeDay_157 rfl (lv_at hl 1 rfl) ?_
      obtain ⟨b32, h⟩ := h
      refine tqc_aald (jn := x1.toNatClampNeg) (v := .ref (ad 2 x1.toNatClampNeg)) hx hb hK hW (by decide) (tq_mk_12 (by decide)) 3 rfl rfl b32 rfl rfl dX11_comeDay_158 ?_
      refine tqb_callVv (As := [.ref (ad 2 x1.toNatClampNeg)]) (rest := []) (kX11_workAt h) ⟨hx, hb, hml, hown, hts⟩ (cwV 1 hts (tq_goodV tw_1123 tw_1125 tw_35 tw_115 tw_1126) rfl rfl rfl (by decide +kernel) ⟨(Nat.le_of_ble_eq_true rfl), (Nat.le_of_ble_eq_true rfl)⟩) (tq_recvC hK hW (by decide) (tq_mk_1 (by decide)) rfl) hK hG hW hS rfl hl.1 rfl (Nat.le_of_ble_eq_true rfl) dX11_comeDay_159 hN (fun  N33 S34 H locs h hN hW hS => ?_)
      refine lv_iinc (v := x1 + 1) (lv' := [(1, .int (x1 + 1)), (0, .ref (ad 1 0))]) hx hb dX11_comeDay_162 hl (k := 1) rfl rfl (by decide) rfl (fun ls hl => ?_)
      refine lv_goto (tgt := 147) hx hb dX11_comeDay_165 (by decide) ?_
      exact ih _ _ _ _ _ _ h hN hW hS (lv_sub hl [1, 0] rfl)
set_option maxHeartbeats 4000000 in
set_option maxRecDepth 100000 in
theorem bX11_comeDay_92 {p : Program} {e : Env} {s : State} {m : MethodId} {args : Array Value} {below : List Frame} {meth : Method} {c : Code} {post : tq_Nn → tq_St → Prop} (C : tq_At p s m meth c args cX11_comeDay 3 (none) ((tq_ws yX11_comeDay cX11_comeDay 3 none)) RX11 D cy z ad)  : ∀ n : Nat, ∀ (N : tq_Nn) (S : tq_St) (x1 : Int32) (H : Heap) (locs : List Loc) (ls : Array Slot), wbX11_comeDay_92 post  n N S x1 → tq_nb z A0 s N → tq_wd D cy z H0 ad N (tq_mix S M) H → va_S (fun q => z ≤ q) s.heap H locs → lv_has ls 3 [(0, .ref (ad 1 0)), (1, .int x1)] → tq_Wb p l e 12 355 s m args below meth c z A0 N H locs (MQ below (va_Qv (fun (u : tq_Nn × tq_St) => post u.1 u.2) (tq_PB D cy z A0 H0 ad M) (fun q => z ≤ q)) args s (z + tq_CX - s.heap.size) (A0 + tq_CY - tq_all s.heap) (fun q => z ≤ q)) (F0 m 92 ls []) := by
  obtain ⟨hx, hb, hr, hml, hown, hts, hlocks, hK, hG⟩ := id C
  have hw : ∀ w ∈ tq_W, w.before args s = true := fun w h => hts w (List.mem_cons_of_mem _ h)
  intro n
  induction n with
  | zero =>
    intro N S x1 H locs ls h
    exact absurd h (by unfold wbX11_comeDay_92; exact id)
  | succ n ih =>
    intro N S x1 H locs ls h hN hW hS hl
    unfold wbX11_comeDay_92 at h
    refine lv_iload_n hx hb dX11_comeDay_92 rfl (lv_at hl 1 rfl) ?_
    refine lv_aload_n hx hb dX11_comeDay_93 rfl (lv_at hl 0 rfl) ?_
    refine tqc_get (v := .ref (ad 17 0)) hx hb hw tq_inX11 hown hK hW (by decide) (tq_mk_1 (by decide)) rfl 6 (by decide) (hw _ tw_343) (fun _ h9 => h9) rfl dX11_comeDay_94 ?_
    refine tqc_callVi (As := []) (rest := [.int x1]) (kJl_size (post := fun u r => u = S ∧ r = S 17 0 2) (by decide) (tq_mk_17 (by decide)) ⟨rfl, rfl⟩) ⟨hx, hb, hml, hown, hts⟩ (cwV 0 hts (tq_goodV tw_484 tw_485 tw_486 tw_118 tw_487) rfl rfl rfl (by decide +kernel) ⟨(Nat.le_of_ble_eq_true rfl), (Nat.le_of_ble_eq_true rfl)⟩) (tq_recvL hK hW (by decide) (tq_mk_17 (by decide))) hK hG hW hS rfl hl.1 rfl (Nat.le_of_ble_eq_true rfl) dX11_comeDay_97 hN.f (fun r21 S20 H locs q9 hW hS => ?_)
    rw [q9.1] at hW
    rw [q9.2]
    refine lv_icmp_ge (tgt := 145) hx hb dX11_comeDay_100 (by decide) (fun c22 => ?_) (fun c22 => ?_)
    · have h := h.1 c22
      refine lv_iconst (v := 1) hx hb dX11_comeDay_145 (by decide) ?_
      refine lv_istore_n (lv' := [(1, .int 1), (0, .ref (ad 1 0))]) hx hb dX11_comeDay_146 rfl hl (by decide) rfl (fun ls hl => ?_)
      obtain ⟨nq, h⟩ := h
      exact bX11_comeDay_147 C  nq _ _ _ _ _ _ h hN hW hS (lv_sub hl [1, 0] rfl)
    · have h := h.2 c22
      refine lv_aload_n hx hb dX11_comeDay_103 rfl (lv_at hl 0 rfl) ?_
      refine tqc_get (v := .ref (ad 17 0)) hx hb hw tq_inX11 hown hK hW (by decide) (tq_mk_1 (by decide)) rfl 6 (by decide) (hw _ tw_343) (fun _ h9 => h9) rfl dX11_comeDay_104 ?_
      refine lv_iload_n hx hb dX11_comeDay_107 rfl (lv_at hl 1 rfl) ?_
      obtain ⟨b25, h⟩ := h
      refine tqc_callVr (kr := 7) (As := [.int x1]) (rest := []) (kJl_get (kd := 18) (post := fun u i => u = S ∧ i = tq_el S 17 18 0 x1) (by decide) (by decide) (tq_mk_17 (by decide)) (fun q9 => tq_mk_18 q9) b25 ⟨rfl, rfl⟩) ⟨hx, hb, hml, hown, hts⟩ (cwV 1 hts (tq_goodV tw_827 tw_828 tw_829 tw_118 tw_830) rfl rfl rfl (by decide +kernel) ⟨(Nat.le_of_ble_eq_true rfl), (Nat.le_of_ble_eq_true rfl)⟩) (tq_recvL hK hW (by decide) (tq_mk_17 (by decide))) hK hG hW hS rfl hl.1 rfl (Nat.le_of_ble_eq_true rfl) dX11_comeDay_108 hN.f (fun i24 S23 H locs q9 hW hS => ?_)
      rw [q9.1] at hW
      rw [q9.2]
      obtain ⟨b26, h⟩ := h
      obtain ⟨b27, h⟩ := h
      refine va_castS hx hb hown (hw _ tw_1114) (hK.1 2 _ rfl).2 (tq_recvC hK hW (by decide) (tq_mk_7b b26 b27) rfl) dX11_comeDay_111 ?_
      refine lv_astore_n (lv' := [(2, .ref (ad 7 (tq_el S 17 18 0 x1))), (0, .ref (ad 1 0)), (1, .int x1)]) hx hb dX11_comeDay_114 rfl hl (by decide) rfl (fun ls hl => ?_)
      refine lv_aload_n hx hb dX11_comeDay_115 rfl (lv_at hl 0 rfl) ?_
      refine tqc_getB (v := .int (S 7 (tq_el S 17 18 0 x1) 10)) hx hb hw tq_inX1 hown hK hW b26 b27 10 (by decide) (hw _ tw_1194) (fun _ h9 => h9) rfl dX11_comeDay_116 ?_
      refine lv_iconst (v := 1) hx hb dX11_comeDay_119 (by decide) ?_
      refine lv_icmp_ne (tgt := 139) hx hb dX11_comeDay_120 (by decide) (fun c28 => ?_) (fun c28 => ?_)
      · have h := h.1 c28
        exact bX11_comeDay_139 C (fun N9 M9 a09 H9 q9 ls9 h9 hN9 hW9 hS9 hl9 => ih N9 M9 a09 H9 q9 ls9 h9 hN9 hW9 hS9 hl9) _ _ _ _ _ _ h hN hW hS (lv_sub hl [1, 2] rfl)
      · have h := h.2 c28
        refine lv_aload_n hx hb dX11_comeDay_123 rfl (lv_at hl 0 rfl) ?_
        refine tqc_getB (v := .int (S 7 (tq_el S 17 18 0 x1) 11)) hx hb hw tq_inX1 hown hK hW b26 b27 11 (by decide) (hw _ tw_1196) (fun _ h9 => h9) rfl dX11_comeDay_124 ?_
        refine lv_aload_n hx hb dX11_comeDay_127 rfl (lv_at hl 1 rfl) ?_
        refine tqc_get (v := .int (S 1 0 0)) hx hb hw tq_inX11 hown hK hW (by decide) (tq_mk_1 (by decide)) rfl 0 (by decide) (hw _ tw_337) (fun _ h9 => h9) rfl dX11_comeDay_128 ?_
        refine lv_icmp_ne (tgt := 139) hx hb dX11_comeDay_131 (by decide) (fun c29 => ?_) (fun c29 => ?_)
        · have h := h.1 c29
          exact bX11_comeDay_139 C (fun N9 M9 a09 H9 q9 ls9 h9 hN9 hW9 hS9 hl9 => ih N9 M9 a09 H9 q9 ls9 h9 hN9 hW9 hS9 hl9) _ _ _ _ _ _ h hN hW hS (lv_sub hl [1, 2] rfl)
        · have h := h.2 c29
          refine lv_aload_n hx hb dX11_comeDay_134 rfl (lv_at hl 1 rfl) ?_
          refine lv_aload_n hx hb dX11_comeDay_135 rfl (lv_at hl 0 rfl) ?_
          refine tqc_callVv (As := [.ref (ad 7 (tq_el S 17 18 0 x1))]) (rest := []) (kX11_fallDue h) ⟨hx, hb, hml, hown, hts⟩ (cwV 1 hts (tq_goodV tw_1115 tw_1117 tw_34 tw_115 tw_1118) rfl rfl rfl (by decide +kernel) ⟨(Nat.le_of_ble_eq_true rfl), (Nat.le_of_ble_eq_true rfl)⟩) (tq_recvC hK hW (by decide) (tq_mk_1 (by decide)) rfl) hK hG hW hS rfl hl.1 rfl (Nat.le_of_ble_eq_true rfl) dX11_comeDay_136 hN.f (fun S30 H locs h hW hS => ?_)
          exact bX11_comeDay_139 C (fun N9 M9 a09 H9 q9 ls9 h9 hN9 hW9 hS9 hl9 => ih N9 M9 a09 H9 q9 ls9 h9 hN9 hW9 hS9 hl9) _ _ _ _ _ _ h hN hW hS (lv_sub hl [1, 2] rfl)
set_option maxHeartbeats 4000000 in
set_option maxRecDepth 100000 in
theorem bX11_comeDay_12 {p : Program} {e : Env} {s : State} {m : MethodId} {args : Array Value} {below : List Frame} {meth : Method} {c : Code} {post : tq_Nn → tq_St → Prop} (C : tq_At p s m meth c args cX11_comeDay 3 (none) ((tq_ws yX11_comeDay cX11_comeDay 3 none)) RX11 D cy z ad)  : ∀ n : Nat, ∀ (N : tq_Nn) (S : tq_St) (x1 : Int32) (H : Heap) (locs : List Loc) (ls : Array Slot), wbX11_comeDay_12 post  n N S x1 → tq_nb z A0 s N → tq_wd D cy z H0 ad N (tq_mix S M) H → va_S (fun q => z ≤ q) s.heap H locs → lv_has ls 3 [(0, .ref (ad 1 0)), (1, .int x1)] → tq_Wb p l e 12 355 s m args below meth c z A0 N H locs (MQ below (va_Qv (fun (u : tq_Nn × tq_St) => post u.1 u.2) (tq_PB D cy z A0 H0 ad M) (fun q => z ≤ q)) args s (z + tq_CX - s.heap.size) (A0 + tq_CY - tq_all s.heap) (fun q => z ≤ q)) (F0 m 12 ls []) := by
  obtain ⟨hx, hb, hr, hml, hown, hts, hlocks, hK, hG⟩ := id C
  have hw : ∀ w ∈ tq_W, w.before args s = true := fun w h => hts w (List.mem_cons_of_mem _ h)
  intro n
  induction n with
  | zero =>
    intro N S x1 H locs ls h
    exact absurd h (by unfold wbX11_comeDay_12; exact id)
  | succ n ih =>
    intro N S x1 H locs ls h hN hW hS hl
    unfold wbX11_comeDay_12 at h
    refine lv_iload_n hx hb dX11_comeDay_12 rfl (lv_at hl 1 rfl) ?_
    refine lv_aload_n hx hb dX11_comeDay_13 rfl (lv_at hl 0 rfl) ?_
    refine tqc_get (v := .ref (ad 19 0)) hx hb hw tq_inX11 hown hK hW (by decide) (tq_mk_1 (by decide)) rfl 7 (by decide) (hw _ tw_344) (fun _ h9 => h9) rfl dX11_comeDay_14 ?_
    refine tqc_callVi (As := []) (rest := [.int x1]) (kJl_size (post := fun u r => u = S ∧ r = S 19 0 2) (by decide) (tq_mk_19 (by decide)) ⟨rfl, rfl⟩) ⟨hx, hb, hml, hown, hts⟩ (cwV 0 hts (tq_goodV tw_484 tw_485 tw_486 tw_118 tw_487) rfl rfl rfl (by decide +kernel) ⟨(Nat.le_of_ble_eq_true rfl), (Nat.le_of_ble_eq_true rfl)⟩) (tq_recvL hK hW (by decide) (tq_mk_19 (by decide))) hK hG hW hS rfl hl.1 rfl (Nat.le_of_ble_eq_true rfl) dX11_comeDay_17 hN.f (fun r3 S2 H locs q9 hW hS => ?_)
    rw [q9.1] at hW
    rw [q9.2]
    refine lv_icmp_ge (tgt := 90) hx hb dX11_comeDay_20 (by decide) (fun c4 => ?_) (fun c4 => ?_)
    · have h := h.1 c4
      refine lv_iconst (v := 0) hx hb dX11_comeDay_90 (by decide) ?_
      refine lv_istore_n (lv' := [(1, .int 0), (0, .ref (ad 1 0))]) hx hb dX11_comeDay_91 rfl hl (by decide) rfl (fun ls hl => ?_)
      obtain ⟨nq, h⟩ := h
      exact bX11_comeDay_92 C  nq _ _ _ _ _ _ h hN hW hS (lv_sub hl [1, 0] rfl)
    · have h := h.2 c4
      refine lv_aload_n hx hb dX11_comeDay_23 rfl (lv_at hl 0 rfl) ?_
      refine tqc_get (v := .ref (ad 19 0)) hx hb hw tq_inX11 hown hK hW (by decide) (tq_mk_1 (by decide)) rfl 7 (by decide) (hw _ tw_344) (fun _ h9 => h9) rfl dX11_comeDay_24 ?_
      refine lv_iload_n hx hb dX11_comeDay_27 rfl (lv_at hl 1 rfl) ?_
      obtain ⟨b7, h⟩ := h
      refine tqc_callVr (kr := 8) (As := [.int x1]) (rest := []) (kJl_get (kd := 20) (post := fun u i => u = S ∧ i = tq_el S 19 20 0 x1) (by decide) (by decide) (tq_mk_19 (by decide)) (fun q9 => tq_mk_20 q9) b7 ⟨rfl, rfl⟩) ⟨hx, hb, hml, hown, hts⟩ (cwV 1 hts (tq_goodV tw_827 tw_828 tw_829 tw_118 tw_830) rfl rfl rfl (by decide +kernel) ⟨(Nat.le_of_ble_eq_true rfl), (Nat.le_of_ble_eq_true rfl)⟩) (tq_recvL hK hW (by decide) (tq_mk_19 (by decide))) hK hG hW hS rfl hl.1 rfl (Nat.le_of_ble_eq_true rfl) dX11_comeDay_28 hN.f (fun i6 S5 H locs q9 hW hS => ?_)
      rw [q9.1] at hW
      rw [q9.2]
      obtain ⟨b8, h⟩ := h
      refine va_castS hx hb hown (hw _ tw_839) (hK.1 9 _ rfl).2 (tq_recvC hK hW (by decide) (tq_mk_8 b8) rfl) dX11_comeDay_31 ?_
      refine lv_astore_n (lv' := [(2, .ref (ad 8 (tq_el S 19 20 0 x1))), (0, .ref (ad 1 0)), (1, .int x1)]) hx hb dX11_comeDay_34 rfl hl (by decide) rfl (fun ls hl => ?_)
      refine lv_aload_n hx hb dX11_comeDay_35 rfl (lv_at hl 0 rfl) ?_
      refine tqc_get (v := .int (S 8 (tq_el S 19 20 0 x1) 3)) hx hb hw tq_inX8 hown hK hW (by decide) (tq_mk_8 b8) rfl 3 (by decide) (hw _ tw_904) (fun _ h9 => h9) rfl dX11_comeDay_36 ?_
      refine lv_iconst (v := (-1)) hx hb dX11_comeDay_39 (by decide) ?_
      refine lv_icmp_ne (tgt := 84) hx hb dX11_comeDay_40 (by decide) (fun c9 => ?_) (fun c9 => ?_)
      · have h := h.1 c9
        exact bX11_comeDay_84 C (fun N9 M9 a09 H9 q9 ls9 h9 hN9 hW9 hS9 hl9 => ih N9 M9 a09 H9 q9 ls9 h9 hN9 hW9 hS9 hl9) _ _ _ _ _ _ h hN hW hS (lv_sub hl [1, 2] rfl)
      · have h := h.2 c9
        refine lv_aload_n hx hb dX11_comeDay_43 rfl (lv_at hl 0 rfl) ?_
        refine tqc_get (v := .int (S 8 (tq_el S 19 20 0 x1) 4)) hx hb hw tq_inX8 hown hK hW (by decide) (tq_mk_8 b8) rfl 4 (by decide) (hw _ tw_906) (fun _ h9 => h9) rfl dX11_comeDay_44 ?_
        refine lv_aload_n hx hb dX11_comeDay_47 rfl (lv_at hl 1 rfl) ?_
        refine tqc_get (v := .int (S 1 0 0)) hx hb hw tq_inX11 hown hK hW (by decide) (tq_mk_1 (by decide)) rfl 0 (by decide) (hw _ tw_337) (fun _ h9 => h9) rfl dX11_comeDay_48 ?_
        refine lv_icmp_ne (tgt := 84) hx hb dX11_comeDay_51 (by decide) (fun c10 => ?_) (fun c10 => ?_)
        · have h := h.1 c10
          exact bX11_comeDay_84 C (fun N9 M9 a09 H9 q9 ls9 h9 hN9 hW9 hS9 hl9 => ih N9 M9 a09 H9 q9 ls9 h9 hN9 hW9 hS9 hl9) _ _ _ _ _ _ h hN hW hS (lv_sub hl [1, 2] rfl)
        · have h := h.2 c10
          refine lv_aload_n hx hb dX11_comeDay_54 rfl (lv_at hl 1 rfl) ?_
          refine lv_aload_n hx hb dX11_comeDay_55 rfl (lv_at hl 0 rfl) ?_
          refine tqc_get (v := .int (S 8 (tq_el S 19 20 0 x1) 6)) hx hb hw tq_inX8 hown hK hW (by decide) (tq_mk_8 b8) rfl 6 (by decide) (hw _ tw_909) (fun _ h9 => h9) rfl dX11_comeDay_56 ?_
          refine tqc_callVi (As := [.int (S 8 (tq_el S 19 20 0 x1) 6)]) (rest := []) (kX11_isVoyage h) ⟨hx, hb, hml, hown, hts⟩ (cwV 1 hts (tq_goodV tw_1037 tw_1039 tw_26 tw_115 tw_1040) rfl rfl rfl (by decide +kernel) ⟨(Nat.le_of_ble_eq_true rfl), (Nat.le_of_ble_eq_true rfl)⟩) (tq_recvC hK hW (by decide) (tq_mk_1 (by decide)) rfl) hK hG hW hS rfl hl.1 rfl (Nat.le_of_ble_eq_true rfl) dX11_comeDay_59 hN.f (fun r12 S11 H locs h hW hS => ?_)
          refine lv_if_eq (tgt := 84) hx hb dX11_comeDay_62 (by decide) (fun c13 => ?_) (fun c13 => ?_)
          · have h := h.1 c13
            exact bX11_comeDay_84 C (fun N9 M9 a09 H9 q9 ls9 h9 hN9 hW9 hS9 hl9 => ih N9 M9 a09 H9 q9 ls9 h9 hN9 hW9 hS9 hl9) _ _ _ _ _ _ h hN hW hS (lv_sub hl [1, 2] rfl)
          · have h := h.2 c13
            refine lv_aload_n hx hb dX11_comeDay_65 rfl (lv_at hl 1 rfl) ?_
            refine lv_aload_n hx hb dX11_comeDay_66 rfl (lv_at hl 0 rfl) ?_
            refine lv_aload_n hx hb dX11_comeDay_67 rfl (lv_at hl 1 rfl) ?_
            refine tqc_get (v := .ref (ad 22 0)) hx hb hw tq_inX11 hown hK hW (by decide) (tq_mk_1 (by decide)) rfl 9 (by decide) (hw _ tw_346) (fun _ h9 => h9) rfl dX11_comeDay_68 ?_
            refine lv_aload_n hx hb dX11_comeDay_71 rfl (lv_at hl 0 rfl) ?_
            refine tqc_get (v := .int (S11 8 (tq_el S 19 20 0 x1) 6)) hx hb hw tq_inX8 hown hK hW (by decide) (tq_mk_8 b8) rfl 6 (by decide) (hw _ tw_909) (fun _ h9 => h9) rfl dX11_comeDay_72 ?_
            obtain ⟨b16, h⟩ := h
            refine tqc_callVr (kr := 9) (As := [.int (S11 8 (tq_el S 19 20 0 x1) 6)]) (rest := [.ref (ad 8 (tq_el S 19 20 0 x1)), .ref (ad 1 0)]) (kJl_get (kd := 23) (post := fun u i => u = S11 ∧ i = tq_el S11 22 23 0 (S11 8 (tq_el S 19 20 0 x1) 6)) (by decide) (by decide) (tq_mk_22 (by decide)) (fun q9 => tq_mk_23 q9) b16 ⟨rfl, rfl⟩) ⟨hx, hb, hml, hown, hts⟩ (cwV 1 hts (tq_goodV tw_827 tw_828 tw_829 tw_118 tw_830) rfl rfl rfl (by decide +kernel) ⟨(Nat.le_of_ble_eq_true rfl), (Nat.le_of_ble_eq_true rfl)⟩) (tq_recvL hK hW (by decide) (tq_mk_22 (by decide))) hK hG hW hS rfl hl.1 rfl (Nat.le_of_ble_eq_true rfl) dX11_comeDay_75 hN.f (fun i15 S14 H locs q9 hW hS => ?_)
            rw [q9.1] at hW
            rw [q9.2]
            obtain ⟨b17, h⟩ := h
            refine va_castS hx hb hown (hw _ tw_978) (hK.1 11 _ rfl).2 (tq_recvC hK hW (by decide) (tq_mk_9 b17) rfl) dX11_comeDay_78 ?_
            refine tqb_callVv (As := [.ref (ad 8 (tq_el S 19 20 0 x1)), .ref (ad 9 (tq_el S11 22 23 0 (S11 8 (tq_el S 19 20 0 x1) 6)))]) (rest := []) (kX11_endVoyage h) ⟨hx, hb, hml, hown, hts⟩ (cwV 2 hts (tq_goodV tw_1066 tw_1068 tw_28 tw_115 tw_1069) rfl rfl rfl (by decide +kernel) ⟨(Nat.le_of_ble_eq_true rfl), (Nat.le_of_ble_eq_true rfl)⟩) (tq_recvC hK hW (by decide) (tq_mk_1 (by decide)) rfl) hK hG hW hS rfl hl.1 rfl (Nat.le_of_ble_eq_true rfl) dX11_comeDay_81 hN (fun  N18 S19 H locs h hN hW hS => ?_)
            exact bX11_comeDay_84 C (fun N9 M9 a09 H9 q9 ls9 h9 hN9 hW9 hS9 hl9 => ih N9 M9 a09 H9 q9 ls9 h9 hN9 hW9 hS9 hl9) _ _ _ _ _ _ h hN hW hS (lv_sub hl [1, 2] rfl)
set_option maxHeartbeats 4000000 in
set_option maxRecDepth 100000 in
theorem kX11_comeDay {post : tq_Nn → tq_St → Prop} {N : tq_Nn} {S : tq_St} {sz sl : Nat}  (h : wpX11_comeDay post N S ) : tq_bV l yX11_comeDay (tq_ws yX11_comeDay cX11_comeDay 3 none) 12 355 D cy z A0 H0 ad N M S sz sl [.ref (ad 1 0)] post := by
  unfold wpX11_comeDay at h
  refine Met.ofW (cc := cX11_comeDay) (maxL := 3) (ret := none) (by decide) rfl ?_
  intro p e s m args below meth c s₁ B hml hv
  obtain ⟨rfl, ⟨hW, hK, hG⟩, rfl, rfl, hN1, hN2, hN3, hN4⟩ := hv
  have hN : tq_nb z A0 s N := ⟨hN1, hN2, hN3, hN4⟩
  have hx := B.exec
  have hb := B.bytes
  have hr := B.returns
  have hts := atoms_spec (ws := (tq_ws yX11_comeDay cX11_comeDay 3 none)) B.pre
  have hw : ∀ w ∈ tq_W, w.before _ s = true := fun w h => hts w (List.mem_cons_of_mem _ h)
  have hown : s.vm.findClass RX11 = some m.cls := findClass_of_methodNamed B.named
  have hlocks := B.notSynchronized
  have C : tq_At p s m meth c [.ref (ad 1 0)].toArray cX11_comeDay 3 (none) ((tq_ws yX11_comeDay cX11_comeDay 3 none)) RX11 D cy z ad := ⟨hx, hb, hr, hml, hown, hts, hlocks, hK, hG⟩
  have hS : va_S (fun q => z ≤ q) s.heap s.heap [] := va_S.rf
  have hl := lv_entry ([.ref (ad 1 0)]) (n := 3) (Nat.le_of_ble_eq_true rfl)
  rw [lg_entry_eq]
  generalize (lg_sl ([.ref (ad 1 0)]) ++ List.replicate (3 - (lg_sl ([.ref (ad 1 0)])).length) Slot.unset).toArray = ls at hl ⊢
  have hl : lv_has ls 3 [(0, .ref (ad 1 0))] := hl
  have hW : tq_wd D cy z H0 ad N (tq_mix S M) s.heap := hW
  refine tq_tight (c1 := z + N 0 0 - s.heap.size) (n1 := A0 + N 0 1 - tq_all s.heap) (by omega) (by omega) ?_
  refine lv_aload_n hx hb dX11_comeDay_0 rfl (lv_at hl 0 rfl) ?_
  refine lv_dup hx hb dX11_comeDay_1 rfl ?_
  refine tqc_get (v := .int (S 1 0 0)) hx hb hw tq_inX11 hown hK hW (by decide) (tq_mk_1 (by decide)) rfl 0 (by decide) (hw _ tw_337) (fun _ h9 => h9) rfl dX11_comeDay_2 ?_
  refine lv_iconst (v := 1) hx hb dX11_comeDay_5 (by decide) ?_
  refine lv_iadd hx hb dX11_comeDay_6 ?_
  refine tqc_put hx hb hw tq_inX11 tyX11 tyX11_ok nmX11 hown hK hW hS (by decide) (tq_mk_1 (by decide)) rfl 0 (by decide) (hw _ tw_337) (fun _ h9 => h9) rfl rfl rfl rfl (tq_mk_1 (by decide)) dX11_comeDay_7 (fun H locs hW hS => ?_)
  generalize eS1 : tq_up S 1 0 0 ((S 1 0 0) + 1) = S1 at hW
  have h := h S1 eS1.symm
  refine lv_iconst (v := 0) hx hb dX11_comeDay_10 (by decide) ?_
  refine lv_istore_n (lv' := [(1, .int 0), (0, .ref (ad 1 0))]) hx hb dX11_comeDay_11 rfl hl (by decide) rfl (fun ls hl => ?_)
  obtain ⟨nq, h⟩ := h
  exact bX11_comeDay_12 C  nq _ _ _ _ _ _ h hN hW hS (lv_sub hl [1, 0] rfl)
-- X11 days
def wbX11_days_23 (post : tq_Nn → tq_St → Int32 → Prop)  (N : tq_Nn) (S : tq_St) : Prop :=
  post N S ((-2))
def wbX11_days_28 (post : tq_Nn → tq_St → Int32 → Prop) : Nat → tq_Nn → tq_St → Int32 → Int32 → Prop
  | 0, _, _, _, _ => False
  | n + 1, N, S, x1, x2 =>
    (x1 ≤ x2 → (post N S (S 1 0 0))) ∧ (¬ x1 ≤ x2 → (wpX11_comeDay (fun N6 S7  => (wbX11_days_28 post n) N6 S7 x1 (x2 + 1)) N S ))
def wpX11_days (post : tq_Nn → tq_St → Int32 → Prop) (N : tq_Nn) (S : tq_St) (p0 : Int32) : Prop :=
  wpX11_within N (fun S1 r2 => (r2 = 0 → (wbX11_days_23 post N S1 )) ∧ (¬ r2 = 0 → ((((S1 1 0 0) + p0) ≤ 2999 → (∃ nq, wbX11_days_28 post nq N S1 p0 0)) ∧ (¬ ((S1 1 0 0) + p0) ≤ 2999 → (wbX11_days_23 post N S1 ))))) S p0 1 200
set_option maxHeartbeats 4000000 in
set_option maxRecDepth 100000 in
theorem bX11_days_23 {p : Program} {e : Env} {s : State} {m : MethodId} {args : Array Value} {below : List Frame} {meth : Method} {c : Code} {post : tq_Nn → tq_St → Int32 → Prop} (C : tq_At p s m meth c args cX11_days 3 ((some .int)) ((tq_ws yX11_days cX11_days 3 (some .int))) RX11 D cy z ad)  : ∀ (N : tq_Nn) (S : tq_St)  (H : Heap) (locs : List Loc) (ls : Array Slot), wbX11_days_23 post  N S  → tq_nb z A0 s N → tq_wd D cy z H0 ad N (tq_mix S M) H → va_S (fun q => z ≤ q) s.heap H locs → lv_has ls 3 [] → tq_Wb p l e 13 377 s m args below meth c z A0 N H locs (MQ below (va_Qi (fun r (u : tq_Nn × tq_St) => post u.1 u.2 r) (tq_PB D cy z A0 H0 ad M) (fun q => z ≤ q)) args s (z + tq_CX - s.heap.size) (A0 + tq_CY - tq_all s.heap) (fun q => z ≤ q)) (F0 m 23 ls []) := by
  obtain ⟨hx, hb, hr, hml, hown, hts, hlocks, hK, hG⟩ := id C
  have hw : ∀ w ∈ tq_W, w.before args s = true := fun w h => hts w (List.mem_cons_of_mem _ h)
  intro N S  H locs ls h hN hW hS hl
  unfold wbX11_days_23 at h
  refine lv_bipush (v := (-2)) hx hb dX11_days_23 (by decide) ?_
  exact tqb_iret (v := (-2)) hx hb hr hN h hW hS dX11_days_25 hlocks
set_option maxHeartbeats 4000000 in
set_option maxRecDepth 100000 in
theorem bX11_days_28 {p : Program} {e : Env} {s : State} {m : MethodId} {args : Array Value} {below : List Frame} {meth : Method} {c : Code} {post : tq_Nn → tq_St → Int32 → Prop} (C : tq_At p s m meth c args cX11_days 3 ((some .int)) ((tq_ws yX11_days cX11_days 3 (some .int))) RX11 D cy z ad)  : ∀ n : Nat, ∀ (N : tq_Nn) (S : tq_St) (x1 : Int32) (x2 : Int32) (H : Heap) (locs : List Loc) (ls : Array Slot), wbX11_days_28 post  n N S x1 x2 → tq_nb z A0 s N → tq_wd D cy z H0 ad N (tq_mix S M) H → va_S (fun q => z ≤ q) s.heap H locs → lv_has ls 3 [(0, .ref (ad 1 0)), (1, .int x1), (2, .int x2)] → tq_Wb p l e 13 377 s m args below meth c z A0 N H locs (MQ below (va_Qi (fun r (u : tq_Nn × tq_St) => post u.1 u.2 r) (tq_PB D cy z A0 H0 ad M) (fun q => z ≤ q)) args s (z + tq_CX - s.heap.size) (A0 + tq_CY - tq_all s.heap) (fun q => z ≤ q)) (F0 m 28 ls []) := by
  obtain ⟨hx, hb, hr, hml, hown, hts, hlocks, hK, hG⟩ := id C
  have hw : ∀ w ∈ tq_W, w.before args s = true := fun w h => hts w (List.mem_cons_of_mem _ h)
  intro n
  induction n with
  | zero =>
    intro N S x1 x2 H locs ls h
    exact absurd h (by unfold wbX11_days_28; exact id)
  | succ n ih =>
    intro N S x1 x2 H locs ls h hN hW hS hl
    unfold wbX11_days_28 at h
    refine lv_iload_n hx hb dX11_days_28 rfl (lv_at hl 2 rfl) ?_
    refine lv_iload_n hx hb dX11_days_29 rfl (lv_at hl 1 rfl) ?_
    refine lv_icmp_ge (tgt := 43) hx hb dX11_days_30 (by decide) (fun c5 => ?_) (fun c5 => ?_)
    · have h := h.1 c5
      refine lv_aload_n hx hb dX11_days_43 rfl (lv_at hl 0 rfl) ?_
      refine tqc_get (v := .int (S 1 0 0)) hx hb hw tq_inX11 hown hK hW (by decide) (tq_mk_1 (by decide)) rfl 0 (by decide) (hw _ tw_337) (fun _ h9 => h9) rfl dX11_days_44 ?_
      exact tqb_iret (v := S 1 0 0) hx hb hr hN h hW hS dX11_days_47 hlocks
    · have h := h.2 c5
      refine lv_aload_n hx hb dX11_days_33 rfl (lv_at hl 0 rfl) ?_
      refine tqb_callVv (As := []) (rest := []) (kX11_comeDay h) ⟨hx, hb, hml, hown, hts⟩ (cwV 0 hts (tq_goodV tw_1062 tw_1064 tw_27 tw_115 tw_1065) rfl rfl rfl (by decide +kernel) ⟨(Nat.le_of_ble_eq_true rfl), (Nat.le_of_ble_eq_true rfl)⟩) (tq_recvC hK hW (by decide) (tq_mk_1 (by decide)) rfl) hK hG hW hS rfl hl.1 rfl (Nat.le_of_ble_eq_true rfl) dX11_days_34 hN (fun  N6 S7 H locs h hN hW hS => ?_)
      refine lv_iinc (v := x2 + 1) (lv' := [(2, .int (x2 + 1)), (0, .ref (ad 1 0)), (1, .int x1)]) hx hb dX11_days_37 hl (k := 2) rfl rfl (by decide) rfl (fun ls hl => ?_)
      refine lv_goto (tgt := 28) hx hb dX11_days_40 (by decide) ?_
      exact ih _ _ _ _ _ _ _ h hN hW hS (lv_sub hl [1, 2, 0] rfl)
set_option maxHeartbeats 4000000 in
set_option maxRecDepth 100000 in
theorem kX11_days {post : tq_Nn → tq_St → Int32 → Prop} {N : tq_Nn} {S : tq_St} {sz sl : Nat} {p0 : Int32} (h : wpX11_days post N S p0) : tq_bI l yX11_days (tq_ws yX11_days cX11_days 3 (some .int)) 13 377 D cy z A0 H0 ad N M S sz sl [.ref (ad 1 0), .int p0] post := by
  unfold wpX11_days at h
  refine Met.ofW (cc := cX11_days) (maxL := 3) (ret := (some .int)) (by decide) rfl ?_
  intro p e s m args below meth c s₁ B hml hv
  obtain ⟨rfl, ⟨hW, hK, hG⟩, rfl, rfl, hN1, hN2, hN3, hN4⟩ := hv
  have hN : tq_nb z A0 s N := ⟨hN1, hN2, hN3, hN4⟩
  have hx := B.exec
  have hb := B.bytes
  have hr := B.returns
  have hts := atoms_spec (ws := (tq_ws yX11_days cX11_days 3 (some .int))) B.pre
  have hw : ∀ w ∈ tq_W, w.before _ s = true := fun w h => hts w (List.mem_cons_of_mem _ h)
  have hown : s.vm.findClass RX11 = some m.cls := findClass_of_methodNamed B.named
  have hlocks := B.notSynchronized
  have C : tq_At p s m meth c [.ref (ad 1 0), .int p0].toArray cX11_days 3 ((some .int)) ((tq_ws yX11_days cX11_days 3 (some .int))) RX11 D cy z ad := ⟨hx, hb, hr, hml, hown, hts, hlocks, hK, hG⟩
  have hS : va_S (fun q => z ≤ q) s.heap s.heap [] := va_S.rf
  have hl := lv_entry ([.ref (ad 1 0), .int p0]) (n := 3) (Nat.le_of_ble_eq_true rfl)
  rw [lg_entry_eq]
  generalize (lg_sl ([.ref (ad 1 0), .int p0]) ++ List.replicate (3 - (lg_sl ([.ref (ad 1 0), .int p0])).length) Slot.unset).toArray = ls at hl ⊢
  have hl : lv_has ls 3 [(0, .ref (ad 1 0)), (1, .int p0)] := hl
  have hW : tq_wd D cy z H0 ad N (tq_mix S M) s.heap := hW
  refine tq_tight (c1 := z + N 0 0 - s.heap.size) (n1 := A0 + N 0 1 - tq_all s.heap) (by omega) (by omega) ?_
  refine lv_iload_n hx hb dX11_days_0 rfl (lv_at hl 1 rfl) ?_
  refine lv_iconst (v := 1) hx hb dX11_days_1 (by decide) ?_
  refine lv_sipush (v := 200) hx hb dX11_days_2 (by decide) ?_
  refine tqc_callSi (As := [.int p0, .int 1, .int 200]) (rest := []) (kX11_within h) ⟨hx, hb, hml, hown, hts⟩ (va_cwS 3 hts (tq_goodS tw_405 tw_406 tw_115 tw_407) rfl rfl rfl (by decide +kernel) ⟨(Nat.le_of_ble_eq_true rfl), (Nat.le_of_ble_eq_true rfl)⟩) hK hG hW hS rfl hl.1 rfl (Nat.le_of_ble_eq_true rfl) dX11_days_5 hN.f (fun r2 S1 H locs h hW hS => ?_)
  refine lv_if_eq (tgt := 23) hx hb dX11_days_8 (by decide) (fun c3 => ?_) (fun c3 => ?_)
  · have h := h.1 c3
    exact bX11_days_23 C  _ _  _ _ _ h hN hW hS (lv_sub hl [] rfl)
  · have h := h.2 c3
    refine lv_aload_n hx hb dX11_days_11 rfl (lv_at hl 0 rfl) ?_
    refine tqc_get (v := .int (S1 1 0 0)) hx hb hw tq_inX11 hown hK hW (by decide) (tq_mk_1 (by decide)) rfl 0 (by decide) (hw _ tw_337) (fun _ h9 => h9) rfl dX11_days_12 ?_
    refine lv_iload_n hx hb dX11_days_15 rfl (lv_at hl 1 rfl) ?_
    refine lv_iadd hx hb dX11_days_16 ?_
    refine lv_sipush (v := 2999) hx hb dX11_days_17 (by decide) ?_
    refine lv_icmp_le (tgt := 26) hx hb dX11_days_20 (by decide) (fun c4 => ?_) (fun c4 => ?_)
    · have h := h.1 c4
      refine lv_iconst (v := 0) hx hb dX11_days_26 (by decide) ?_
      refine lv_istore_n (lv' := [(2, .int 0), (0, .ref (ad 1 0)), (1, .int p0)]) hx hb dX11_days_27 rfl hl (by decide) rfl (fun ls hl => ?_)
      obtain ⟨nq, h⟩ := h
      exact bX11_days_28 C  nq _ _ _ _ _ _ _ h hN hW hS (lv_sub hl [1, 2, 0] rfl)
    · have h := h.2 c4
      exact bX11_days_23 C  _ _  _ _ _ h hN hW hS (lv_sub hl [] rfl)
-- X11 order
def wpX11_order (post : tq_Nn → tq_St → Int32 → Prop) (N : tq_Nn) (S : tq_St) (p0 : Int32) : Prop :=
  wpX11_isFactory N (fun S1 r2 => (¬ r2 = 0 → (wpX11_hasRoomForPapers N (fun S4 r5 => (¬ r5 = 0 → (N 0 0 + 1 ≤ tq_CX ∧ N 0 1 + 10 ≤ tq_CY ∧ (∀ i9, ¬ i9 < 1 → i9 ≤ N 0 0 → tq_fr N i9 → ∀ N10, N10 = tq_na N (i9 + 1) 1 i9 1 10 → ∀ S11, S11 = tq_cp S4 1 i9 (fun _ => 0) → (wpX3_init (fun N15 S16 => wpX6_readInto (fun N17 S18 r19 => (r19 < 0 → (N17 7 i9 = 1 ∧ (N17 52 i9 = 1 ∧ ((∀ S25, S25 = tq_up S18 7 i9 8 (S18 52 i9 2) → (tq_aok N17 S25 15 16 7 0 i9 ∧ (∀ N26 S27, tq_added N17 S25 15 16 0 i9 N26 S27 → (N26 7 i9 = 1 ∧ (post N26 S27 (S27 7 i9 0)))))))))) ∧ (¬ r19 < 0 → (post N17 S18 (((-10)) - r19)))) N15 S16 i9) N10 S11 i9 (S11 15 0 2) 2 0 p0 (S11 1 0 0))))) ∧ (r5 = 0 → (post N S4 ((-4))))) S1 1)) ∧ (r2 = 0 → (post N S1 ((-1))))) S p0
set_option maxHeartbeats 4000000 in
set_option maxRecDepth 100000 in
theorem kX11_order {post : tq_Nn → tq_St → Int32 → Prop} {N : tq_Nn} {S : tq_St} {sz sl : Nat} {p0 : Int32} (h : wpX11_order post N S p0) : tq_bI l yX11_order (tq_ws yX11_order cX11_order 4 (some .int)) 10 311 D cy z A0 H0 ad N M S sz sl [.ref (ad 1 0), .int p0] post := by
  unfold wpX11_order at h
  refine Met.ofW (cc := cX11_order) (maxL := 4) (ret := (some .int)) (by decide) rfl ?_
  intro p e s m args below meth c s₁ B hml hv
  obtain ⟨rfl, ⟨hW, hK, hG⟩, rfl, rfl, hN1, hN2, hN3, hN4⟩ := hv
  have hN : tq_nb z A0 s N := ⟨hN1, hN2, hN3, hN4⟩
  have hx := B.exec
  have hb := B.bytes
  have hr := B.returns
  have hts := atoms_spec (ws := (tq_ws yX11_order cX11_order 4 (some .int))) B.pre
  have hw : ∀ w ∈ tq_W, w.before _ s = true := fun w h => hts w (List.mem_cons_of_mem _ h)
  have hown : s.vm.findClass RX11 = some m.cls := findClass_of_methodNamed B.named
  have hlocks := B.notSynchronized
  have C : tq_At p s m meth c [.ref (ad 1 0), .int p0].toArray cX11_order 4 ((some .int)) ((tq_ws yX11_order cX11_order 4 (some .int))) RX11 D cy z ad := ⟨hx, hb, hr, hml, hown, hts, hlocks, hK, hG⟩
  have hS : va_S (fun q => z ≤ q) s.heap s.heap [] := va_S.rf
  have hl := lv_entry ([.ref (ad 1 0), .int p0]) (n := 4) (Nat.le_of_ble_eq_true rfl)
  rw [lg_entry_eq]
  generalize (lg_sl ([.ref (ad 1 0), .int p0]) ++ List.replicate (4 - (lg_sl ([.ref (ad 1 0), .int p0])).length) Slot.unset).toArray = ls at hl ⊢
  have hl : lv_has ls 4 [(0, .ref (ad 1 0)), (1, .int p0)] := hl
  have hW : tq_wd D cy z H0 ad N (tq_mix S M) s.heap := hW
  refine tq_tight (c1 := z + N 0 0 - s.heap.size) (n1 := A0 + N 0 1 - tq_all s.heap) (by omega) (by omega) ?_
  refine lv_iload_n hx hb dX11_order_0 rfl (lv_at hl 1 rfl) ?_
  refine tqc_callSi (As := [.int p0]) (rest := []) (kX11_isFactory h) ⟨hx, hb, hml, hown, hts⟩ (va_cwS 1 hts (tq_goodS tw_402 tw_403 tw_115 tw_404) rfl rfl rfl (by decide +kernel) ⟨(Nat.le_of_ble_eq_true rfl), (Nat.le_of_ble_eq_true rfl)⟩) hK hG hW hS rfl hl.1 rfl (Nat.le_of_ble_eq_true rfl) dX11_order_1 hN.f (fun r2 S1 H locs h hW hS => ?_)
  refine lv_if_ne (tgt := 9) hx hb dX11_order_4 (by decide) (fun c3 => ?_) (fun c3 => ?_)
  · have h := h.1 c3
    refine lv_aload_n hx hb dX11_order_9 rfl (lv_at hl 0 rfl) ?_
    refine lv_iconst (v := 1) hx hb dX11_order_10 (by decide) ?_
    refine tqc_callVi (As := [.int 1]) (rest := []) (kX11_hasRoomForPapers h) ⟨hx, hb, hml, hown, hts⟩ (cwV 1 hts (tq_goodV tw_480 tw_482 tw_1 tw_115 tw_483) rfl rfl rfl (by decide +kernel) ⟨(Nat.le_of_ble_eq_true rfl), (Nat.le_of_ble_eq_true rfl)⟩) (tq_recvC hK hW (by decide) (tq_mk_1 (by decide)) rfl) hK hG hW hS rfl hl.1 rfl (Nat.le_of_ble_eq_true rfl) dX11_order_11 hN.f (fun r5 S4 H locs h hW hS => ?_)
    refine lv_if_ne (tgt := 20) hx hb dX11_order_14 (by decide) (fun c6 => ?_) (fun c6 => ?_)
    · have h := h.1 c6
      obtain ⟨b7, b8, h⟩ := h
      refine tqw_new (ci := 4) (t := 1) (fs := [.int 0, .int 0, .int 0, .int 0, .int 0, .null, .null, .null, .int 0, .int 0]) hx hb hw tq_inX3 tyX3 tyX3_ok hown (hw _ tw_488) (hw _ tw_489) (hw _ tw_126) hK hG hW hS hN rfl (by decide) (fun _ => rfl) b7 b8 dX11_order_20 (fun i9 H hz9 hi12 hi2 hfr hN hW hS => ?_)
      generalize eN10 : tq_na N (i9 + 1) 1 i9 1 10 = N10 at hN hW ⊢
      generalize eS11 : tq_cp S4 1 i9 (fun _ => 0) = S11 at hW
      have h := h i9 hi12 hi2 hfr N10 eN10.symm S11 eS11.symm
      refine lv_dup hx hb dX11_order_23 rfl ?_
      refine lv_aload_n hx hb dX11_order_24 rfl (lv_at hl 0 rfl) ?_
      refine tqc_get (v := .ref (ad 15 0)) hx hb hw tq_inX11 hown hK hW (by decide) (tq_mk_1 (by decide)) rfl 5 (by decide) (hw _ tw_342) (fun _ h9 => h9) rfl dX11_order_25 ?_
      refine tqc_callVi (As := []) (rest := [.ref (ad 1 i9), .ref (ad 1 i9)]) (kJl_size (post := fun u r => u = S11 ∧ r = S11 15 0 2) (by decide) (tq_mk_15 (by decide)) ⟨rfl, rfl⟩) ⟨hx, hb, hml, hown, hts⟩ (cwV 0 hts (tq_goodV tw_484 tw_485 tw_486 tw_118 tw_487) rfl rfl rfl (by decide +kernel) ⟨(Nat.le_of_ble_eq_true rfl), (Nat.le_of_ble_eq_true rfl)⟩) (tq_recvL hK hW (by decide) (tq_mk_15 (by decide))) hK hG hW hS rfl hl.1 rfl (Nat.le_of_ble_eq_true rfl) dX11_order_28 hN.f (fun r14 S13 H locs q9 hW hS => ?_)
      rw [q9.1] at hW
      rw [q9.2]
      refine lv_iconst (v := 2) hx hb dX11_order_31 (by decide) ?_
      refine lv_aload_n hx hb dX11_order_32 rfl (lv_at hl 0 rfl) ?_
      refine tqc_get (v := .ref (ad 12 0)) hx hb hw tq_inX11 hown hK hW (by decide) (tq_mk_1 (by decide)) rfl 1 (by decide) (hw _ tw_338) (fun _ h9 => h9) rfl dX11_order_33 ?_
      refine lv_iconst (v := 0) hx hb dX11_order_36 (by decide) ?_
      refine tqc_aald (jn := 0) (v := .ref (ad 2 0)) hx hb hK hW (by decide) (tq_mk_12 (by decide)) 3 rfl rfl (by unfold vp_in; decide) (by decide) rfl dX11_order_37 ?_
      refine lv_iload_n hx hb dX11_order_38 rfl (lv_at hl 1 rfl) ?_
      refine lv_aload_n hx hb dX11_order_39 rfl (lv_at hl 0 rfl) ?_
      refine tqc_get (v := .int (S11 1 0 0)) hx hb hw tq_inX11 hown hK hW (by decide) (tq_mk_1 (by decide)) rfl 0 (by decide) (hw _ tw_337) (fun _ h9 => h9) rfl dX11_order_40 ?_
      refine tqb_callIv (As := [.int (S11 15 0 2), .int 2, .ref (ad 2 0), .int p0, .int (S11 1 0 0)]) (rest := [.ref (ad 1 i9)]) (kX3_init h) ⟨hx, hb, hml, hown, hts⟩ (cwI 5 hts (tq_goodO tw_492) rfl rfl rfl (hw _ tw_126) (hw _ tw_490) (hw _ tw_491) rfl (by decide +kernel) ⟨(Nat.le_of_ble_eq_true rfl), (Nat.le_of_ble_eq_true rfl)⟩) hK hG hW hS rfl hl.1 rfl (Nat.le_of_ble_eq_true rfl) dX11_order_43 hN (fun N15 S16 H locs h hN hW hS => ?_)
      refine W.eq (g2 := F0 m 46 ls [.ref (ad 7 i9)]) (by rw [tq_ad1_7 hG.adr hi12]) ?_
      refine lv_astore_n (lv' := [(2, .ref (ad 7 i9)), (0, .ref (ad 1 0)), (1, .int p0)]) hx hb dX11_order_46 rfl hl (by decide) rfl (fun ls hl => ?_)
      refine lv_aload_n hx hb dX11_order_47 rfl (lv_at hl 1 rfl) ?_
      refine tqc_get (v := .ref (ad 3 0)) hx hb hw tq_inX11 hown hK hW (by decide) (tq_mk_1 (by decide)) rfl 12 (by decide) (hw _ tw_349) (fun _ h9 => h9) rfl dX11_order_48 ?_
      refine lv_aload_n hx hb dX11_order_51 rfl (lv_at hl 0 rfl) ?_
      refine tqb_callVi (As := [.ref (ad 7 i9)]) (rest := []) (kX6_readInto h) ⟨hx, hb, hml, hown, hts⟩ (cwV 1 hts (tq_goodV tw_560 tw_561 tw_562 tw_119 tw_563) rfl rfl rfl (by decide +kernel) ⟨(Nat.le_of_ble_eq_true rfl), (Nat.le_of_ble_eq_true rfl)⟩) (tq_recvC hK hW (by decide) (tq_mk_3 (by decide)) rfl) hK hG hW hS rfl hl.1 rfl (Nat.le_of_ble_eq_true rfl) dX11_order_52 hN (fun r19 N17 S18 H locs h hN hW hS => ?_)
      refine lv_istore_n (lv' := [(3, .int r19), (2, .ref (ad 7 i9)), (0, .ref (ad 1 0)), (1, .int p0)]) hx hb dX11_order_55 rfl hl (by decide) rfl (fun ls hl => ?_)
      refine lv_iload_n hx hb dX11_order_56 rfl (lv_at hl 0 rfl) ?_
      refine lv_if_lt (tgt := 65) hx hb dX11_order_57 (by decide) (fun c20 => ?_) (fun c20 => ?_)
      · have h := h.1 c20
        refine lv_aload_n hx hb dX11_order_65 rfl (lv_at hl 1 rfl) ?_
        refine lv_aload_n hx hb dX11_order_66 rfl (lv_at hl 1 rfl) ?_
        obtain ⟨b21, h⟩ := h
        refine tqc_get7 (v := .ref (ad 52 i9)) hx hb hw tq_inX3 tq_inX1 hown hK hW b21 7 (by decide) (hw _ tw_533) (fun _ h9 => h9) rfl dX11_order_67 ?_
        obtain ⟨b22, h⟩ := h
        refine tqc_callVi (As := []) (rest := [.ref (ad 7 i9)]) (kJl_size (post := fun u r => u = S18 ∧ r = S18 52 i9 2) (by decide) (tq_mk_52 b22) ⟨rfl, rfl⟩) ⟨hx, hb, hml, hown, hts⟩ (cwV 0 hts (tq_goodV tw_484 tw_485 tw_486 tw_118 tw_487) rfl rfl rfl (by decide +kernel) ⟨(Nat.le_of_ble_eq_true rfl), (Nat.le_of_ble_eq_true rfl)⟩) (tq_recvL hK hW (by decide) (tq_mk_52 b22)) hK hG hW hS rfl hl.1 rfl (Nat.le_of_ble_eq_true rfl) dX11_order_70 hN.f (fun r24 S23 H locs q9 hW hS => ?_)
        rw [q9.1] at hW
        rw [q9.2]
        refine tqc_put7 hx hb hw tq_inX3 tq_inX1 hown hK hW hS b21 8 (by decide) (hw _ tw_536) (fun _ h9 => h9) dX11_order_73 (fun H locs hW hS => ?_)
        generalize eS25 : tq_up S18 7 i9 8 (S18 52 i9 2) = S25 at hW
        have h := h S25 eS25.symm
        refine lv_aload_n hx hb dX11_order_76 rfl (lv_at hl 2 rfl) ?_
        refine tqc_get (v := .ref (ad 15 0)) hx hb hw tq_inX11 hown hK hW (by decide) (tq_mk_1 (by decide)) rfl 5 (by decide) (hw _ tw_342) (fun _ h9 => h9) rfl dX11_order_77 ?_
        refine lv_aload_n hx hb dX11_order_80 rfl (lv_at hl 1 rfl) ?_
        obtain ⟨b29, h⟩ := h
        refine tqb_callVi (C := RJx4a65c) (As := [.ref (ad 7 i9)]) (rest := []) (kJl_add (post := fun N1 S1 r => r = 1 ∧ tq_added N17 S25 15 16 0 i9 N1 S1) (tq_LK_15 hG.adr (by decide)) b29 (fun N1 S1 q => ⟨rfl, q⟩)) ⟨hx, hb, hml, hown, hts⟩ (cwV 1 hts (tq_goodV tw_806 tw_746 tw_747 tw_118 tw_748) rfl rfl rfl (by decide +kernel) ⟨(Nat.le_of_ble_eq_true rfl), (Nat.le_of_ble_eq_true rfl)⟩) (tq_recvL hK hW (by decide) (tq_mk_15 (by decide))) hK hG hW hS rfl hl.1 rfl (Nat.le_of_ble_eq_true rfl) dX11_order_81 hN (fun r28 N26 S27 H locs q9 hN hW hS => ?_)
        rw [q9.1]
        have h := h N26 S27 q9.2
        refine lv_pop hx hb dX11_order_84 rfl ?_
        refine lv_aload_n hx hb dX11_order_85 rfl (lv_at hl 1 rfl) ?_
        obtain ⟨b30, h⟩ := h
        refine tqc_get7 (v := .int (S27 7 i9 0)) hx hb hw tq_inX3 tq_inX1 hown hK hW b30 0 (by decide) (hw _ tw_508) (fun _ h9 => h9) rfl dX11_order_86 ?_
        exact tqb_iret (v := S27 7 i9 0) hx hb hr hN h hW hS dX11_order_89 hlocks
      · have h := h.2 c20
        refine lv_bipush (v := (-10)) hx hb dX11_order_60 (by decide) ?_
        refine lv_iload_n hx hb dX11_order_62 rfl (lv_at hl 0 rfl) ?_
        refine lv_isub hx hb dX11_order_63 ?_
        exact tqb_iret (v := ((-10)) - r19) hx hb hr hN h hW hS dX11_order_64 hlocks
    · have h := h.2 c6
      refine lv_bipush (v := (-4)) hx hb dX11_order_17 (by decide) ?_
      exact tqb_iret (v := (-4)) hx hb hr hN h hW hS dX11_order_19 hlocks
  · have h := h.2 c3
    refine lv_iconst (v := (-1)) hx hb dX11_order_7 (by decide) ?_
    exact tqb_iret (v := (-1)) hx hb hr hN h hW hS dX11_order_8 hlocks
