variable {l : Launch} {D : va_G} {cy : Nat → ClassId} {z : Nat} {H0 : Heap} {ad : Nat → Nat → Nat} {N : tq_Nn} {S : tq_St}
-- doDraw
def wbX12_doDraw_20 (post : tq_St → Prop)  (M : tq_St) : Prop :=
  post M
def wbX12_doDraw_69 (post : tq_St → Prop) (L24 : tq_St → Int32 → Int32 → Int32 → Int32 → Int32 → Prop) (M : tq_St) (x1 : Int32) (x2 : Int32) (x3 : Int32) (x4 : Int32) (x5 : Int32) : Prop :=
  L24 M x1 x2 x3 x4 (x5 + 1)
def wbX12_doDraw_24 (post : tq_St → Prop) : Nat → tq_St → Int32 → Int32 → Int32 → Int32 → Int32 → Prop
  | 0, _, _, _, _, _, _ => False
  | n + 1, M, x1, x2, x3, x4, x5 =>
    ((M 64 0 9) ≤ x5 → (wpX12_write (fun M5 r6 => vp_in r6 150 ∧ (∀ M8, M8 = tq_up M5 116 r6.toNatClampNeg 0 x2 → (vp_in x1 5 ∧ (∀ M10, M10 = tq_up M8 101 0 x1.toNatClampNeg ((M8 101 0 x1.toNatClampNeg) + x2) → (wpX12_enter (fun M11 => post M11) M10 x1 4 (-1) r6 x2 x3 x4))))) M 5 x1 0)) ∧ (¬ (M 64 0 9) ≤ x5 → (vp_in x5 150 ∧ ((¬ (M 110 0 x5.toNatClampNeg) = 5 → (wbX12_doDraw_69 post  (wbX12_doDraw_24 post n) M x1 x2 x3 x4 x5)) ∧ ((M 110 0 x5.toNatClampNeg) = 5 → ((¬ (M 111 0 x5.toNatClampNeg) = x1 → (wbX12_doDraw_69 post  (wbX12_doDraw_24 post n) M x1 x2 x3 x4 x5)) ∧ ((M 111 0 x5.toNatClampNeg) = x1 → ((2 ≤ (M 116 x5.toNatClampNeg 1) → (wbX12_doDraw_69 post  (wbX12_doDraw_24 post n) M x1 x2 x3 x4 x5)) ∧ (¬ 2 ≤ (M 116 x5.toNatClampNeg 1) → (post M)))))))))
def wpX12_doDraw (post : tq_St → Prop) (M : tq_St) (p0 : Int32) (p1 : Int32) (p2 : Int32) (p3 : Int32) : Prop :=
  vp_in p0 5 ∧ ((p1 ≤ (M 101 0 p0.toNatClampNeg) → (wbX12_doDraw_20 post M )) ∧ (¬ p1 ≤ (M 101 0 p0.toNatClampNeg) → ((¬ (M 64 0 9) = 150 → (∃ nq, wbX12_doDraw_24 post nq M p0 p1 p2 p3 0)) ∧ ((M 64 0 9) = 150 → (wbX12_doDraw_20 post M )))))
set_option maxHeartbeats 4000000 in
set_option maxRecDepth 100000 in
theorem bX12_doDraw_20 {p : Program} {e : Env} {s : State} {m : MethodId} {args : Array Value} {below : List Frame} {meth : Method} {c : Code} {post : tq_St → Prop} (C : tq_At p s m meth c args cX12_doDraw 6 (none) ((tq_ws yX12_doDraw cX12_doDraw 6 none)) RX12 D cy z ad)  : ∀ (M : tq_St)  (H : Heap) (locs : List Loc) (ls : Array Slot), wbX12_doDraw_20 post   M  → tq_wd D cy z H0 ad N (tq_mix S M) H → va_S (fun q => z ≤ q) s.heap H locs → lv_has ls 6 [] → W p l e (tq_rm 1 28) s m args below meth c H locs 0 0 (MQ below (va_Qv (fun u => post u) (tq_P D cy z H0 ad N S) (fun q => z ≤ q)) args s 0 0 (fun q => z ≤ q)) (F0 m 20 ls []) := by
  obtain ⟨hx, hb, hr, hml, hown, hts, hlocks, hK, hG⟩ := id C
  have hw : ∀ w ∈ tq_W, w.before args s = true := fun w h => hts w (List.mem_cons_of_mem _ h)
  intro M  H locs ls h hW hS hl
  unfold wbX12_doDraw_20 at h
  exact W.vret hx hb hr (fun t ht hWm => ⟨⟨M, rfl, h, tq_pe ht hW⟩, hS.F ht⟩) hS.2.2 dX12_doDraw_20
set_option maxHeartbeats 4000000 in
set_option maxRecDepth 100000 in
theorem bX12_doDraw_69 {p : Program} {e : Env} {s : State} {m : MethodId} {args : Array Value} {below : List Frame} {meth : Method} {c : Code} {post : tq_St → Prop} (C : tq_At p s m meth c args cX12_doDraw 6 (none) ((tq_ws yX12_doDraw cX12_doDraw 6 none)) RX12 D cy z ad) {L24 : tq_St → Int32 → Int32 → Int32 → Int32 → Int32 → Prop} (hL24 : ∀ (M : tq_St) (x1 : Int32) (x2 : Int32) (x3 : Int32) (x4 : Int32) (x5 : Int32) (H : Heap) (locs : List Loc) (ls : Array Slot), L24 M x1 x2 x3 x4 x5 → tq_wd D cy z H0 ad N (tq_mix S M) H → va_S (fun q => z ≤ q) s.heap H locs → lv_has ls 6 [(0, .ref (ad 64 0)), (1, .int x1), (2, .int x2), (3, .int x3), (4, .int x4), (5, .int x5)] → W p l e (tq_rm 1 28) s m args below meth c H locs 0 0 (MQ below (va_Qv (fun u => post u) (tq_P D cy z H0 ad N S) (fun q => z ≤ q)) args s 0 0 (fun q => z ≤ q)) (F0 m 24 ls [])) : ∀ (M : tq_St) (x1 : Int32) (x2 : Int32) (x3 : Int32) (x4 : Int32) (x5 : Int32) (H : Heap) (locs : List Loc) (ls : Array Slot), wbX12_doDraw_69 post  L24 M x1 x2 x3 x4 x5 → tq_wd D cy z H0 ad N (tq_mix S M) H → va_S (fun q => z ≤ q) s.heap H locs → lv_has ls 6 [(0, .ref (ad 64 0)), (1, .int x1), (2, .int x2), (3, .int x3), (4, .int x4), (5, .int x5)] → W p l e (tq_rm 1 28) s m args below meth c H locs 0 0 (MQ below (va_Qv (fun u => post u) (tq_P D cy z H0 ad N S) (fun q => z ≤ q)) args s 0 0 (fun q => z ≤ q)) (F0 m 69 ls []) := by
  obtain ⟨hx, hb, hr, hml, hown, hts, hlocks, hK, hG⟩ := id C
  have hw : ∀ w ∈ tq_W, w.before args s = true := fun w h => hts w (List.mem_cons_of_mem _ h)
  intro M x1 x2 x3 x4 x5 H locs ls h hW hS hl
  unfold wbX12_doDraw_69 at h
  refine lv_iinc (v := x5 + 1) (lv' := [(5, .int (x5 + 1)), (0, .ref (ad 64 0)), (1, .int x1), (2, .int x2), (3, .int x3), (4, .int x4)]) hx hb dX12_doDraw_69 hl (k := 5) rfl rfl (by decide) rfl (fun ls hl => ?_)
  refine lv_goto (tgt := 24) hx hb dX12_doDraw_72 (by decide) ?_
  exact hL24 _ _ _ _ _ _ _ _ _ h hW hS (lv_sub hl [1, 2, 3, 4, 5, 0] rfl)
set_option maxHeartbeats 4000000 in
set_option maxRecDepth 100000 in
theorem bX12_doDraw_24 {p : Program} {e : Env} {s : State} {m : MethodId} {args : Array Value} {below : List Frame} {meth : Method} {c : Code} {post : tq_St → Prop} (C : tq_At p s m meth c args cX12_doDraw 6 (none) ((tq_ws yX12_doDraw cX12_doDraw 6 none)) RX12 D cy z ad)  : ∀ n : Nat, ∀ (M : tq_St) (x1 : Int32) (x2 : Int32) (x3 : Int32) (x4 : Int32) (x5 : Int32) (H : Heap) (locs : List Loc) (ls : Array Slot), wbX12_doDraw_24 post   n M x1 x2 x3 x4 x5 → tq_wd D cy z H0 ad N (tq_mix S M) H → va_S (fun q => z ≤ q) s.heap H locs → lv_has ls 6 [(0, .ref (ad 64 0)), (1, .int x1), (2, .int x2), (3, .int x3), (4, .int x4), (5, .int x5)] → W p l e (tq_rm 1 28) s m args below meth c H locs 0 0 (MQ below (va_Qv (fun u => post u) (tq_P D cy z H0 ad N S) (fun q => z ≤ q)) args s 0 0 (fun q => z ≤ q)) (F0 m 24 ls []) := by
  obtain ⟨hx, hb, hr, hml, hown, hts, hlocks, hK, hG⟩ := id C
  have hw : ∀ w ∈ tq_W, w.before args s = true := fun w h => hts w (List.mem_cons_of_mem _ h)
  intro n
  induction n with
  | zero =>
    intro M x1 x2 x3 x4 x5 H locs ls h
    exact absurd h (by unfold wbX12_doDraw_24; exact id)
  | succ n ih =>
    intro M x1 x2 x3 x4 x5 H locs ls h hW hS hl
    unfold wbX12_doDraw_24 at h
    refine lv_iload hx hb dX12_doDraw_24 (lv_at hl 5 rfl) ?_
    refine lv_aload_n hx hb dX12_doDraw_26 rfl (lv_at hl 0 rfl) ?_
    refine tqm_get (v := .int (M 64 0 9)) hx hb hw tq_inX12 hown hK hW (by decide) (tq_mk_64 (by decide)) rfl 9 (by decide) (hw _ tw_1417) (fun _ h9 => h9) rfl dX12_doDraw_27 ?_
    refine lv_icmp_ge (tgt := 75) hx hb dX12_doDraw_30 (by decide) (fun c4 => ?_) (fun c4 => ?_)
    · have h := h.1 c4
      refine lv_aload_n hx hb dX12_doDraw_75 rfl (lv_at hl 0 rfl) ?_
      refine lv_iconst (v := 5) hx hb dX12_doDraw_76 (by decide) ?_
      refine lv_iload_n hx hb dX12_doDraw_77 rfl (lv_at hl 1 rfl) ?_
      refine lv_iconst (v := 0) hx hb dX12_doDraw_78 (by decide) ?_
      refine tq_callVi (As := [.int 5, .int x1, .int 0]) (rest := []) (kX12_write h) ⟨hx, hb, hml, hown, hts⟩ (cwV 3 hts (tq_goodV tw_1759 tw_1761 tw_67 tw_125 tw_1762) rfl rfl rfl (by decide +kernel) ⟨Nat.le_of_ble_eq_true rfl, Nat.le_of_ble_eq_true rfl⟩) hK hG hW hS rfl hl.1 rfl (Nat.le_of_ble_eq_true rfl) dX12_doDraw_79 ⟨Nat.le_of_ble_eq_true rfl, Nat.le_of_ble_eq_true rfl⟩ (fun r6 M5 H locs h hW hS => ?_)
      refine lv_istore (lv' := [(5, .int r6), (0, .ref (ad 64 0)), (1, .int x1), (2, .int x2), (3, .int x3), (4, .int x4)]) hx hb dX12_doDraw_82 hl (by decide) rfl (fun ls hl => ?_)
      refine lv_aload_n hx hb dX12_doDraw_84 rfl (lv_at hl 1 rfl) ?_
      refine tqm_get (v := .ref (ad 216 0)) hx hb hw tq_inX12 hown hK hW (by decide) (tq_mk_64 (by decide)) rfl 16 (by decide) (hw _ tw_1424) (fun _ h9 => h9) rfl dX12_doDraw_85 ?_
      refine lv_iload hx hb dX12_doDraw_88 (lv_at hl 0 rfl) ?_
      obtain ⟨b7, h⟩ := h
      refine tqm_aald (jn := r6.toNatClampNeg) (v := .ref (ad 116 r6.toNatClampNeg)) hx hb hK hW (by decide) (tq_mk_216 (by decide)) 2 rfl rfl b7 rfl rfl dX12_doDraw_90 ?_
      refine lv_iconst (v := 0) hx hb dX12_doDraw_91 (by decide) ?_
      refine lv_iload_n hx hb dX12_doDraw_92 rfl (lv_at hl 3 rfl) ?_
      refine tqm_iast (jn := 0) hx hb hK hW hS (by decide) (tq_mk_116 (tq_lt b7)) (by unfold vp_in; decide) (by decide) (tq_mk_116 (tq_lt b7)) dX12_doDraw_93 (fun H locs hW hS => ?_)
      generalize eM8 : tq_up M5 116 r6.toNatClampNeg 0 x2 = M8 at hW
      have h := h M8 eM8.symm
      refine lv_aload_n hx hb dX12_doDraw_94 rfl (lv_at hl 1 rfl) ?_
      refine tqm_get (v := .ref (ad 101 0)) hx hb hw tq_inX12 hown hK hW (by decide) (tq_mk_64 (by decide)) rfl 1 (by decide) (hw _ tw_1409) (fun _ h9 => h9) rfl dX12_doDraw_95 ?_
      refine lv_iload_n hx hb dX12_doDraw_98 rfl (lv_at hl 2 rfl) ?_
      refine lv_dup2_11 hx hb dX12_doDraw_99 rfl rfl ?_
      obtain ⟨b9, h⟩ := h
      refine tqm_iald (jn := x1.toNatClampNeg) hx hb hK hW (by decide) (tq_mk_101 (by decide)) b9 rfl dX12_doDraw_100 ?_
      refine lv_iload_n hx hb dX12_doDraw_101 rfl (lv_at hl 3 rfl) ?_
      refine lv_iadd hx hb dX12_doDraw_102 ?_
      refine tqm_iast (jn := x1.toNatClampNeg) hx hb hK hW hS (by decide) (tq_mk_101 (by decide)) b9 rfl (tq_mk_101 (by decide)) dX12_doDraw_103 (fun H locs hW hS => ?_)
      generalize eM10 : tq_up M8 101 0 x1.toNatClampNeg ((M8 101 0 x1.toNatClampNeg) + x2) = M10 at hW
      have h := h M10 eM10.symm
      refine lv_aload_n hx hb dX12_doDraw_104 rfl (lv_at hl 1 rfl) ?_
      refine lv_iload_n hx hb dX12_doDraw_105 rfl (lv_at hl 2 rfl) ?_
      refine lv_iconst (v := 4) hx hb dX12_doDraw_106 (by decide) ?_
      refine lv_iconst (v := (-1)) hx hb dX12_doDraw_107 (by decide) ?_
      refine lv_iload hx hb dX12_doDraw_108 (lv_at hl 0 rfl) ?_
      refine lv_iload_n hx hb dX12_doDraw_110 rfl (lv_at hl 3 rfl) ?_
      refine lv_iload_n hx hb dX12_doDraw_111 rfl (lv_at hl 4 rfl) ?_
      refine lv_iload hx hb dX12_doDraw_112 (lv_at hl 5 rfl) ?_
      refine tq_callVv (As := [.int x1, .int 4, .int ((-1)), .int r6, .int x2, .int x3, .int x4]) (rest := []) (kX12_enter h) ⟨hx, hb, hml, hown, hts⟩ (cwV 7 hts (tq_goodV tw_1959 tw_1961 tw_98 tw_125 tw_1962) rfl rfl rfl (by decide +kernel) ⟨Nat.le_of_ble_eq_true rfl, Nat.le_of_ble_eq_true rfl⟩) hK hG hW hS rfl hl.1 rfl (Nat.le_of_ble_eq_true rfl) dX12_doDraw_114 ⟨Nat.le_of_ble_eq_true rfl, Nat.le_of_ble_eq_true rfl⟩ (fun M11 H locs h hW hS => ?_)
      exact W.vret hx hb hr (fun t ht hWm => ⟨⟨M11, rfl, h, tq_pe ht hW⟩, hS.F ht⟩) hS.2.2 dX12_doDraw_117
    · have h := h.2 c4
      refine lv_aload_n hx hb dX12_doDraw_33 rfl (lv_at hl 0 rfl) ?_
      refine tqm_get (v := .ref (ad 110 0)) hx hb hw tq_inX12 hown hK hW (by decide) (tq_mk_64 (by decide)) rfl 10 (by decide) (hw _ tw_1418) (fun _ h9 => h9) rfl dX12_doDraw_34 ?_
      refine lv_iload hx hb dX12_doDraw_37 (lv_at hl 5 rfl) ?_
      obtain ⟨b12, h⟩ := h
      refine tqm_iald (jn := x5.toNatClampNeg) hx hb hK hW (by decide) (tq_mk_110 (by decide)) b12 rfl dX12_doDraw_39 ?_
      refine lv_iconst (v := 5) hx hb dX12_doDraw_40 (by decide) ?_
      refine lv_icmp_ne (tgt := 69) hx hb dX12_doDraw_41 (by decide) (fun c13 => ?_) (fun c13 => ?_)
      · have h := h.1 c13
        exact bX12_doDraw_69 C (fun M9 a09 a19 a29 a39 a49 H9 q9 ls9 h9 hW9 hS9 hl9 => ih M9 a09 a19 a29 a39 a49 H9 q9 ls9 h9 hW9 hS9 hl9) _ _ _ _ _ _ _ _ _ h hW hS (lv_sub hl [0, 1, 2, 3, 4, 5] rfl)
      · have h := h.2 c13
        refine lv_aload_n hx hb dX12_doDraw_44 rfl (lv_at hl 0 rfl) ?_
        refine tqm_get (v := .ref (ad 111 0)) hx hb hw tq_inX12 hown hK hW (by decide) (tq_mk_64 (by decide)) rfl 11 (by decide) (hw _ tw_1419) (fun _ h9 => h9) rfl dX12_doDraw_45 ?_
        refine lv_iload hx hb dX12_doDraw_48 (lv_at hl 5 rfl) ?_
        refine tqm_iald (jn := x5.toNatClampNeg) hx hb hK hW (by decide) (tq_mk_111 (by decide)) b12 rfl dX12_doDraw_50 ?_
        refine lv_iload_n hx hb dX12_doDraw_51 rfl (lv_at hl 1 rfl) ?_
        refine lv_icmp_ne (tgt := 69) hx hb dX12_doDraw_52 (by decide) (fun c14 => ?_) (fun c14 => ?_)
        · have h := h.1 c14
          exact bX12_doDraw_69 C (fun M9 a09 a19 a29 a39 a49 H9 q9 ls9 h9 hW9 hS9 hl9 => ih M9 a09 a19 a29 a39 a49 H9 q9 ls9 h9 hW9 hS9 hl9) _ _ _ _ _ _ _ _ _ h hW hS (lv_sub hl [0, 1, 2, 3, 4, 5] rfl)
        · have h := h.2 c14
          refine lv_aload_n hx hb dX12_doDraw_55 rfl (lv_at hl 0 rfl) ?_
          refine tqm_get (v := .ref (ad 216 0)) hx hb hw tq_inX12 hown hK hW (by decide) (tq_mk_64 (by decide)) rfl 16 (by decide) (hw _ tw_1424) (fun _ h9 => h9) rfl dX12_doDraw_56 ?_
          refine lv_iload hx hb dX12_doDraw_59 (lv_at hl 5 rfl) ?_
          refine tqm_aald (jn := x5.toNatClampNeg) (v := .ref (ad 116 x5.toNatClampNeg)) hx hb hK hW (by decide) (tq_mk_216 (by decide)) 2 rfl rfl b12 rfl rfl dX12_doDraw_61 ?_
          refine lv_iconst (v := 1) hx hb dX12_doDraw_62 (by decide) ?_
          refine tqm_iald (jn := 1) hx hb hK hW (by decide) (tq_mk_116 (tq_lt b12)) (by unfold vp_in; decide) (by decide) dX12_doDraw_63 ?_
          refine lv_iconst (v := 2) hx hb dX12_doDraw_64 (by decide) ?_
          refine lv_icmp_ge (tgt := 69) hx hb dX12_doDraw_65 (by decide) (fun c15 => ?_) (fun c15 => ?_)
          · have h := h.1 c15
            exact bX12_doDraw_69 C (fun M9 a09 a19 a29 a39 a49 H9 q9 ls9 h9 hW9 hS9 hl9 => ih M9 a09 a19 a29 a39 a49 H9 q9 ls9 h9 hW9 hS9 hl9) _ _ _ _ _ _ _ _ _ h hW hS (lv_sub hl [0, 1, 2, 3, 4, 5] rfl)
          · have h := h.2 c15
            exact W.vret hx hb hr (fun t ht hWm => ⟨⟨M, rfl, h, tq_pe ht hW⟩, hS.F ht⟩) hS.2.2 dX12_doDraw_68
set_option maxHeartbeats 4000000 in
set_option maxRecDepth 100000 in
theorem kX12_doDraw {post : tq_St → Prop} {M : tq_St} {p0 : Int32} {p1 : Int32} {p2 : Int32} {p3 : Int32} (h : wpX12_doDraw post M p0 p1 p2 p3) : tq_mV l yX12_doDraw (tq_ws yX12_doDraw cX12_doDraw 6 none) 1 28 D cy z H0 ad N S M [.ref (ad 64 0), .int p0, .int p1, .int p2, .int p3] post := by
  unfold wpX12_doDraw at h
  refine Met.ofW (cc := cX12_doDraw) (maxL := 6) (ret := none) (by decide) rfl ?_
  intro p e s m args below meth c s₁ B hml hv
  obtain ⟨rfl, hW, hK, hG⟩ := hv
  have hx := B.exec
  have hb := B.bytes
  have hr := B.returns
  have hts := atoms_spec (ws := (tq_ws yX12_doDraw cX12_doDraw 6 none)) B.pre
  have hw : ∀ w ∈ tq_W, w.before _ s = true := fun w h => hts w (List.mem_cons_of_mem _ h)
  have hown : s.vm.findClass RX12 = some m.cls := findClass_of_methodNamed B.named
  have hlocks := B.notSynchronized
  have C : tq_At p s m meth c [.ref (ad 64 0), .int p0, .int p1, .int p2, .int p3].toArray cX12_doDraw 6 (none) ((tq_ws yX12_doDraw cX12_doDraw 6 none)) RX12 D cy z ad := ⟨hx, hb, hr, hml, hown, hts, hlocks, hK, hG⟩
  have hS : va_S (fun q => z ≤ q) s.heap s.heap [] := va_S.rf
  have hl := lv_entry ([.ref (ad 64 0), .int p0, .int p1, .int p2, .int p3]) (n := 6) (Nat.le_of_ble_eq_true rfl)
  rw [lg_entry_eq]
  generalize (lg_sl ([.ref (ad 64 0), .int p0, .int p1, .int p2, .int p3]) ++ List.replicate (6 - (lg_sl ([.ref (ad 64 0), .int p0, .int p1, .int p2, .int p3])).length) Slot.unset).toArray = ls at hl ⊢
  have hl : lv_has ls 6 [(0, .ref (ad 64 0)), (1, .int p0), (2, .int p1), (3, .int p2), (4, .int p3)] := hl
  have hW : tq_wd D cy z H0 ad N (tq_mix S M) s.heap := hW
  refine lv_aload_n hx hb dX12_doDraw_0 rfl (lv_at hl 0 rfl) ?_
  refine tqm_get (v := .ref (ad 101 0)) hx hb hw tq_inX12 hown hK hW (by decide) (tq_mk_64 (by decide)) rfl 1 (by decide) (hw _ tw_1409) (fun _ h9 => h9) rfl dX12_doDraw_1 ?_
  refine lv_iload_n hx hb dX12_doDraw_4 rfl (lv_at hl 1 rfl) ?_
  obtain ⟨b1, h⟩ := h
  refine tqm_iald (jn := p0.toNatClampNeg) hx hb hK hW (by decide) (tq_mk_101 (by decide)) b1 rfl dX12_doDraw_5 ?_
  refine lv_iload_n hx hb dX12_doDraw_6 rfl (lv_at hl 2 rfl) ?_
  refine lv_icmp_ge (tgt := 20) hx hb dX12_doDraw_7 (by decide) (fun c2 => ?_) (fun c2 => ?_)
  · have h := h.1 c2
    exact bX12_doDraw_20 C  _  _ _ _ h hW hS (lv_sub hl [] rfl)
  · have h := h.2 c2
    refine lv_aload_n hx hb dX12_doDraw_10 rfl (lv_at hl 0 rfl) ?_
    refine tqm_get (v := .int (M 64 0 9)) hx hb hw tq_inX12 hown hK hW (by decide) (tq_mk_64 (by decide)) rfl 9 (by decide) (hw _ tw_1417) (fun _ h9 => h9) rfl dX12_doDraw_11 ?_
    refine lv_sipush (v := 150) hx hb dX12_doDraw_14 (by decide) ?_
    refine lv_icmp_ne (tgt := 21) hx hb dX12_doDraw_17 (by decide) (fun c3 => ?_) (fun c3 => ?_)
    · have h := h.1 c3
      refine lv_iconst (v := 0) hx hb dX12_doDraw_21 (by decide) ?_
      refine lv_istore (lv' := [(5, .int 0), (0, .ref (ad 64 0)), (1, .int p0), (2, .int p1), (3, .int p2), (4, .int p3)]) hx hb dX12_doDraw_22 hl (by decide) rfl (fun ls hl => ?_)
      obtain ⟨nq, h⟩ := h
      exact bX12_doDraw_24 C  nq _ _ _ _ _ _ _ _ _ h hW hS (lv_sub hl [1, 2, 3, 4, 5, 0] rfl)
    · have h := h.2 c3
      exact bX12_doDraw_20 C  _  _ _ _ h hW hS (lv_sub hl [] rfl)
-- factoryDay
def wbX12_factoryDay_254 (post : tq_St → Prop) (L53 : tq_St → Int32 → Int32 → Int32 → Prop) (M : tq_St) (x1 : Int32) (x2 : Int32) (x3 : Int32) : Prop :=
  L53 M x1 x2 (x3 + 1)
def wbX12_factoryDay_53 (post : tq_St → Prop) : Nat → tq_St → Int32 → Int32 → Int32 → Prop
  | 0, _, _, _, _ => False
  | n + 1, M, x1, x2, x3 =>
    (x2 ≤ x3 → (post M)) ∧ (¬ x2 ≤ x3 → (vp_in x3 900 ∧ (wpX12_hold (fun M11 r12 => (¬ r12 = 0 → (vp_in ((M 172 0 x3.toNatClampNeg) / 10) 150 ∧ (vp_in ((4 * ((M 172 0 x3.toNatClampNeg) - (M 172 0 x3.toNatClampNeg) / 10 * 10)) + 1) 24 ∧ (vp_in ((4 * ((M 172 0 x3.toNatClampNeg) - (M 172 0 x3.toNatClampNeg) / 10 * 10)) + 2) 24 ∧ (vp_in (4 * ((M 172 0 x3.toNatClampNeg) - (M 172 0 x3.toNatClampNeg) / 10 * 10)) 24 ∧ (((M11 118 (((M 172 0 x3.toNatClampNeg) / 10).toNatClampNeg) ((4 * ((M 172 0 x3.toNatClampNeg) - (M 172 0 x3.toNatClampNeg) / 10 * 10)).toNatClampNeg)) = 0 → (wpX12_doBuy (fun M19 => wbX12_factoryDay_254 post  (wbX12_factoryDay_53 post n) M19 x1 x2 x3) M11 x1 (M11 118 (((M 172 0 x3.toNatClampNeg) / 10).toNatClampNeg) (((4 * ((M 172 0 x3.toNatClampNeg) - (M 172 0 x3.toNatClampNeg) / 10 * 10)) + 1).toNatClampNeg)) (M11 118 (((M 172 0 x3.toNatClampNeg) / 10).toNatClampNeg) (((4 * ((M 172 0 x3.toNatClampNeg) - (M 172 0 x3.toNatClampNeg) / 10 * 10)) + 2).toNatClampNeg)) ((M 172 0 x3.toNatClampNeg) / 10) ((M 172 0 x3.toNatClampNeg) - (M 172 0 x3.toNatClampNeg) / 10 * 10))) ∧ (¬ (M11 118 (((M 172 0 x3.toNatClampNeg) / 10).toNatClampNeg) ((4 * ((M 172 0 x3.toNatClampNeg) - (M 172 0 x3.toNatClampNeg) / 10 * 10)).toNatClampNeg)) = 0 → (((M11 118 (((M 172 0 x3.toNatClampNeg) / 10).toNatClampNeg) ((4 * ((M 172 0 x3.toNatClampNeg) - (M 172 0 x3.toNatClampNeg) / 10 * 10)).toNatClampNeg)) = 1 → (wpX12_doAdvance (fun M21 => wbX12_factoryDay_254 post  (wbX12_factoryDay_53 post n) M21 x1 x2 x3) M11 x1 (M11 118 (((M 172 0 x3.toNatClampNeg) / 10).toNatClampNeg) (((4 * ((M 172 0 x3.toNatClampNeg) - (M 172 0 x3.toNatClampNeg) / 10 * 10)) + 1).toNatClampNeg)) (M11 118 (((M 172 0 x3.toNatClampNeg) / 10).toNatClampNeg) (((4 * ((M 172 0 x3.toNatClampNeg) - (M 172 0 x3.toNatClampNeg) / 10 * 10)) + 2).toNatClampNeg)) ((M 172 0 x3.toNatClampNeg) / 10) ((M 172 0 x3.toNatClampNeg) - (M 172 0 x3.toNatClampNeg) / 10 * 10))) ∧ (¬ (M11 118 (((M 172 0 x3.toNatClampNeg) / 10).toNatClampNeg) ((4 * ((M 172 0 x3.toNatClampNeg) - (M 172 0 x3.toNatClampNeg) / 10 * 10)).toNatClampNeg)) = 1 → (((M11 118 (((M 172 0 x3.toNatClampNeg) / 10).toNatClampNeg) ((4 * ((M 172 0 x3.toNatClampNeg) - (M 172 0 x3.toNatClampNeg) / 10 * 10)).toNatClampNeg)) = 2 → (wpX12_doLade (fun M23 => wbX12_factoryDay_254 post  (wbX12_factoryDay_53 post n) M23 x1 x2 x3) M11 x1 (M11 118 (((M 172 0 x3.toNatClampNeg) / 10).toNatClampNeg) (((4 * ((M 172 0 x3.toNatClampNeg) - (M 172 0 x3.toNatClampNeg) / 10 * 10)) + 1).toNatClampNeg)) (M11 118 (((M 172 0 x3.toNatClampNeg) / 10).toNatClampNeg) (((4 * ((M 172 0 x3.toNatClampNeg) - (M 172 0 x3.toNatClampNeg) / 10 * 10)) + 2).toNatClampNeg)) ((M 172 0 x3.toNatClampNeg) / 10) ((M 172 0 x3.toNatClampNeg) - (M 172 0 x3.toNatClampNeg) / 10 * 10))) ∧ (¬ (M11 118 (((M 172 0 x3.toNatClampNeg) / 10).toNatClampNeg) ((4 * ((M 172 0 x3.toNatClampNeg) - (M 172 0 x3.toNatClampNeg) / 10 * 10)).toNatClampNeg)) = 2 → (((M11 118 (((M 172 0 x3.toNatClampNeg) / 10).toNatClampNeg) ((4 * ((M 172 0 x3.toNatClampNeg) - (M 172 0 x3.toNatClampNeg) / 10 * 10)).toNatClampNeg)) = 3 → (wpX12_doSail (fun M25 => wbX12_factoryDay_254 post  (wbX12_factoryDay_53 post n) M25 x1 x2 x3) M11 x1 (M11 118 (((M 172 0 x3.toNatClampNeg) / 10).toNatClampNeg) (((4 * ((M 172 0 x3.toNatClampNeg) - (M 172 0 x3.toNatClampNeg) / 10 * 10)) + 2).toNatClampNeg)) ((M 172 0 x3.toNatClampNeg) / 10) ((M 172 0 x3.toNatClampNeg) - (M 172 0 x3.toNatClampNeg) / 10 * 10))) ∧ (¬ (M11 118 (((M 172 0 x3.toNatClampNeg) / 10).toNatClampNeg) ((4 * ((M 172 0 x3.toNatClampNeg) - (M 172 0 x3.toNatClampNeg) / 10 * 10)).toNatClampNeg)) = 3 → (((M11 118 (((M 172 0 x3.toNatClampNeg) / 10).toNatClampNeg) ((4 * ((M 172 0 x3.toNatClampNeg) - (M 172 0 x3.toNatClampNeg) / 10 * 10)).toNatClampNeg)) = 4 → (wpX12_doDraw (fun M27 => wbX12_factoryDay_254 post  (wbX12_factoryDay_53 post n) M27 x1 x2 x3) M11 x1 (M11 118 (((M 172 0 x3.toNatClampNeg) / 10).toNatClampNeg) (((4 * ((M 172 0 x3.toNatClampNeg) - (M 172 0 x3.toNatClampNeg) / 10 * 10)) + 2).toNatClampNeg)) ((M 172 0 x3.toNatClampNeg) / 10) ((M 172 0 x3.toNatClampNeg) - (M 172 0 x3.toNatClampNeg) / 10 * 10))) ∧ (¬ (M11 118 (((M 172 0 x3.toNatClampNeg) / 10).toNatClampNeg) ((4 * ((M 172 0 x3.toNatClampNeg) - (M 172 0 x3.toNatClampNeg) / 10 * 10)).toNatClampNeg)) = 4 → (∀ M28, M28 = tq_up M11 64 0 74 (M11 118 (((M 172 0 x3.toNatClampNeg) / 10).toNatClampNeg) (((4 * ((M 172 0 x3.toNatClampNeg) - (M 172 0 x3.toNatClampNeg) / 10 * 10)) + 2).toNatClampNeg)) → (wbX12_factoryDay_254 post  (wbX12_factoryDay_53 post n) M28 x1 x2 x3))))))))))))))))) ∧ (r12 = 0 → (wbX12_factoryDay_254 post  (wbX12_factoryDay_53 post n) M11 x1 x2 x3))) M x1 ((M 172 0 x3.toNatClampNeg) / 10) ((M 172 0 x3.toNatClampNeg) - (M 172 0 x3.toNatClampNeg) / 10 * 10))))
def wbX12_factoryDay_7 (post : tq_St → Prop) : Nat → tq_St → Int32 → Int32 → Prop
  | 0, _, _, _ => False
  | n + 1, M, x1, x2 =>
    (4 ≤ x2 → (wpX12_gather (fun M3 r4 => ∀ M5, M5 = tq_up M3 64 0 74 0 → (∃ nq, wbX12_factoryDay_53 post nq M5 x1 r4 0)) M x1)) ∧ (¬ 4 ≤ x2 → (vp_in x1 5 ∧ (vp_in x2 4 ∧ (∀ M8, M8 = tq_up M 105 x1.toNatClampNeg x2.toNatClampNeg (if 0 < ((M 105 x1.toNatClampNeg x2.toNatClampNeg) - 5) then ((M 105 x1.toNatClampNeg x2.toNatClampNeg) - 5) else 0) → ((wbX12_factoryDay_7 post n) M8 x1 (x2 + 1))))))
def wpX12_factoryDay (post : tq_St → Prop) (M : tq_St) (p0 : Int32) : Prop :=
  wpX12_advancesCome (fun M1 => ∃ nq, wbX12_factoryDay_7 post nq M1 p0 0) M p0
set_option maxHeartbeats 4000000 in
set_option maxRecDepth 100000 in
theorem bX12_factoryDay_254 {p : Program} {e : Env} {s : State} {m : MethodId} {args : Array Value} {below : List Frame} {meth : Method} {c : Code} {post : tq_St → Prop} (C : tq_At p s m meth c args cX12_factoryDay 8 (none) ((tq_ws yX12_factoryDay cX12_factoryDay 8 none)) RX12 D cy z ad) {L53 : tq_St → Int32 → Int32 → Int32 → Prop} (hL53 : ∀ (M : tq_St) (x1 : Int32) (x2 : Int32) (x3 : Int32) (H : Heap) (locs : List Loc) (ls : Array Slot), L53 M x1 x2 x3 → tq_wd D cy z H0 ad N (tq_mix S M) H → va_S (fun q => z ≤ q) s.heap H locs → lv_has ls 8 [(0, .ref (ad 64 0)), (1, .int x1), (2, .int x2), (3, .int x3)] → W p l e (tq_rm 4 101) s m args below meth c H locs 0 0 (MQ below (va_Qv (fun u => post u) (tq_P D cy z H0 ad N S) (fun q => z ≤ q)) args s 0 0 (fun q => z ≤ q)) (F0 m 53 ls [])) : ∀ (M : tq_St) (x1 : Int32) (x2 : Int32) (x3 : Int32) (H : Heap) (locs : List Loc) (ls : Array Slot), wbX12_factoryDay_254 post  L53 M x1 x2 x3 → tq_wd D cy z H0 ad N (tq_mix S M) H → va_S (fun q => z ≤ q) s.heap H locs → lv_has ls 8 [(0, .ref (ad 64 0)), (1, .int x1), (2, .int x2), (3, .int x3)] → W p l e (tq_rm 4 101) s m args below meth c H locs 0 0 (MQ below (va_Qv (fun u => post u) (tq_P D cy z H0 ad N S) (fun q => z ≤ q)) args s 0 0 (fun q => z ≤ q)) (F0 m 254 ls []) := by
  obtain ⟨hx, hb, hr, hml, hown, hts, hlocks, hK, hG⟩ := id C
  have hw : ∀ w ∈ tq_W, w.before args s = true := fun w h => hts w (List.mem_cons_of_mem _ h)
  intro M x1 x2 x3 H locs ls h hW hS hl
  unfold wbX12_factoryDay_254 at h
  refine lv_iinc (v := x3 + 1) (lv' := [(3, .int (x3 + 1)), (0, .ref (ad 64 0)), (1, .int x1), (2, .int x2)]) hx hb dX12_factoryDay_254 hl (k := 3) rfl rfl (by decide) rfl (fun ls hl => ?_)
  refine lv_goto (tgt := 53) hx hb dX12_factoryDay_257 (by decide) ?_
  exact hL53 _ _ _ _ _ _ _ h hW hS (lv_sub hl [1, 2, 3, 0] rfl)
set_option maxHeartbeats 4000000 in
set_option maxRecDepth 100000 in
theorem bX12_factoryDay_53 {p : Program} {e : Env} {s : State} {m : MethodId} {args : Array Value} {below : List Frame} {meth : Method} {c : Code} {post : tq_St → Prop} (C : tq_At p s m meth c args cX12_factoryDay 8 (none) ((tq_ws yX12_factoryDay cX12_factoryDay 8 none)) RX12 D cy z ad)  : ∀ n : Nat, ∀ (M : tq_St) (x1 : Int32) (x2 : Int32) (x3 : Int32) (H : Heap) (locs : List Loc) (ls : Array Slot), wbX12_factoryDay_53 post   n M x1 x2 x3 → tq_wd D cy z H0 ad N (tq_mix S M) H → va_S (fun q => z ≤ q) s.heap H locs → lv_has ls 8 [(0, .ref (ad 64 0)), (1, .int x1), (2, .int x2), (3, .int x3)] → W p l e (tq_rm 4 101) s m args below meth c H locs 0 0 (MQ below (va_Qv (fun u => post u) (tq_P D cy z H0 ad N S) (fun q => z ≤ q)) args s 0 0 (fun q => z ≤ q)) (F0 m 53 ls []) := by
  obtain ⟨hx, hb, hr, hml, hown, hts, hlocks, hK, hG⟩ := id C
  have hw : ∀ w ∈ tq_W, w.before args s = true := fun w h => hts w (List.mem_cons_of_mem _ h)
  intro n
  induction n with
  | zero =>
    intro M x1 x2 x3 H locs ls h
    exact absurd h (by unfold wbX12_factoryDay_53; exact id)
  | succ n ih =>
    intro M x1 x2 x3 H locs ls h hW hS hl
    unfold wbX12_factoryDay_53 at h
    refine lv_iload_n hx hb dX12_factoryDay_53 rfl (lv_at hl 3 rfl) ?_
    refine lv_iload_n hx hb dX12_factoryDay_54 rfl (lv_at hl 2 rfl) ?_
    refine lv_icmp_ge (tgt := 260) hx hb dX12_factoryDay_55 (by decide) (fun c9 => ?_) (fun c9 => ?_)
    · have h := h.1 c9
      exact W.vret hx hb hr (fun t ht hWm => ⟨⟨M, rfl, h, tq_pe ht hW⟩, hS.F ht⟩) hS.2.2 dX12_factoryDay_260
    · have h := h.2 c9
      refine lv_aload_n hx hb dX12_factoryDay_58 rfl (lv_at hl 0 rfl) ?_
      refine tqm_get (v := .ref (ad 172 0)) hx hb hw tq_inX12 hown hK hW (by decide) (tq_mk_64 (by decide)) rfl 72 (by decide) (hw _ tw_1480) (fun _ h9 => h9) rfl dX12_factoryDay_59 ?_
      refine lv_iload_n hx hb dX12_factoryDay_62 rfl (lv_at hl 3 rfl) ?_
      obtain ⟨b10, h⟩ := h
      refine tqm_iald (jn := x3.toNatClampNeg) hx hb hK hW (by decide) (tq_mk_172 (by decide)) b10 rfl dX12_factoryDay_63 ?_
      refine lv_bipush (v := 10) hx hb dX12_factoryDay_64 (by decide) ?_
      refine lv_idiv hx hb dX12_factoryDay_66 (by decide) ?_
      refine lv_istore (lv' := [(4, .int ((M 172 0 x3.toNatClampNeg) / 10)), (0, .ref (ad 64 0)), (1, .int x1), (2, .int x2), (3, .int x3)]) hx hb dX12_factoryDay_67 hl (by decide) rfl (fun ls hl => ?_)
      refine lv_aload_n hx hb dX12_factoryDay_69 rfl (lv_at hl 1 rfl) ?_
      refine tqm_get (v := .ref (ad 172 0)) hx hb hw tq_inX12 hown hK hW (by decide) (tq_mk_64 (by decide)) rfl 72 (by decide) (hw _ tw_1480) (fun _ h9 => h9) rfl dX12_factoryDay_70 ?_
      refine lv_iload_n hx hb dX12_factoryDay_73 rfl (lv_at hl 4 rfl) ?_
      refine tqm_iald (jn := x3.toNatClampNeg) hx hb hK hW (by decide) (tq_mk_172 (by decide)) b10 rfl dX12_factoryDay_74 ?_
      refine lv_bipush (v := 10) hx hb dX12_factoryDay_75 (by decide) ?_
      refine lv_irem hx hb dX12_factoryDay_77 (by decide) ?_
      refine lv_istore (lv' := [(5, .int ((M 172 0 x3.toNatClampNeg) - (M 172 0 x3.toNatClampNeg) / 10 * 10)), (4, .int ((M 172 0 x3.toNatClampNeg) / 10)), (0, .ref (ad 64 0)), (1, .int x1), (2, .int x2), (3, .int x3)]) hx hb dX12_factoryDay_78 hl (by decide) rfl (fun ls hl => ?_)
      refine lv_aload_n hx hb dX12_factoryDay_80 rfl (lv_at hl 2 rfl) ?_
      refine lv_iload_n hx hb dX12_factoryDay_81 rfl (lv_at hl 3 rfl) ?_
      refine lv_iload hx hb dX12_factoryDay_82 (lv_at hl 1 rfl) ?_
      refine lv_iload hx hb dX12_factoryDay_84 (lv_at hl 0 rfl) ?_
      refine tq_callVi (As := [.int x1, .int ((M 172 0 x3.toNatClampNeg) / 10), .int ((M 172 0 x3.toNatClampNeg) - (M 172 0 x3.toNatClampNeg) / 10 * 10)]) (rest := []) (kX12_hold h) ⟨hx, hb, hml, hown, hts⟩ (cwV 3 hts (tq_goodV tw_1828 tw_1830 tw_77 tw_125 tw_1831) rfl rfl rfl (by decide +kernel) ⟨Nat.le_of_ble_eq_true rfl, Nat.le_of_ble_eq_true rfl⟩) hK hG hW hS rfl hl.1 rfl (Nat.le_of_ble_eq_true rfl) dX12_factoryDay_86 ⟨Nat.le_of_ble_eq_true rfl, Nat.le_of_ble_eq_true rfl⟩ (fun r12 M11 H locs h hW hS => ?_)
      refine lv_if_ne (tgt := 95) hx hb dX12_factoryDay_89 (by decide) (fun c13 => ?_) (fun c13 => ?_)
      · have h := h.1 c13
        refine lv_aload_n hx hb dX12_factoryDay_95 rfl (lv_at hl 2 rfl) ?_
        refine tqm_get (v := .ref (ad 218 0)) hx hb hw tq_inX12 hown hK hW (by decide) (tq_mk_64 (by decide)) rfl 18 (by decide) (hw _ tw_1426) (fun _ h9 => h9) rfl dX12_factoryDay_96 ?_
        refine lv_iload hx hb dX12_factoryDay_99 (lv_at hl 1 rfl) ?_
        obtain ⟨b14, h⟩ := h
        refine tqm_aald (jn := ((M 172 0 x3.toNatClampNeg) / 10).toNatClampNeg) (v := .ref (ad 118 (((M 172 0 x3.toNatClampNeg) / 10).toNatClampNeg))) hx hb hK hW (by decide) (tq_mk_218 (by decide)) 2 rfl rfl b14 rfl rfl dX12_factoryDay_101 ?_
        refine lv_iconst (v := 4) hx hb dX12_factoryDay_102 (by decide) ?_
        refine lv_iload hx hb dX12_factoryDay_103 (lv_at hl 0 rfl) ?_
        refine lv_imul hx hb dX12_factoryDay_105 ?_
        refine lv_iconst (v := 1) hx hb dX12_factoryDay_106 (by decide) ?_
        refine lv_iadd hx hb dX12_factoryDay_107 ?_
        obtain ⟨b15, h⟩ := h
        refine tqm_iald (jn := ((4 * ((M 172 0 x3.toNatClampNeg) - (M 172 0 x3.toNatClampNeg) / 10 * 10)) + 1).toNatClampNeg) hx hb hK hW (by decide) (tq_mk_118 (tq_lt b14)) b15 rfl dX12_factoryDay_108 ?_
        refine lv_istore (lv' := [(6, .int (M11 118 (((M 172 0 x3.toNatClampNeg) / 10).toNatClampNeg) (((4 * ((M 172 0 x3.toNatClampNeg) - (M 172 0 x3.toNatClampNeg) / 10 * 10)) + 1).toNatClampNeg))), (5, .int ((M 172 0 x3.toNatClampNeg) - (M 172 0 x3.toNatClampNeg) / 10 * 10)), (4, .int ((M 172 0 x3.toNatClampNeg) / 10)), (0, .ref (ad 64 0)), (1, .int x1), (2, .int x2), (3, .int x3)]) hx hb dX12_factoryDay_109 hl (by decide) rfl (fun ls hl => ?_)
        refine lv_aload_n hx hb dX12_factoryDay_111 rfl (lv_at hl 3 rfl) ?_
        refine tqm_get (v := .ref (ad 218 0)) hx hb hw tq_inX12 hown hK hW (by decide) (tq_mk_64 (by decide)) rfl 18 (by decide) (hw _ tw_1426) (fun _ h9 => h9) rfl dX12_factoryDay_112 ?_
        refine lv_iload hx hb dX12_factoryDay_115 (lv_at hl 2 rfl) ?_
        refine tqm_aald (jn := ((M 172 0 x3.toNatClampNeg) / 10).toNatClampNeg) (v := .ref (ad 118 (((M 172 0 x3.toNatClampNeg) / 10).toNatClampNeg))) hx hb hK hW (by decide) (tq_mk_218 (by decide)) 2 rfl rfl b14 rfl rfl dX12_factoryDay_117 ?_
        refine lv_iconst (v := 4) hx hb dX12_factoryDay_118 (by decide) ?_
        refine lv_iload hx hb dX12_factoryDay_119 (lv_at hl 1 rfl) ?_
        refine lv_imul hx hb dX12_factoryDay_121 ?_
        refine lv_iconst (v := 2) hx hb dX12_factoryDay_122 (by decide) ?_
        refine lv_iadd hx hb dX12_factoryDay_123 ?_
        obtain ⟨b16, h⟩ := h
        refine tqm_iald (jn := ((4 * ((M 172 0 x3.toNatClampNeg) - (M 172 0 x3.toNatClampNeg) / 10 * 10)) + 2).toNatClampNeg) hx hb hK hW (by decide) (tq_mk_118 (tq_lt b14)) b16 rfl dX12_factoryDay_124 ?_
        refine lv_istore (lv' := [(7, .int (M11 118 (((M 172 0 x3.toNatClampNeg) / 10).toNatClampNeg) (((4 * ((M 172 0 x3.toNatClampNeg) - (M 172 0 x3.toNatClampNeg) / 10 * 10)) + 2).toNatClampNeg))), (6, .int (M11 118 (((M 172 0 x3.toNatClampNeg) / 10).toNatClampNeg) (((4 * ((M 172 0 x3.toNatClampNeg) - (M 172 0 x3.toNatClampNeg) / 10 * 10)) + 1).toNatClampNeg))), (5, .int ((M 172 0 x3.toNatClampNeg) - (M 172 0 x3.toNatClampNeg) / 10 * 10)), (4, .int ((M 172 0 x3.toNatClampNeg) / 10)), (0, .ref (ad 64 0)), (1, .int x1), (2, .int x2), (3, .int x3)]) hx hb dX12_factoryDay_125 hl (by decide) rfl (fun ls hl => ?_)
        refine lv_aload_n hx hb dX12_factoryDay_127 rfl (lv_at hl 4 rfl) ?_
        refine tqm_get (v := .ref (ad 218 0)) hx hb hw tq_inX12 hown hK hW (by decide) (tq_mk_64 (by decide)) rfl 18 (by decide) (hw _ tw_1426) (fun _ h9 => h9) rfl dX12_factoryDay_128 ?_
        refine lv_iload hx hb dX12_factoryDay_131 (lv_at hl 3 rfl) ?_
        refine tqm_aald (jn := ((M 172 0 x3.toNatClampNeg) / 10).toNatClampNeg) (v := .ref (ad 118 (((M 172 0 x3.toNatClampNeg) / 10).toNatClampNeg))) hx hb hK hW (by decide) (tq_mk_218 (by decide)) 2 rfl rfl b14 rfl rfl dX12_factoryDay_133 ?_
        refine lv_iconst (v := 4) hx hb dX12_factoryDay_134 (by decide) ?_
        refine lv_iload hx hb dX12_factoryDay_135 (lv_at hl 2 rfl) ?_
        refine lv_imul hx hb dX12_factoryDay_137 ?_
        obtain ⟨b17, h⟩ := h
        refine tqm_iald (jn := (4 * ((M 172 0 x3.toNatClampNeg) - (M 172 0 x3.toNatClampNeg) / 10 * 10)).toNatClampNeg) hx hb hK hW (by decide) (tq_mk_118 (tq_lt b14)) b17 rfl dX12_factoryDay_138 ?_
        by_cases c18 : (M11 118 (((M 172 0 x3.toNatClampNeg) / 10).toNatClampNeg) ((4 * ((M 172 0 x3.toNatClampNeg) - (M 172 0 x3.toNatClampNeg) / 10 * 10)).toNatClampNeg)) = 0
        · have h := h.1 c18
          refine W.eq (g2 := F0 m 139 ls (.int 0 :: [])) (by rw [c18]) ?_
          refine lv_tableIn (tgt := 172) hx hb dX12_factoryDay_139 (by decide) (by decide) rfl (by decide) ?_
          refine lv_aload_n hx hb dX12_factoryDay_172 rfl (lv_at hl 4 rfl) ?_
          refine lv_iload_n hx hb dX12_factoryDay_173 rfl (lv_at hl 5 rfl) ?_
          refine lv_iload hx hb dX12_factoryDay_174 (lv_at hl 1 rfl) ?_
          refine lv_iload hx hb dX12_factoryDay_176 (lv_at hl 0 rfl) ?_
          refine lv_iload hx hb dX12_factoryDay_178 (lv_at hl 3 rfl) ?_
          refine lv_iload hx hb dX12_factoryDay_180 (lv_at hl 2 rfl) ?_
          refine tq_callVv (As := [.int x1, .int (M11 118 (((M 172 0 x3.toNatClampNeg) / 10).toNatClampNeg) (((4 * ((M 172 0 x3.toNatClampNeg) - (M 172 0 x3.toNatClampNeg) / 10 * 10)) + 1).toNatClampNeg)), .int (M11 118 (((M 172 0 x3.toNatClampNeg) / 10).toNatClampNeg) (((4 * ((M 172 0 x3.toNatClampNeg) - (M 172 0 x3.toNatClampNeg) / 10 * 10)) + 2).toNatClampNeg)), .int ((M 172 0 x3.toNatClampNeg) / 10), .int ((M 172 0 x3.toNatClampNeg) - (M 172 0 x3.toNatClampNeg) / 10 * 10)]) (rest := []) (kX12_doBuy h) ⟨hx, hb, hml, hown, hts⟩ (cwV 5 hts (tq_goodV tw_1951 tw_1953 tw_96 tw_125 tw_1954) rfl rfl rfl (by decide +kernel) ⟨Nat.le_of_ble_eq_true rfl, Nat.le_of_ble_eq_true rfl⟩) hK hG hW hS rfl hl.1 rfl (Nat.le_of_ble_eq_true rfl) dX12_factoryDay_182 ⟨Nat.le_of_ble_eq_true rfl, Nat.le_of_ble_eq_true rfl⟩ (fun M19 H locs h hW hS => ?_)
          refine lv_goto (tgt := 254) hx hb dX12_factoryDay_185 (by decide) ?_
          exact bX12_factoryDay_254 C (fun M9 a09 a19 a29 H9 q9 ls9 h9 hW9 hS9 hl9 => ih M9 a09 a19 a29 H9 q9 ls9 h9 hW9 hS9 hl9) _ _ _ _ _ _ _ h hW hS (lv_sub hl [4, 5, 6, 7] rfl)
        · have h := h.2 c18
          by_cases c20 : (M11 118 (((M 172 0 x3.toNatClampNeg) / 10).toNatClampNeg) ((4 * ((M 172 0 x3.toNatClampNeg) - (M 172 0 x3.toNatClampNeg) / 10 * 10)).toNatClampNeg)) = 1
          · have h := h.1 c20
            refine W.eq (g2 := F0 m 139 ls (.int 1 :: [])) (by rw [c20]) ?_
            refine lv_tableIn (tgt := 188) hx hb dX12_factoryDay_139 (by decide) (by decide) rfl (by decide) ?_
            refine lv_aload_n hx hb dX12_factoryDay_188 rfl (lv_at hl 4 rfl) ?_
            refine lv_iload_n hx hb dX12_factoryDay_189 rfl (lv_at hl 5 rfl) ?_
            refine lv_iload hx hb dX12_factoryDay_190 (lv_at hl 1 rfl) ?_
            refine lv_iload hx hb dX12_factoryDay_192 (lv_at hl 0 rfl) ?_
            refine lv_iload hx hb dX12_factoryDay_194 (lv_at hl 3 rfl) ?_
            refine lv_iload hx hb dX12_factoryDay_196 (lv_at hl 2 rfl) ?_
            refine tq_callVv (As := [.int x1, .int (M11 118 (((M 172 0 x3.toNatClampNeg) / 10).toNatClampNeg) (((4 * ((M 172 0 x3.toNatClampNeg) - (M 172 0 x3.toNatClampNeg) / 10 * 10)) + 1).toNatClampNeg)), .int (M11 118 (((M 172 0 x3.toNatClampNeg) / 10).toNatClampNeg) (((4 * ((M 172 0 x3.toNatClampNeg) - (M 172 0 x3.toNatClampNeg) / 10 * 10)) + 2).toNatClampNeg)), .int ((M 172 0 x3.toNatClampNeg) / 10), .int ((M 172 0 x3.toNatClampNeg) - (M 172 0 x3.toNatClampNeg) / 10 * 10)]) (rest := []) (kX12_doAdvance h) ⟨hx, hb, hml, hown, hts⟩ (cwV 5 hts (tq_goodV tw_1963 tw_1965 tw_99 tw_125 tw_1966) rfl rfl rfl (by decide +kernel) ⟨Nat.le_of_ble_eq_true rfl, Nat.le_of_ble_eq_true rfl⟩) hK hG hW hS rfl hl.1 rfl (Nat.le_of_ble_eq_true rfl) dX12_factoryDay_198 ⟨Nat.le_of_ble_eq_true rfl, Nat.le_of_ble_eq_true rfl⟩ (fun M21 H locs h hW hS => ?_)
            refine lv_goto (tgt := 254) hx hb dX12_factoryDay_201 (by decide) ?_
            exact bX12_factoryDay_254 C (fun M9 a09 a19 a29 H9 q9 ls9 h9 hW9 hS9 hl9 => ih M9 a09 a19 a29 H9 q9 ls9 h9 hW9 hS9 hl9) _ _ _ _ _ _ _ h hW hS (lv_sub hl [4, 5, 6, 7] rfl)
          · have h := h.2 c20
            by_cases c22 : (M11 118 (((M 172 0 x3.toNatClampNeg) / 10).toNatClampNeg) ((4 * ((M 172 0 x3.toNatClampNeg) - (M 172 0 x3.toNatClampNeg) / 10 * 10)).toNatClampNeg)) = 2
            · have h := h.1 c22
              refine W.eq (g2 := F0 m 139 ls (.int 2 :: [])) (by rw [c22]) ?_
              refine lv_tableIn (tgt := 204) hx hb dX12_factoryDay_139 (by decide) (by decide) rfl (by decide) ?_
              refine lv_aload_n hx hb dX12_factoryDay_204 rfl (lv_at hl 4 rfl) ?_
              refine lv_iload_n hx hb dX12_factoryDay_205 rfl (lv_at hl 5 rfl) ?_
              refine lv_iload hx hb dX12_factoryDay_206 (lv_at hl 1 rfl) ?_
              refine lv_iload hx hb dX12_factoryDay_208 (lv_at hl 0 rfl) ?_
              refine lv_iload hx hb dX12_factoryDay_210 (lv_at hl 3 rfl) ?_
              refine lv_iload hx hb dX12_factoryDay_212 (lv_at hl 2 rfl) ?_
              refine tq_callVv (As := [.int x1, .int (M11 118 (((M 172 0 x3.toNatClampNeg) / 10).toNatClampNeg) (((4 * ((M 172 0 x3.toNatClampNeg) - (M 172 0 x3.toNatClampNeg) / 10 * 10)) + 1).toNatClampNeg)), .int (M11 118 (((M 172 0 x3.toNatClampNeg) / 10).toNatClampNeg) (((4 * ((M 172 0 x3.toNatClampNeg) - (M 172 0 x3.toNatClampNeg) / 10 * 10)) + 2).toNatClampNeg)), .int ((M 172 0 x3.toNatClampNeg) / 10), .int ((M 172 0 x3.toNatClampNeg) - (M 172 0 x3.toNatClampNeg) / 10 * 10)]) (rest := []) (kX12_doLade h) ⟨hx, hb, hml, hown, hts⟩ (cwV 5 hts (tq_goodV tw_1977 tw_1979 tw_102 tw_125 tw_1980) rfl rfl rfl (by decide +kernel) ⟨Nat.le_of_ble_eq_true rfl, Nat.le_of_ble_eq_true rfl⟩) hK hG hW hS rfl hl.1 rfl (Nat.le_of_ble_eq_true rfl) dX12_factoryDay_214 ⟨Nat.le_of_ble_eq_true rfl, Nat.le_of_ble_eq_true rfl⟩ (fun M23 H locs h hW hS => ?_)
              refine lv_goto (tgt := 254) hx hb dX12_factoryDay_217 (by decide) ?_
              exact bX12_factoryDay_254 C (fun M9 a09 a19 a29 H9 q9 ls9 h9 hW9 hS9 hl9 => ih M9 a09 a19 a29 H9 q9 ls9 h9 hW9 hS9 hl9) _ _ _ _ _ _ _ h hW hS (lv_sub hl [4, 5, 6, 7] rfl)
            · have h := h.2 c22
              by_cases c24 : (M11 118 (((M 172 0 x3.toNatClampNeg) / 10).toNatClampNeg) ((4 * ((M 172 0 x3.toNatClampNeg) - (M 172 0 x3.toNatClampNeg) / 10 * 10)).toNatClampNeg)) = 3
              · have h := h.1 c24
                refine W.eq (g2 := F0 m 139 ls (.int 3 :: [])) (by rw [c24]) ?_
                refine lv_tableIn (tgt := 220) hx hb dX12_factoryDay_139 (by decide) (by decide) rfl (by decide) ?_
                refine lv_aload_n hx hb dX12_factoryDay_220 rfl (lv_at hl 4 rfl) ?_
                refine lv_iload_n hx hb dX12_factoryDay_221 rfl (lv_at hl 5 rfl) ?_
                refine lv_iload hx hb dX12_factoryDay_222 (lv_at hl 0 rfl) ?_
                refine lv_iload hx hb dX12_factoryDay_224 (lv_at hl 3 rfl) ?_
                refine lv_iload hx hb dX12_factoryDay_226 (lv_at hl 2 rfl) ?_
                refine tq_callVv (As := [.int x1, .int (M11 118 (((M 172 0 x3.toNatClampNeg) / 10).toNatClampNeg) (((4 * ((M 172 0 x3.toNatClampNeg) - (M 172 0 x3.toNatClampNeg) / 10 * 10)) + 2).toNatClampNeg)), .int ((M 172 0 x3.toNatClampNeg) / 10), .int ((M 172 0 x3.toNatClampNeg) - (M 172 0 x3.toNatClampNeg) / 10 * 10)]) (rest := []) (kX12_doSail h) ⟨hx, hb, hml, hown, hts⟩ (cwV 4 hts (tq_goodV tw_1982 tw_1984 tw_103 tw_125 tw_1985) rfl rfl rfl (by decide +kernel) ⟨Nat.le_of_ble_eq_true rfl, Nat.le_of_ble_eq_true rfl⟩) hK hG hW hS rfl hl.1 rfl (Nat.le_of_ble_eq_true rfl) dX12_factoryDay_228 ⟨Nat.le_of_ble_eq_true rfl, Nat.le_of_ble_eq_true rfl⟩ (fun M25 H locs h hW hS => ?_)
                refine lv_goto (tgt := 254) hx hb dX12_factoryDay_231 (by decide) ?_
                exact bX12_factoryDay_254 C (fun M9 a09 a19 a29 H9 q9 ls9 h9 hW9 hS9 hl9 => ih M9 a09 a19 a29 H9 q9 ls9 h9 hW9 hS9 hl9) _ _ _ _ _ _ _ h hW hS (lv_sub hl [4, 5, 6, 7] rfl)
              · have h := h.2 c24
                by_cases c26 : (M11 118 (((M 172 0 x3.toNatClampNeg) / 10).toNatClampNeg) ((4 * ((M 172 0 x3.toNatClampNeg) - (M 172 0 x3.toNatClampNeg) / 10 * 10)).toNatClampNeg)) = 4
                · have h := h.1 c26
                  refine W.eq (g2 := F0 m 139 ls (.int 4 :: [])) (by rw [c26]) ?_
                  refine lv_tableIn (tgt := 234) hx hb dX12_factoryDay_139 (by decide) (by decide) rfl (by decide) ?_
                  refine lv_aload_n hx hb dX12_factoryDay_234 rfl (lv_at hl 4 rfl) ?_
                  refine lv_iload_n hx hb dX12_factoryDay_235 rfl (lv_at hl 5 rfl) ?_
                  refine lv_iload hx hb dX12_factoryDay_236 (lv_at hl 0 rfl) ?_
                  refine lv_iload hx hb dX12_factoryDay_238 (lv_at hl 3 rfl) ?_
                  refine lv_iload hx hb dX12_factoryDay_240 (lv_at hl 2 rfl) ?_
                  refine tq_callVv (As := [.int x1, .int (M11 118 (((M 172 0 x3.toNatClampNeg) / 10).toNatClampNeg) (((4 * ((M 172 0 x3.toNatClampNeg) - (M 172 0 x3.toNatClampNeg) / 10 * 10)) + 2).toNatClampNeg)), .int ((M 172 0 x3.toNatClampNeg) / 10), .int ((M 172 0 x3.toNatClampNeg) - (M 172 0 x3.toNatClampNeg) / 10 * 10)]) (rest := []) (kX12_doDraw h) ⟨hx, hb, hml, hown, hts⟩ (cwV 4 hts (tq_goodV tw_1986 tw_1988 tw_104 tw_125 tw_1989) rfl rfl rfl (by decide +kernel) ⟨Nat.le_of_ble_eq_true rfl, Nat.le_of_ble_eq_true rfl⟩) hK hG hW hS rfl hl.1 rfl (Nat.le_of_ble_eq_true rfl) dX12_factoryDay_242 ⟨Nat.le_of_ble_eq_true rfl, Nat.le_of_ble_eq_true rfl⟩ (fun M27 H locs h hW hS => ?_)
                  refine lv_goto (tgt := 254) hx hb dX12_factoryDay_245 (by decide) ?_
                  exact bX12_factoryDay_254 C (fun M9 a09 a19 a29 H9 q9 ls9 h9 hW9 hS9 hl9 => ih M9 a09 a19 a29 H9 q9 ls9 h9 hW9 hS9 hl9) _ _ _ _ _ _ _ h hW hS (lv_sub hl [4, 5, 6, 7] rfl)
                · have h := h.2 c26
                  refine lv_tableOut (tgt := 248) hx hb dX12_factoryDay_139 (tq_out5 c18 c20 c22 c24 c26) (by decide) ?_
                  refine lv_aload_n hx hb dX12_factoryDay_248 rfl (lv_at hl 4 rfl) ?_
                  refine lv_iload hx hb dX12_factoryDay_249 (lv_at hl 0 rfl) ?_
                  refine tqm_put hx hb hw tq_inX12 tyX12 tyX12_ok nmX12 hown hK hW hS (by decide) (tq_mk_64 (by decide)) rfl 74 (by decide) (hw _ tw_1482) (fun _ h9 => h9) rfl rfl rfl rfl (tq_mk_64 (by decide)) dX12_factoryDay_251 (fun H locs hW hS => ?_)
                  generalize eM28 : tq_up M11 64 0 74 (M11 118 (((M 172 0 x3.toNatClampNeg) / 10).toNatClampNeg) (((4 * ((M 172 0 x3.toNatClampNeg) - (M 172 0 x3.toNatClampNeg) / 10 * 10)) + 2).toNatClampNeg)) = M28 at hW
                  have h := h M28 eM28.symm
                  exact bX12_factoryDay_254 C (fun M9 a09 a19 a29 H9 q9 ls9 h9 hW9 hS9 hl9 => ih M9 a09 a19 a29 H9 q9 ls9 h9 hW9 hS9 hl9) _ _ _ _ _ _ _ h hW hS (lv_sub hl [4, 5, 6, 7] rfl)
      · have h := h.2 c13
        refine lv_goto (tgt := 254) hx hb dX12_factoryDay_92 (by decide) ?_
        exact bX12_factoryDay_254 C (fun M9 a09 a19 a29 H9 q9 ls9 h9 hW9 hS9 hl9 => ih M9 a09 a19 a29 H9 q9 ls9 h9 hW9 hS9 hl9) _ _ _ _ _ _ _ h hW hS (lv_sub hl [2, 3, 4, 5] rfl)
set_option maxHeartbeats 4000000 in
set_option maxRecDepth 100000 in
theorem bX12_factoryDay_7 {p : Program} {e : Env} {s : State} {m : MethodId} {args : Array Value} {below : List Frame} {meth : Method} {c : Code} {post : tq_St → Prop} (C : tq_At p s m meth c args cX12_factoryDay 8 (none) ((tq_ws yX12_factoryDay cX12_factoryDay 8 none)) RX12 D cy z ad)  : ∀ n : Nat, ∀ (M : tq_St) (x1 : Int32) (x2 : Int32) (H : Heap) (locs : List Loc) (ls : Array Slot), wbX12_factoryDay_7 post   n M x1 x2 → tq_wd D cy z H0 ad N (tq_mix S M) H → va_S (fun q => z ≤ q) s.heap H locs → lv_has ls 8 [(0, .ref (ad 64 0)), (1, .int x1), (2, .int x2)] → W p l e (tq_rm 4 101) s m args below meth c H locs 0 0 (MQ below (va_Qv (fun u => post u) (tq_P D cy z H0 ad N S) (fun q => z ≤ q)) args s 0 0 (fun q => z ≤ q)) (F0 m 7 ls []) := by
  obtain ⟨hx, hb, hr, hml, hown, hts, hlocks, hK, hG⟩ := id C
  have hw : ∀ w ∈ tq_W, w.before args s = true := fun w h => hts w (List.mem_cons_of_mem _ h)
  intro n
  induction n with
  | zero =>
    intro M x1 x2 H locs ls h
    exact absurd h (by unfold wbX12_factoryDay_7; exact id)
  | succ n ih =>
    intro M x1 x2 H locs ls h hW hS hl
    unfold wbX12_factoryDay_7 at h
    refine lv_iload_n hx hb dX12_factoryDay_7 rfl (lv_at hl 2 rfl) ?_
    refine lv_iconst (v := 4) hx hb dX12_factoryDay_8 (by decide) ?_
    refine lv_icmp_ge (tgt := 40) hx hb dX12_factoryDay_9 (by decide) (fun c2 => ?_) (fun c2 => ?_)
    · have h := h.1 c2
      refine lv_aload_n hx hb dX12_factoryDay_40 rfl (lv_at hl 0 rfl) ?_
      refine lv_iload_n hx hb dX12_factoryDay_41 rfl (lv_at hl 1 rfl) ?_
      refine tq_callVi (As := [.int x1]) (rest := []) (kX12_gather h) ⟨hx, hb, hml, hown, hts⟩ (cwV 1 hts (tq_goodV tw_1791 tw_1793 tw_70 tw_125 tw_1794) rfl rfl rfl (by decide +kernel) ⟨Nat.le_of_ble_eq_true rfl, Nat.le_of_ble_eq_true rfl⟩) hK hG hW hS rfl hl.1 rfl (Nat.le_of_ble_eq_true rfl) dX12_factoryDay_42 ⟨Nat.le_of_ble_eq_true rfl, Nat.le_of_ble_eq_true rfl⟩ (fun r4 M3 H locs h hW hS => ?_)
      refine lv_istore_n (lv' := [(2, .int r4), (0, .ref (ad 64 0)), (1, .int x1)]) hx hb dX12_factoryDay_45 rfl hl (by decide) rfl (fun ls hl => ?_)
      refine lv_aload_n hx hb dX12_factoryDay_46 rfl (lv_at hl 1 rfl) ?_
      refine lv_iconst (v := 0) hx hb dX12_factoryDay_47 (by decide) ?_
      refine tqm_put hx hb hw tq_inX12 tyX12 tyX12_ok nmX12 hown hK hW hS (by decide) (tq_mk_64 (by decide)) rfl 74 (by decide) (hw _ tw_1482) (fun _ h9 => h9) rfl rfl rfl rfl (tq_mk_64 (by decide)) dX12_factoryDay_48 (fun H locs hW hS => ?_)
      generalize eM5 : tq_up M3 64 0 74 0 = M5 at hW
      have h := h M5 eM5.symm
      refine lv_iconst (v := 0) hx hb dX12_factoryDay_51 (by decide) ?_
      refine lv_istore_n (lv' := [(3, .int 0), (2, .int r4), (0, .ref (ad 64 0)), (1, .int x1)]) hx hb dX12_factoryDay_52 rfl hl (by decide) rfl (fun ls hl => ?_)
      obtain ⟨nq, h⟩ := h
      exact bX12_factoryDay_53 C  nq _ _ _ _ _ _ _ h hW hS (lv_sub hl [2, 3, 1, 0] rfl)
    · have h := h.2 c2
      refine lv_aload_n hx hb dX12_factoryDay_12 rfl (lv_at hl 0 rfl) ?_
      refine tqm_get (v := .ref (ad 205 0)) hx hb hw tq_inX12 hown hK hW (by decide) (tq_mk_64 (by decide)) rfl 5 (by decide) (hw _ tw_1413) (fun _ h9 => h9) rfl dX12_factoryDay_13 ?_
      refine lv_iload_n hx hb dX12_factoryDay_16 rfl (lv_at hl 1 rfl) ?_
      obtain ⟨b6, h⟩ := h
      refine tqm_aald (jn := x1.toNatClampNeg) (v := .ref (ad 105 x1.toNatClampNeg)) hx hb hK hW (by decide) (tq_mk_205 (by decide)) 2 rfl rfl b6 rfl rfl dX12_factoryDay_17 ?_
      refine lv_iload_n hx hb dX12_factoryDay_18 rfl (lv_at hl 2 rfl) ?_
      refine lv_iconst (v := 0) hx hb dX12_factoryDay_19 (by decide) ?_
      refine lv_aload_n hx hb dX12_factoryDay_20 rfl (lv_at hl 0 rfl) ?_
      refine tqm_get (v := .ref (ad 205 0)) hx hb hw tq_inX12 hown hK hW (by decide) (tq_mk_64 (by decide)) rfl 5 (by decide) (hw _ tw_1413) (fun _ h9 => h9) rfl dX12_factoryDay_21 ?_
      refine lv_iload_n hx hb dX12_factoryDay_24 rfl (lv_at hl 1 rfl) ?_
      refine tqm_aald (jn := x1.toNatClampNeg) (v := .ref (ad 105 x1.toNatClampNeg)) hx hb hK hW (by decide) (tq_mk_205 (by decide)) 2 rfl rfl b6 rfl rfl dX12_factoryDay_25 ?_
      refine lv_iload_n hx hb dX12_factoryDay_26 rfl (lv_at hl 2 rfl) ?_
      obtain ⟨b7, h⟩ := h
      refine tqm_iald (jn := x2.toNatClampNeg) hx hb hK hW (by decide) (tq_mk_105 (tq_lt b6)) b7 rfl dX12_factoryDay_27 ?_
      refine lv_iconst (v := 5) hx hb dX12_factoryDay_28 (by decide) ?_
      refine lv_isub hx hb dX12_factoryDay_29 ?_
      refine va_mmax hx hb (hml.trans hl.1.symm) hown (hw _ tw_1950) (hw _ tw_660) (hw _ tw_132) (hw _ tw_661) (Nat.le_of_ble_eq_true rfl) (Nat.le_of_ble_eq_true rfl) (Nat.zero_le _) (Nat.zero_le _) dX12_factoryDay_30 ?_
      refine tqm_iast (jn := x2.toNatClampNeg) hx hb hK hW hS (by decide) (tq_mk_105 (tq_lt b6)) b7 rfl (tq_mk_105 (tq_lt b6)) dX12_factoryDay_33 (fun H locs hW hS => ?_)
      generalize eM8 : tq_up M 105 x1.toNatClampNeg x2.toNatClampNeg (if 0 < ((M 105 x1.toNatClampNeg x2.toNatClampNeg) - 5) then ((M 105 x1.toNatClampNeg x2.toNatClampNeg) - 5) else 0) = M8 at hW
      have h := h M8 eM8.symm
      refine lv_iinc (v := x2 + 1) (lv' := [(2, .int (x2 + 1)), (0, .ref (ad 64 0)), (1, .int x1)]) hx hb dX12_factoryDay_34 hl (k := 2) rfl rfl (by decide) rfl (fun ls hl => ?_)
      refine lv_goto (tgt := 7) hx hb dX12_factoryDay_37 (by decide) ?_
      exact ih _ _ _ _ _ _ h hW hS (lv_sub hl [1, 2, 0] rfl)
set_option maxHeartbeats 4000000 in
set_option maxRecDepth 100000 in
theorem kX12_factoryDay {post : tq_St → Prop} {M : tq_St} {p0 : Int32} (h : wpX12_factoryDay post M p0) : tq_mV l yX12_factoryDay (tq_ws yX12_factoryDay cX12_factoryDay 8 none) 4 101 D cy z H0 ad N S M [.ref (ad 64 0), .int p0] post := by
  unfold wpX12_factoryDay at h
  refine Met.ofW (cc := cX12_factoryDay) (maxL := 8) (ret := none) (by decide) rfl ?_
  intro p e s m args below meth c s₁ B hml hv
  obtain ⟨rfl, hW, hK, hG⟩ := hv
  have hx := B.exec
  have hb := B.bytes
  have hr := B.returns
  have hts := atoms_spec (ws := (tq_ws yX12_factoryDay cX12_factoryDay 8 none)) B.pre
  have hw : ∀ w ∈ tq_W, w.before _ s = true := fun w h => hts w (List.mem_cons_of_mem _ h)
  have hown : s.vm.findClass RX12 = some m.cls := findClass_of_methodNamed B.named
  have hlocks := B.notSynchronized
  have C : tq_At p s m meth c [.ref (ad 64 0), .int p0].toArray cX12_factoryDay 8 (none) ((tq_ws yX12_factoryDay cX12_factoryDay 8 none)) RX12 D cy z ad := ⟨hx, hb, hr, hml, hown, hts, hlocks, hK, hG⟩
  have hS : va_S (fun q => z ≤ q) s.heap s.heap [] := va_S.rf
  have hl := lv_entry ([.ref (ad 64 0), .int p0]) (n := 8) (Nat.le_of_ble_eq_true rfl)
  rw [lg_entry_eq]
  generalize (lg_sl ([.ref (ad 64 0), .int p0]) ++ List.replicate (8 - (lg_sl ([.ref (ad 64 0), .int p0])).length) Slot.unset).toArray = ls at hl ⊢
  have hl : lv_has ls 8 [(0, .ref (ad 64 0)), (1, .int p0)] := hl
  have hW : tq_wd D cy z H0 ad N (tq_mix S M) s.heap := hW
  refine lv_aload_n hx hb dX12_factoryDay_0 rfl (lv_at hl 0 rfl) ?_
  refine lv_iload_n hx hb dX12_factoryDay_1 rfl (lv_at hl 1 rfl) ?_
  refine tq_callVv (As := [.int p0]) (rest := []) (kX12_advancesCome h) ⟨hx, hb, hml, hown, hts⟩ (cwV 1 hts (tq_goodV tw_1946 tw_1948 tw_95 tw_125 tw_1949) rfl rfl rfl (by decide +kernel) ⟨Nat.le_of_ble_eq_true rfl, Nat.le_of_ble_eq_true rfl⟩) hK hG hW hS rfl hl.1 rfl (Nat.le_of_ble_eq_true rfl) dX12_factoryDay_2 ⟨Nat.le_of_ble_eq_true rfl, Nat.le_of_ble_eq_true rfl⟩ (fun M1 H locs h hW hS => ?_)
  refine lv_iconst (v := 0) hx hb dX12_factoryDay_5 (by decide) ?_
  refine lv_istore_n (lv' := [(2, .int 0), (0, .ref (ad 64 0)), (1, .int p0)]) hx hb dX12_factoryDay_6 rfl hl (by decide) rfl (fun ls hl => ?_)
  obtain ⟨nq, h⟩ := h
  exact bX12_factoryDay_7 C  nq _ _ _ _ _ _ h hW hS (lv_sub hl [1, 2, 0] rfl)
