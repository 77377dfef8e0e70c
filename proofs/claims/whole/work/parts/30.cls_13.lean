variable {l : Launch} {D : va_G} {cy : Nat → ClassId} {z : Nat} {H0 : Heap} {ad : Nat → Nat → Nat} {N : tq_Nn} {M : tq_St}
-- X11 sale
def wbX11_sale_104 (N : tq_Nn) (post : tq_St → Int32 → Prop)  (S : tq_St) (x3 : Nat) (x4 : Int32) : Prop :=
  x3 < 5 ∧ ((∀ S19, S19 = tq_up S 2 x3 1 ((S 2 x3 1) + x4) → ((∀ S20, S20 = tq_up S19 4 0 4 ((S19 4 0 4) + x4) → (post S20 x4)))))
def wbX11_sale_48 (N : tq_Nn) (post : tq_St → Int32 → Prop) : Nat → tq_St → Int32 → Int32 → Nat → Int32 → Int32 → Prop
  | 0, _, _, _, _, _, _ => False
  | n + 1, S, x1, x2, x3, x4, x5 =>
    (x2 ≤ x5 → (wbX11_sale_104 N post S x3 x4)) ∧ (¬ x2 ≤ x5 → (wpX2_greatest N (fun S10 r11 => (0 ≤ r11 → (wpX2_sellOne N (fun S13 r14 => x3 < 5 ∧ (vp_in x1 4 ∧ (∀ S17, S17 = tq_up S13 30 x3 x1.toNatClampNeg ((S13 30 x3 x1.toNatClampNeg) - 1) → ((wbX11_sale_48 N post n) S17 x1 x2 x3 (x4 + r14) (x5 + 1))))) S10 x1 r11)) ∧ (¬ 0 ≤ r11 → (wbX11_sale_104 N post S10 x3 x4))) S x1 (-1)))
def wpX11_sale (N : tq_Nn) (post : tq_St → Int32 → Prop) (S : tq_St) (p0 : Int32) (p1 : Int32) : Prop :=
  wpX11_isSort N (fun S1 r2 => (¬ r2 = 0 → (wpX11_within N (fun S4 r5 => (¬ r5 = 0 → (vp_in p0 4 ∧ ((p1 ≤ (S4 30 0 p0.toNatClampNeg) → (∃ nq, wbX11_sale_48 N post nq S4 p0 p1 0 0 0)) ∧ (¬ p1 ≤ (S4 30 0 p0.toNatClampNeg) → (post S4 ((-3))))))) ∧ (r5 = 0 → (post S4 ((-2))))) S1 p1 1 99)) ∧ (r2 = 0 → (post S1 ((-1))))) S p0
set_option maxHeartbeats 4000000 in
set_option maxRecDepth 100000 in
theorem bX11_sale_104 {p : Program} {e : Env} {s : State} {m : MethodId} {args : Array Value} {below : List Frame} {meth : Method} {c : Code} {post : tq_St → Int32 → Prop} (C : tq_At p s m meth c args cX11_sale 7 ((some .int)) ((tq_ws yX11_sale cX11_sale 7 (some .int))) RX11 D cy z ad)  : ∀ (S : tq_St) (x3 : Nat) (x4 : Int32) (H : Heap) (locs : List Loc) (ls : Array Slot), wbX11_sale_104 N post   S x3 x4 → tq_wd D cy z H0 ad N (tq_mix S M) H → va_S (fun q => z ≤ q) s.heap H locs → lv_has ls 7 [(0, .ref (ad 1 0)), (3, .ref (ad 2 x3)), (4, .int x4)] → W p l e (tq_rm 2 49) s m args below meth c H locs 0 0 (MQ below (va_Qi (fun r u => post u r) (fun u => tq_P D cy z H0 ad N u M) (fun q => z ≤ q)) args s 0 0 (fun q => z ≤ q)) (F0 m 104 ls []) := by
  obtain ⟨hx, hb, hr, hml, hown, hts, hlocks, hK, hG⟩ := id C
  have hw : ∀ w ∈ tq_W, w.before args s = true := fun w h => hts w (List.mem_cons_of_mem _ h)
  intro S x3 x4 H locs ls h hW hS hl
  unfold wbX11_sale_104 at h
  refine lv_aload_n hx hb dX11_sale_104 rfl (lv_at hl 1 rfl) ?_
  refine lv_dup hx hb dX11_sale_105 rfl ?_
  obtain ⟨b18, h⟩ := h
  refine tqc_get (v := .int (S 2 x3 1)) hx hb hw tq_inX5 hown hK hW (by decide) (tq_mk_2 b18) rfl 1 (by decide) (hw _ tw_255) (fun _ h9 => h9) rfl dX11_sale_106 ?_
  refine lv_iload hx hb dX11_sale_109 (lv_at hl 2 rfl) ?_
  refine lv_iadd hx hb dX11_sale_111 ?_
  refine tqc_put hx hb hw tq_inX5 tyX5 tyX5_ok nmX5 hown hK hW hS (by decide) (tq_mk_2 b18) rfl 1 (by decide) (hw _ tw_255) (fun _ h9 => h9) rfl rfl rfl rfl (tq_mk_2 b18) dX11_sale_112 (fun H locs hW hS => ?_)
  generalize eS19 : tq_up S 2 x3 1 ((S 2 x3 1) + x4) = S19 at hW
  have h := h S19 eS19.symm
  refine lv_aload_n hx hb dX11_sale_115 rfl (lv_at hl 0 rfl) ?_
  refine tqc_get (v := .ref (ad 4 0)) hx hb hw tq_inX11 hown hK hW (by decide) (tq_mk_1 (by decide)) rfl 13 (by decide) (hw _ tw_350) (fun _ h9 => h9) rfl dX11_sale_116 ?_
  refine lv_dup hx hb dX11_sale_119 rfl ?_
  refine tqc_get (v := .int (S19 4 0 4)) hx hb hw tq_inX2 hown hK hW (by decide) (tq_mk_4 (by decide)) rfl 4 (by decide) (hw _ tw_214) (fun _ h9 => h9) rfl dX11_sale_120 ?_
  refine lv_iload hx hb dX11_sale_123 (lv_at hl 2 rfl) ?_
  refine lv_iadd hx hb dX11_sale_125 ?_
  refine tqc_put hx hb hw tq_inX2 tyX2 tyX2_ok nmX2 hown hK hW hS (by decide) (tq_mk_4 (by decide)) rfl 4 (by decide) (hw _ tw_214) (fun _ h9 => h9) rfl rfl rfl rfl (tq_mk_4 (by decide)) dX11_sale_126 (fun H locs hW hS => ?_)
  generalize eS20 : tq_up S19 4 0 4 ((S19 4 0 4) + x4) = S20 at hW
  have h := h S20 eS20.symm
  refine lv_iload hx hb dX11_sale_129 (lv_at hl 2 rfl) ?_
  exact W.iret (v := x4) hx hb hr (fun t ht hWm => ⟨⟨_, S20, rfl, h, tq_pe ht hW⟩, hS.F ht⟩) hS.2.2 dX11_sale_131
set_option maxHeartbeats 4000000 in
set_option maxRecDepth 100000 in
theorem bX11_sale_48 {p : Program} {e : Env} {s : State} {m : MethodId} {args : Array Value} {below : List Frame} {meth : Method} {c : Code} {post : tq_St → Int32 → Prop} (C : tq_At p s m meth c args cX11_sale 7 ((some .int)) ((tq_ws yX11_sale cX11_sale 7 (some .int))) RX11 D cy z ad)  : ∀ n : Nat, ∀ (S : tq_St) (x1 : Int32) (x2 : Int32) (x3 : Nat) (x4 : Int32) (x5 : Int32) (H : Heap) (locs : List Loc) (ls : Array Slot), wbX11_sale_48 N post   n S x1 x2 x3 x4 x5 → tq_wd D cy z H0 ad N (tq_mix S M) H → va_S (fun q => z ≤ q) s.heap H locs → lv_has ls 7 [(0, .ref (ad 1 0)), (1, .int x1), (2, .int x2), (3, .ref (ad 2 x3)), (4, .int x4), (5, .int x5)] → W p l e (tq_rm 2 49) s m args below meth c H locs 0 0 (MQ below (va_Qi (fun r u => post u r) (fun u => tq_P D cy z H0 ad N u M) (fun q => z ≤ q)) args s 0 0 (fun q => z ≤ q)) (F0 m 48 ls []) := by
  obtain ⟨hx, hb, hr, hml, hown, hts, hlocks, hK, hG⟩ := id C
  have hw : ∀ w ∈ tq_W, w.before args s = true := fun w h => hts w (List.mem_cons_of_mem _ h)
  intro n
  induction n with
  | zero =>
    intro S x1 x2 x3 x4 x5 H locs ls h
    exact absurd h (by unfold wbX11_sale_48; exact id)
  | succ n ih =>
    intro S x1 x2 x3 x4 x5 H locs ls h hW hS hl
    unfold wbX11_sale_48 at h
    refine lv_iload hx hb dX11_sale_48 (lv_at hl 5 rfl) ?_
    refine lv_iload_n hx hb dX11_sale_50 rfl (lv_at hl 2 rfl) ?_
    refine lv_icmp_ge (tgt := 104) hx hb dX11_sale_51 (by decide) (fun c9 => ?_) (fun c9 => ?_)
    · have h := h.1 c9
      exact bX11_sale_104 C  _ _ _ _ _ _ h hW hS (lv_sub hl [0, 3, 4] rfl)
    · have h := h.2 c9
      refine lv_aload_n hx hb dX11_sale_54 rfl (lv_at hl 0 rfl) ?_
      refine tqc_get (v := .ref (ad 4 0)) hx hb hw tq_inX11 hown hK hW (by decide) (tq_mk_1 (by decide)) rfl 13 (by decide) (hw _ tw_350) (fun _ h9 => h9) rfl dX11_sale_55 ?_
      refine lv_iload_n hx hb dX11_sale_58 rfl (lv_at hl 1 rfl) ?_
      refine lv_iconst (v := (-1)) hx hb dX11_sale_59 (by decide) ?_
      refine tqc_callVi (As := [.int x1, .int ((-1))]) (rest := []) (kX2_greatest h) ⟨hx, hb, hml, hown, hts⟩ (cwV 2 hts (tq_goodV tw_1278 tw_1279 tw_1280 tw_120 tw_1281) rfl rfl rfl (by decide +kernel) ⟨(Nat.le_of_ble_eq_true rfl), (Nat.le_of_ble_eq_true rfl)⟩) (tq_recvC hK hW (by decide) (tq_mk_4 (by decide)) rfl) hK hG hW hS rfl hl.1 rfl (Nat.le_of_ble_eq_true rfl) dX11_sale_60 ⟨(Nat.le_of_ble_eq_true rfl), (Nat.le_of_ble_eq_true rfl)⟩ (fun r11 S10 H locs h hW hS => ?_)
      refine lv_istore (lv' := [(6, .int r11), (0, .ref (ad 1 0)), (1, .int x1), (2, .int x2), (3, .ref (ad 2 x3)), (4, .int x4), (5, .int x5)]) hx hb dX11_sale_63 hl (by decide) rfl (fun ls hl => ?_)
      refine lv_iload hx hb dX11_sale_65 (lv_at hl 0 rfl) ?_
      refine lv_if_ge (tgt := 73) hx hb dX11_sale_67 (by decide) (fun c12 => ?_) (fun c12 => ?_)
      · have h := h.1 c12
        refine lv_iload hx hb dX11_sale_73 (lv_at hl 5 rfl) ?_
        refine lv_aload_n hx hb dX11_sale_75 rfl (lv_at hl 1 rfl) ?_
        refine tqc_get (v := .ref (ad 4 0)) hx hb hw tq_inX11 hown hK hW (by decide) (tq_mk_1 (by decide)) rfl 13 (by decide) (hw _ tw_350) (fun _ h9 => h9) rfl dX11_sale_76 ?_
        refine lv_iload_n hx hb dX11_sale_79 rfl (lv_at hl 2 rfl) ?_
        refine lv_iload hx hb dX11_sale_80 (lv_at hl 0 rfl) ?_
        refine tqc_callVi (As := [.int x1, .int r11]) (rest := [.int x4]) (kX2_sellOne h) ⟨hx, hb, hml, hown, hts⟩ (cwV 2 hts (tq_goodV tw_1282 tw_1283 tw_1284 tw_120 tw_1285) rfl rfl rfl (by decide +kernel) ⟨(Nat.le_of_ble_eq_true rfl), (Nat.le_of_ble_eq_true rfl)⟩) (tq_recvC hK hW (by decide) (tq_mk_4 (by decide)) rfl) hK hG hW hS rfl hl.1 rfl (Nat.le_of_ble_eq_true rfl) dX11_sale_82 ⟨(Nat.le_of_ble_eq_true rfl), (Nat.le_of_ble_eq_true rfl)⟩ (fun r14 S13 H locs h hW hS => ?_)
        refine lv_iadd hx hb dX11_sale_85 ?_
        refine lv_istore (lv' := [(4, .int (x4 + r14)), (6, .int r11), (0, .ref (ad 1 0)), (1, .int x1), (2, .int x2), (3, .ref (ad 2 x3)), (5, .int x5)]) hx hb dX11_sale_86 hl (by decide) rfl (fun ls hl => ?_)
        refine lv_aload_n hx hb dX11_sale_88 rfl (lv_at hl 5 rfl) ?_
        obtain ⟨b15, h⟩ := h
        refine tqc_get (v := .ref (ad 30 x3)) hx hb hw tq_inX5 hown hK hW (by decide) (tq_mk_2 b15) rfl 2 (by decide) (hw _ tw_258) (fun _ h9 => h9) rfl dX11_sale_89 ?_
        refine lv_iload_n hx hb dX11_sale_92 rfl (lv_at hl 3 rfl) ?_
        refine lv_dup2_11 hx hb dX11_sale_93 rfl rfl ?_
        obtain ⟨b16, h⟩ := h
        refine tqc_iald (jn := x1.toNatClampNeg) hx hb hK hW (by decide) (tq_mk_30 b15) b16 rfl dX11_sale_94 ?_
        refine lv_iconst (v := 1) hx hb dX11_sale_95 (by decide) ?_
        refine lv_isub hx hb dX11_sale_96 ?_
        refine tqc_iast (jn := x1.toNatClampNeg) hx hb hK hW hS (by decide) (tq_mk_30 b15) b16 rfl (tq_mk_30 b15) dX11_sale_97 (fun H locs hW hS => ?_)
        generalize eS17 : tq_up S13 30 x3 x1.toNatClampNeg ((S13 30 x3 x1.toNatClampNeg) - 1) = S17 at hW
        have h := h S17 eS17.symm
        refine lv_iinc (v := x5 + 1) (lv' := [(5, .int (x5 + 1)), (4, .int (x4 + r14)), (6, .int r11), (0, .ref (ad 1 0)), (1, .int x1), (2, .int x2), (3, .ref (ad 2 x3))]) hx hb dX11_sale_98 hl (k := 6) rfl rfl (by decide) rfl (fun ls hl => ?_)
        refine lv_goto (tgt := 48) hx hb dX11_sale_101 (by decide) ?_
        exact ih _ _ _ _ _ _ _ _ _ h hW hS (lv_sub hl [3, 4, 5, 6, 1, 0] rfl)
      · have h := h.2 c12
        refine lv_goto (tgt := 104) hx hb dX11_sale_70 (by decide) ?_
        exact bX11_sale_104 C  _ _ _ _ _ _ h hW hS (lv_sub hl [1, 4, 5] rfl)
set_option maxHeartbeats 4000000 in
set_option maxRecDepth 100000 in
theorem kX11_sale {post : tq_St → Int32 → Prop} {S : tq_St} {p0 : Int32} {p1 : Int32} (h : wpX11_sale N post S p0 p1) : tq_sI l yX11_sale (tq_ws yX11_sale cX11_sale 7 (some .int)) 2 49 D cy z H0 ad N M S [.ref (ad 1 0), .int p0, .int p1] post := by
  unfold wpX11_sale at h
  refine Met.ofW (cc := cX11_sale) (maxL := 7) (ret := (some .int)) (by decide) rfl ?_
  intro p e s m args below meth c s₁ B hml hv
  obtain ⟨rfl, hW, hK, hG⟩ := hv
  have hx := B.exec
  have hb := B.bytes
  have hr := B.returns
  have hts := atoms_spec (ws := (tq_ws yX11_sale cX11_sale 7 (some .int))) B.pre
  have hw : ∀ w ∈ tq_W, w.before _ s = true := fun w h => hts w (List.mem_cons_of_mem _ h)
  have hown : s.vm.findClass RX11 = some m.cls := findClass_of_methodNamed B.named
  have hlocks := B.notSynchronized
  have C : tq_At p s m meth c [.ref (ad 1 0), .int p0, .int p1].toArray cX11_sale 7 ((some .int)) ((tq_ws yX11_sale cX11_sale 7 (some .int))) RX11 D cy z ad := ⟨hx, hb, hr, hml, hown, hts, hlocks, hK, hG⟩
  have hS : va_S (fun q => z ≤ q) s.heap s.heap [] := va_S.rf
  have hl := lv_entry ([.ref (ad 1 0), .int p0, .int p1]) (n := 7) (Nat.le_of_ble_eq_true rfl)
  rw [lg_entry_eq]
  generalize (lg_sl ([.ref (ad 1 0), .int p0, .int p1]) ++ List.replicate (7 - (lg_sl ([.ref (ad 1 0), .int p0, .int p1])).length) Slot.unset).toArray = ls at hl ⊢
  have hl : lv_has ls 7 [(0, .ref (ad 1 0)), (1, .int p0), (2, .int p1)] := hl
  have hW : tq_wd D cy z H0 ad N (tq_mix S M) s.heap := hW
  refine lv_iload_n hx hb dX11_sale_0 rfl (lv_at hl 1 rfl) ?_
  refine tqc_callSi (As := [.int p0]) (rest := []) (kX11_isSort h) ⟨hx, hb, hml, hown, hts⟩ (va_cwS 1 hts (tq_goodS tw_412 tw_413 tw_115 tw_414) rfl rfl rfl (by decide +kernel) ⟨(Nat.le_of_ble_eq_true rfl), (Nat.le_of_ble_eq_true rfl)⟩) hK hG hW hS rfl hl.1 rfl (Nat.le_of_ble_eq_true rfl) dX11_sale_1 ⟨(Nat.le_of_ble_eq_true rfl), (Nat.le_of_ble_eq_true rfl)⟩ (fun r2 S1 H locs h hW hS => ?_)
  refine lv_if_ne (tgt := 9) hx hb dX11_sale_4 (by decide) (fun c3 => ?_) (fun c3 => ?_)
  · have h := h.1 c3
    refine lv_iload_n hx hb dX11_sale_9 rfl (lv_at hl 2 rfl) ?_
    refine lv_iconst (v := 1) hx hb dX11_sale_10 (by decide) ?_
    refine lv_bipush (v := 99) hx hb dX11_sale_11 (by decide) ?_
    refine tqc_callSi (As := [.int p1, .int 1, .int 99]) (rest := []) (kX11_within h) ⟨hx, hb, hml, hown, hts⟩ (va_cwS 3 hts (tq_goodS tw_405 tw_406 tw_115 tw_407) rfl rfl rfl (by decide +kernel) ⟨(Nat.le_of_ble_eq_true rfl), (Nat.le_of_ble_eq_true rfl)⟩) hK hG hW hS rfl hl.1 rfl (Nat.le_of_ble_eq_true rfl) dX11_sale_13 ⟨(Nat.le_of_ble_eq_true rfl), (Nat.le_of_ble_eq_true rfl)⟩ (fun r5 S4 H locs h hW hS => ?_)
    refine lv_if_ne (tgt := 22) hx hb dX11_sale_16 (by decide) (fun c6 => ?_) (fun c6 => ?_)
    · have h := h.1 c6
      refine lv_aload_n hx hb dX11_sale_22 rfl (lv_at hl 0 rfl) ?_
      refine tqc_get (v := .ref (ad 12 0)) hx hb hw tq_inX11 hown hK hW (by decide) (tq_mk_1 (by decide)) rfl 1 (by decide) (hw _ tw_338) (fun _ h9 => h9) rfl dX11_sale_23 ?_
      refine lv_iconst (v := 0) hx hb dX11_sale_26 (by decide) ?_
      refine tqc_aald (jn := 0) (v := .ref (ad 2 0)) hx hb hK hW (by decide) (tq_mk_12 (by decide)) 3 rfl rfl (by unfold vp_in; decide) (by decide) rfl dX11_sale_27 ?_
      refine lv_astore_n (lv' := [(3, .ref (ad 2 0)), (0, .ref (ad 1 0)), (1, .int p0), (2, .int p1)]) hx hb dX11_sale_28 rfl hl (by decide) rfl (fun ls hl => ?_)
      refine lv_aload_n hx hb dX11_sale_29 rfl (lv_at hl 0 rfl) ?_
      refine tqc_get (v := .ref (ad 30 0)) hx hb hw tq_inX5 hown hK hW (by decide) (tq_mk_2 (by decide)) rfl 2 (by decide) (hw _ tw_258) (fun _ h9 => h9) rfl dX11_sale_30 ?_
      refine lv_iload_n hx hb dX11_sale_33 rfl (lv_at hl 2 rfl) ?_
      obtain ⟨b7, h⟩ := h
      refine tqc_iald (jn := p0.toNatClampNeg) hx hb hK hW (by decide) (tq_mk_30 (by decide)) b7 rfl dX11_sale_34 ?_
      refine lv_iload_n hx hb dX11_sale_35 rfl (lv_at hl 3 rfl) ?_
      refine lv_icmp_ge (tgt := 42) hx hb dX11_sale_36 (by decide) (fun c8 => ?_) (fun c8 => ?_)
      · have h := h.1 c8
        refine lv_iconst (v := 0) hx hb dX11_sale_42 (by decide) ?_
        refine lv_istore (lv' := [(4, .int 0), (3, .ref (ad 2 0)), (0, .ref (ad 1 0)), (1, .int p0), (2, .int p1)]) hx hb dX11_sale_43 hl (by decide) rfl (fun ls hl => ?_)
        refine lv_iconst (v := 0) hx hb dX11_sale_45 (by decide) ?_
        refine lv_istore (lv' := [(5, .int 0), (4, .int 0), (3, .ref (ad 2 0)), (0, .ref (ad 1 0)), (1, .int p0), (2, .int p1)]) hx hb dX11_sale_46 hl (by decide) rfl (fun ls hl => ?_)
        obtain ⟨nq, h⟩ := h
        exact bX11_sale_48 C  nq _ _ _ _ _ _ _ _ _ h hW hS (lv_sub hl [3, 4, 5, 2, 1, 0] rfl)
      · have h := h.2 c8
        refine lv_bipush (v := (-3)) hx hb dX11_sale_39 (by decide) ?_
        exact W.iret (v := (-3)) hx hb hr (fun t ht hWm => ⟨⟨_, S4, rfl, h, tq_pe ht hW⟩, hS.F ht⟩) hS.2.2 dX11_sale_41
    · have h := h.2 c6
      refine lv_bipush (v := (-2)) hx hb dX11_sale_19 (by decide) ?_
      exact W.iret (v := (-2)) hx hb hr (fun t ht hWm => ⟨⟨_, S4, rfl, h, tq_pe ht hW⟩, hS.F ht⟩) hS.2.2 dX11_sale_21
  · have h := h.2 c3
    refine lv_iconst (v := (-1)) hx hb dX11_sale_7 (by decide) ?_
    exact W.iret (v := (-1)) hx hb hr (fun t ht hWm => ⟨⟨_, S1, rfl, h, tq_pe ht hW⟩, hS.F ht⟩) hS.2.2 dX11_sale_8
-- X11 bought
def wbX11_bought_18 (N : tq_Nn) (post : tq_St → Int32 → Prop)  (S : tq_St) : Prop :=
  post S ((-1))
def wbX11_bought_45 (N : tq_Nn) (post : tq_St → Int32 → Prop)  (S : tq_St) (y0 : Int32) : Prop :=
  post S y0
def wpX11_bought (N : tq_Nn) (post : tq_St → Int32 → Prop) (S : tq_St) (p0 : Int32) (p1 : Int32) : Prop :=
  wpX11_within N (fun S1 r2 => (r2 = 0 → (wbX11_bought_18 N post S1 )) ∧ (¬ r2 = 0 → (wpX11_within N (fun S4 r5 => (¬ r5 = 0 → ((¬ p1 = 0 → (vp_in p0 6 ∧ (wbX11_bought_45 N post S4 (S4 47 0 p0.toNatClampNeg)))) ∧ (p1 = 0 → (vp_in p0 6 ∧ (wbX11_bought_45 N post S4 (S4 46 0 p0.toNatClampNeg)))))) ∧ (r5 = 0 → (wbX11_bought_18 N post S4 ))) S1 p1 0 1))) S p0 0 5
set_option maxHeartbeats 4000000 in
set_option maxRecDepth 100000 in
theorem bX11_bought_18 {p : Program} {e : Env} {s : State} {m : MethodId} {args : Array Value} {below : List Frame} {meth : Method} {c : Code} {post : tq_St → Int32 → Prop} (C : tq_At p s m meth c args cX11_bought 3 ((some .int)) ((tq_ws yX11_bought cX11_bought 3 (some .int))) RX11 D cy z ad)  : ∀ (S : tq_St)  (H : Heap) (locs : List Loc) (ls : Array Slot), wbX11_bought_18 N post   S  → tq_wd D cy z H0 ad N (tq_mix S M) H → va_S (fun q => z ≤ q) s.heap H locs → lv_has ls 3 [] → W p l e (tq_rm 1 22) s m args below meth c H locs 0 0 (MQ below (va_Qi (fun r u => post u r) (fun u => tq_P D cy z H0 ad N u M) (fun q => z ≤ q)) args s 0 0 (fun q => z ≤ q)) (F0 m 18 ls []) := by
  obtain ⟨hx, hb, hr, hml, hown, hts, hlocks, hK, hG⟩ := id C
  have hw : ∀ w ∈ tq_W, w.before args s = true := fun w h => hts w (List.mem_cons_of_mem _ h)
  intro S  H locs ls h hW hS hl
  unfold wbX11_bought_18 at h
  refine lv_iconst (v := (-1)) hx hb dX11_bought_18 (by decide) ?_
  exact W.iret (v := (-1)) hx hb hr (fun t ht hWm => ⟨⟨_, S, rfl, h, tq_pe ht hW⟩, hS.F ht⟩) hS.2.2 dX11_bought_19
set_option maxHeartbeats 4000000 in
set_option maxRecDepth 100000 in
theorem bX11_bought_45 {p : Program} {e : Env} {s : State} {m : MethodId} {args : Array Value} {below : List Frame} {meth : Method} {c : Code} {post : tq_St → Int32 → Prop} (C : tq_At p s m meth c args cX11_bought 3 ((some .int)) ((tq_ws yX11_bought cX11_bought 3 (some .int))) RX11 D cy z ad)  : ∀ (S : tq_St) (y0 : Int32) (H : Heap) (locs : List Loc) (ls : Array Slot), wbX11_bought_45 N post   S y0 → tq_wd D cy z H0 ad N (tq_mix S M) H → va_S (fun q => z ≤ q) s.heap H locs → lv_has ls 3 [] → W p l e (tq_rm 1 22) s m args below meth c H locs 0 0 (MQ below (va_Qi (fun r u => post u r) (fun u => tq_P D cy z H0 ad N u M) (fun q => z ≤ q)) args s 0 0 (fun q => z ≤ q)) (F0 m 45 ls [.int y0]) := by
  obtain ⟨hx, hb, hr, hml, hown, hts, hlocks, hK, hG⟩ := id C
  have hw : ∀ w ∈ tq_W, w.before args s = true := fun w h => hts w (List.mem_cons_of_mem _ h)
  intro S y0 H locs ls h hW hS hl
  unfold wbX11_bought_45 at h
  exact W.iret (v := y0) hx hb hr (fun t ht hWm => ⟨⟨_, S, rfl, h, tq_pe ht hW⟩, hS.F ht⟩) hS.2.2 dX11_bought_45
set_option maxHeartbeats 4000000 in
set_option maxRecDepth 100000 in
theorem kX11_bought {post : tq_St → Int32 → Prop} {S : tq_St} {p0 : Int32} {p1 : Int32} (h : wpX11_bought N post S p0 p1) : tq_sI l yX11_bought (tq_ws yX11_bought cX11_bought 3 (some .int)) 1 22 D cy z H0 ad N M S [.ref (ad 1 0), .int p0, .int p1] post := by
  unfold wpX11_bought at h
  refine Met.ofW (cc := cX11_bought) (maxL := 3) (ret := (some .int)) (by decide) rfl ?_
  intro p e s m args below meth c s₁ B hml hv
  obtain ⟨rfl, hW, hK, hG⟩ := hv
  have hx := B.exec
  have hb := B.bytes
  have hr := B.returns
  have hts := atoms_spec (ws := (tq_ws yX11_bought cX11_bought 3 (some .int))) B.pre
  have hw : ∀ w ∈ tq_W, w.before _ s = true := fun w h => hts w (List.mem_cons_of_mem _ h)
  have hown : s.vm.findClass RX11 = some m.cls := findClass_of_methodNamed B.named
  have hlocks := B.notSynchronized
  have C : tq_At p s m meth c [.ref (ad 1 0), .int p0, .int p1].toArray cX11_bought 3 ((some .int)) ((tq_ws yX11_bought cX11_bought 3 (some .int))) RX11 D cy z ad := ⟨hx, hb, hr, hml, hown, hts, hlocks, hK, hG⟩
  have hS : va_S (fun q => z ≤ q) s.heap s.heap [] := va_S.rf
  have hl := lv_entry ([.ref (ad 1 0), .int p0, .int p1]) (n := 3) (Nat.le_of_ble_eq_true rfl)
  rw [lg_entry_eq]
  generalize (lg_sl ([.ref (ad 1 0), .int p0, .int p1]) ++ List.replicate (3 - (lg_sl ([.ref (ad 1 0), .int p0, .int p1])).length) Slot.unset).toArray = ls at hl ⊢
  have hl : lv_has ls 3 [(0, .ref (ad 1 0)), (1, .int p0), (2, .int p1)] := hl
  have hW : tq_wd D cy z H0 ad N (tq_mix S M) s.heap := hW
  refine lv_iload_n hx hb dX11_bought_0 rfl (lv_at hl 1 rfl) ?_
  refine lv_iconst (v := 0) hx hb dX11_bought_1 (by decide) ?_
  refine lv_iconst (v := 5) hx hb dX11_bought_2 (by decide) ?_
  refine tqc_callSi (As := [.int p0, .int 0, .int 5]) (rest := []) (kX11_within h) ⟨hx, hb, hml, hown, hts⟩ (va_cwS 3 hts (tq_goodS tw_405 tw_406 tw_115 tw_407) rfl rfl rfl (by decide +kernel) ⟨(Nat.le_of_ble_eq_true rfl), (Nat.le_of_ble_eq_true rfl)⟩) hK hG hW hS rfl hl.1 rfl (Nat.le_of_ble_eq_true rfl) dX11_bought_3 ⟨(Nat.le_of_ble_eq_true rfl), (Nat.le_of_ble_eq_true rfl)⟩ (fun r2 S1 H locs h hW hS => ?_)
  refine lv_if_eq (tgt := 18) hx hb dX11_bought_6 (by decide) (fun c3 => ?_) (fun c3 => ?_)
  · have h := h.1 c3
    exact bX11_bought_18 C  _  _ _ _ h hW hS (lv_sub hl [] rfl)
  · have h := h.2 c3
    refine lv_iload_n hx hb dX11_bought_9 rfl (lv_at hl 2 rfl) ?_
    refine lv_iconst (v := 0) hx hb dX11_bought_10 (by decide) ?_
    refine lv_iconst (v := 1) hx hb dX11_bought_11 (by decide) ?_
    refine tqc_callSi (As := [.int p1, .int 0, .int 1]) (rest := []) (kX11_within h) ⟨hx, hb, hml, hown, hts⟩ (va_cwS 3 hts (tq_goodS tw_405 tw_406 tw_115 tw_407) rfl rfl rfl (by decide +kernel) ⟨(Nat.le_of_ble_eq_true rfl), (Nat.le_of_ble_eq_true rfl)⟩) hK hG hW hS rfl hl.1 rfl (Nat.le_of_ble_eq_true rfl) dX11_bought_12 ⟨(Nat.le_of_ble_eq_true rfl), (Nat.le_of_ble_eq_true rfl)⟩ (fun r5 S4 H locs h hW hS => ?_)
    refine lv_if_ne (tgt := 20) hx hb dX11_bought_15 (by decide) (fun c6 => ?_) (fun c6 => ?_)
    · have h := h.1 c6
      refine lv_iload_n hx hb dX11_bought_20 rfl (lv_at hl 2 rfl) ?_
      refine lv_if_ne (tgt := 36) hx hb dX11_bought_21 (by decide) (fun c7 => ?_) (fun c7 => ?_)
      · have h := h.1 c7
        refine lv_aload_n hx hb dX11_bought_36 rfl (lv_at hl 0 rfl) ?_
        refine tqc_get (v := .ref (ad 4 0)) hx hb hw tq_inX11 hown hK hW (by decide) (tq_mk_1 (by decide)) rfl 13 (by decide) (hw _ tw_350) (fun _ h9 => h9) rfl dX11_bought_37 ?_
        refine tqc_get (v := .ref (ad 47 0)) hx hb hw tq_inX2 hown hK hW (by decide) (tq_mk_4 (by decide)) rfl 3 (by decide) (hw _ tw_213) (fun _ h9 => h9) rfl dX11_bought_40 ?_
        refine lv_iload_n hx hb dX11_bought_43 rfl (lv_at hl 1 rfl) ?_
        obtain ⟨b8, h⟩ := h
        refine tqc_iald (jn := p0.toNatClampNeg) hx hb hK hW (by decide) (tq_mk_47 (by decide)) b8 rfl dX11_bought_44 ?_
        exact bX11_bought_45 C  _ _ _ _ _ h hW hS (lv_sub hl [] rfl)
      · have h := h.2 c7
        refine lv_aload_n hx hb dX11_bought_24 rfl (lv_at hl 0 rfl) ?_
        refine tqc_get (v := .ref (ad 4 0)) hx hb hw tq_inX11 hown hK hW (by decide) (tq_mk_1 (by decide)) rfl 13 (by decide) (hw _ tw_350) (fun _ h9 => h9) rfl dX11_bought_25 ?_
        refine tqc_get (v := .ref (ad 46 0)) hx hb hw tq_inX2 hown hK hW (by decide) (tq_mk_4 (by decide)) rfl 2 (by decide) (hw _ tw_211) (fun _ h9 => h9) rfl dX11_bought_28 ?_
        refine lv_iload_n hx hb dX11_bought_31 rfl (lv_at hl 1 rfl) ?_
        obtain ⟨b9, h⟩ := h
        refine tqc_iald (jn := p0.toNatClampNeg) hx hb hK hW (by decide) (tq_mk_46 (by decide)) b9 rfl dX11_bought_32 ?_
        refine lv_goto (tgt := 45) hx hb dX11_bought_33 (by decide) ?_
        exact bX11_bought_45 C  _ _ _ _ _ h hW hS (lv_sub hl [] rfl)
    · have h := h.2 c6
      exact bX11_bought_18 C  _  _ _ _ h hW hS (lv_sub hl [] rfl)
-- X11 shares
def wbX11_shares_14 (N : tq_Nn) (post : tq_St → Int32 → Prop)  (S : tq_St) : Prop :=
  post S ((-1))
def wbX11_shares_35 (N : tq_Nn) (post : tq_St → Int32 → Prop)  (S : tq_St) : Prop :=
  post S ((-2))
def wpX11_shares (N : tq_Nn) (post : tq_St → Int32 → Prop) (S : tq_St) (p0 : Int32) (p1 : Int32) (p2 : Int32) : Prop :=
  wpX11_isHolder N (fun S1 r2 => (r2 = 0 → (wbX11_shares_14 N post S1 )) ∧ (¬ r2 = 0 → (wpX11_isHolder N (fun S4 r5 => (¬ r5 = 0 → (vp_in p0 8 ∧ (wpX11_within N (fun S8 r9 => (r9 = 0 → (wbX11_shares_35 N post S8 )) ∧ (¬ r9 = 0 → ((¬ p0 = p1 → (∀ S12, S12 = tq_up S8 25 0 p0.toNatClampNeg ((S8 25 0 p0.toNatClampNeg) - p2) → (vp_in p1 8 ∧ (∀ S14, S14 = tq_up S12 25 0 p1.toNatClampNeg ((S12 25 0 p1.toNatClampNeg) + p2) → (post S14 (S14 25 0 p1.toNatClampNeg)))))) ∧ (p0 = p1 → (wbX11_shares_35 N post S8 ))))) S4 p2 1 (S4 25 0 p0.toNatClampNeg)))) ∧ (r5 = 0 → (wbX11_shares_14 N post S4 ))) S1 p1))) S p0
set_option maxHeartbeats 4000000 in
set_option maxRecDepth 100000 in
theorem bX11_shares_14 {p : Program} {e : Env} {s : State} {m : MethodId} {args : Array Value} {below : List Frame} {meth : Method} {c : Code} {post : tq_St → Int32 → Prop} (C : tq_At p s m meth c args cX11_shares 4 ((some .int)) ((tq_ws yX11_shares cX11_shares 4 (some .int))) RX11 D cy z ad)  : ∀ (S : tq_St)  (H : Heap) (locs : List Loc) (ls : Array Slot), wbX11_shares_14 N post   S  → tq_wd D cy z H0 ad N (tq_mix S M) H → va_S (fun q => z ≤ q) s.heap H locs → lv_has ls 4 [] → W p l e (tq_rm 1 22) s m args below meth c H locs 0 0 (MQ below (va_Qi (fun r u => post u r) (fun u => tq_P D cy z H0 ad N u M) (fun q => z ≤ q)) args s 0 0 (fun q => z ≤ q)) (F0 m 14 ls []) := by
  obtain ⟨hx, hb, hr, hml, hown, hts, hlocks, hK, hG⟩ := id C
  have hw : ∀ w ∈ tq_W, w.before args s = true := fun w h => hts w (List.mem_cons_of_mem _ h)
  intro S  H locs ls h hW hS hl
  unfold wbX11_shares_14 at h
  refine lv_iconst (v := (-1)) hx hb dX11_shares_14 (by decide) ?_
  exact W.iret (v := (-1)) hx hb hr (fun t ht hWm => ⟨⟨_, S, rfl, h, tq_pe ht hW⟩, hS.F ht⟩) hS.2.2 dX11_shares_15
set_option maxHeartbeats 4000000 in
set_option maxRecDepth 100000 in
theorem bX11_shares_35 {p : Program} {e : Env} {s : State} {m : MethodId} {args : Array Value} {below : List Frame} {meth : Method} {c : Code} {post : tq_St → Int32 → Prop} (C : tq_At p s m meth c args cX11_shares 4 ((some .int)) ((tq_ws yX11_shares cX11_shares 4 (some .int))) RX11 D cy z ad)  : ∀ (S : tq_St)  (H : Heap) (locs : List Loc) (ls : Array Slot), wbX11_shares_35 N post   S  → tq_wd D cy z H0 ad N (tq_mix S M) H → va_S (fun q => z ≤ q) s.heap H locs → lv_has ls 4 [] → W p l e (tq_rm 1 22) s m args below meth c H locs 0 0 (MQ below (va_Qi (fun r u => post u r) (fun u => tq_P D cy z H0 ad N u M) (fun q => z ≤ q)) args s 0 0 (fun q => z ≤ q)) (F0 m 35 ls []) := by
  obtain ⟨hx, hb, hr, hml, hown, hts, hlocks, hK, hG⟩ := id C
  have hw : ∀ w ∈ tq_W, w.before args s = true := fun w h => hts w (List.mem_cons_of_mem _ h)
  intro S  H locs ls h hW hS hl
  unfold wbX11_shares_35 at h
  refine lv_bipush (v := (-2)) hx hb dX11_shares_35 (by decide) ?_
  exact W.iret (v := (-2)) hx hb hr (fun t ht hWm => ⟨⟨_, S, rfl, h, tq_pe ht hW⟩, hS.F ht⟩) hS.2.2 dX11_shares_37
set_option maxHeartbeats 4000000 in
set_option maxRecDepth 100000 in
theorem kX11_shares {post : tq_St → Int32 → Prop} {S : tq_St} {p0 : Int32} {p1 : Int32} {p2 : Int32} (h : wpX11_shares N post S p0 p1 p2) : tq_sI l yX11_shares (tq_ws yX11_shares cX11_shares 4 (some .int)) 1 22 D cy z H0 ad N M S [.ref (ad 1 0), .int p0, .int p1, .int p2] post := by
  unfold wpX11_shares at h
  refine Met.ofW (cc := cX11_shares) (maxL := 4) (ret := (some .int)) (by decide) rfl ?_
  intro p e s m args below meth c s₁ B hml hv
  obtain ⟨rfl, hW, hK, hG⟩ := hv
  have hx := B.exec
  have hb := B.bytes
  have hr := B.returns
  have hts := atoms_spec (ws := (tq_ws yX11_shares cX11_shares 4 (some .int))) B.pre
  have hw : ∀ w ∈ tq_W, w.before _ s = true := fun w h => hts w (List.mem_cons_of_mem _ h)
  have hown : s.vm.findClass RX11 = some m.cls := findClass_of_methodNamed B.named
  have hlocks := B.notSynchronized
  have C : tq_At p s m meth c [.ref (ad 1 0), .int p0, .int p1, .int p2].toArray cX11_shares 4 ((some .int)) ((tq_ws yX11_shares cX11_shares 4 (some .int))) RX11 D cy z ad := ⟨hx, hb, hr, hml, hown, hts, hlocks, hK, hG⟩
  have hS : va_S (fun q => z ≤ q) s.heap s.heap [] := va_S.rf
  have hl := lv_entry ([.ref (ad 1 0), .int p0, .int p1, .int p2]) (n := 4) (Nat.le_of_ble_eq_true rfl)
  rw [lg_entry_eq]
  generalize (lg_sl ([.ref (ad 1 0), .int p0, .int p1, .int p2]) ++ List.replicate (4 - (lg_sl ([.ref (ad 1 0), .int p0, .int p1, .int p2])).length) Slot.unset).toArray = ls at hl ⊢
  have hl : lv_has ls 4 [(0, .ref (ad 1 0)), (1, .int p0), (2, .int p1), (3, .int p2)] := hl
  have hW : tq_wd D cy z H0 ad N (tq_mix S M) s.heap := hW
  refine lv_iload_n hx hb dX11_shares_0 rfl (lv_at hl 1 rfl) ?_
  refine tqc_callSi (As := [.int p0]) (rest := []) (kX11_isHolder h) ⟨hx, hb, hml, hown, hts⟩ (va_cwS 1 hts (tq_goodS tw_1295 tw_1296 tw_115 tw_1297) rfl rfl rfl (by decide +kernel) ⟨(Nat.le_of_ble_eq_true rfl), (Nat.le_of_ble_eq_true rfl)⟩) hK hG hW hS rfl hl.1 rfl (Nat.le_of_ble_eq_true rfl) dX11_shares_1 ⟨(Nat.le_of_ble_eq_true rfl), (Nat.le_of_ble_eq_true rfl)⟩ (fun r2 S1 H locs h hW hS => ?_)
  refine lv_if_eq (tgt := 14) hx hb dX11_shares_4 (by decide) (fun c3 => ?_) (fun c3 => ?_)
  · have h := h.1 c3
    exact bX11_shares_14 C  _  _ _ _ h hW hS (lv_sub hl [] rfl)
  · have h := h.2 c3
    refine lv_iload_n hx hb dX11_shares_7 rfl (lv_at hl 2 rfl) ?_
    refine tqc_callSi (As := [.int p1]) (rest := []) (kX11_isHolder h) ⟨hx, hb, hml, hown, hts⟩ (va_cwS 1 hts (tq_goodS tw_1295 tw_1296 tw_115 tw_1297) rfl rfl rfl (by decide +kernel) ⟨(Nat.le_of_ble_eq_true rfl), (Nat.le_of_ble_eq_true rfl)⟩) hK hG hW hS rfl hl.1 rfl (Nat.le_of_ble_eq_true rfl) dX11_shares_8 ⟨(Nat.le_of_ble_eq_true rfl), (Nat.le_of_ble_eq_true rfl)⟩ (fun r5 S4 H locs h hW hS => ?_)
    refine lv_if_ne (tgt := 16) hx hb dX11_shares_11 (by decide) (fun c6 => ?_) (fun c6 => ?_)
    · have h := h.1 c6
      refine lv_iload_n hx hb dX11_shares_16 rfl (lv_at hl 3 rfl) ?_
      refine lv_iconst (v := 1) hx hb dX11_shares_17 (by decide) ?_
      refine lv_aload_n hx hb dX11_shares_18 rfl (lv_at hl 0 rfl) ?_
      refine tqc_get (v := .ref (ad 25 0)) hx hb hw tq_inX11 hown hK hW (by decide) (tq_mk_1 (by decide)) rfl 14 (by decide) (hw _ tw_351) (fun _ h9 => h9) rfl dX11_shares_19 ?_
      refine lv_iload_n hx hb dX11_shares_22 rfl (lv_at hl 1 rfl) ?_
      obtain ⟨b7, h⟩ := h
      refine tqc_iald (jn := p0.toNatClampNeg) hx hb hK hW (by decide) (tq_mk_25 (by decide)) b7 rfl dX11_shares_23 ?_
      refine tqc_callSi (As := [.int p2, .int 1, .int (S4 25 0 p0.toNatClampNeg)]) (rest := []) (kX11_within h) ⟨hx, hb, hml, hown, hts⟩ (va_cwS 3 hts (tq_goodS tw_405 tw_406 tw_115 tw_407) rfl rfl rfl (by decide +kernel) ⟨(Nat.le_of_ble_eq_true rfl), (Nat.le_of_ble_eq_true rfl)⟩) hK hG hW hS rfl hl.1 rfl (Nat.le_of_ble_eq_true rfl) dX11_shares_24 ⟨(Nat.le_of_ble_eq_true rfl), (Nat.le_of_ble_eq_true rfl)⟩ (fun r9 S8 H locs h hW hS => ?_)
      refine lv_if_eq (tgt := 35) hx hb dX11_shares_27 (by decide) (fun c10 => ?_) (fun c10 => ?_)
      · have h := h.1 c10
        exact bX11_shares_35 C  _  _ _ _ h hW hS (lv_sub hl [] rfl)
      · have h := h.2 c10
        refine lv_iload_n hx hb dX11_shares_30 rfl (lv_at hl 1 rfl) ?_
        refine lv_iload_n hx hb dX11_shares_31 rfl (lv_at hl 2 rfl) ?_
        refine lv_icmp_ne (tgt := 38) hx hb dX11_shares_32 (by decide) (fun c11 => ?_) (fun c11 => ?_)
        · have h := h.1 c11
          refine lv_aload_n hx hb dX11_shares_38 rfl (lv_at hl 0 rfl) ?_
          refine tqc_get (v := .ref (ad 25 0)) hx hb hw tq_inX11 hown hK hW (by decide) (tq_mk_1 (by decide)) rfl 14 (by decide) (hw _ tw_351) (fun _ h9 => h9) rfl dX11_shares_39 ?_
          refine lv_iload_n hx hb dX11_shares_42 rfl (lv_at hl 1 rfl) ?_
          refine lv_dup2_11 hx hb dX11_shares_43 rfl rfl ?_
          refine tqc_iald (jn := p0.toNatClampNeg) hx hb hK hW (by decide) (tq_mk_25 (by decide)) b7 rfl dX11_shares_44 ?_
          refine lv_iload_n hx hb dX11_shares_45 rfl (lv_at hl 3 rfl) ?_
          refine lv_isub hx hb dX11_shares_46 ?_
          refine tqc_iast (jn := p0.toNatClampNeg) hx hb hK hW hS (by decide) (tq_mk_25 (by decide)) b7 rfl (tq_mk_25 (by decide)) dX11_shares_47 (fun H locs hW hS => ?_)
          generalize eS12 : tq_up S8 25 0 p0.toNatClampNeg ((S8 25 0 p0.toNatClampNeg) - p2) = S12 at hW
          have h := h S12 eS12.symm
          refine lv_aload_n hx hb dX11_shares_48 rfl (lv_at hl 0 rfl) ?_
          refine tqc_get (v := .ref (ad 25 0)) hx hb hw tq_inX11 hown hK hW (by decide) (tq_mk_1 (by decide)) rfl 14 (by decide) (hw _ tw_351) (fun _ h9 => h9) rfl dX11_shares_49 ?_
          refine lv_iload_n hx hb dX11_shares_52 rfl (lv_at hl 2 rfl) ?_
          refine lv_dup2_11 hx hb dX11_shares_53 rfl rfl ?_
          obtain ⟨b13, h⟩ := h
          refine tqc_iald (jn := p1.toNatClampNeg) hx hb hK hW (by decide) (tq_mk_25 (by decide)) b13 rfl dX11_shares_54 ?_
          refine lv_iload_n hx hb dX11_shares_55 rfl (lv_at hl 3 rfl) ?_
          refine lv_iadd hx hb dX11_shares_56 ?_
          refine tqc_iast (jn := p1.toNatClampNeg) hx hb hK hW hS (by decide) (tq_mk_25 (by decide)) b13 rfl (tq_mk_25 (by decide)) dX11_shares_57 (fun H locs hW hS => ?_)
          generalize eS14 : tq_up S12 25 0 p1.toNatClampNeg ((S12 25 0 p1.toNatClampNeg) + p2) = S14 at hW
          have h := h S14 eS14.symm
          refine lv_aload_n hx hb dX11_shares_58 rfl (lv_at hl 0 rfl) ?_
          refine tqc_get (v := .ref (ad 25 0)) hx hb hw tq_inX11 hown hK hW (by decide) (tq_mk_1 (by decide)) rfl 14 (by decide) (hw _ tw_351) (fun _ h9 => h9) rfl dX11_shares_59 ?_
          refine lv_iload_n hx hb dX11_shares_62 rfl (lv_at hl 2 rfl) ?_
          refine tqc_iald (jn := p1.toNatClampNeg) hx hb hK hW (by decide) (tq_mk_25 (by decide)) b13 rfl dX11_shares_63 ?_
          exact W.iret (v := S14 25 0 p1.toNatClampNeg) hx hb hr (fun t ht hWm => ⟨⟨_, S14, rfl, h, tq_pe ht hW⟩, hS.F ht⟩) hS.2.2 dX11_shares_64
        · have h := h.2 c11
          exact bX11_shares_35 C  _  _ _ _ h hW hS (lv_sub hl [] rfl)
    · have h := h.2 c6
      exact bX11_shares_14 C  _  _ _ _ h hW hS (lv_sub hl [] rfl)
-- X11 gain
def wbX11_gain_99 (N : tq_Nn) (post : tq_St → Int32 → Prop) (L15 : tq_St → Int32 → Int32 → Prop) (S : tq_St) (x1 : Int32) (x2 : Int32) : Prop :=
  L15 S x1 (x2 + 1)
def wbX11_gain_60 (N : tq_Nn) (post : tq_St → Int32 → Prop) (L15 : tq_St → Int32 → Int32 → Prop) (S : tq_St) (x1 : Int32) (x2 : Int32) (x3 : Int32) (y0 : Int32) : Prop :=
  (y0 = 0 → (wbX11_gain_99 N post  L15 S x1 x2)) ∧ (¬ y0 = 0 → (vp_in x3 4000 ∧ (vp_in (x3 + 1) 4000 ∧ (wpX11_invoicedTo N (fun S11 r12 => (r12 < (S 24 0 x3.toNatClampNeg) → (wbX11_gain_99 N post  L15 S11 x1 x2)) ∧ (¬ r12 < (S 24 0 x3.toNatClampNeg) → (vp_in (x3 + 5) 4000 ∧ (wbX11_gain_99 N post  L15 S11 (x1 - (S11 24 0 ((x3 + 5).toNatClampNeg))) x2)))) S (S 24 0 ((x3 + 1).toNatClampNeg))))))
def wbX11_gain_55 (N : tq_Nn) (post : tq_St → Int32 → Prop) (L15 : tq_St → Int32 → Int32 → Prop) (S : tq_St) (x1 : Int32) (x2 : Int32) (x3 : Int32) : Prop :=
  wbX11_gain_60 N post  L15 S x1 x2 x3 1
def wbX11_gain_15 (N : tq_Nn) (post : tq_St → Int32 → Prop) : Nat → tq_St → Int32 → Int32 → Prop
  | 0, _, _, _ => False
  | n + 1, S, x1, x2 =>
    wpX11_entriesKept N (fun S1 r2 => (r2 ≤ x2 → (post S1 x1)) ∧ (¬ r2 ≤ x2 → (vp_in ((x2 * 8) + 2) 4000 ∧ (((S1 24 0 (((x2 * 8) + 2).toNatClampNeg)) = 0 → (wbX11_gain_55 N post  (wbX11_gain_15 N post n) S1 x1 x2 (x2 * 8))) ∧ (¬ (S1 24 0 (((x2 * 8) + 2).toNatClampNeg)) = 0 → (((S1 24 0 (((x2 * 8) + 2).toNatClampNeg)) = 1 → (wbX11_gain_55 N post  (wbX11_gain_15 N post n) S1 x1 x2 (x2 * 8))) ∧ (¬ (S1 24 0 (((x2 * 8) + 2).toNatClampNeg)) = 1 → ((¬ (S1 24 0 (((x2 * 8) + 2).toNatClampNeg)) = 5 → (wbX11_gain_60 N post  (wbX11_gain_15 N post n) S1 x1 x2 (x2 * 8) 0)) ∧ ((S1 24 0 (((x2 * 8) + 2).toNatClampNeg)) = 5 → (wbX11_gain_55 N post  (wbX11_gain_15 N post n) S1 x1 x2 (x2 * 8))))))))))) S 
def wpX11_gain (N : tq_Nn) (post : tq_St → Int32 → Prop) (S : tq_St)  : Prop :=
  ∃ nq, wbX11_gain_15 N post nq S ((S 4 0 4) - (S 1 0 16)) 0
set_option maxHeartbeats 4000000 in
set_option maxRecDepth 100000 in
theorem bX11_gain_99 {p : Program} {e : Env} {s : State} {m : MethodId} {args : Array Value} {below : List Frame} {meth : Method} {c : Code} {post : tq_St → Int32 → Prop} (C : tq_At p s m meth c args cX11_gain 6 ((some .int)) ((tq_ws yX11_gain cX11_gain 6 (some .int))) RX11 D cy z ad) {L15 : tq_St → Int32 → Int32 → Prop} (hL15 : ∀ (S : tq_St) (x1 : Int32) (x2 : Int32) (H : Heap) (locs : List Loc) (ls : Array Slot), L15 S x1 x2 → tq_wd D cy z H0 ad N (tq_mix S M) H → va_S (fun q => z ≤ q) s.heap H locs → lv_has ls 6 [(0, .ref (ad 1 0)), (1, .int x1), (2, .int x2)] → W p l e (tq_rm 2 41) s m args below meth c H locs 0 0 (MQ below (va_Qi (fun r u => post u r) (fun u => tq_P D cy z H0 ad N u M) (fun q => z ≤ q)) args s 0 0 (fun q => z ≤ q)) (F0 m 15 ls [])) : ∀ (S : tq_St) (x1 : Int32) (x2 : Int32) (H : Heap) (locs : List Loc) (ls : Array Slot), wbX11_gain_99 N post  L15 S x1 x2 → tq_wd D cy z H0 ad N (tq_mix S M) H → va_S (fun q => z ≤ q) s.heap H locs → lv_has ls 6 [(0, .ref (ad 1 0)), (1, .int x1), (2, .int x2)] → W p l e (tq_rm 2 41) s m args below meth c H locs 0 0 (MQ below (va_Qi (fun r u => post u r) (fun u => tq_P D cy z H0 ad N u M) (fun q => z ≤ q)) args s 0 0 (fun q => z ≤ q)) (F0 m 99 ls []) := by
  obtain ⟨hx, hb, hr, hml, hown, hts, hlocks, hK, hG⟩ := id C
  have hw : ∀ w ∈ tq_W, w.before args s = true := fun w h => hts w (List.mem_cons_of_mem _ h)
  intro S x1 x2 H locs ls h hW hS hl
  unfold wbX11_gain_99 at h
  refine lv_iinc (v := x2 + 1) (lv' := [(2, .int (x2 + 1)), (0, .ref (ad 1 0)), (1, .int x1)]) hx hb dX11_gain_99 hl (k := 2) rfl rfl (by decide) rfl (fun ls hl => ?_)
  refine lv_goto (tgt := 15) hx hb dX11_gain_102 (by decide) ?_
  exact hL15 _ _ _ _ _ _ h hW hS (lv_sub hl [1, 2, 0] rfl)
set_option maxHeartbeats 4000000 in
set_option maxRecDepth 100000 in
theorem bX11_gain_60 {p : Program} {e : Env} {s : State} {m : MethodId} {args : Array Value} {below : List Frame} {meth : Method} {c : Code} {post : tq_St → Int32 → Prop} (C : tq_At p s m meth c args cX11_gain 6 ((some .int)) ((tq_ws yX11_gain cX11_gain 6 (some .int))) RX11 D cy z ad) {L15 : tq_St → Int32 → Int32 → Prop} (hL15 : ∀ (S : tq_St) (x1 : Int32) (x2 : Int32) (H : Heap) (locs : List Loc) (ls : Array Slot), L15 S x1 x2 → tq_wd D cy z H0 ad N (tq_mix S M) H → va_S (fun q => z ≤ q) s.heap H locs → lv_has ls 6 [(0, .ref (ad 1 0)), (1, .int x1), (2, .int x2)] → W p l e (tq_rm 2 41) s m args below meth c H locs 0 0 (MQ below (va_Qi (fun r u => post u r) (fun u => tq_P D cy z H0 ad N u M) (fun q => z ≤ q)) args s 0 0 (fun q => z ≤ q)) (F0 m 15 ls [])) : ∀ (S : tq_St) (x1 : Int32) (x2 : Int32) (x3 : Int32) (y0 : Int32) (H : Heap) (locs : List Loc) (ls : Array Slot), wbX11_gain_60 N post  L15 S x1 x2 x3 y0 → tq_wd D cy z H0 ad N (tq_mix S M) H → va_S (fun q => z ≤ q) s.heap H locs → lv_has ls 6 [(0, .ref (ad 1 0)), (1, .int x1), (2, .int x2), (3, .int x3)] → W p l e (tq_rm 2 41) s m args below meth c H locs 0 0 (MQ below (va_Qi (fun r u => post u r) (fun u => tq_P D cy z H0 ad N u M) (fun q => z ≤ q)) args s 0 0 (fun q => z ≤ q)) (F0 m 60 ls [.int y0]) := by
  obtain ⟨hx, hb, hr, hml, hown, hts, hlocks, hK, hG⟩ := id C
  have hw : ∀ w ∈ tq_W, w.before args s = true := fun w h => hts w (List.mem_cons_of_mem _ h)
  intro S x1 x2 x3 y0 H locs ls h hW hS hl
  unfold wbX11_gain_60 at h
  refine lv_istore (lv' := [(5, .int y0), (0, .ref (ad 1 0)), (1, .int x1), (2, .int x2), (3, .int x3)]) hx hb dX11_gain_60 hl (by decide) rfl (fun ls hl => ?_)
  refine lv_iload hx hb dX11_gain_62 (lv_at hl 0 rfl) ?_
  refine lv_if_eq (tgt := 99) hx hb dX11_gain_64 (by decide) (fun c8 => ?_) (fun c8 => ?_)
  · have h := h.1 c8
    exact bX11_gain_99 C (fun M9 a09 a19 H9 q9 ls9 h9 hW9 hS9 hl9 => hL15 M9 a09 a19 H9 q9 ls9 h9 hW9 hS9 hl9) _ _ _ _ _ _ h hW hS (lv_sub hl [1, 2, 3] rfl)
  · have h := h.2 c8
    refine lv_aload_n hx hb dX11_gain_67 rfl (lv_at hl 1 rfl) ?_
    refine tqc_get (v := .ref (ad 24 0)) hx hb hw tq_inX11 hown hK hW (by decide) (tq_mk_1 (by decide)) rfl 11 (by decide) (hw _ tw_348) (fun _ h9 => h9) rfl dX11_gain_68 ?_
    refine lv_iload_n hx hb dX11_gain_71 rfl (lv_at hl 4 rfl) ?_
    obtain ⟨b9, h⟩ := h
    refine tqc_iald (jn := x3.toNatClampNeg) hx hb hK hW (by decide) (tq_mk_24 (by decide)) b9 rfl dX11_gain_72 ?_
    refine lv_aload_n hx hb dX11_gain_73 rfl (lv_at hl 1 rfl) ?_
    refine lv_aload_n hx hb dX11_gain_74 rfl (lv_at hl 1 rfl) ?_
    refine tqc_get (v := .ref (ad 24 0)) hx hb hw tq_inX11 hown hK hW (by decide) (tq_mk_1 (by decide)) rfl 11 (by decide) (hw _ tw_348) (fun _ h9 => h9) rfl dX11_gain_75 ?_
    refine lv_iload_n hx hb dX11_gain_78 rfl (lv_at hl 4 rfl) ?_
    refine lv_iconst (v := 1) hx hb dX11_gain_79 (by decide) ?_
    refine lv_iadd hx hb dX11_gain_80 ?_
    obtain ⟨b10, h⟩ := h
    refine tqc_iald (jn := (x3 + 1).toNatClampNeg) hx hb hK hW (by decide) (tq_mk_24 (by decide)) b10 rfl dX11_gain_81 ?_
    refine tqc_callVi (As := [.int (S 24 0 ((x3 + 1).toNatClampNeg))]) (rest := [.int (S 24 0 x3.toNatClampNeg)]) (kX11_invoicedTo h) ⟨hx, hb, hml, hown, hts⟩ (cwV 1 hts (tq_goodV tw_1302 tw_1304 tw_52 tw_115 tw_1305) rfl rfl rfl (by decide +kernel) ⟨(Nat.le_of_ble_eq_true rfl), (Nat.le_of_ble_eq_true rfl)⟩) (tq_recvC hK hW (by decide) (tq_mk_1 (by decide)) rfl) hK hG hW hS rfl hl.1 rfl (Nat.le_of_ble_eq_true rfl) dX11_gain_82 ⟨(Nat.le_of_ble_eq_true rfl), (Nat.le_of_ble_eq_true rfl)⟩ (fun r12 S11 H locs h hW hS => ?_)
    refine lv_icmp_gt (tgt := 99) hx hb dX11_gain_85 (by decide) (fun c13 => ?_) (fun c13 => ?_)
    · have h := h.1 c13
      exact bX11_gain_99 C (fun M9 a09 a19 H9 q9 ls9 h9 hW9 hS9 hl9 => hL15 M9 a09 a19 H9 q9 ls9 h9 hW9 hS9 hl9) _ _ _ _ _ _ h hW hS (lv_sub hl [1, 2, 3] rfl)
    · have h := h.2 c13
      refine lv_iload_n hx hb dX11_gain_88 rfl (lv_at hl 2 rfl) ?_
      refine lv_aload_n hx hb dX11_gain_89 rfl (lv_at hl 1 rfl) ?_
      refine tqc_get (v := .ref (ad 24 0)) hx hb hw tq_inX11 hown hK hW (by decide) (tq_mk_1 (by decide)) rfl 11 (by decide) (hw _ tw_348) (fun _ h9 => h9) rfl dX11_gain_90 ?_
      refine lv_iload_n hx hb dX11_gain_93 rfl (lv_at hl 4 rfl) ?_
      refine lv_iconst (v := 5) hx hb dX11_gain_94 (by decide) ?_
      refine lv_iadd hx hb dX11_gain_95 ?_
      obtain ⟨b14, h⟩ := h
      refine tqc_iald (jn := (x3 + 5).toNatClampNeg) hx hb hK hW (by decide) (tq_mk_24 (by decide)) b14 rfl dX11_gain_96 ?_
      refine lv_isub hx hb dX11_gain_97 ?_
      refine lv_istore_n (lv' := [(1, .int (x1 - (S11 24 0 ((x3 + 5).toNatClampNeg)))), (5, .int y0), (0, .ref (ad 1 0)), (2, .int x2), (3, .int x3)]) hx hb dX11_gain_98 rfl hl (by decide) rfl (fun ls hl => ?_)
      exact bX11_gain_99 C (fun M9 a09 a19 H9 q9 ls9 h9 hW9 hS9 hl9 => hL15 M9 a09 a19 H9 q9 ls9 h9 hW9 hS9 hl9) _ _ _ _ _ _ h hW hS (lv_sub hl [2, 0, 3] rfl)
set_option maxHeartbeats 4000000 in
set_option maxRecDepth 100000 in
theorem bX11_gain_55 {p : Program} {e : Env} {s : State} {m : MethodId} {args : Array Value} {below : List Frame} {meth : Method} {c : Code} {post : tq_St → Int32 → Prop} (C : tq_At p s m meth c args cX11_gain 6 ((some .int)) ((tq_ws yX11_gain cX11_gain 6 (some .int))) RX11 D cy z ad) {L15 : tq_St → Int32 → Int32 → Prop} (hL15 : ∀ (S : tq_St) (x1 : Int32) (x2 : Int32) (H : Heap) (locs : List Loc) (ls : Array Slot), L15 S x1 x2 → tq_wd D cy z H0 ad N (tq_mix S M) H → va_S (fun q => z ≤ q) s.heap H locs → lv_has ls 6 [(0, .ref (ad 1 0)), (1, .int x1), (2, .int x2)] → W p l e (tq_rm 2 41) s m args below meth c H locs 0 0 (MQ below (va_Qi (fun r u => post u r) (fun u => tq_P D cy z H0 ad N u M) (fun q => z ≤ q)) args s 0 0 (fun q => z ≤ q)) (F0 m 15 ls [])) : ∀ (S : tq_St) (x1 : Int32) (x2 : Int32) (x3 : Int32) (H : Heap) (locs : List Loc) (ls : Array Slot), wbX11_gain_55 N post  L15 S x1 x2 x3 → tq_wd D cy z H0 ad N (tq_mix S M) H → va_S (fun q => z ≤ q) s.heap H locs → lv_has ls 6 [(0, .ref (ad 1 0)), (1, .int x1), (2, .int x2), (3, .int x3)] → W p l e (tq_rm 2 41) s m args below meth c H locs 0 0 (MQ below (va_Qi (fun r u => post u r) (fun u => tq_P D cy z H0 ad N u M) (fun q => z ≤ q)) args s 0 0 (fun q => z ≤ q)) (F0 m 55 ls []) := by
  obtain ⟨hx, hb, hr, hml, hown, hts, hlocks, hK, hG⟩ := id C
  have hw : ∀ w ∈ tq_W, w.before args s = true := fun w h => hts w (List.mem_cons_of_mem _ h)
  intro S x1 x2 x3 H locs ls h hW hS hl
  unfold wbX11_gain_55 at h
  refine lv_iconst (v := 1) hx hb dX11_gain_55 (by decide) ?_
  refine lv_goto (tgt := 60) hx hb dX11_gain_56 (by decide) ?_
  exact bX11_gain_60 C (fun M9 a09 a19 H9 q9 ls9 h9 hW9 hS9 hl9 => hL15 M9 a09 a19 H9 q9 ls9 h9 hW9 hS9 hl9) _ _ _ _ _ _ _ _ h hW hS (lv_sub hl [0, 1, 2, 3] rfl)
set_option maxHeartbeats 4000000 in
set_option maxRecDepth 100000 in
theorem bX11_gain_15 {p : Program} {e : Env} {s : State} {m : MethodId} {args : Array Value} {below : List Frame} {meth : Method} {c : Code} {post : tq_St → Int32 → Prop} (C : tq_At p s m meth c args cX11_gain 6 ((some .int)) ((tq_ws yX11_gain cX11_gain 6 (some .int))) RX11 D cy z ad)  : ∀ n : Nat, ∀ (S : tq_St) (x1 : Int32) (x2 : Int32) (H : Heap) (locs : List Loc) (ls : Array Slot), wbX11_gain_15 N post   n S x1 x2 → tq_wd D cy z H0 ad N (tq_mix S M) H → va_S (fun q => z ≤ q) s.heap H locs → lv_has ls 6 [(0, .ref (ad 1 0)), (1, .int x1), (2, .int x2)] → W p l e (tq_rm 2 41) s m args below meth c H locs 0 0 (MQ below (va_Qi (fun r u => post u r) (fun u => tq_P D cy z H0 ad N u M) (fun q => z ≤ q)) args s 0 0 (fun q => z ≤ q)) (F0 m 15 ls []) := by
  obtain ⟨hx, hb, hr, hml, hown, hts, hlocks, hK, hG⟩ := id C
  have hw : ∀ w ∈ tq_W, w.before args s = true := fun w h => hts w (List.mem_cons_of_mem _ h)
  intro n
  induction n with
  | zero =>
    intro S x1 x2 H locs ls h
    exact absurd h (by unfold wbX11_gain_15; exact id)
  | succ n ih =>
    intro S x1 x2 H locs ls h hW hS hl
    unfold wbX11_gain_15 at h
    refine lv_iload_n hx hb dX11_gain_15 rfl (lv_at hl 2 rfl) ?_
    refine lv_aload_n hx hb dX11_gain_16 rfl (lv_at hl 0 rfl) ?_
    refine tqc_callVi (As := []) (rest := [.int x2]) (kX11_entriesKept h) ⟨hx, hb, hml, hown, hts⟩ (cwV 0 hts (tq_goodV tw_1220 tw_1222 tw_46 tw_115 tw_1223) rfl rfl rfl (by decide +kernel) ⟨(Nat.le_of_ble_eq_true rfl), (Nat.le_of_ble_eq_true rfl)⟩) (tq_recvC hK hW (by decide) (tq_mk_1 (by decide)) rfl) hK hG hW hS rfl hl.1 rfl (Nat.le_of_ble_eq_true rfl) dX11_gain_17 ⟨(Nat.le_of_ble_eq_true rfl), (Nat.le_of_ble_eq_true rfl)⟩ (fun r2 S1 H locs h hW hS => ?_)
    refine lv_icmp_ge (tgt := 105) hx hb dX11_gain_20 (by decide) (fun c3 => ?_) (fun c3 => ?_)
    · have h := h.1 c3
      refine lv_iload_n hx hb dX11_gain_105 rfl (lv_at hl 1 rfl) ?_
      exact W.iret (v := x1) hx hb hr (fun t ht hWm => ⟨⟨_, S1, rfl, h, tq_pe ht hW⟩, hS.F ht⟩) hS.2.2 dX11_gain_106
    · have h := h.2 c3
      refine lv_iload_n hx hb dX11_gain_23 rfl (lv_at hl 2 rfl) ?_
      refine lv_bipush (v := 8) hx hb dX11_gain_24 (by decide) ?_
      refine lv_imul hx hb dX11_gain_26 ?_
      refine lv_istore_n (lv' := [(3, .int (x2 * 8)), (0, .ref (ad 1 0)), (1, .int x1), (2, .int x2)]) hx hb dX11_gain_27 rfl hl (by decide) rfl (fun ls hl => ?_)
      refine lv_aload_n hx hb dX11_gain_28 rfl (lv_at hl 1 rfl) ?_
      refine tqc_get (v := .ref (ad 24 0)) hx hb hw tq_inX11 hown hK hW (by decide) (tq_mk_1 (by decide)) rfl 11 (by decide) (hw _ tw_348) (fun _ h9 => h9) rfl dX11_gain_29 ?_
      refine lv_iload_n hx hb dX11_gain_32 rfl (lv_at hl 0 rfl) ?_
      refine lv_iconst (v := 2) hx hb dX11_gain_33 (by decide) ?_
      refine lv_iadd hx hb dX11_gain_34 ?_
      obtain ⟨b4, h⟩ := h
      refine tqc_iald (jn := ((x2 * 8) + 2).toNatClampNeg) hx hb hK hW (by decide) (tq_mk_24 (by decide)) b4 rfl dX11_gain_35 ?_
      refine lv_istore (lv' := [(4, .int (S1 24 0 (((x2 * 8) + 2).toNatClampNeg))), (3, .int (x2 * 8)), (0, .ref (ad 1 0)), (1, .int x1), (2, .int x2)]) hx hb dX11_gain_36 hl (by decide) rfl (fun ls hl => ?_)
      refine lv_iload hx hb dX11_gain_38 (lv_at hl 0 rfl) ?_
      refine lv_if_eq (tgt := 55) hx hb dX11_gain_40 (by decide) (fun c5 => ?_) (fun c5 => ?_)
      · have h := h.1 c5
        exact bX11_gain_55 C (fun M9 a09 a19 H9 q9 ls9 h9 hW9 hS9 hl9 => ih M9 a09 a19 H9 q9 ls9 h9 hW9 hS9 hl9) _ _ _ _ _ _ _ h hW hS (lv_sub hl [2, 3, 4, 1] rfl)
      · have h := h.2 c5
        refine lv_iload hx hb dX11_gain_43 (lv_at hl 0 rfl) ?_
        refine lv_iconst (v := 1) hx hb dX11_gain_45 (by decide) ?_
        refine lv_icmp_eq (tgt := 55) hx hb dX11_gain_46 (by decide) (fun c6 => ?_) (fun c6 => ?_)
        · have h := h.1 c6
          exact bX11_gain_55 C (fun M9 a09 a19 H9 q9 ls9 h9 hW9 hS9 hl9 => ih M9 a09 a19 H9 q9 ls9 h9 hW9 hS9 hl9) _ _ _ _ _ _ _ h hW hS (lv_sub hl [2, 3, 4, 1] rfl)
        · have h := h.2 c6
          refine lv_iload hx hb dX11_gain_49 (lv_at hl 0 rfl) ?_
          refine lv_iconst (v := 5) hx hb dX11_gain_51 (by decide) ?_
          refine lv_icmp_ne (tgt := 59) hx hb dX11_gain_52 (by decide) (fun c7 => ?_) (fun c7 => ?_)
          · have h := h.1 c7
            refine lv_iconst (v := 0) hx hb dX11_gain_59 (by decide) ?_
            exact bX11_gain_60 C (fun M9 a09 a19 H9 q9 ls9 h9 hW9 hS9 hl9 => ih M9 a09 a19 H9 q9 ls9 h9 hW9 hS9 hl9) _ _ _ _ _ _ _ _ h hW hS (lv_sub hl [2, 3, 4, 1] rfl)
          · have h := h.2 c7
            exact bX11_gain_55 C (fun M9 a09 a19 H9 q9 ls9 h9 hW9 hS9 hl9 => ih M9 a09 a19 H9 q9 ls9 h9 hW9 hS9 hl9) _ _ _ _ _ _ _ h hW hS (lv_sub hl [2, 3, 4, 1] rfl)
set_option maxHeartbeats 4000000 in
set_option maxRecDepth 100000 in
theorem kX11_gain {post : tq_St → Int32 → Prop} {S : tq_St}  (h : wpX11_gain N post S ) : tq_sI l yX11_gain (tq_ws yX11_gain cX11_gain 6 (some .int)) 2 41 D cy z H0 ad N M S [.ref (ad 1 0)] post := by
  unfold wpX11_gain at h
  refine Met.ofW (cc := cX11_gain) (maxL := 6) (ret := (some .int)) (by decide) rfl ?_
  intro p e s m args below meth c s₁ B hml hv
  obtain ⟨rfl, hW, hK, hG⟩ := hv
  have hx := B.exec
  have hb := B.bytes
  have hr := B.returns
  have hts := atoms_spec (ws := (tq_ws yX11_gain cX11_gain 6 (some .int))) B.pre
  have hw : ∀ w ∈ tq_W, w.before _ s = true := fun w h => hts w (List.mem_cons_of_mem _ h)
  have hown : s.vm.findClass RX11 = some m.cls := findClass_of_methodNamed B.named
  have hlocks := B.notSynchronized
  have C : tq_At p s m meth c [.ref (ad 1 0)].toArray cX11_gain 6 ((some .int)) ((tq_ws yX11_gain cX11_gain 6 (some .int))) RX11 D cy z ad := ⟨hx, hb, hr, hml, hown, hts, hlocks, hK, hG⟩
  have hS : va_S (fun q => z ≤ q) s.heap s.heap [] := va_S.rf
  have hl := lv_entry ([.ref (ad 1 0)]) (n := 6) (Nat.le_of_ble_eq_true rfl)
  rw [lg_entry_eq]
  generalize (lg_sl ([.ref (ad 1 0)]) ++ List.replicate (6 - (lg_sl ([.ref (ad 1 0)])).length) Slot.unset).toArray = ls at hl ⊢
  have hl : lv_has ls 6 [(0, .ref (ad 1 0))] := hl
  have hW : tq_wd D cy z H0 ad N (tq_mix S M) s.heap := hW
  refine lv_aload_n hx hb dX11_gain_0 rfl (lv_at hl 0 rfl) ?_
  refine tqc_get (v := .ref (ad 4 0)) hx hb hw tq_inX11 hown hK hW (by decide) (tq_mk_1 (by decide)) rfl 13 (by decide) (hw _ tw_350) (fun _ h9 => h9) rfl dX11_gain_1 ?_
  refine tqc_get (v := .int (S 4 0 4)) hx hb hw tq_inX2 hown hK hW (by decide) (tq_mk_4 (by decide)) rfl 4 (by decide) (hw _ tw_214) (fun _ h9 => h9) rfl dX11_gain_4 ?_
  refine lv_aload_n hx hb dX11_gain_7 rfl (lv_at hl 0 rfl) ?_
  refine tqc_get (v := .int (S 1 0 16)) hx hb hw tq_inX11 hown hK hW (by decide) (tq_mk_1 (by decide)) rfl 16 (by decide) (hw _ tw_353) (fun _ h9 => h9) rfl dX11_gain_8 ?_
  refine lv_isub hx hb dX11_gain_11 ?_
  refine lv_istore_n (lv' := [(1, .int ((S 4 0 4) - (S 1 0 16))), (0, .ref (ad 1 0))]) hx hb dX11_gain_12 rfl hl (by decide) rfl (fun ls hl => ?_)
  refine lv_iconst (v := 0) hx hb dX11_gain_13 (by decide) ?_
  refine lv_istore_n (lv' := [(2, .int 0), (1, .int ((S 4 0 4) - (S 1 0 16))), (0, .ref (ad 1 0))]) hx hb dX11_gain_14 rfl hl (by decide) rfl (fun ls hl => ?_)
  obtain ⟨nq, h⟩ := h
  exact bX11_gain_15 C  nq _ _ _ _ _ _ h hW hS (lv_sub hl [2, 1, 0] rfl)
