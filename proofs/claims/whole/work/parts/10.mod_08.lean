variable {l : Launch} {D : va_G} {cy : Nat → ClassId} {z : Nat} {H0 : Heap} {ad : Nat → Nat → Nat} {N : tq_Nn} {S : tq_St}
-- one
def wbX12_one_128 (post : tq_St → Int32 → Prop)  (M : tq_St) (y0 : Int32) : Prop :=
  narrow .boolean (.int y0) = .int y0 ∧ post M y0
def wbX12_one_120 (post : tq_St → Int32 → Prop)  (M : tq_St) (y0 : Int32) (y1 : Int32) : Prop :=
  (y1 = y0 → (wbX12_one_128 post M 0)) ∧ (¬ y1 = y0 → (wbX12_one_128 post M 1))
def wbX12_one_103 (post : tq_St → Int32 → Prop)  (M : tq_St) (x3 : Int32) (x4 : Nat) (y0 : Int32) : Prop :=
  vp_in x3 144 ∧ x4 < 150 ∧ ((¬ (M 119 x4 x3.toNatClampNeg) = 1 → (wbX12_one_120 post M 0 y0)) ∧ ((M 119 x4 x3.toNatClampNeg) = 1 → (wbX12_one_120 post M 1 y0)))
def wpX12_one (post : tq_St → Int32 → Prop) (M : tq_St) (p0 : Int32) (p1 : Int32) (p2 : Int32) : Prop :=
  vp_in p1 150 ∧ (vp_in (p2 + 1) 144 ∧ (vp_in (p2 + 2) 144 ∧ (wpX12_fieldOf (fun M4 r5 => vp_in (p2 + 3) 144 ∧ ((¬ (M4 119 p1.toNatClampNeg ((p2 + 3).toNatClampNeg)) = 60 → ((¬ (M4 119 p1.toNatClampNeg ((p2 + 3).toNatClampNeg)) = 61 → (vp_in (p2 + 4) 144 ∧ ((r5 ≤ (M4 119 p1.toNatClampNeg ((p2 + 4).toNatClampNeg)) → (wbX12_one_103 post M4 p2 p1.toNatClampNeg 0)) ∧ (¬ r5 ≤ (M4 119 p1.toNatClampNeg ((p2 + 4).toNatClampNeg)) → (wbX12_one_103 post M4 p2 p1.toNatClampNeg 1))))) ∧ ((M4 119 p1.toNatClampNeg ((p2 + 3).toNatClampNeg)) = 61 → (vp_in (p2 + 4) 144 ∧ ((¬ r5 = (M4 119 p1.toNatClampNeg ((p2 + 4).toNatClampNeg)) → (wbX12_one_103 post M4 p2 p1.toNatClampNeg 0)) ∧ (r5 = (M4 119 p1.toNatClampNeg ((p2 + 4).toNatClampNeg)) → (wbX12_one_103 post M4 p2 p1.toNatClampNeg 1))))))) ∧ ((M4 119 p1.toNatClampNeg ((p2 + 3).toNatClampNeg)) = 60 → (vp_in (p2 + 4) 144 ∧ (((M4 119 p1.toNatClampNeg ((p2 + 4).toNatClampNeg)) ≤ r5 → (wbX12_one_103 post M4 p2 p1.toNatClampNeg 0)) ∧ (¬ (M4 119 p1.toNatClampNeg ((p2 + 4).toNatClampNeg)) ≤ r5 → (wbX12_one_103 post M4 p2 p1.toNatClampNeg 1))))))) M p0 (M 119 p1.toNatClampNeg ((p2 + 1).toNatClampNeg)) (M 119 p1.toNatClampNeg ((p2 + 2).toNatClampNeg)))))
set_option maxHeartbeats 4000000 in
set_option maxRecDepth 100000 in
theorem bX12_one_128 {p : Program} {e : Env} {s : State} {m : MethodId} {args : Array Value} {below : List Frame} {meth : Method} {c : Code} {post : tq_St → Int32 → Prop} (C : tq_At p s m meth c args cX12_one 7 ((some .boolean)) ((tq_ws yX12_one cX12_one 7 (some .boolean))) RX12 D cy z ad)  : ∀ (M : tq_St) (y0 : Int32) (H : Heap) (locs : List Loc) (ls : Array Slot), wbX12_one_128 post   M y0 → tq_wd D cy z H0 ad N (tq_mix S M) H → va_S (fun q => z ≤ q) s.heap H locs → lv_has ls 7 [] → W p l e (tq_rm 2 47) s m args below meth c H locs 0 0 (MQ below (va_Qi (fun r u => post u r) (tq_P D cy z H0 ad N S) (fun q => z ≤ q)) args s 0 0 (fun q => z ≤ q)) (F0 m 128 ls [.int y0]) := by
  obtain ⟨hx, hb, hr, hml, hown, hts, hlocks, hK, hG⟩ := id C
  have hw : ∀ w ∈ tq_W, w.before args s = true := fun w h => hts w (List.mem_cons_of_mem _ h)
  intro M y0 H locs ls h hW hS hl
  unfold wbX12_one_128 at h
  obtain ⟨b19, h⟩ := h
  exact W.zret (v := y0) hx hb hr b19 (fun t ht hWm => ⟨⟨_, M, rfl, h, tq_pe ht hW⟩, hS.F ht⟩) hS.2.2 dX12_one_128
set_option maxHeartbeats 4000000 in
set_option maxRecDepth 100000 in
theorem bX12_one_120 {p : Program} {e : Env} {s : State} {m : MethodId} {args : Array Value} {below : List Frame} {meth : Method} {c : Code} {post : tq_St → Int32 → Prop} (C : tq_At p s m meth c args cX12_one 7 ((some .boolean)) ((tq_ws yX12_one cX12_one 7 (some .boolean))) RX12 D cy z ad)  : ∀ (M : tq_St) (y0 : Int32) (y1 : Int32) (H : Heap) (locs : List Loc) (ls : Array Slot), wbX12_one_120 post   M y0 y1 → tq_wd D cy z H0 ad N (tq_mix S M) H → va_S (fun q => z ≤ q) s.heap H locs → lv_has ls 7 [] → W p l e (tq_rm 2 47) s m args below meth c H locs 0 0 (MQ below (va_Qi (fun r u => post u r) (tq_P D cy z H0 ad N S) (fun q => z ≤ q)) args s 0 0 (fun q => z ≤ q)) (F0 m 120 ls [.int y0, .int y1]) := by
  obtain ⟨hx, hb, hr, hml, hown, hts, hlocks, hK, hG⟩ := id C
  have hw : ∀ w ∈ tq_W, w.before args s = true := fun w h => hts w (List.mem_cons_of_mem _ h)
  intro M y0 y1 H locs ls h hW hS hl
  unfold wbX12_one_120 at h
  refine lv_icmp_eq (tgt := 127) hx hb dX12_one_120 (by decide) (fun c18 => ?_) (fun c18 => ?_)
  · have h := h.1 c18
    refine lv_iconst (v := 0) hx hb dX12_one_127 (by decide) ?_
    exact bX12_one_128 C  _ _ _ _ _ h hW hS (lv_sub hl [] rfl)
  · have h := h.2 c18
    refine lv_iconst (v := 1) hx hb dX12_one_123 (by decide) ?_
    refine lv_goto (tgt := 128) hx hb dX12_one_124 (by decide) ?_
    exact bX12_one_128 C  _ _ _ _ _ h hW hS (lv_sub hl [] rfl)
set_option maxHeartbeats 4000000 in
set_option maxRecDepth 100000 in
theorem bX12_one_103 {p : Program} {e : Env} {s : State} {m : MethodId} {args : Array Value} {below : List Frame} {meth : Method} {c : Code} {post : tq_St → Int32 → Prop} (C : tq_At p s m meth c args cX12_one 7 ((some .boolean)) ((tq_ws yX12_one cX12_one 7 (some .boolean))) RX12 D cy z ad)  : ∀ (M : tq_St) (x3 : Int32) (x4 : Nat) (y0 : Int32) (H : Heap) (locs : List Loc) (ls : Array Slot), wbX12_one_103 post   M x3 x4 y0 → tq_wd D cy z H0 ad N (tq_mix S M) H → va_S (fun q => z ≤ q) s.heap H locs → lv_has ls 7 [(3, .int x3), (4, .ref (ad 119 x4))] → W p l e (tq_rm 2 47) s m args below meth c H locs 0 0 (MQ below (va_Qi (fun r u => post u r) (tq_P D cy z H0 ad N S) (fun q => z ≤ q)) args s 0 0 (fun q => z ≤ q)) (F0 m 103 ls [.int y0]) := by
  obtain ⟨hx, hb, hr, hml, hown, hts, hlocks, hK, hG⟩ := id C
  have hw : ∀ w ∈ tq_W, w.before args s = true := fun w h => hts w (List.mem_cons_of_mem _ h)
  intro M x3 x4 y0 H locs ls h hW hS hl
  unfold wbX12_one_103 at h
  refine lv_istore (lv' := [(6, .int y0), (3, .int x3), (4, .ref (ad 119 x4))]) hx hb dX12_one_103 hl (by decide) rfl (fun ls hl => ?_)
  refine lv_iload hx hb dX12_one_105 (lv_at hl 0 rfl) ?_
  refine lv_aload hx hb dX12_one_107 (lv_at hl 2 rfl) ?_
  refine lv_iload_n hx hb dX12_one_109 rfl (lv_at hl 1 rfl) ?_
  obtain ⟨b15, h⟩ := h
  obtain ⟨b16, h⟩ := h
  refine tqm_iald (jn := x3.toNatClampNeg) hx hb hK hW (by decide) (tq_mk_119 b16) b15 rfl dX12_one_110 ?_
  refine lv_iconst (v := 1) hx hb dX12_one_111 (by decide) ?_
  refine lv_icmp_ne (tgt := 119) hx hb dX12_one_112 (by decide) (fun c17 => ?_) (fun c17 => ?_)
  · have h := h.1 c17
    refine lv_iconst (v := 0) hx hb dX12_one_119 (by decide) ?_
    exact bX12_one_120 C  _ _ _ _ _ _ h hW hS (lv_sub hl [] rfl)
  · have h := h.2 c17
    refine lv_iconst (v := 1) hx hb dX12_one_115 (by decide) ?_
    refine lv_goto (tgt := 120) hx hb dX12_one_116 (by decide) ?_
    exact bX12_one_120 C  _ _ _ _ _ _ h hW hS (lv_sub hl [] rfl)
set_option maxHeartbeats 4000000 in
set_option maxRecDepth 100000 in
theorem kX12_one {post : tq_St → Int32 → Prop} {M : tq_St} {p0 : Int32} {p1 : Int32} {p2 : Int32} (h : wpX12_one post M p0 p1 p2) : tq_mI l yX12_one (tq_ws yX12_one cX12_one 7 (some .boolean)) 2 47 D cy z H0 ad N S M [.ref (ad 64 0), .int p0, .int p1, .int p2] post := by
  unfold wpX12_one at h
  refine Met.ofW (cc := cX12_one) (maxL := 7) (ret := (some .boolean)) (by decide) rfl ?_
  intro p e s m args below meth c s₁ B hml hv
  obtain ⟨rfl, hW, hK, hG⟩ := hv
  have hx := B.exec
  have hb := B.bytes
  have hr := B.returns
  have hts := atoms_spec (ws := (tq_ws yX12_one cX12_one 7 (some .boolean))) B.pre
  have hw : ∀ w ∈ tq_W, w.before _ s = true := fun w h => hts w (List.mem_cons_of_mem _ h)
  have hown : s.vm.findClass RX12 = some m.cls := findClass_of_methodNamed B.named
  have hlocks := B.notSynchronized
  have C : tq_At p s m meth c [.ref (ad 64 0), .int p0, .int p1, .int p2].toArray cX12_one 7 ((some .boolean)) ((tq_ws yX12_one cX12_one 7 (some .boolean))) RX12 D cy z ad := ⟨hx, hb, hr, hml, hown, hts, hlocks, hK, hG⟩
  have hS : va_S (fun q => z ≤ q) s.heap s.heap [] := va_S.rf
  have hl := lv_entry ([.ref (ad 64 0), .int p0, .int p1, .int p2]) (n := 7) (Nat.le_of_ble_eq_true rfl)
  rw [lg_entry_eq]
  generalize (lg_sl ([.ref (ad 64 0), .int p0, .int p1, .int p2]) ++ List.replicate (7 - (lg_sl ([.ref (ad 64 0), .int p0, .int p1, .int p2])).length) Slot.unset).toArray = ls at hl ⊢
  have hl : lv_has ls 7 [(0, .ref (ad 64 0)), (1, .int p0), (2, .int p1), (3, .int p2)] := hl
  have hW : tq_wd D cy z H0 ad N (tq_mix S M) s.heap := hW
  refine lv_aload_n hx hb dX12_one_0 rfl (lv_at hl 0 rfl) ?_
  refine tqm_get (v := .ref (ad 219 0)) hx hb hw tq_inX12 hown hK hW (by decide) (tq_mk_64 (by decide)) rfl 19 (by decide) (hw _ tw_1427) (fun _ h9 => h9) rfl dX12_one_1 ?_
  refine lv_iload_n hx hb dX12_one_4 rfl (lv_at hl 2 rfl) ?_
  obtain ⟨b1, h⟩ := h
  refine tqm_aald (jn := p1.toNatClampNeg) (v := .ref (ad 119 p1.toNatClampNeg)) hx hb hK hW (by decide) (tq_mk_219 (by decide)) 2 rfl rfl b1 rfl rfl dX12_one_5 ?_
  refine lv_astore (lv' := [(4, .ref (ad 119 p1.toNatClampNeg)), (0, .ref (ad 64 0)), (1, .int p0), (2, .int p1), (3, .int p2)]) hx hb dX12_one_6 hl (by decide) rfl (fun ls hl => ?_)
  refine lv_aload_n hx hb dX12_one_8 rfl (lv_at hl 1 rfl) ?_
  refine lv_iload_n hx hb dX12_one_9 rfl (lv_at hl 2 rfl) ?_
  refine lv_aload hx hb dX12_one_10 (lv_at hl 0 rfl) ?_
  refine lv_iload_n hx hb dX12_one_12 rfl (lv_at hl 4 rfl) ?_
  refine lv_iconst (v := 1) hx hb dX12_one_13 (by decide) ?_
  refine lv_iadd hx hb dX12_one_14 ?_
  obtain ⟨b2, h⟩ := h
  refine tqm_iald (jn := (p2 + 1).toNatClampNeg) hx hb hK hW (by decide) (tq_mk_119 (tq_lt b1)) b2 rfl dX12_one_15 ?_
  refine lv_aload hx hb dX12_one_16 (lv_at hl 0 rfl) ?_
  refine lv_iload_n hx hb dX12_one_18 rfl (lv_at hl 4 rfl) ?_
  refine lv_iconst (v := 2) hx hb dX12_one_19 (by decide) ?_
  refine lv_iadd hx hb dX12_one_20 ?_
  obtain ⟨b3, h⟩ := h
  refine tqm_iald (jn := (p2 + 2).toNatClampNeg) hx hb hK hW (by decide) (tq_mk_119 (tq_lt b1)) b3 rfl dX12_one_21 ?_
  refine tq_callVi (As := [.int p0, .int (M 119 p1.toNatClampNeg ((p2 + 1).toNatClampNeg)), .int (M 119 p1.toNatClampNeg ((p2 + 2).toNatClampNeg))]) (rest := []) (kX12_fieldOf h) ⟨hx, hb, hml, hown, hts⟩ (cwV 3 hts (tq_goodV tw_1836 tw_1838 tw_79 tw_125 tw_1839) rfl rfl rfl (by decide +kernel) ⟨Nat.le_of_ble_eq_true rfl, Nat.le_of_ble_eq_true rfl⟩) hK hG hW hS rfl hl.1 rfl (Nat.le_of_ble_eq_true rfl) dX12_one_22 ⟨Nat.le_of_ble_eq_true rfl, Nat.le_of_ble_eq_true rfl⟩ (fun r5 M4 H locs h hW hS => ?_)
  refine lv_istore (lv' := [(5, .int r5), (4, .ref (ad 119 p1.toNatClampNeg)), (0, .ref (ad 64 0)), (1, .int p0), (2, .int p1), (3, .int p2)]) hx hb dX12_one_25 hl (by decide) rfl (fun ls hl => ?_)
  refine lv_aload hx hb dX12_one_27 (lv_at hl 1 rfl) ?_
  refine lv_iload_n hx hb dX12_one_29 rfl (lv_at hl 5 rfl) ?_
  refine lv_iconst (v := 3) hx hb dX12_one_30 (by decide) ?_
  refine lv_iadd hx hb dX12_one_31 ?_
  obtain ⟨b6, h⟩ := h
  refine tqm_iald (jn := (p2 + 3).toNatClampNeg) hx hb hK hW (by decide) (tq_mk_119 (tq_lt b1)) b6 rfl dX12_one_32 ?_
  refine lv_bipush (v := 60) hx hb dX12_one_33 (by decide) ?_
  refine lv_icmp_ne (tgt := 57) hx hb dX12_one_35 (by decide) (fun c7 => ?_) (fun c7 => ?_)
  · have h := h.1 c7
    refine lv_aload hx hb dX12_one_57 (lv_at hl 1 rfl) ?_
    refine lv_iload_n hx hb dX12_one_59 rfl (lv_at hl 5 rfl) ?_
    refine lv_iconst (v := 3) hx hb dX12_one_60 (by decide) ?_
    refine lv_iadd hx hb dX12_one_61 ?_
    refine tqm_iald (jn := (p2 + 3).toNatClampNeg) hx hb hK hW (by decide) (tq_mk_119 (tq_lt b1)) b6 rfl dX12_one_62 ?_
    refine lv_bipush (v := 61) hx hb dX12_one_63 (by decide) ?_
    refine lv_icmp_ne (tgt := 87) hx hb dX12_one_65 (by decide) (fun c8 => ?_) (fun c8 => ?_)
    · have h := h.1 c8
      refine lv_iload hx hb dX12_one_87 (lv_at hl 0 rfl) ?_
      refine lv_aload hx hb dX12_one_89 (lv_at hl 1 rfl) ?_
      refine lv_iload_n hx hb dX12_one_91 rfl (lv_at hl 5 rfl) ?_
      refine lv_iconst (v := 4) hx hb dX12_one_92 (by decide) ?_
      refine lv_iadd hx hb dX12_one_93 ?_
      obtain ⟨b9, h⟩ := h
      refine tqm_iald (jn := (p2 + 4).toNatClampNeg) hx hb hK hW (by decide) (tq_mk_119 (tq_lt b1)) b9 rfl dX12_one_94 ?_
      refine lv_icmp_le (tgt := 102) hx hb dX12_one_95 (by decide) (fun c10 => ?_) (fun c10 => ?_)
      · have h := h.1 c10
        refine lv_iconst (v := 0) hx hb dX12_one_102 (by decide) ?_
        exact bX12_one_103 C  _ _ _ _ _ _ _ h hW hS (lv_sub hl [5, 1] rfl)
      · have h := h.2 c10
        refine lv_iconst (v := 1) hx hb dX12_one_98 (by decide) ?_
        refine lv_goto (tgt := 103) hx hb dX12_one_99 (by decide) ?_
        exact bX12_one_103 C  _ _ _ _ _ _ _ h hW hS (lv_sub hl [5, 1] rfl)
    · have h := h.2 c8
      refine lv_iload hx hb dX12_one_68 (lv_at hl 0 rfl) ?_
      refine lv_aload hx hb dX12_one_70 (lv_at hl 1 rfl) ?_
      refine lv_iload_n hx hb dX12_one_72 rfl (lv_at hl 5 rfl) ?_
      refine lv_iconst (v := 4) hx hb dX12_one_73 (by decide) ?_
      refine lv_iadd hx hb dX12_one_74 ?_
      obtain ⟨b11, h⟩ := h
      refine tqm_iald (jn := (p2 + 4).toNatClampNeg) hx hb hK hW (by decide) (tq_mk_119 (tq_lt b1)) b11 rfl dX12_one_75 ?_
      refine lv_icmp_ne (tgt := 83) hx hb dX12_one_76 (by decide) (fun c12 => ?_) (fun c12 => ?_)
      · have h := h.1 c12
        refine lv_iconst (v := 0) hx hb dX12_one_83 (by decide) ?_
        refine lv_goto (tgt := 103) hx hb dX12_one_84 (by decide) ?_
        exact bX12_one_103 C  _ _ _ _ _ _ _ h hW hS (lv_sub hl [5, 1] rfl)
      · have h := h.2 c12
        refine lv_iconst (v := 1) hx hb dX12_one_79 (by decide) ?_
        refine lv_goto (tgt := 103) hx hb dX12_one_80 (by decide) ?_
        exact bX12_one_103 C  _ _ _ _ _ _ _ h hW hS (lv_sub hl [5, 1] rfl)
  · have h := h.2 c7
    refine lv_iload hx hb dX12_one_38 (lv_at hl 0 rfl) ?_
    refine lv_aload hx hb dX12_one_40 (lv_at hl 1 rfl) ?_
    refine lv_iload_n hx hb dX12_one_42 rfl (lv_at hl 5 rfl) ?_
    refine lv_iconst (v := 4) hx hb dX12_one_43 (by decide) ?_
    refine lv_iadd hx hb dX12_one_44 ?_
    obtain ⟨b13, h⟩ := h
    refine tqm_iald (jn := (p2 + 4).toNatClampNeg) hx hb hK hW (by decide) (tq_mk_119 (tq_lt b1)) b13 rfl dX12_one_45 ?_
    refine lv_icmp_ge (tgt := 53) hx hb dX12_one_46 (by decide) (fun c14 => ?_) (fun c14 => ?_)
    · have h := h.1 c14
      refine lv_iconst (v := 0) hx hb dX12_one_53 (by decide) ?_
      refine lv_goto (tgt := 103) hx hb dX12_one_54 (by decide) ?_
      exact bX12_one_103 C  _ _ _ _ _ _ _ h hW hS (lv_sub hl [5, 1] rfl)
    · have h := h.2 c14
      refine lv_iconst (v := 1) hx hb dX12_one_49 (by decide) ?_
      refine lv_goto (tgt := 103) hx hb dX12_one_50 (by decide) ?_
      exact bX12_one_103 C  _ _ _ _ _ _ _ h hW hS (lv_sub hl [5, 1] rfl)
-- hold
def wbX12_hold_70 (post : tq_St → Int32 → Prop) (L30 : tq_St → Int32 → Int32 → Int32 → Int32 → Int32 → Int32 → Int32 → Prop) (M : tq_St) (x1 : Int32) (x2 : Int32) (x3 : Int32) (x4 : Int32) (x5 : Int32) (x6 : Int32) (x7 : Int32) : Prop :=
  wpX12_one (fun M9 r10 => L30 M9 x1 x2 x3 x4 x5 (x6 &&& r10) (x7 + 1)) M x1 x2 ((24 * x3) + (6 * x7))
def wbX12_hold_30 (post : tq_St → Int32 → Prop) : Nat → tq_St → Int32 → Int32 → Int32 → Int32 → Int32 → Int32 → Int32 → Prop
  | 0, _, _, _, _, _, _, _, _ => False
  | n + 1, M, x1, x2, x3, x4, x5, x6, x7 =>
    (x4 ≤ x7 → (narrow .boolean (.int (x5 ||| x6)) = .int (x5 ||| x6) ∧ post M (x5 ||| x6))) ∧ (¬ x4 ≤ x7 → (vp_in x2 150 ∧ (vp_in (((24 * x3) + (6 * x7)) + 5) 144 ∧ ((¬ (M 119 x2.toNatClampNeg ((((24 * x3) + (6 * x7)) + 5).toNatClampNeg)) = 1 → (wbX12_hold_70 post  (wbX12_hold_30 post n) M x1 x2 x3 x4 x5 x6 x7)) ∧ ((M 119 x2.toNatClampNeg ((((24 * x3) + (6 * x7)) + 5).toNatClampNeg)) = 1 → (wbX12_hold_70 post  (wbX12_hold_30 post n) M x1 x2 x3 x4 (x5 ||| x6) 1 x7))))))
def wpX12_hold (post : tq_St → Int32 → Prop) (M : tq_St) (p0 : Int32) (p1 : Int32) (p2 : Int32) : Prop :=
  vp_in p1 150 ∧ (vp_in ((4 * p2) + 3) 24 ∧ ((¬ (M 118 p1.toNatClampNeg (((4 * p2) + 3).toNatClampNeg)) = 0 → (∃ nq, wbX12_hold_30 post nq M p0 p1 p2 (M 118 p1.toNatClampNeg (((4 * p2) + 3).toNatClampNeg)) 0 1 0)) ∧ ((M 118 p1.toNatClampNeg (((4 * p2) + 3).toNatClampNeg)) = 0 → (post M 1))))
set_option maxHeartbeats 4000000 in
set_option maxRecDepth 100000 in
theorem bX12_hold_70 {p : Program} {e : Env} {s : State} {m : MethodId} {args : Array Value} {below : List Frame} {meth : Method} {c : Code} {post : tq_St → Int32 → Prop} (C : tq_At p s m meth c args cX12_hold 8 ((some .boolean)) ((tq_ws yX12_hold cX12_hold 8 (some .boolean))) RX12 D cy z ad) {L30 : tq_St → Int32 → Int32 → Int32 → Int32 → Int32 → Int32 → Int32 → Prop} (hL30 : ∀ (M : tq_St) (x1 : Int32) (x2 : Int32) (x3 : Int32) (x4 : Int32) (x5 : Int32) (x6 : Int32) (x7 : Int32) (H : Heap) (locs : List Loc) (ls : Array Slot), L30 M x1 x2 x3 x4 x5 x6 x7 → tq_wd D cy z H0 ad N (tq_mix S M) H → va_S (fun q => z ≤ q) s.heap H locs → lv_has ls 8 [(0, .ref (ad 64 0)), (1, .int x1), (2, .int x2), (3, .int x3), (4, .int x4), (5, .int x5), (6, .int x6), (7, .int x7)] → W p l e (tq_rm 3 73) s m args below meth c H locs 0 0 (MQ below (va_Qi (fun r u => post u r) (tq_P D cy z H0 ad N S) (fun q => z ≤ q)) args s 0 0 (fun q => z ≤ q)) (F0 m 30 ls [])) : ∀ (M : tq_St) (x1 : Int32) (x2 : Int32) (x3 : Int32) (x4 : Int32) (x5 : Int32) (x6 : Int32) (x7 : Int32) (H : Heap) (locs : List Loc) (ls : Array Slot), wbX12_hold_70 post  L30 M x1 x2 x3 x4 x5 x6 x7 → tq_wd D cy z H0 ad N (tq_mix S M) H → va_S (fun q => z ≤ q) s.heap H locs → lv_has ls 8 [(0, .ref (ad 64 0)), (1, .int x1), (2, .int x2), (3, .int x3), (4, .int x4), (5, .int x5), (6, .int x6), (7, .int x7)] → W p l e (tq_rm 3 73) s m args below meth c H locs 0 0 (MQ below (va_Qi (fun r u => post u r) (tq_P D cy z H0 ad N S) (fun q => z ≤ q)) args s 0 0 (fun q => z ≤ q)) (F0 m 70 ls []) := by
  obtain ⟨hx, hb, hr, hml, hown, hts, hlocks, hK, hG⟩ := id C
  have hw : ∀ w ∈ tq_W, w.before args s = true := fun w h => hts w (List.mem_cons_of_mem _ h)
  intro M x1 x2 x3 x4 x5 x6 x7 H locs ls h hW hS hl
  unfold wbX12_hold_70 at h
  refine lv_iload hx hb dX12_hold_70 (lv_at hl 6 rfl) ?_
  refine lv_aload_n hx hb dX12_hold_72 rfl (lv_at hl 0 rfl) ?_
  refine lv_iload_n hx hb dX12_hold_73 rfl (lv_at hl 1 rfl) ?_
  refine lv_iload_n hx hb dX12_hold_74 rfl (lv_at hl 2 rfl) ?_
  refine lv_bipush (v := 24) hx hb dX12_hold_75 (by decide) ?_
  refine lv_iload_n hx hb dX12_hold_77 rfl (lv_at hl 3 rfl) ?_
  refine lv_imul hx hb dX12_hold_78 ?_
  refine lv_bipush (v := 6) hx hb dX12_hold_79 (by decide) ?_
  refine lv_iload hx hb dX12_hold_81 (lv_at hl 7 rfl) ?_
  refine lv_imul hx hb dX12_hold_83 ?_
  refine lv_iadd hx hb dX12_hold_84 ?_
  refine tq_callVi (As := [.int x1, .int x2, .int ((24 * x3) + (6 * x7))]) (rest := [.int x6]) (kX12_one h) ⟨hx, hb, hml, hown, hts⟩ (cwV 3 hts (tq_goodV tw_1832 tw_1834 tw_78 tw_125 tw_1835) rfl rfl rfl (by decide +kernel) ⟨Nat.le_of_ble_eq_true rfl, Nat.le_of_ble_eq_true rfl⟩) hK hG hW hS rfl hl.1 rfl (Nat.le_of_ble_eq_true rfl) dX12_hold_85 ⟨Nat.le_of_ble_eq_true rfl, Nat.le_of_ble_eq_true rfl⟩ (fun r10 M9 H locs h hW hS => ?_)
  refine lv_iand hx hb dX12_hold_88 ?_
  refine lv_istore (lv' := [(6, .int (x6 &&& r10)), (0, .ref (ad 64 0)), (1, .int x1), (2, .int x2), (3, .int x3), (4, .int x4), (5, .int x5), (7, .int x7)]) hx hb dX12_hold_89 hl (by decide) rfl (fun ls hl => ?_)
  refine lv_iinc (v := x7 + 1) (lv' := [(7, .int (x7 + 1)), (6, .int (x6 &&& r10)), (0, .ref (ad 64 0)), (1, .int x1), (2, .int x2), (3, .int x3), (4, .int x4), (5, .int x5)]) hx hb dX12_hold_91 hl (k := 7) rfl rfl (by decide) rfl (fun ls hl => ?_)
  refine lv_goto (tgt := 30) hx hb dX12_hold_94 (by decide) ?_
  exact hL30 _ _ _ _ _ _ _ _ _ _ _ h hW hS (lv_sub hl [2, 3, 4, 5, 6, 7, 1, 0] rfl)
set_option maxHeartbeats 4000000 in
set_option maxRecDepth 100000 in
theorem bX12_hold_30 {p : Program} {e : Env} {s : State} {m : MethodId} {args : Array Value} {below : List Frame} {meth : Method} {c : Code} {post : tq_St → Int32 → Prop} (C : tq_At p s m meth c args cX12_hold 8 ((some .boolean)) ((tq_ws yX12_hold cX12_hold 8 (some .boolean))) RX12 D cy z ad)  : ∀ n : Nat, ∀ (M : tq_St) (x1 : Int32) (x2 : Int32) (x3 : Int32) (x4 : Int32) (x5 : Int32) (x6 : Int32) (x7 : Int32) (H : Heap) (locs : List Loc) (ls : Array Slot), wbX12_hold_30 post   n M x1 x2 x3 x4 x5 x6 x7 → tq_wd D cy z H0 ad N (tq_mix S M) H → va_S (fun q => z ≤ q) s.heap H locs → lv_has ls 8 [(0, .ref (ad 64 0)), (1, .int x1), (2, .int x2), (3, .int x3), (4, .int x4), (5, .int x5), (6, .int x6), (7, .int x7)] → W p l e (tq_rm 3 73) s m args below meth c H locs 0 0 (MQ below (va_Qi (fun r u => post u r) (tq_P D cy z H0 ad N S) (fun q => z ≤ q)) args s 0 0 (fun q => z ≤ q)) (F0 m 30 ls []) := by
  obtain ⟨hx, hb, hr, hml, hown, hts, hlocks, hK, hG⟩ := id C
  have hw : ∀ w ∈ tq_W, w.before args s = true := fun w h => hts w (List.mem_cons_of_mem _ h)
  intro n
  induction n with
  | zero =>
    intro M x1 x2 x3 x4 x5 x6 x7 H locs ls h
    exact absurd h (by unfold wbX12_hold_30; exact id)
  | succ n ih =>
    intro M x1 x2 x3 x4 x5 x6 x7 H locs ls h hW hS hl
    unfold wbX12_hold_30 at h
    refine lv_iload hx hb dX12_hold_30 (lv_at hl 7 rfl) ?_
    refine lv_iload hx hb dX12_hold_32 (lv_at hl 4 rfl) ?_
    refine lv_icmp_ge (tgt := 97) hx hb dX12_hold_34 (by decide) (fun c4 => ?_) (fun c4 => ?_)
    · have h := h.1 c4
      refine lv_iload hx hb dX12_hold_97 (lv_at hl 5 rfl) ?_
      refine lv_iload hx hb dX12_hold_99 (lv_at hl 6 rfl) ?_
      refine lv_ior hx hb dX12_hold_101 ?_
      obtain ⟨b5, h⟩ := h
      exact W.zret (v := x5 ||| x6) hx hb hr b5 (fun t ht hWm => ⟨⟨_, M, rfl, h, tq_pe ht hW⟩, hS.F ht⟩) hS.2.2 dX12_hold_102
    · have h := h.2 c4
      refine lv_aload_n hx hb dX12_hold_37 rfl (lv_at hl 0 rfl) ?_
      refine tqm_get (v := .ref (ad 219 0)) hx hb hw tq_inX12 hown hK hW (by decide) (tq_mk_64 (by decide)) rfl 19 (by decide) (hw _ tw_1427) (fun _ h9 => h9) rfl dX12_hold_38 ?_
      refine lv_iload_n hx hb dX12_hold_41 rfl (lv_at hl 2 rfl) ?_
      obtain ⟨b6, h⟩ := h
      refine tqm_aald (jn := x2.toNatClampNeg) (v := .ref (ad 119 x2.toNatClampNeg)) hx hb hK hW (by decide) (tq_mk_219 (by decide)) 2 rfl rfl b6 rfl rfl dX12_hold_42 ?_
      refine lv_bipush (v := 24) hx hb dX12_hold_43 (by decide) ?_
      refine lv_iload_n hx hb dX12_hold_45 rfl (lv_at hl 3 rfl) ?_
      refine lv_imul hx hb dX12_hold_46 ?_
      refine lv_bipush (v := 6) hx hb dX12_hold_47 (by decide) ?_
      refine lv_iload hx hb dX12_hold_49 (lv_at hl 7 rfl) ?_
      refine lv_imul hx hb dX12_hold_51 ?_
      refine lv_iadd hx hb dX12_hold_52 ?_
      refine lv_iconst (v := 5) hx hb dX12_hold_53 (by decide) ?_
      refine lv_iadd hx hb dX12_hold_54 ?_
      obtain ⟨b7, h⟩ := h
      refine tqm_iald (jn := (((24 * x3) + (6 * x7)) + 5).toNatClampNeg) hx hb hK hW (by decide) (tq_mk_119 (tq_lt b6)) b7 rfl dX12_hold_55 ?_
      refine lv_iconst (v := 1) hx hb dX12_hold_56 (by decide) ?_
      refine lv_icmp_ne (tgt := 70) hx hb dX12_hold_57 (by decide) (fun c8 => ?_) (fun c8 => ?_)
      · have h := h.1 c8
        exact bX12_hold_70 C (fun M9 a09 a19 a29 a39 a49 a59 a69 H9 q9 ls9 h9 hW9 hS9 hl9 => ih M9 a09 a19 a29 a39 a49 a59 a69 H9 q9 ls9 h9 hW9 hS9 hl9) _ _ _ _ _ _ _ _ _ _ _ h hW hS (lv_sub hl [0, 1, 2, 3, 4, 5, 6, 7] rfl)
      · have h := h.2 c8
        refine lv_iload hx hb dX12_hold_60 (lv_at hl 5 rfl) ?_
        refine lv_iload hx hb dX12_hold_62 (lv_at hl 6 rfl) ?_
        refine lv_ior hx hb dX12_hold_64 ?_
        refine lv_istore (lv' := [(5, .int (x5 ||| x6)), (0, .ref (ad 64 0)), (1, .int x1), (2, .int x2), (3, .int x3), (4, .int x4), (6, .int x6), (7, .int x7)]) hx hb dX12_hold_65 hl (by decide) rfl (fun ls hl => ?_)
        refine lv_iconst (v := 1) hx hb dX12_hold_67 (by decide) ?_
        refine lv_istore (lv' := [(6, .int 1), (5, .int (x5 ||| x6)), (0, .ref (ad 64 0)), (1, .int x1), (2, .int x2), (3, .int x3), (4, .int x4), (7, .int x7)]) hx hb dX12_hold_68 hl (by decide) rfl (fun ls hl => ?_)
        exact bX12_hold_70 C (fun M9 a09 a19 a29 a39 a49 a59 a69 H9 q9 ls9 h9 hW9 hS9 hl9 => ih M9 a09 a19 a29 a39 a49 a59 a69 H9 q9 ls9 h9 hW9 hS9 hl9) _ _ _ _ _ _ _ _ _ _ _ h hW hS (lv_sub hl [2, 3, 4, 5, 6, 1, 0, 7] rfl)
set_option maxHeartbeats 4000000 in
set_option maxRecDepth 100000 in
theorem kX12_hold {post : tq_St → Int32 → Prop} {M : tq_St} {p0 : Int32} {p1 : Int32} {p2 : Int32} (h : wpX12_hold post M p0 p1 p2) : tq_mI l yX12_hold (tq_ws yX12_hold cX12_hold 8 (some .boolean)) 3 73 D cy z H0 ad N S M [.ref (ad 64 0), .int p0, .int p1, .int p2] post := by
  unfold wpX12_hold at h
  refine Met.ofW (cc := cX12_hold) (maxL := 8) (ret := (some .boolean)) (by decide) rfl ?_
  intro p e s m args below meth c s₁ B hml hv
  obtain ⟨rfl, hW, hK, hG⟩ := hv
  have hx := B.exec
  have hb := B.bytes
  have hr := B.returns
  have hts := atoms_spec (ws := (tq_ws yX12_hold cX12_hold 8 (some .boolean))) B.pre
  have hw : ∀ w ∈ tq_W, w.before _ s = true := fun w h => hts w (List.mem_cons_of_mem _ h)
  have hown : s.vm.findClass RX12 = some m.cls := findClass_of_methodNamed B.named
  have hlocks := B.notSynchronized
  have C : tq_At p s m meth c [.ref (ad 64 0), .int p0, .int p1, .int p2].toArray cX12_hold 8 ((some .boolean)) ((tq_ws yX12_hold cX12_hold 8 (some .boolean))) RX12 D cy z ad := ⟨hx, hb, hr, hml, hown, hts, hlocks, hK, hG⟩
  have hS : va_S (fun q => z ≤ q) s.heap s.heap [] := va_S.rf
  have hl := lv_entry ([.ref (ad 64 0), .int p0, .int p1, .int p2]) (n := 8) (Nat.le_of_ble_eq_true rfl)
  rw [lg_entry_eq]
  generalize (lg_sl ([.ref (ad 64 0), .int p0, .int p1, .int p2]) ++ List.replicate (8 - (lg_sl ([.ref (ad 64 0), .int p0, .int p1, .int p2])).length) Slot.unset).toArray = ls at hl ⊢
  have hl : lv_has ls 8 [(0, .ref (ad 64 0)), (1, .int p0), (2, .int p1), (3, .int p2)] := hl
  have hW : tq_wd D cy z H0 ad N (tq_mix S M) s.heap := hW
  refine lv_aload_n hx hb dX12_hold_0 rfl (lv_at hl 0 rfl) ?_
  refine tqm_get (v := .ref (ad 218 0)) hx hb hw tq_inX12 hown hK hW (by decide) (tq_mk_64 (by decide)) rfl 18 (by decide) (hw _ tw_1426) (fun _ h9 => h9) rfl dX12_hold_1 ?_
  refine lv_iload_n hx hb dX12_hold_4 rfl (lv_at hl 2 rfl) ?_
  obtain ⟨b1, h⟩ := h
  refine tqm_aald (jn := p1.toNatClampNeg) (v := .ref (ad 118 p1.toNatClampNeg)) hx hb hK hW (by decide) (tq_mk_218 (by decide)) 2 rfl rfl b1 rfl rfl dX12_hold_5 ?_
  refine lv_iconst (v := 4) hx hb dX12_hold_6 (by decide) ?_
  refine lv_iload_n hx hb dX12_hold_7 rfl (lv_at hl 3 rfl) ?_
  refine lv_imul hx hb dX12_hold_8 ?_
  refine lv_iconst (v := 3) hx hb dX12_hold_9 (by decide) ?_
  refine lv_iadd hx hb dX12_hold_10 ?_
  obtain ⟨b2, h⟩ := h
  refine tqm_iald (jn := ((4 * p2) + 3).toNatClampNeg) hx hb hK hW (by decide) (tq_mk_118 (tq_lt b1)) b2 rfl dX12_hold_11 ?_
  refine lv_istore (lv' := [(4, .int (M 118 p1.toNatClampNeg (((4 * p2) + 3).toNatClampNeg))), (0, .ref (ad 64 0)), (1, .int p0), (2, .int p1), (3, .int p2)]) hx hb dX12_hold_12 hl (by decide) rfl (fun ls hl => ?_)
  refine lv_iload hx hb dX12_hold_14 (lv_at hl 0 rfl) ?_
  refine lv_if_ne (tgt := 21) hx hb dX12_hold_16 (by decide) (fun c3 => ?_) (fun c3 => ?_)
  · have h := h.1 c3
    refine lv_iconst (v := 0) hx hb dX12_hold_21 (by decide) ?_
    refine lv_istore (lv' := [(5, .int 0), (4, .int (M 118 p1.toNatClampNeg (((4 * p2) + 3).toNatClampNeg))), (0, .ref (ad 64 0)), (1, .int p0), (2, .int p1), (3, .int p2)]) hx hb dX12_hold_22 hl (by decide) rfl (fun ls hl => ?_)
    refine lv_iconst (v := 1) hx hb dX12_hold_24 (by decide) ?_
    refine lv_istore (lv' := [(6, .int 1), (5, .int 0), (4, .int (M 118 p1.toNatClampNeg (((4 * p2) + 3).toNatClampNeg))), (0, .ref (ad 64 0)), (1, .int p0), (2, .int p1), (3, .int p2)]) hx hb dX12_hold_25 hl (by decide) rfl (fun ls hl => ?_)
    refine lv_iconst (v := 0) hx hb dX12_hold_27 (by decide) ?_
    refine lv_istore (lv' := [(7, .int 0), (6, .int 1), (5, .int 0), (4, .int (M 118 p1.toNatClampNeg (((4 * p2) + 3).toNatClampNeg))), (0, .ref (ad 64 0)), (1, .int p0), (2, .int p1), (3, .int p2)]) hx hb dX12_hold_28 hl (by decide) rfl (fun ls hl => ?_)
    obtain ⟨nq, h⟩ := h
    exact bX12_hold_30 C  nq _ _ _ _ _ _ _ _ _ _ _ h hW hS (lv_sub hl [4, 5, 6, 7, 3, 2, 1, 0] rfl)
  · have h := h.2 c3
    refine lv_iconst (v := 1) hx hb dX12_hold_19 (by decide) ?_
    exact W.zret (v := 1) hx hb hr rfl (fun t ht hWm => ⟨⟨_, M, rfl, h, tq_pe ht hW⟩, hS.F ht⟩) hS.2.2 dX12_hold_20
-- holds
def wbX12_holds_36 (post : tq_St → Int32 → Prop)  (M : tq_St) (y0 : Int32) : Prop :=
  post M y0
def wpX12_holds (post : tq_St → Int32 → Prop) (M : tq_St) (p0 : Int32) (p1 : Int32) : Prop :=
  wpX12_forced (fun M1 r2 => (0 ≤ r2 → (wpX12_hold (fun M4 r5 => (r5 = 0 → (wbX12_holds_36 post M4 0)) ∧ (¬ r5 = 0 → (wbX12_holds_36 post M4 1))) M1 p0 (r2 / 10) (r2 - r2 / 10 * 10))) ∧ (¬ 0 ≤ r2 → (wbX12_holds_36 post M1 ((-1))))) M p0 p1
set_option maxHeartbeats 4000000 in
set_option maxRecDepth 100000 in
theorem bX12_holds_36 {p : Program} {e : Env} {s : State} {m : MethodId} {args : Array Value} {below : List Frame} {meth : Method} {c : Code} {post : tq_St → Int32 → Prop} (C : tq_At p s m meth c args cX12_holds 4 ((some .int)) ((tq_ws yX12_holds cX12_holds 4 (some .int))) RX12 D cy z ad)  : ∀ (M : tq_St) (y0 : Int32) (H : Heap) (locs : List Loc) (ls : Array Slot), wbX12_holds_36 post   M y0 → tq_wd D cy z H0 ad N (tq_mix S M) H → va_S (fun q => z ≤ q) s.heap H locs → lv_has ls 4 [] → W p l e (tq_rm 5 119) s m args below meth c H locs 0 0 (MQ below (va_Qi (fun r u => post u r) (tq_P D cy z H0 ad N S) (fun q => z ≤ q)) args s 0 0 (fun q => z ≤ q)) (F0 m 36 ls [.int y0]) := by
  obtain ⟨hx, hb, hr, hml, hown, hts, hlocks, hK, hG⟩ := id C
  have hw : ∀ w ∈ tq_W, w.before args s = true := fun w h => hts w (List.mem_cons_of_mem _ h)
  intro M y0 H locs ls h hW hS hl
  unfold wbX12_holds_36 at h
  exact W.iret (v := y0) hx hb hr (fun t ht hWm => ⟨⟨_, M, rfl, h, tq_pe ht hW⟩, hS.F ht⟩) hS.2.2 dX12_holds_36
set_option maxHeartbeats 4000000 in
set_option maxRecDepth 100000 in
theorem kX12_holds {post : tq_St → Int32 → Prop} {M : tq_St} {p0 : Int32} {p1 : Int32} (h : wpX12_holds post M p0 p1) : tq_mI l yX12_holds (tq_ws yX12_holds cX12_holds 4 (some .int)) 5 119 D cy z H0 ad N S M [.ref (ad 64 0), .int p0, .int p1] post := by
  unfold wpX12_holds at h
  refine Met.ofW (cc := cX12_holds) (maxL := 4) (ret := (some .int)) (by decide) rfl ?_
  intro p e s m args below meth c s₁ B hml hv
  obtain ⟨rfl, hW, hK, hG⟩ := hv
  have hx := B.exec
  have hb := B.bytes
  have hr := B.returns
  have hts := atoms_spec (ws := (tq_ws yX12_holds cX12_holds 4 (some .int))) B.pre
  have hw : ∀ w ∈ tq_W, w.before _ s = true := fun w h => hts w (List.mem_cons_of_mem _ h)
  have hown : s.vm.findClass RX12 = some m.cls := findClass_of_methodNamed B.named
  have hlocks := B.notSynchronized
  have C : tq_At p s m meth c [.ref (ad 64 0), .int p0, .int p1].toArray cX12_holds 4 ((some .int)) ((tq_ws yX12_holds cX12_holds 4 (some .int))) RX12 D cy z ad := ⟨hx, hb, hr, hml, hown, hts, hlocks, hK, hG⟩
  have hS : va_S (fun q => z ≤ q) s.heap s.heap [] := va_S.rf
  have hl := lv_entry ([.ref (ad 64 0), .int p0, .int p1]) (n := 4) (Nat.le_of_ble_eq_true rfl)
  rw [lg_entry_eq]
  generalize (lg_sl ([.ref (ad 64 0), .int p0, .int p1]) ++ List.replicate (4 - (lg_sl ([.ref (ad 64 0), .int p0, .int p1])).length) Slot.unset).toArray = ls at hl ⊢
  have hl : lv_has ls 4 [(0, .ref (ad 64 0)), (1, .int p0), (2, .int p1)] := hl
  have hW : tq_wd D cy z H0 ad N (tq_mix S M) s.heap := hW
  refine lv_aload_n hx hb dX12_holds_0 rfl (lv_at hl 0 rfl) ?_
  refine lv_iload_n hx hb dX12_holds_1 rfl (lv_at hl 1 rfl) ?_
  refine lv_iload_n hx hb dX12_holds_2 rfl (lv_at hl 2 rfl) ?_
  refine tq_callVi (As := [.int p0, .int p1]) (rest := []) (kX12_forced h) ⟨hx, hb, hml, hown, hts⟩ (cwV 2 hts (tq_goodV tw_1827 tw_1820 tw_1821 tw_125 tw_1822) rfl rfl rfl (by decide +kernel) ⟨Nat.le_of_ble_eq_true rfl, Nat.le_of_ble_eq_true rfl⟩) hK hG hW hS rfl hl.1 rfl (Nat.le_of_ble_eq_true rfl) dX12_holds_3 ⟨Nat.le_of_ble_eq_true rfl, Nat.le_of_ble_eq_true rfl⟩ (fun r2 M1 H locs h hW hS => ?_)
  refine lv_istore_n (lv' := [(3, .int r2), (0, .ref (ad 64 0)), (1, .int p0), (2, .int p1)]) hx hb dX12_holds_6 rfl hl (by decide) rfl (fun ls hl => ?_)
  refine lv_iload_n hx hb dX12_holds_7 rfl (lv_at hl 0 rfl) ?_
  refine lv_if_ge (tgt := 15) hx hb dX12_holds_8 (by decide) (fun c3 => ?_) (fun c3 => ?_)
  · have h := h.1 c3
    refine lv_aload_n hx hb dX12_holds_15 rfl (lv_at hl 1 rfl) ?_
    refine lv_iload_n hx hb dX12_holds_16 rfl (lv_at hl 2 rfl) ?_
    refine lv_iload_n hx hb dX12_holds_17 rfl (lv_at hl 0 rfl) ?_
    refine lv_bipush (v := 10) hx hb dX12_holds_18 (by decide) ?_
    refine lv_idiv hx hb dX12_holds_20 (by decide) ?_
    refine lv_iload_n hx hb dX12_holds_21 rfl (lv_at hl 0 rfl) ?_
    refine lv_bipush (v := 10) hx hb dX12_holds_22 (by decide) ?_
    refine lv_irem hx hb dX12_holds_24 (by decide) ?_
    refine tq_callVi (As := [.int p0, .int (r2 / 10), .int (r2 - r2 / 10 * 10)]) (rest := []) (kX12_hold h) ⟨hx, hb, hml, hown, hts⟩ (cwV 3 hts (tq_goodV tw_1828 tw_1830 tw_77 tw_125 tw_1831) rfl rfl rfl (by decide +kernel) ⟨Nat.le_of_ble_eq_true rfl, Nat.le_of_ble_eq_true rfl⟩) hK hG hW hS rfl hl.1 rfl (Nat.le_of_ble_eq_true rfl) dX12_holds_25 ⟨Nat.le_of_ble_eq_true rfl, Nat.le_of_ble_eq_true rfl⟩ (fun r5 M4 H locs h hW hS => ?_)
    refine lv_if_eq (tgt := 35) hx hb dX12_holds_28 (by decide) (fun c6 => ?_) (fun c6 => ?_)
    · have h := h.1 c6
      refine lv_iconst (v := 0) hx hb dX12_holds_35 (by decide) ?_
      exact bX12_holds_36 C  _ _ _ _ _ h hW hS (lv_sub hl [] rfl)
    · have h := h.2 c6
      refine lv_iconst (v := 1) hx hb dX12_holds_31 (by decide) ?_
      refine lv_goto (tgt := 36) hx hb dX12_holds_32 (by decide) ?_
      exact bX12_holds_36 C  _ _ _ _ _ h hW hS (lv_sub hl [] rfl)
  · have h := h.2 c3
    refine lv_iconst (v := (-1)) hx hb dX12_holds_11 (by decide) ?_
    refine lv_goto (tgt := 36) hx hb dX12_holds_12 (by decide) ?_
    exact bX12_holds_36 C  _ _ _ _ _ h hW hS (lv_sub hl [] rfl)
-- ship
def wpX12_ship (post : tq_St → Int32 → Prop) (M : tq_St) (p0 : Int32) (p1 : Int32) : Prop :=
  wpX12_in (fun M1 r2 => (¬ r2 = 0 → (wpX12_in (fun M4 r5 => (¬ r5 = 0 → ((¬ (M4 64 0 21) = 8 → (vp_in (M4 64 0 21) 8 ∧ (∀ M9, M9 = tq_up M4 122 0 ((M4 64 0 21).toNatClampNeg) p0 → (vp_in (M9 64 0 21) 8 ∧ (∀ M11, M11 = tq_up M9 123 0 ((M9 64 0 21).toNatClampNeg) p1 → (vp_in (M11 64 0 21) 8 ∧ (∀ M13, M13 = tq_up M11 130 0 ((M11 64 0 21).toNatClampNeg) ((-1)) → (∀ M14, M14 = tq_up M13 64 0 21 ((M13 64 0 21) + 1) → (post M14 (M13 64 0 21)))))))))) ∧ ((M4 64 0 21) = 8 → (post M4 ((-4)))))) ∧ (r5 = 0 → (post M4 ((-2))))) M1 p1 1 60)) ∧ (r2 = 0 → (post M1 ((-1))))) M p0 0 3
set_option maxHeartbeats 4000000 in
set_option maxRecDepth 100000 in
theorem kX12_ship {post : tq_St → Int32 → Prop} {M : tq_St} {p0 : Int32} {p1 : Int32} (h : wpX12_ship post M p0 p1) : tq_mI l yX12_ship (tq_ws yX12_ship cX12_ship 3 (some .int)) 1 22 D cy z H0 ad N S M [.ref (ad 64 0), .int p0, .int p1] post := by
  unfold wpX12_ship at h
  refine Met.ofW (cc := cX12_ship) (maxL := 3) (ret := (some .int)) (by decide) rfl ?_
  intro p e s m args below meth c s₁ B hml hv
  obtain ⟨rfl, hW, hK, hG⟩ := hv
  have hx := B.exec
  have hb := B.bytes
  have hr := B.returns
  have hts := atoms_spec (ws := (tq_ws yX12_ship cX12_ship 3 (some .int))) B.pre
  have hw : ∀ w ∈ tq_W, w.before _ s = true := fun w h => hts w (List.mem_cons_of_mem _ h)
  have hown : s.vm.findClass RX12 = some m.cls := findClass_of_methodNamed B.named
  have hlocks := B.notSynchronized
  have C : tq_At p s m meth c [.ref (ad 64 0), .int p0, .int p1].toArray cX12_ship 3 ((some .int)) ((tq_ws yX12_ship cX12_ship 3 (some .int))) RX12 D cy z ad := ⟨hx, hb, hr, hml, hown, hts, hlocks, hK, hG⟩
  have hS : va_S (fun q => z ≤ q) s.heap s.heap [] := va_S.rf
  have hl := lv_entry ([.ref (ad 64 0), .int p0, .int p1]) (n := 3) (Nat.le_of_ble_eq_true rfl)
  rw [lg_entry_eq]
  generalize (lg_sl ([.ref (ad 64 0), .int p0, .int p1]) ++ List.replicate (3 - (lg_sl ([.ref (ad 64 0), .int p0, .int p1])).length) Slot.unset).toArray = ls at hl ⊢
  have hl : lv_has ls 3 [(0, .ref (ad 64 0)), (1, .int p0), (2, .int p1)] := hl
  have hW : tq_wd D cy z H0 ad N (tq_mix S M) s.heap := hW
  refine lv_iload_n hx hb dX12_ship_0 rfl (lv_at hl 1 rfl) ?_
  refine lv_iconst (v := 0) hx hb dX12_ship_1 (by decide) ?_
  refine lv_iconst (v := 3) hx hb dX12_ship_2 (by decide) ?_
  refine tq_callSi (As := [.int p0, .int 0, .int 3]) (rest := []) (kX12_in h) ⟨hx, hb, hml, hown, hts⟩ (va_cwS 3 hts (tq_goodS tw_1648 tw_1649 tw_125 tw_1650) rfl rfl rfl (by decide +kernel) ⟨Nat.le_of_ble_eq_true rfl, Nat.le_of_ble_eq_true rfl⟩) hK hG hW hS rfl hl.1 rfl (Nat.le_of_ble_eq_true rfl) dX12_ship_3 ⟨Nat.le_of_ble_eq_true rfl, Nat.le_of_ble_eq_true rfl⟩ (fun r2 M1 H locs h hW hS => ?_)
  refine lv_if_ne (tgt := 11) hx hb dX12_ship_6 (by decide) (fun c3 => ?_) (fun c3 => ?_)
  · have h := h.1 c3
    refine lv_iload_n hx hb dX12_ship_11 rfl (lv_at hl 2 rfl) ?_
    refine lv_iconst (v := 1) hx hb dX12_ship_12 (by decide) ?_
    refine lv_bipush (v := 60) hx hb dX12_ship_13 (by decide) ?_
    refine tq_callSi (As := [.int p1, .int 1, .int 60]) (rest := []) (kX12_in h) ⟨hx, hb, hml, hown, hts⟩ (va_cwS 3 hts (tq_goodS tw_1648 tw_1649 tw_125 tw_1650) rfl rfl rfl (by decide +kernel) ⟨Nat.le_of_ble_eq_true rfl, Nat.le_of_ble_eq_true rfl⟩) hK hG hW hS rfl hl.1 rfl (Nat.le_of_ble_eq_true rfl) dX12_ship_15 ⟨Nat.le_of_ble_eq_true rfl, Nat.le_of_ble_eq_true rfl⟩ (fun r5 M4 H locs h hW hS => ?_)
    refine lv_if_ne (tgt := 24) hx hb dX12_ship_18 (by decide) (fun c6 => ?_) (fun c6 => ?_)
    · have h := h.1 c6
      refine lv_aload_n hx hb dX12_ship_24 rfl (lv_at hl 0 rfl) ?_
      refine tqm_get (v := .int (M4 64 0 21)) hx hb hw tq_inX12 hown hK hW (by decide) (tq_mk_64 (by decide)) rfl 21 (by decide) (hw _ tw_1429) (fun _ h9 => h9) rfl dX12_ship_25 ?_
      refine lv_bipush (v := 8) hx hb dX12_ship_28 (by decide) ?_
      refine lv_icmp_ne (tgt := 36) hx hb dX12_ship_30 (by decide) (fun c7 => ?_) (fun c7 => ?_)
      · have h := h.1 c7
        refine lv_aload_n hx hb dX12_ship_36 rfl (lv_at hl 0 rfl) ?_
        refine tqm_get (v := .ref (ad 122 0)) hx hb hw tq_inX12 hown hK hW (by decide) (tq_mk_64 (by decide)) rfl 22 (by decide) (hw _ tw_1430) (fun _ h9 => h9) rfl dX12_ship_37 ?_
        refine lv_aload_n hx hb dX12_ship_40 rfl (lv_at hl 0 rfl) ?_
        refine tqm_get (v := .int (M4 64 0 21)) hx hb hw tq_inX12 hown hK hW (by decide) (tq_mk_64 (by decide)) rfl 21 (by decide) (hw _ tw_1429) (fun _ h9 => h9) rfl dX12_ship_41 ?_
        refine lv_iload_n hx hb dX12_ship_44 rfl (lv_at hl 1 rfl) ?_
        obtain ⟨b8, h⟩ := h
        refine tqm_iast (jn := (M4 64 0 21).toNatClampNeg) hx hb hK hW hS (by decide) (tq_mk_122 (by decide)) b8 rfl (tq_mk_122 (by decide)) dX12_ship_45 (fun H locs hW hS => ?_)
        generalize eM9 : tq_up M4 122 0 ((M4 64 0 21).toNatClampNeg) p0 = M9 at hW
        have h := h M9 eM9.symm
        refine lv_aload_n hx hb dX12_ship_46 rfl (lv_at hl 0 rfl) ?_
        refine tqm_get (v := .ref (ad 123 0)) hx hb hw tq_inX12 hown hK hW (by decide) (tq_mk_64 (by decide)) rfl 23 (by decide) (hw _ tw_1431) (fun _ h9 => h9) rfl dX12_ship_47 ?_
        refine lv_aload_n hx hb dX12_ship_50 rfl (lv_at hl 0 rfl) ?_
        refine tqm_get (v := .int (M9 64 0 21)) hx hb hw tq_inX12 hown hK hW (by decide) (tq_mk_64 (by decide)) rfl 21 (by decide) (hw _ tw_1429) (fun _ h9 => h9) rfl dX12_ship_51 ?_
        refine lv_iload_n hx hb dX12_ship_54 rfl (lv_at hl 2 rfl) ?_
        obtain ⟨b10, h⟩ := h
        refine tqm_iast (jn := (M9 64 0 21).toNatClampNeg) hx hb hK hW hS (by decide) (tq_mk_123 (by decide)) b10 rfl (tq_mk_123 (by decide)) dX12_ship_55 (fun H locs hW hS => ?_)
        generalize eM11 : tq_up M9 123 0 ((M9 64 0 21).toNatClampNeg) p1 = M11 at hW
        have h := h M11 eM11.symm
        refine lv_aload_n hx hb dX12_ship_56 rfl (lv_at hl 0 rfl) ?_
        refine tqm_get (v := .ref (ad 130 0)) hx hb hw tq_inX12 hown hK hW (by decide) (tq_mk_64 (by decide)) rfl 30 (by decide) (hw _ tw_1438) (fun _ h9 => h9) rfl dX12_ship_57 ?_
        refine lv_aload_n hx hb dX12_ship_60 rfl (lv_at hl 0 rfl) ?_
        refine tqm_get (v := .int (M11 64 0 21)) hx hb hw tq_inX12 hown hK hW (by decide) (tq_mk_64 (by decide)) rfl 21 (by decide) (hw _ tw_1429) (fun _ h9 => h9) rfl dX12_ship_61 ?_
        refine lv_iconst (v := (-1)) hx hb dX12_ship_64 (by decide) ?_
        obtain ⟨b12, h⟩ := h
        refine tqm_iast (jn := (M11 64 0 21).toNatClampNeg) hx hb hK hW hS (by decide) (tq_mk_130 (by decide)) b12 rfl (tq_mk_130 (by decide)) dX12_ship_65 (fun H locs hW hS => ?_)
        generalize eM13 : tq_up M11 130 0 ((M11 64 0 21).toNatClampNeg) ((-1)) = M13 at hW
        have h := h M13 eM13.symm
        refine lv_aload_n hx hb dX12_ship_66 rfl (lv_at hl 0 rfl) ?_
        refine lv_dup hx hb dX12_ship_67 rfl ?_
        refine tqm_get (v := .int (M13 64 0 21)) hx hb hw tq_inX12 hown hK hW (by decide) (tq_mk_64 (by decide)) rfl 21 (by decide) (hw _ tw_1429) (fun _ h9 => h9) rfl dX12_ship_68 ?_
        refine lv_dup_x1 hx hb dX12_ship_71 rfl rfl ?_
        refine lv_iconst (v := 1) hx hb dX12_ship_72 (by decide) ?_
        refine lv_iadd hx hb dX12_ship_73 ?_
        refine tqm_put hx hb hw tq_inX12 tyX12 tyX12_ok nmX12 hown hK hW hS (by decide) (tq_mk_64 (by decide)) rfl 21 (by decide) (hw _ tw_1429) (fun _ h9 => h9) rfl rfl rfl rfl (tq_mk_64 (by decide)) dX12_ship_74 (fun H locs hW hS => ?_)
        generalize eM14 : tq_up M13 64 0 21 ((M13 64 0 21) + 1) = M14 at hW
        have h := h M14 eM14.symm
        exact W.iret (v := M13 64 0 21) hx hb hr (fun t ht hWm => ⟨⟨_, M14, rfl, h, tq_pe ht hW⟩, hS.F ht⟩) hS.2.2 dX12_ship_77
      · have h := h.2 c7
        refine lv_bipush (v := (-4)) hx hb dX12_ship_33 (by decide) ?_
        exact W.iret (v := (-4)) hx hb hr (fun t ht hWm => ⟨⟨_, M4, rfl, h, tq_pe ht hW⟩, hS.F ht⟩) hS.2.2 dX12_ship_35
    · have h := h.2 c6
      refine lv_bipush (v := (-2)) hx hb dX12_ship_21 (by decide) ?_
      exact W.iret (v := (-2)) hx hb hr (fun t ht hWm => ⟨⟨_, M4, rfl, h, tq_pe ht hW⟩, hS.F ht⟩) hS.2.2 dX12_ship_23
  · have h := h.2 c3
    refine lv_iconst (v := (-1)) hx hb dX12_ship_9 (by decide) ?_
    exact W.iret (v := (-1)) hx hb hr (fun t ht hWm => ⟨⟨_, M1, rfl, h, tq_pe ht hW⟩, hS.F ht⟩) hS.2.2 dX12_ship_10
