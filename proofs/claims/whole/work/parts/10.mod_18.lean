variable {l : Launch} {D : va_G} {cy : Nat → ClassId} {z : Nat} {H0 : Heap} {ad : Nat → Nat → Nat} {N : tq_Nn} {S : tq_St}
-- refuse
def wbX12_refuse_33 (post : tq_St → Int32 → Prop)  (M : tq_St) : Prop :=
  post M ((-3))
def wpX12_refuse (post : tq_St → Int32 → Prop) (M : tq_St) (p0 : Int32) : Prop :=
  wpX12_isBill (fun M1 r2 => (¬ r2 = 0 → (vp_in p0 150 ∧ (((M1 115 p0.toNatClampNeg 0) < 0 → (wbX12_refuse_33 post M1 )) ∧ (¬ (M1 115 p0.toNatClampNeg 0) < 0 → (((M1 116 p0.toNatClampNeg 1) ≤ 1 → (∀ M7, M7 = tq_up M1 116 p0.toNatClampNeg 1 3 → (wpX12_interest (fun M8 r9 => ∀ M10, M10 = tq_up M8 116 p0.toNatClampNeg 3 ((M7 116 p0.toNatClampNeg 0) + r9) → (post M10 (M10 116 p0.toNatClampNeg 3))) M7 p0))) ∧ (¬ (M1 116 p0.toNatClampNeg 1) ≤ 1 → (wbX12_refuse_33 post M1 ))))))) ∧ (r2 = 0 → (post M1 ((-1))))) M p0
set_option maxHeartbeats 4000000 in
set_option maxRecDepth 100000 in
theorem bX12_refuse_33 {p : Program} {e : Env} {s : State} {m : MethodId} {args : Array Value} {below : List Frame} {meth : Method} {c : Code} {post : tq_St → Int32 → Prop} (C : tq_At p s m meth c args cX12_refuse 2 ((some .int)) ((tq_ws yX12_refuse cX12_refuse 2 (some .int))) RX12 D cy z ad)  : ∀ (M : tq_St)  (H : Heap) (locs : List Loc) (ls : Array Slot), wbX12_refuse_33 post   M  → tq_wd D cy z H0 ad N (tq_mix S M) H → va_S (fun q => z ≤ q) s.heap H locs → lv_has ls 2 [] → W p l e (tq_rm 3 64) s m args below meth c H locs 0 0 (MQ below (va_Qi (fun r u => post u r) (tq_P D cy z H0 ad N S) (fun q => z ≤ q)) args s 0 0 (fun q => z ≤ q)) (F0 m 33 ls []) := by
  obtain ⟨hx, hb, hr, hml, hown, hts, hlocks, hK, hG⟩ := id C
  have hw : ∀ w ∈ tq_W, w.before args s = true := fun w h => hts w (List.mem_cons_of_mem _ h)
  intro M  H locs ls h hW hS hl
  unfold wbX12_refuse_33 at h
  refine lv_bipush (v := (-3)) hx hb dX12_refuse_33 (by decide) ?_
  exact W.iret (v := (-3)) hx hb hr (fun t ht hWm => ⟨⟨_, M, rfl, h, tq_pe ht hW⟩, hS.F ht⟩) hS.2.2 dX12_refuse_35
set_option maxHeartbeats 4000000 in
set_option maxRecDepth 100000 in
theorem kX12_refuse {post : tq_St → Int32 → Prop} {M : tq_St} {p0 : Int32} (h : wpX12_refuse post M p0) : tq_mI l yX12_refuse (tq_ws yX12_refuse cX12_refuse 2 (some .int)) 3 64 D cy z H0 ad N S M [.ref (ad 64 0), .int p0] post := by
  unfold wpX12_refuse at h
  refine Met.ofW (cc := cX12_refuse) (maxL := 2) (ret := (some .int)) (by decide) rfl ?_
  intro p e s m args below meth c s₁ B hml hv
  obtain ⟨rfl, hW, hK, hG⟩ := hv
  have hx := B.exec
  have hb := B.bytes
  have hr := B.returns
  have hts := atoms_spec (ws := (tq_ws yX12_refuse cX12_refuse 2 (some .int))) B.pre
  have hw : ∀ w ∈ tq_W, w.before _ s = true := fun w h => hts w (List.mem_cons_of_mem _ h)
  have hown : s.vm.findClass RX12 = some m.cls := findClass_of_methodNamed B.named
  have hlocks := B.notSynchronized
  have C : tq_At p s m meth c [.ref (ad 64 0), .int p0].toArray cX12_refuse 2 ((some .int)) ((tq_ws yX12_refuse cX12_refuse 2 (some .int))) RX12 D cy z ad := ⟨hx, hb, hr, hml, hown, hts, hlocks, hK, hG⟩
  have hS : va_S (fun q => z ≤ q) s.heap s.heap [] := va_S.rf
  have hl := lv_entry ([.ref (ad 64 0), .int p0]) (n := 2) (Nat.le_of_ble_eq_true rfl)
  rw [lg_entry_eq]
  generalize (lg_sl ([.ref (ad 64 0), .int p0]) ++ List.replicate (2 - (lg_sl ([.ref (ad 64 0), .int p0])).length) Slot.unset).toArray = ls at hl ⊢
  have hl : lv_has ls 2 [(0, .ref (ad 64 0)), (1, .int p0)] := hl
  have hW : tq_wd D cy z H0 ad N (tq_mix S M) s.heap := hW
  refine lv_aload_n hx hb dX12_refuse_0 rfl (lv_at hl 0 rfl) ?_
  refine lv_iload_n hx hb dX12_refuse_1 rfl (lv_at hl 1 rfl) ?_
  refine tq_callVi (As := [.int p0]) (rest := []) (kX12_isBill h) ⟨hx, hb, hml, hown, hts⟩ (cwV 1 hts (tq_goodV tw_1998 tw_2000 tw_105 tw_125 tw_2001) rfl rfl rfl (by decide +kernel) ⟨Nat.le_of_ble_eq_true rfl, Nat.le_of_ble_eq_true rfl⟩) hK hG hW hS rfl hl.1 rfl (Nat.le_of_ble_eq_true rfl) dX12_refuse_2 ⟨Nat.le_of_ble_eq_true rfl, Nat.le_of_ble_eq_true rfl⟩ (fun r2 M1 H locs h hW hS => ?_)
  refine lv_if_ne (tgt := 10) hx hb dX12_refuse_5 (by decide) (fun c3 => ?_) (fun c3 => ?_)
  · have h := h.1 c3
    refine lv_aload_n hx hb dX12_refuse_10 rfl (lv_at hl 0 rfl) ?_
    refine tqm_get (v := .ref (ad 215 0)) hx hb hw tq_inX12 hown hK hW (by decide) (tq_mk_64 (by decide)) rfl 15 (by decide) (hw _ tw_1423) (fun _ h9 => h9) rfl dX12_refuse_11 ?_
    refine lv_iload_n hx hb dX12_refuse_14 rfl (lv_at hl 1 rfl) ?_
    obtain ⟨b4, h⟩ := h
    refine tqm_aald (jn := p0.toNatClampNeg) (v := .ref (ad 115 p0.toNatClampNeg)) hx hb hK hW (by decide) (tq_mk_215 (by decide)) 2 rfl rfl b4 rfl rfl dX12_refuse_15 ?_
    refine lv_iconst (v := 0) hx hb dX12_refuse_16 (by decide) ?_
    refine tqm_iald (jn := 0) hx hb hK hW (by decide) (tq_mk_115 (tq_lt b4)) (by unfold vp_in; decide) (by decide) dX12_refuse_17 ?_
    refine lv_if_lt (tgt := 33) hx hb dX12_refuse_18 (by decide) (fun c5 => ?_) (fun c5 => ?_)
    · have h := h.1 c5
      exact bX12_refuse_33 C  _  _ _ _ h hW hS (lv_sub hl [] rfl)
    · have h := h.2 c5
      refine lv_aload_n hx hb dX12_refuse_21 rfl (lv_at hl 0 rfl) ?_
      refine tqm_get (v := .ref (ad 216 0)) hx hb hw tq_inX12 hown hK hW (by decide) (tq_mk_64 (by decide)) rfl 16 (by decide) (hw _ tw_1424) (fun _ h9 => h9) rfl dX12_refuse_22 ?_
      refine lv_iload_n hx hb dX12_refuse_25 rfl (lv_at hl 1 rfl) ?_
      refine tqm_aald (jn := p0.toNatClampNeg) (v := .ref (ad 116 p0.toNatClampNeg)) hx hb hK hW (by decide) (tq_mk_216 (by decide)) 2 rfl rfl b4 rfl rfl dX12_refuse_26 ?_
      refine lv_iconst (v := 1) hx hb dX12_refuse_27 (by decide) ?_
      refine tqm_iald (jn := 1) hx hb hK hW (by decide) (tq_mk_116 (tq_lt b4)) (by unfold vp_in; decide) (by decide) dX12_refuse_28 ?_
      refine lv_iconst (v := 1) hx hb dX12_refuse_29 (by decide) ?_
      refine lv_icmp_le (tgt := 36) hx hb dX12_refuse_30 (by decide) (fun c6 => ?_) (fun c6 => ?_)
      · have h := h.1 c6
        refine lv_aload_n hx hb dX12_refuse_36 rfl (lv_at hl 0 rfl) ?_
        refine tqm_get (v := .ref (ad 216 0)) hx hb hw tq_inX12 hown hK hW (by decide) (tq_mk_64 (by decide)) rfl 16 (by decide) (hw _ tw_1424) (fun _ h9 => h9) rfl dX12_refuse_37 ?_
        refine lv_iload_n hx hb dX12_refuse_40 rfl (lv_at hl 1 rfl) ?_
        refine tqm_aald (jn := p0.toNatClampNeg) (v := .ref (ad 116 p0.toNatClampNeg)) hx hb hK hW (by decide) (tq_mk_216 (by decide)) 2 rfl rfl b4 rfl rfl dX12_refuse_41 ?_
        refine lv_iconst (v := 1) hx hb dX12_refuse_42 (by decide) ?_
        refine lv_iconst (v := 3) hx hb dX12_refuse_43 (by decide) ?_
        refine tqm_iast (jn := 1) hx hb hK hW hS (by decide) (tq_mk_116 (tq_lt b4)) (by unfold vp_in; decide) (by decide) (tq_mk_116 (tq_lt b4)) dX12_refuse_44 (fun H locs hW hS => ?_)
        generalize eM7 : tq_up M1 116 p0.toNatClampNeg 1 3 = M7 at hW
        have h := h M7 eM7.symm
        refine lv_aload_n hx hb dX12_refuse_45 rfl (lv_at hl 0 rfl) ?_
        refine tqm_get (v := .ref (ad 216 0)) hx hb hw tq_inX12 hown hK hW (by decide) (tq_mk_64 (by decide)) rfl 16 (by decide) (hw _ tw_1424) (fun _ h9 => h9) rfl dX12_refuse_46 ?_
        refine lv_iload_n hx hb dX12_refuse_49 rfl (lv_at hl 1 rfl) ?_
        refine tqm_aald (jn := p0.toNatClampNeg) (v := .ref (ad 116 p0.toNatClampNeg)) hx hb hK hW (by decide) (tq_mk_216 (by decide)) 2 rfl rfl b4 rfl rfl dX12_refuse_50 ?_
        refine lv_iconst (v := 3) hx hb dX12_refuse_51 (by decide) ?_
        refine lv_aload_n hx hb dX12_refuse_52 rfl (lv_at hl 0 rfl) ?_
        refine tqm_get (v := .ref (ad 216 0)) hx hb hw tq_inX12 hown hK hW (by decide) (tq_mk_64 (by decide)) rfl 16 (by decide) (hw _ tw_1424) (fun _ h9 => h9) rfl dX12_refuse_53 ?_
        refine lv_iload_n hx hb dX12_refuse_56 rfl (lv_at hl 1 rfl) ?_
        refine tqm_aald (jn := p0.toNatClampNeg) (v := .ref (ad 116 p0.toNatClampNeg)) hx hb hK hW (by decide) (tq_mk_216 (by decide)) 2 rfl rfl b4 rfl rfl dX12_refuse_57 ?_
        refine lv_iconst (v := 0) hx hb dX12_refuse_58 (by decide) ?_
        refine tqm_iald (jn := 0) hx hb hK hW (by decide) (tq_mk_116 (tq_lt b4)) (by unfold vp_in; decide) (by decide) dX12_refuse_59 ?_
        refine lv_aload_n hx hb dX12_refuse_60 rfl (lv_at hl 0 rfl) ?_
        refine lv_iload_n hx hb dX12_refuse_61 rfl (lv_at hl 1 rfl) ?_
        refine tq_callVi (As := [.int p0]) (rest := [.int (M7 116 p0.toNatClampNeg 0), .int 3, .ref (ad 116 p0.toNatClampNeg)]) (kX12_interest h) ⟨hx, hb, hml, hown, hts⟩ (cwV 1 hts (tq_goodV tw_1937 tw_1939 tw_93 tw_125 tw_1940) rfl rfl rfl (by decide +kernel) ⟨Nat.le_of_ble_eq_true rfl, Nat.le_of_ble_eq_true rfl⟩) hK hG hW hS rfl hl.1 rfl (Nat.le_of_ble_eq_true rfl) dX12_refuse_62 ⟨Nat.le_of_ble_eq_true rfl, Nat.le_of_ble_eq_true rfl⟩ (fun r9 M8 H locs h hW hS => ?_)
        refine lv_iadd hx hb dX12_refuse_65 ?_
        refine tqm_iast (jn := 3) hx hb hK hW hS (by decide) (tq_mk_116 (tq_lt b4)) (by unfold vp_in; decide) (by decide) (tq_mk_116 (tq_lt b4)) dX12_refuse_66 (fun H locs hW hS => ?_)
        generalize eM10 : tq_up M8 116 p0.toNatClampNeg 3 ((M7 116 p0.toNatClampNeg 0) + r9) = M10 at hW
        have h := h M10 eM10.symm
        refine lv_aload_n hx hb dX12_refuse_67 rfl (lv_at hl 0 rfl) ?_
        refine tqm_get (v := .ref (ad 216 0)) hx hb hw tq_inX12 hown hK hW (by decide) (tq_mk_64 (by decide)) rfl 16 (by decide) (hw _ tw_1424) (fun _ h9 => h9) rfl dX12_refuse_68 ?_
        refine lv_iload_n hx hb dX12_refuse_71 rfl (lv_at hl 1 rfl) ?_
        refine tqm_aald (jn := p0.toNatClampNeg) (v := .ref (ad 116 p0.toNatClampNeg)) hx hb hK hW (by decide) (tq_mk_216 (by decide)) 2 rfl rfl b4 rfl rfl dX12_refuse_72 ?_
        refine lv_iconst (v := 3) hx hb dX12_refuse_73 (by decide) ?_
        refine tqm_iald (jn := 3) hx hb hK hW (by decide) (tq_mk_116 (tq_lt b4)) (by unfold vp_in; decide) (by decide) dX12_refuse_74 ?_
        exact W.iret (v := M10 116 p0.toNatClampNeg 3) hx hb hr (fun t ht hWm => ⟨⟨_, M10, rfl, h, tq_pe ht hW⟩, hS.F ht⟩) hS.2.2 dX12_refuse_75
      · have h := h.2 c6
        exact bX12_refuse_33 C  _  _ _ _ h hW hS (lv_sub hl [] rfl)
  · have h := h.2 c3
    refine lv_iconst (v := (-1)) hx hb dX12_refuse_8 (by decide) ?_
    exact W.iret (v := (-1)) hx hb hr (fun t ht hWm => ⟨⟨_, M1, rfl, h, tq_pe ht hW⟩, hS.F ht⟩) hS.2.2 dX12_refuse_9
-- sitting
def wbX12_sitting_30 (post : tq_St → Int32 → Prop) (L4 : tq_St → Int32 → Int32 → Int32 → Prop) (M : tq_St) (x1 : Int32) (x3 : Int32) (y0 : Int32) (y1 : Int32) : Prop :=
  L4 M x1 (y1 ||| y0) (x3 + 1)
def wbX12_sitting_4 (post : tq_St → Int32 → Prop) : Nat → tq_St → Int32 → Int32 → Int32 → Prop
  | 0, _, _, _, _ => False
  | n + 1, M, x1, x2, x3 =>
    ((M 64 0 6) ≤ x3 → (post M x2)) ∧ (¬ (M 64 0 6) ≤ x3 → (vp_in x3 20 ∧ ((¬ (M 107 0 x3.toNatClampNeg) = x1 → (wbX12_sitting_30 post  (wbX12_sitting_4 post n) M x1 x3 0 x2)) ∧ ((M 107 0 x3.toNatClampNeg) = x1 → (wbX12_sitting_30 post  (wbX12_sitting_4 post n) M x1 x3 (1 <<< (x3 &&& 31)) x2)))))
def wpX12_sitting (post : tq_St → Int32 → Prop) (M : tq_St) (p0 : Int32) : Prop :=
  ∃ nq, wbX12_sitting_4 post nq M p0 0 0
set_option maxHeartbeats 4000000 in
set_option maxRecDepth 100000 in
theorem bX12_sitting_30 {p : Program} {e : Env} {s : State} {m : MethodId} {args : Array Value} {below : List Frame} {meth : Method} {c : Code} {post : tq_St → Int32 → Prop} (C : tq_At p s m meth c args cX12_sitting 4 ((some .int)) ((tq_ws yX12_sitting cX12_sitting 4 (some .int))) RX12 D cy z ad) {L4 : tq_St → Int32 → Int32 → Int32 → Prop} (hL4 : ∀ (M : tq_St) (x1 : Int32) (x2 : Int32) (x3 : Int32) (H : Heap) (locs : List Loc) (ls : Array Slot), L4 M x1 x2 x3 → tq_wd D cy z H0 ad N (tq_mix S M) H → va_S (fun q => z ≤ q) s.heap H locs → lv_has ls 4 [(0, .ref (ad 64 0)), (1, .int x1), (2, .int x2), (3, .int x3)] → W p l e (tq_rm 0 0) s m args below meth c H locs 0 0 (MQ below (va_Qi (fun r u => post u r) (tq_P D cy z H0 ad N S) (fun q => z ≤ q)) args s 0 0 (fun q => z ≤ q)) (F0 m 4 ls [])) : ∀ (M : tq_St) (x1 : Int32) (x3 : Int32) (y0 : Int32) (y1 : Int32) (H : Heap) (locs : List Loc) (ls : Array Slot), wbX12_sitting_30 post  L4 M x1 x3 y0 y1 → tq_wd D cy z H0 ad N (tq_mix S M) H → va_S (fun q => z ≤ q) s.heap H locs → lv_has ls 4 [(0, .ref (ad 64 0)), (1, .int x1), (3, .int x3)] → W p l e (tq_rm 0 0) s m args below meth c H locs 0 0 (MQ below (va_Qi (fun r u => post u r) (tq_P D cy z H0 ad N S) (fun q => z ≤ q)) args s 0 0 (fun q => z ≤ q)) (F0 m 30 ls [.int y0, .int y1]) := by
  obtain ⟨hx, hb, hr, hml, hown, hts, hlocks, hK, hG⟩ := id C
  have hw : ∀ w ∈ tq_W, w.before args s = true := fun w h => hts w (List.mem_cons_of_mem _ h)
  intro M x1 x3 y0 y1 H locs ls h hW hS hl
  unfold wbX12_sitting_30 at h
  refine lv_ior hx hb dX12_sitting_30 ?_
  refine lv_istore_n (lv' := [(2, .int (y1 ||| y0)), (0, .ref (ad 64 0)), (1, .int x1), (3, .int x3)]) hx hb dX12_sitting_31 rfl hl (by decide) rfl (fun ls hl => ?_)
  refine lv_iinc (v := x3 + 1) (lv' := [(3, .int (x3 + 1)), (2, .int (y1 ||| y0)), (0, .ref (ad 64 0)), (1, .int x1)]) hx hb dX12_sitting_32 hl (k := 3) rfl rfl (by decide) rfl (fun ls hl => ?_)
  refine lv_goto (tgt := 4) hx hb dX12_sitting_35 (by decide) ?_
  exact hL4 _ _ _ _ _ _ _ h hW hS (lv_sub hl [2, 3, 1, 0] rfl)
set_option maxHeartbeats 4000000 in
set_option maxRecDepth 100000 in
theorem bX12_sitting_4 {p : Program} {e : Env} {s : State} {m : MethodId} {args : Array Value} {below : List Frame} {meth : Method} {c : Code} {post : tq_St → Int32 → Prop} (C : tq_At p s m meth c args cX12_sitting 4 ((some .int)) ((tq_ws yX12_sitting cX12_sitting 4 (some .int))) RX12 D cy z ad)  : ∀ n : Nat, ∀ (M : tq_St) (x1 : Int32) (x2 : Int32) (x3 : Int32) (H : Heap) (locs : List Loc) (ls : Array Slot), wbX12_sitting_4 post   n M x1 x2 x3 → tq_wd D cy z H0 ad N (tq_mix S M) H → va_S (fun q => z ≤ q) s.heap H locs → lv_has ls 4 [(0, .ref (ad 64 0)), (1, .int x1), (2, .int x2), (3, .int x3)] → W p l e (tq_rm 0 0) s m args below meth c H locs 0 0 (MQ below (va_Qi (fun r u => post u r) (tq_P D cy z H0 ad N S) (fun q => z ≤ q)) args s 0 0 (fun q => z ≤ q)) (F0 m 4 ls []) := by
  obtain ⟨hx, hb, hr, hml, hown, hts, hlocks, hK, hG⟩ := id C
  have hw : ∀ w ∈ tq_W, w.before args s = true := fun w h => hts w (List.mem_cons_of_mem _ h)
  intro n
  induction n with
  | zero =>
    intro M x1 x2 x3 H locs ls h
    exact absurd h (by unfold wbX12_sitting_4; exact id)
  | succ n ih =>
    intro M x1 x2 x3 H locs ls h hW hS hl
    unfold wbX12_sitting_4 at h
    refine lv_iload_n hx hb dX12_sitting_4 rfl (lv_at hl 3 rfl) ?_
    refine lv_aload_n hx hb dX12_sitting_5 rfl (lv_at hl 0 rfl) ?_
    refine tqm_get (v := .int (M 64 0 6)) hx hb hw tq_inX12 hown hK hW (by decide) (tq_mk_64 (by decide)) rfl 6 (by decide) (hw _ tw_1414) (fun _ h9 => h9) rfl dX12_sitting_6 ?_
    refine lv_icmp_ge (tgt := 38) hx hb dX12_sitting_9 (by decide) (fun c1 => ?_) (fun c1 => ?_)
    · have h := h.1 c1
      refine lv_iload_n hx hb dX12_sitting_38 rfl (lv_at hl 2 rfl) ?_
      exact W.iret (v := x2) hx hb hr (fun t ht hWm => ⟨⟨_, M, rfl, h, tq_pe ht hW⟩, hS.F ht⟩) hS.2.2 dX12_sitting_39
    · have h := h.2 c1
      refine lv_iload_n hx hb dX12_sitting_12 rfl (lv_at hl 2 rfl) ?_
      refine lv_aload_n hx hb dX12_sitting_13 rfl (lv_at hl 0 rfl) ?_
      refine tqm_get (v := .ref (ad 107 0)) hx hb hw tq_inX12 hown hK hW (by decide) (tq_mk_64 (by decide)) rfl 7 (by decide) (hw _ tw_1415) (fun _ h9 => h9) rfl dX12_sitting_14 ?_
      refine lv_iload_n hx hb dX12_sitting_17 rfl (lv_at hl 3 rfl) ?_
      obtain ⟨b2, h⟩ := h
      refine tqm_iald (jn := x3.toNatClampNeg) hx hb hK hW (by decide) (tq_mk_107 (by decide)) b2 rfl dX12_sitting_18 ?_
      refine lv_iload_n hx hb dX12_sitting_19 rfl (lv_at hl 1 rfl) ?_
      refine lv_icmp_ne (tgt := 29) hx hb dX12_sitting_20 (by decide) (fun c3 => ?_) (fun c3 => ?_)
      · have h := h.1 c3
        refine lv_iconst (v := 0) hx hb dX12_sitting_29 (by decide) ?_
        exact bX12_sitting_30 C (fun M9 a09 a19 a29 H9 q9 ls9 h9 hW9 hS9 hl9 => ih M9 a09 a19 a29 H9 q9 ls9 h9 hW9 hS9 hl9) _ _ _ _ _ _ _ _ h hW hS (lv_sub hl [0, 1, 3] rfl)
      · have h := h.2 c3
        refine lv_iconst (v := 1) hx hb dX12_sitting_23 (by decide) ?_
        refine lv_iload_n hx hb dX12_sitting_24 rfl (lv_at hl 3 rfl) ?_
        refine lv_ishl hx hb dX12_sitting_25 ?_
        refine lv_goto (tgt := 30) hx hb dX12_sitting_26 (by decide) ?_
        exact bX12_sitting_30 C (fun M9 a09 a19 a29 H9 q9 ls9 h9 hW9 hS9 hl9 => ih M9 a09 a19 a29 H9 q9 ls9 h9 hW9 hS9 hl9) _ _ _ _ _ _ _ _ h hW hS (lv_sub hl [0, 1, 3] rfl)
set_option maxHeartbeats 4000000 in
set_option maxRecDepth 100000 in
theorem kX12_sitting {post : tq_St → Int32 → Prop} {M : tq_St} {p0 : Int32} (h : wpX12_sitting post M p0) : tq_mI l yX12_sitting (tq_ws yX12_sitting cX12_sitting 4 (some .int)) 0 0 D cy z H0 ad N S M [.ref (ad 64 0), .int p0] post := by
  unfold wpX12_sitting at h
  refine Met.ofW (cc := cX12_sitting) (maxL := 4) (ret := (some .int)) (by decide) rfl ?_
  intro p e s m args below meth c s₁ B hml hv
  obtain ⟨rfl, hW, hK, hG⟩ := hv
  have hx := B.exec
  have hb := B.bytes
  have hr := B.returns
  have hts := atoms_spec (ws := (tq_ws yX12_sitting cX12_sitting 4 (some .int))) B.pre
  have hw : ∀ w ∈ tq_W, w.before _ s = true := fun w h => hts w (List.mem_cons_of_mem _ h)
  have hown : s.vm.findClass RX12 = some m.cls := findClass_of_methodNamed B.named
  have hlocks := B.notSynchronized
  have C : tq_At p s m meth c [.ref (ad 64 0), .int p0].toArray cX12_sitting 4 ((some .int)) ((tq_ws yX12_sitting cX12_sitting 4 (some .int))) RX12 D cy z ad := ⟨hx, hb, hr, hml, hown, hts, hlocks, hK, hG⟩
  have hS : va_S (fun q => z ≤ q) s.heap s.heap [] := va_S.rf
  have hl := lv_entry ([.ref (ad 64 0), .int p0]) (n := 4) (Nat.le_of_ble_eq_true rfl)
  rw [lg_entry_eq]
  generalize (lg_sl ([.ref (ad 64 0), .int p0]) ++ List.replicate (4 - (lg_sl ([.ref (ad 64 0), .int p0])).length) Slot.unset).toArray = ls at hl ⊢
  have hl : lv_has ls 4 [(0, .ref (ad 64 0)), (1, .int p0)] := hl
  have hW : tq_wd D cy z H0 ad N (tq_mix S M) s.heap := hW
  refine lv_iconst (v := 0) hx hb dX12_sitting_0 (by decide) ?_
  refine lv_istore_n (lv' := [(2, .int 0), (0, .ref (ad 64 0)), (1, .int p0)]) hx hb dX12_sitting_1 rfl hl (by decide) rfl (fun ls hl => ?_)
  refine lv_iconst (v := 0) hx hb dX12_sitting_2 (by decide) ?_
  refine lv_istore_n (lv' := [(3, .int 0), (2, .int 0), (0, .ref (ad 64 0)), (1, .int p0)]) hx hb dX12_sitting_3 rfl hl (by decide) rfl (fun ls hl => ?_)
  obtain ⟨nq, h⟩ := h
  exact bX12_sitting_4 C  nq _ _ _ _ _ _ _ h hW hS (lv_sub hl [2, 3, 1, 0] rfl)
-- ranks
def wbX12_ranks_34 (post : tq_St → Int32 → Prop) (L4 : tq_St → Int32 → Int32 → Int32 → Prop) (M : tq_St) (x1 : Int32) (x3 : Int32) (y0 : Int32) (y1 : Int32) : Prop :=
  L4 M x1 (y1 + y0) (x3 + 1)
def wbX12_ranks_4 (post : tq_St → Int32 → Prop) : Nat → tq_St → Int32 → Int32 → Int32 → Prop
  | 0, _, _, _, _ => False
  | n + 1, M, x1, x2, x3 =>
    ((M 64 0 6) ≤ x3 → (post M x2)) ∧ (¬ (M 64 0 6) ≤ x3 → ((¬ ((x1 >>> (x3 &&& 31)) &&& 1) = 1 → (wbX12_ranks_34 post  (wbX12_ranks_4 post n) M x1 x3 0 x2)) ∧ (((x1 >>> (x3 &&& 31)) &&& 1) = 1 → (vp_in x3 20 ∧ (wbX12_ranks_34 post  (wbX12_ranks_4 post n) M x1 x3 ((M 108 0 x3.toNatClampNeg) + 1) x2)))))
def wpX12_ranks (post : tq_St → Int32 → Prop) (M : tq_St) (p0 : Int32) : Prop :=
  ∃ nq, wbX12_ranks_4 post nq M p0 0 0
set_option maxHeartbeats 4000000 in
set_option maxRecDepth 100000 in
theorem bX12_ranks_34 {p : Program} {e : Env} {s : State} {m : MethodId} {args : Array Value} {below : List Frame} {meth : Method} {c : Code} {post : tq_St → Int32 → Prop} (C : tq_At p s m meth c args cX12_ranks 4 ((some .int)) ((tq_ws yX12_ranks cX12_ranks 4 (some .int))) RX12 D cy z ad) {L4 : tq_St → Int32 → Int32 → Int32 → Prop} (hL4 : ∀ (M : tq_St) (x1 : Int32) (x2 : Int32) (x3 : Int32) (H : Heap) (locs : List Loc) (ls : Array Slot), L4 M x1 x2 x3 → tq_wd D cy z H0 ad N (tq_mix S M) H → va_S (fun q => z ≤ q) s.heap H locs → lv_has ls 4 [(0, .ref (ad 64 0)), (1, .int x1), (2, .int x2), (3, .int x3)] → W p l e (tq_rm 0 0) s m args below meth c H locs 0 0 (MQ below (va_Qi (fun r u => post u r) (tq_P D cy z H0 ad N S) (fun q => z ≤ q)) args s 0 0 (fun q => z ≤ q)) (F0 m 4 ls [])) : ∀ (M : tq_St) (x1 : Int32) (x3 : Int32) (y0 : Int32) (y1 : Int32) (H : Heap) (locs : List Loc) (ls : Array Slot), wbX12_ranks_34 post  L4 M x1 x3 y0 y1 → tq_wd D cy z H0 ad N (tq_mix S M) H → va_S (fun q => z ≤ q) s.heap H locs → lv_has ls 4 [(0, .ref (ad 64 0)), (1, .int x1), (3, .int x3)] → W p l e (tq_rm 0 0) s m args below meth c H locs 0 0 (MQ below (va_Qi (fun r u => post u r) (tq_P D cy z H0 ad N S) (fun q => z ≤ q)) args s 0 0 (fun q => z ≤ q)) (F0 m 34 ls [.int y0, .int y1]) := by
  obtain ⟨hx, hb, hr, hml, hown, hts, hlocks, hK, hG⟩ := id C
  have hw : ∀ w ∈ tq_W, w.before args s = true := fun w h => hts w (List.mem_cons_of_mem _ h)
  intro M x1 x3 y0 y1 H locs ls h hW hS hl
  unfold wbX12_ranks_34 at h
  refine lv_iadd hx hb dX12_ranks_34 ?_
  refine lv_istore_n (lv' := [(2, .int (y1 + y0)), (0, .ref (ad 64 0)), (1, .int x1), (3, .int x3)]) hx hb dX12_ranks_35 rfl hl (by decide) rfl (fun ls hl => ?_)
  refine lv_iinc (v := x3 + 1) (lv' := [(3, .int (x3 + 1)), (2, .int (y1 + y0)), (0, .ref (ad 64 0)), (1, .int x1)]) hx hb dX12_ranks_36 hl (k := 3) rfl rfl (by decide) rfl (fun ls hl => ?_)
  refine lv_goto (tgt := 4) hx hb dX12_ranks_39 (by decide) ?_
  exact hL4 _ _ _ _ _ _ _ h hW hS (lv_sub hl [2, 3, 1, 0] rfl)
set_option maxHeartbeats 4000000 in
set_option maxRecDepth 100000 in
theorem bX12_ranks_4 {p : Program} {e : Env} {s : State} {m : MethodId} {args : Array Value} {below : List Frame} {meth : Method} {c : Code} {post : tq_St → Int32 → Prop} (C : tq_At p s m meth c args cX12_ranks 4 ((some .int)) ((tq_ws yX12_ranks cX12_ranks 4 (some .int))) RX12 D cy z ad)  : ∀ n : Nat, ∀ (M : tq_St) (x1 : Int32) (x2 : Int32) (x3 : Int32) (H : Heap) (locs : List Loc) (ls : Array Slot), wbX12_ranks_4 post   n M x1 x2 x3 → tq_wd D cy z H0 ad N (tq_mix S M) H → va_S (fun q => z ≤ q) s.heap H locs → lv_has ls 4 [(0, .ref (ad 64 0)), (1, .int x1), (2, .int x2), (3, .int x3)] → W p l e (tq_rm 0 0) s m args below meth c H locs 0 0 (MQ below (va_Qi (fun r u => post u r) (tq_P D cy z H0 ad N S) (fun q => z ≤ q)) args s 0 0 (fun q => z ≤ q)) (F0 m 4 ls []) := by
  obtain ⟨hx, hb, hr, hml, hown, hts, hlocks, hK, hG⟩ := id C
  have hw : ∀ w ∈ tq_W, w.before args s = true := fun w h => hts w (List.mem_cons_of_mem _ h)
  intro n
  induction n with
  | zero =>
    intro M x1 x2 x3 H locs ls h
    exact absurd h (by unfold wbX12_ranks_4; exact id)
  | succ n ih =>
    intro M x1 x2 x3 H locs ls h hW hS hl
    unfold wbX12_ranks_4 at h
    refine lv_iload_n hx hb dX12_ranks_4 rfl (lv_at hl 3 rfl) ?_
    refine lv_aload_n hx hb dX12_ranks_5 rfl (lv_at hl 0 rfl) ?_
    refine tqm_get (v := .int (M 64 0 6)) hx hb hw tq_inX12 hown hK hW (by decide) (tq_mk_64 (by decide)) rfl 6 (by decide) (hw _ tw_1414) (fun _ h9 => h9) rfl dX12_ranks_6 ?_
    refine lv_icmp_ge (tgt := 42) hx hb dX12_ranks_9 (by decide) (fun c1 => ?_) (fun c1 => ?_)
    · have h := h.1 c1
      refine lv_iload_n hx hb dX12_ranks_42 rfl (lv_at hl 2 rfl) ?_
      exact W.iret (v := x2) hx hb hr (fun t ht hWm => ⟨⟨_, M, rfl, h, tq_pe ht hW⟩, hS.F ht⟩) hS.2.2 dX12_ranks_43
    · have h := h.2 c1
      refine lv_iload_n hx hb dX12_ranks_12 rfl (lv_at hl 2 rfl) ?_
      refine lv_iload_n hx hb dX12_ranks_13 rfl (lv_at hl 1 rfl) ?_
      refine lv_iload_n hx hb dX12_ranks_14 rfl (lv_at hl 3 rfl) ?_
      refine lv_ishr hx hb dX12_ranks_15 ?_
      refine lv_iconst (v := 1) hx hb dX12_ranks_16 (by decide) ?_
      refine lv_iand hx hb dX12_ranks_17 ?_
      refine lv_iconst (v := 1) hx hb dX12_ranks_18 (by decide) ?_
      refine lv_icmp_ne (tgt := 33) hx hb dX12_ranks_19 (by decide) (fun c2 => ?_) (fun c2 => ?_)
      · have h := h.1 c2
        refine lv_iconst (v := 0) hx hb dX12_ranks_33 (by decide) ?_
        exact bX12_ranks_34 C (fun M9 a09 a19 a29 H9 q9 ls9 h9 hW9 hS9 hl9 => ih M9 a09 a19 a29 H9 q9 ls9 h9 hW9 hS9 hl9) _ _ _ _ _ _ _ _ h hW hS (lv_sub hl [0, 1, 3] rfl)
      · have h := h.2 c2
        refine lv_aload_n hx hb dX12_ranks_22 rfl (lv_at hl 0 rfl) ?_
        refine tqm_get (v := .ref (ad 108 0)) hx hb hw tq_inX12 hown hK hW (by decide) (tq_mk_64 (by decide)) rfl 8 (by decide) (hw _ tw_1416) (fun _ h9 => h9) rfl dX12_ranks_23 ?_
        refine lv_iload_n hx hb dX12_ranks_26 rfl (lv_at hl 3 rfl) ?_
        obtain ⟨b3, h⟩ := h
        refine tqm_iald (jn := x3.toNatClampNeg) hx hb hK hW (by decide) (tq_mk_108 (by decide)) b3 rfl dX12_ranks_27 ?_
        refine lv_iconst (v := 1) hx hb dX12_ranks_28 (by decide) ?_
        refine lv_iadd hx hb dX12_ranks_29 ?_
        refine lv_goto (tgt := 34) hx hb dX12_ranks_30 (by decide) ?_
        exact bX12_ranks_34 C (fun M9 a09 a19 a29 H9 q9 ls9 h9 hW9 hS9 hl9 => ih M9 a09 a19 a29 H9 q9 ls9 h9 hW9 hS9 hl9) _ _ _ _ _ _ _ _ h hW hS (lv_sub hl [0, 1, 3] rfl)
set_option maxHeartbeats 4000000 in
set_option maxRecDepth 100000 in
theorem kX12_ranks {post : tq_St → Int32 → Prop} {M : tq_St} {p0 : Int32} (h : wpX12_ranks post M p0) : tq_mI l yX12_ranks (tq_ws yX12_ranks cX12_ranks 4 (some .int)) 0 0 D cy z H0 ad N S M [.ref (ad 64 0), .int p0] post := by
  unfold wpX12_ranks at h
  refine Met.ofW (cc := cX12_ranks) (maxL := 4) (ret := (some .int)) (by decide) rfl ?_
  intro p e s m args below meth c s₁ B hml hv
  obtain ⟨rfl, hW, hK, hG⟩ := hv
  have hx := B.exec
  have hb := B.bytes
  have hr := B.returns
  have hts := atoms_spec (ws := (tq_ws yX12_ranks cX12_ranks 4 (some .int))) B.pre
  have hw : ∀ w ∈ tq_W, w.before _ s = true := fun w h => hts w (List.mem_cons_of_mem _ h)
  have hown : s.vm.findClass RX12 = some m.cls := findClass_of_methodNamed B.named
  have hlocks := B.notSynchronized
  have C : tq_At p s m meth c [.ref (ad 64 0), .int p0].toArray cX12_ranks 4 ((some .int)) ((tq_ws yX12_ranks cX12_ranks 4 (some .int))) RX12 D cy z ad := ⟨hx, hb, hr, hml, hown, hts, hlocks, hK, hG⟩
  have hS : va_S (fun q => z ≤ q) s.heap s.heap [] := va_S.rf
  have hl := lv_entry ([.ref (ad 64 0), .int p0]) (n := 4) (Nat.le_of_ble_eq_true rfl)
  rw [lg_entry_eq]
  generalize (lg_sl ([.ref (ad 64 0), .int p0]) ++ List.replicate (4 - (lg_sl ([.ref (ad 64 0), .int p0])).length) Slot.unset).toArray = ls at hl ⊢
  have hl : lv_has ls 4 [(0, .ref (ad 64 0)), (1, .int p0)] := hl
  have hW : tq_wd D cy z H0 ad N (tq_mix S M) s.heap := hW
  refine lv_iconst (v := 0) hx hb dX12_ranks_0 (by decide) ?_
  refine lv_istore_n (lv' := [(2, .int 0), (0, .ref (ad 64 0)), (1, .int p0)]) hx hb dX12_ranks_1 rfl hl (by decide) rfl (fun ls hl => ?_)
  refine lv_iconst (v := 0) hx hb dX12_ranks_2 (by decide) ?_
  refine lv_istore_n (lv' := [(3, .int 0), (2, .int 0), (0, .ref (ad 64 0)), (1, .int p0)]) hx hb dX12_ranks_3 rfl hl (by decide) rfl (fun ls hl => ?_)
  obtain ⟨nq, h⟩ := h
  exact bX12_ranks_4 C  nq _ _ _ _ _ _ _ h hW hS (lv_sub hl [2, 3, 1, 0] rfl)
-- greatestRank
def wbX12_greatestRank_35 (post : tq_St → Int32 → Prop) (L4 : tq_St → Int32 → Int32 → Int32 → Prop) (M : tq_St) (x1 : Int32) (x3 : Int32) (y0 : Int32) : Prop :=
  L4 M x1 y0 (x3 + 1)
def wbX12_greatestRank_4 (post : tq_St → Int32 → Prop) : Nat → tq_St → Int32 → Int32 → Int32 → Prop
  | 0, _, _, _, _ => False
  | n + 1, M, x1, x2, x3 =>
    ((M 64 0 6) ≤ x3 → (post M x2)) ∧ (¬ (M 64 0 6) ≤ x3 → ((¬ ((x1 >>> (x3 &&& 31)) &&& 1) = 1 → (wbX12_greatestRank_35 post  (wbX12_greatestRank_4 post n) M x1 x3 x2)) ∧ (((x1 >>> (x3 &&& 31)) &&& 1) = 1 → (vp_in x3 20 ∧ (wbX12_greatestRank_35 post  (wbX12_greatestRank_4 post n) M x1 x3 (if x2 < (M 108 0 x3.toNatClampNeg) then (M 108 0 x3.toNatClampNeg) else x2))))))
def wpX12_greatestRank (post : tq_St → Int32 → Prop) (M : tq_St) (p0 : Int32) : Prop :=
  ∃ nq, wbX12_greatestRank_4 post nq M p0 ((-1)) 0
set_option maxHeartbeats 4000000 in
set_option maxRecDepth 100000 in
theorem bX12_greatestRank_35 {p : Program} {e : Env} {s : State} {m : MethodId} {args : Array Value} {below : List Frame} {meth : Method} {c : Code} {post : tq_St → Int32 → Prop} (C : tq_At p s m meth c args cX12_greatestRank 4 ((some .int)) ((tq_ws yX12_greatestRank cX12_greatestRank 4 (some .int))) RX12 D cy z ad) {L4 : tq_St → Int32 → Int32 → Int32 → Prop} (hL4 : ∀ (M : tq_St) (x1 : Int32) (x2 : Int32) (x3 : Int32) (H : Heap) (locs : List Loc) (ls : Array Slot), L4 M x1 x2 x3 → tq_wd D cy z H0 ad N (tq_mix S M) H → va_S (fun q => z ≤ q) s.heap H locs → lv_has ls 4 [(0, .ref (ad 64 0)), (1, .int x1), (2, .int x2), (3, .int x3)] → W p l e (tq_rm 1 21) s m args below meth c H locs 0 0 (MQ below (va_Qi (fun r u => post u r) (tq_P D cy z H0 ad N S) (fun q => z ≤ q)) args s 0 0 (fun q => z ≤ q)) (F0 m 4 ls [])) : ∀ (M : tq_St) (x1 : Int32) (x3 : Int32) (y0 : Int32) (H : Heap) (locs : List Loc) (ls : Array Slot), wbX12_greatestRank_35 post  L4 M x1 x3 y0 → tq_wd D cy z H0 ad N (tq_mix S M) H → va_S (fun q => z ≤ q) s.heap H locs → lv_has ls 4 [(0, .ref (ad 64 0)), (1, .int x1), (3, .int x3)] → W p l e (tq_rm 1 21) s m args below meth c H locs 0 0 (MQ below (va_Qi (fun r u => post u r) (tq_P D cy z H0 ad N S) (fun q => z ≤ q)) args s 0 0 (fun q => z ≤ q)) (F0 m 35 ls [.int y0]) := by
  obtain ⟨hx, hb, hr, hml, hown, hts, hlocks, hK, hG⟩ := id C
  have hw : ∀ w ∈ tq_W, w.before args s = true := fun w h => hts w (List.mem_cons_of_mem _ h)
  intro M x1 x3 y0 H locs ls h hW hS hl
  unfold wbX12_greatestRank_35 at h
  refine lv_istore_n (lv' := [(2, .int y0), (0, .ref (ad 64 0)), (1, .int x1), (3, .int x3)]) hx hb dX12_greatestRank_35 rfl hl (by decide) rfl (fun ls hl => ?_)
  refine lv_iinc (v := x3 + 1) (lv' := [(3, .int (x3 + 1)), (2, .int y0), (0, .ref (ad 64 0)), (1, .int x1)]) hx hb dX12_greatestRank_36 hl (k := 3) rfl rfl (by decide) rfl (fun ls hl => ?_)
  refine lv_goto (tgt := 4) hx hb dX12_greatestRank_39 (by decide) ?_
  exact hL4 _ _ _ _ _ _ _ h hW hS (lv_sub hl [2, 3, 1, 0] rfl)
set_option maxHeartbeats 4000000 in
set_option maxRecDepth 100000 in
theorem bX12_greatestRank_4 {p : Program} {e : Env} {s : State} {m : MethodId} {args : Array Value} {below : List Frame} {meth : Method} {c : Code} {post : tq_St → Int32 → Prop} (C : tq_At p s m meth c args cX12_greatestRank 4 ((some .int)) ((tq_ws yX12_greatestRank cX12_greatestRank 4 (some .int))) RX12 D cy z ad)  : ∀ n : Nat, ∀ (M : tq_St) (x1 : Int32) (x2 : Int32) (x3 : Int32) (H : Heap) (locs : List Loc) (ls : Array Slot), wbX12_greatestRank_4 post   n M x1 x2 x3 → tq_wd D cy z H0 ad N (tq_mix S M) H → va_S (fun q => z ≤ q) s.heap H locs → lv_has ls 4 [(0, .ref (ad 64 0)), (1, .int x1), (2, .int x2), (3, .int x3)] → W p l e (tq_rm 1 21) s m args below meth c H locs 0 0 (MQ below (va_Qi (fun r u => post u r) (tq_P D cy z H0 ad N S) (fun q => z ≤ q)) args s 0 0 (fun q => z ≤ q)) (F0 m 4 ls []) := by
  obtain ⟨hx, hb, hr, hml, hown, hts, hlocks, hK, hG⟩ := id C
  have hw : ∀ w ∈ tq_W, w.before args s = true := fun w h => hts w (List.mem_cons_of_mem _ h)
  intro n
  induction n with
  | zero =>
    intro M x1 x2 x3 H locs ls h
    exact absurd h (by unfold wbX12_greatestRank_4; exact id)
  | succ n ih =>
    intro M x1 x2 x3 H locs ls h hW hS hl
    unfold wbX12_greatestRank_4 at h
    refine lv_iload_n hx hb dX12_greatestRank_4 rfl (lv_at hl 3 rfl) ?_
    refine lv_aload_n hx hb dX12_greatestRank_5 rfl (lv_at hl 0 rfl) ?_
    refine tqm_get (v := .int (M 64 0 6)) hx hb hw tq_inX12 hown hK hW (by decide) (tq_mk_64 (by decide)) rfl 6 (by decide) (hw _ tw_1414) (fun _ h9 => h9) rfl dX12_greatestRank_6 ?_
    refine lv_icmp_ge (tgt := 42) hx hb dX12_greatestRank_9 (by decide) (fun c1 => ?_) (fun c1 => ?_)
    · have h := h.1 c1
      refine lv_iload_n hx hb dX12_greatestRank_42 rfl (lv_at hl 2 rfl) ?_
      exact W.iret (v := x2) hx hb hr (fun t ht hWm => ⟨⟨_, M, rfl, h, tq_pe ht hW⟩, hS.F ht⟩) hS.2.2 dX12_greatestRank_43
    · have h := h.2 c1
      refine lv_iload_n hx hb dX12_greatestRank_12 rfl (lv_at hl 1 rfl) ?_
      refine lv_iload_n hx hb dX12_greatestRank_13 rfl (lv_at hl 3 rfl) ?_
      refine lv_ishr hx hb dX12_greatestRank_14 ?_
      refine lv_iconst (v := 1) hx hb dX12_greatestRank_15 (by decide) ?_
      refine lv_iand hx hb dX12_greatestRank_16 ?_
      refine lv_iconst (v := 1) hx hb dX12_greatestRank_17 (by decide) ?_
      refine lv_icmp_ne (tgt := 34) hx hb dX12_greatestRank_18 (by decide) (fun c2 => ?_) (fun c2 => ?_)
      · have h := h.1 c2
        refine lv_iload_n hx hb dX12_greatestRank_34 rfl (lv_at hl 2 rfl) ?_
        exact bX12_greatestRank_35 C (fun M9 a09 a19 a29 H9 q9 ls9 h9 hW9 hS9 hl9 => ih M9 a09 a19 a29 H9 q9 ls9 h9 hW9 hS9 hl9) _ _ _ _ _ _ _ h hW hS (lv_sub hl [0, 1, 3] rfl)
      · have h := h.2 c2
        refine lv_iload_n hx hb dX12_greatestRank_21 rfl (lv_at hl 2 rfl) ?_
        refine lv_aload_n hx hb dX12_greatestRank_22 rfl (lv_at hl 0 rfl) ?_
        refine tqm_get (v := .ref (ad 108 0)) hx hb hw tq_inX12 hown hK hW (by decide) (tq_mk_64 (by decide)) rfl 8 (by decide) (hw _ tw_1416) (fun _ h9 => h9) rfl dX12_greatestRank_23 ?_
        refine lv_iload_n hx hb dX12_greatestRank_26 rfl (lv_at hl 3 rfl) ?_
        obtain ⟨b3, h⟩ := h
        refine tqm_iald (jn := x3.toNatClampNeg) hx hb hK hW (by decide) (tq_mk_108 (by decide)) b3 rfl dX12_greatestRank_27 ?_
        refine va_mmax hx hb (hml.trans hl.1.symm) hown (hw _ tw_1950) (hw _ tw_660) (hw _ tw_132) (hw _ tw_661) (Nat.le_of_ble_eq_true rfl) (Nat.le_of_ble_eq_true rfl) (Nat.zero_le _) (Nat.zero_le _) dX12_greatestRank_28 ?_
        refine lv_goto (tgt := 35) hx hb dX12_greatestRank_31 (by decide) ?_
        exact bX12_greatestRank_35 C (fun M9 a09 a19 a29 H9 q9 ls9 h9 hW9 hS9 hl9 => ih M9 a09 a19 a29 H9 q9 ls9 h9 hW9 hS9 hl9) _ _ _ _ _ _ _ h hW hS (lv_sub hl [0, 1, 3] rfl)
set_option maxHeartbeats 4000000 in
set_option maxRecDepth 100000 in
theorem kX12_greatestRank {post : tq_St → Int32 → Prop} {M : tq_St} {p0 : Int32} (h : wpX12_greatestRank post M p0) : tq_mI l yX12_greatestRank (tq_ws yX12_greatestRank cX12_greatestRank 4 (some .int)) 1 21 D cy z H0 ad N S M [.ref (ad 64 0), .int p0] post := by
  unfold wpX12_greatestRank at h
  refine Met.ofW (cc := cX12_greatestRank) (maxL := 4) (ret := (some .int)) (by decide) rfl ?_
  intro p e s m args below meth c s₁ B hml hv
  obtain ⟨rfl, hW, hK, hG⟩ := hv
  have hx := B.exec
  have hb := B.bytes
  have hr := B.returns
  have hts := atoms_spec (ws := (tq_ws yX12_greatestRank cX12_greatestRank 4 (some .int))) B.pre
  have hw : ∀ w ∈ tq_W, w.before _ s = true := fun w h => hts w (List.mem_cons_of_mem _ h)
  have hown : s.vm.findClass RX12 = some m.cls := findClass_of_methodNamed B.named
  have hlocks := B.notSynchronized
  have C : tq_At p s m meth c [.ref (ad 64 0), .int p0].toArray cX12_greatestRank 4 ((some .int)) ((tq_ws yX12_greatestRank cX12_greatestRank 4 (some .int))) RX12 D cy z ad := ⟨hx, hb, hr, hml, hown, hts, hlocks, hK, hG⟩
  have hS : va_S (fun q => z ≤ q) s.heap s.heap [] := va_S.rf
  have hl := lv_entry ([.ref (ad 64 0), .int p0]) (n := 4) (Nat.le_of_ble_eq_true rfl)
  rw [lg_entry_eq]
  generalize (lg_sl ([.ref (ad 64 0), .int p0]) ++ List.replicate (4 - (lg_sl ([.ref (ad 64 0), .int p0])).length) Slot.unset).toArray = ls at hl ⊢
  have hl : lv_has ls 4 [(0, .ref (ad 64 0)), (1, .int p0)] := hl
  have hW : tq_wd D cy z H0 ad N (tq_mix S M) s.heap := hW
  refine lv_iconst (v := (-1)) hx hb dX12_greatestRank_0 (by decide) ?_
  refine lv_istore_n (lv' := [(2, .int ((-1))), (0, .ref (ad 64 0)), (1, .int p0)]) hx hb dX12_greatestRank_1 rfl hl (by decide) rfl (fun ls hl => ?_)
  refine lv_iconst (v := 0) hx hb dX12_greatestRank_2 (by decide) ?_
  refine lv_istore_n (lv' := [(3, .int 0), (2, .int ((-1))), (0, .ref (ad 64 0)), (1, .int p0)]) hx hb dX12_greatestRank_3 rfl hl (by decide) rfl (fun ls hl => ?_)
  obtain ⟨nq, h⟩ := h
  exact bX12_greatestRank_4 C  nq _ _ _ _ _ _ _ h hW hS (lv_sub hl [2, 3, 1, 0] rfl)
-- carries
def wbX12_carries_25 (post : tq_St → Int32 → Prop)  (M : tq_St) : Prop :=
  post M 0
def wbX12_carries_58 (post : tq_St → Int32 → Prop)  (M : tq_St) (y0 : Int32) : Prop :=
  narrow .boolean (.int y0) = .int y0 ∧ post M y0
def wbX12_carries_83 (post : tq_St → Int32 → Prop)  (M : tq_St) (y0 : Int32) : Prop :=
  narrow .boolean (.int y0) = .int y0 ∧ post M y0
def wbX12_carries_82 (post : tq_St → Int32 → Prop)  (M : tq_St) : Prop :=
  wbX12_carries_83 post M 0
def wpX12_carries (post : tq_St → Int32 → Prop) (M : tq_St) (p0 : Int32) (p1 : Int32) (p2 : Int32) : Prop :=
  (¬ (p1 &&& p2) = 0 → (wbX12_carries_25 post M )) ∧ ((p1 &&& p2) = 0 → (wpJ6_bitCount_0f7a4 (fun M2 r3 => wpX12_sitting (fun M4 r5 => wpJ6_bitCount_0f7a4 (fun M6 r7 => (r7 ≤ (2 * r3) → (wpX12_ranks (fun M9 r10 => wpX12_ranks (fun M11 r12 => (r10 = r12 → ((p1 = 0 → (wbX12_carries_82 post M11 )) ∧ (¬ p1 = 0 → (wpX12_greatestRank (fun M15 r16 => wpX12_greatestRank (fun M17 r18 => (¬ r16 = r18 → (wbX12_carries_82 post M17 )) ∧ (r16 = r18 → (wbX12_carries_83 post M17 1))) M15 (p1 ||| p2)) M11 p1)))) ∧ (¬ r10 = r12 → (wpX12_ranks (fun M20 r21 => wpX12_ranks (fun M22 r23 => (r21 ≤ r23 → (wbX12_carries_58 post M22 0)) ∧ (¬ r21 ≤ r23 → (wbX12_carries_58 post M22 1))) M20 p2) M11 p1))) M9 p2) M6 p1)) ∧ (¬ r7 ≤ (2 * r3) → (wbX12_carries_25 post M6 ))) M4 r5) M2 p0) M (p1 ||| p2)))
set_option maxHeartbeats 4000000 in
set_option maxRecDepth 100000 in
theorem bX12_carries_25 {p : Program} {e : Env} {s : State} {m : MethodId} {args : Array Value} {below : List Frame} {meth : Method} {c : Code} {post : tq_St → Int32 → Prop} (C : tq_At p s m meth c args cX12_carries 4 ((some .boolean)) ((tq_ws yX12_carries cX12_carries 4 (some .boolean))) RX12 D cy z ad)  : ∀ (M : tq_St)  (H : Heap) (locs : List Loc) (ls : Array Slot), wbX12_carries_25 post   M  → tq_wd D cy z H0 ad N (tq_mix S M) H → va_S (fun q => z ≤ q) s.heap H locs → lv_has ls 4 [] → W p l e (tq_rm 2 44) s m args below meth c H locs 0 0 (MQ below (va_Qi (fun r u => post u r) (tq_P D cy z H0 ad N S) (fun q => z ≤ q)) args s 0 0 (fun q => z ≤ q)) (F0 m 25 ls []) := by
  obtain ⟨hx, hb, hr, hml, hown, hts, hlocks, hK, hG⟩ := id C
  have hw : ∀ w ∈ tq_W, w.before args s = true := fun w h => hts w (List.mem_cons_of_mem _ h)
  intro M  H locs ls h hW hS hl
  unfold wbX12_carries_25 at h
  refine lv_iconst (v := 0) hx hb dX12_carries_25 (by decide) ?_
  exact W.zret (v := 0) hx hb hr rfl (fun t ht hWm => ⟨⟨_, M, rfl, h, tq_pe ht hW⟩, hS.F ht⟩) hS.2.2 dX12_carries_26
set_option maxHeartbeats 4000000 in
set_option maxRecDepth 100000 in
theorem bX12_carries_58 {p : Program} {e : Env} {s : State} {m : MethodId} {args : Array Value} {below : List Frame} {meth : Method} {c : Code} {post : tq_St → Int32 → Prop} (C : tq_At p s m meth c args cX12_carries 4 ((some .boolean)) ((tq_ws yX12_carries cX12_carries 4 (some .boolean))) RX12 D cy z ad)  : ∀ (M : tq_St) (y0 : Int32) (H : Heap) (locs : List Loc) (ls : Array Slot), wbX12_carries_58 post   M y0 → tq_wd D cy z H0 ad N (tq_mix S M) H → va_S (fun q => z ≤ q) s.heap H locs → lv_has ls 4 [] → W p l e (tq_rm 2 44) s m args below meth c H locs 0 0 (MQ below (va_Qi (fun r u => post u r) (tq_P D cy z H0 ad N S) (fun q => z ≤ q)) args s 0 0 (fun q => z ≤ q)) (F0 m 58 ls [.int y0]) := by
  obtain ⟨hx, hb, hr, hml, hown, hts, hlocks, hK, hG⟩ := id C
  have hw : ∀ w ∈ tq_W, w.before args s = true := fun w h => hts w (List.mem_cons_of_mem _ h)
  intro M y0 H locs ls h hW hS hl
  unfold wbX12_carries_58 at h
  obtain ⟨b26, h⟩ := h
  exact W.zret (v := y0) hx hb hr b26 (fun t ht hWm => ⟨⟨_, M, rfl, h, tq_pe ht hW⟩, hS.F ht⟩) hS.2.2 dX12_carries_58
set_option maxHeartbeats 4000000 in
set_option maxRecDepth 100000 in
theorem bX12_carries_83 {p : Program} {e : Env} {s : State} {m : MethodId} {args : Array Value} {below : List Frame} {meth : Method} {c : Code} {post : tq_St → Int32 → Prop} (C : tq_At p s m meth c args cX12_carries 4 ((some .boolean)) ((tq_ws yX12_carries cX12_carries 4 (some .boolean))) RX12 D cy z ad)  : ∀ (M : tq_St) (y0 : Int32) (H : Heap) (locs : List Loc) (ls : Array Slot), wbX12_carries_83 post   M y0 → tq_wd D cy z H0 ad N (tq_mix S M) H → va_S (fun q => z ≤ q) s.heap H locs → lv_has ls 4 [] → W p l e (tq_rm 2 44) s m args below meth c H locs 0 0 (MQ below (va_Qi (fun r u => post u r) (tq_P D cy z H0 ad N S) (fun q => z ≤ q)) args s 0 0 (fun q => z ≤ q)) (F0 m 83 ls [.int y0]) := by
  obtain ⟨hx, hb, hr, hml, hown, hts, hlocks, hK, hG⟩ := id C
  have hw : ∀ w ∈ tq_W, w.before args s = true := fun w h => hts w (List.mem_cons_of_mem _ h)
  intro M y0 H locs ls h hW hS hl
  unfold wbX12_carries_83 at h
  obtain ⟨b25, h⟩ := h
  exact W.zret (v := y0) hx hb hr b25 (fun t ht hWm => ⟨⟨_, M, rfl, h, tq_pe ht hW⟩, hS.F ht⟩) hS.2.2 dX12_carries_83
set_option maxHeartbeats 4000000 in
set_option maxRecDepth 100000 in
theorem bX12_carries_82 {p : Program} {e : Env} {s : State} {m : MethodId} {args : Array Value} {below : List Frame} {meth : Method} {c : Code} {post : tq_St → Int32 → Prop} (C : tq_At p s m meth c args cX12_carries 4 ((some .boolean)) ((tq_ws yX12_carries cX12_carries 4 (some .boolean))) RX12 D cy z ad)  : ∀ (M : tq_St)  (H : Heap) (locs : List Loc) (ls : Array Slot), wbX12_carries_82 post   M  → tq_wd D cy z H0 ad N (tq_mix S M) H → va_S (fun q => z ≤ q) s.heap H locs → lv_has ls 4 [] → W p l e (tq_rm 2 44) s m args below meth c H locs 0 0 (MQ below (va_Qi (fun r u => post u r) (tq_P D cy z H0 ad N S) (fun q => z ≤ q)) args s 0 0 (fun q => z ≤ q)) (F0 m 82 ls []) := by
  obtain ⟨hx, hb, hr, hml, hown, hts, hlocks, hK, hG⟩ := id C
  have hw : ∀ w ∈ tq_W, w.before args s = true := fun w h => hts w (List.mem_cons_of_mem _ h)
  intro M  H locs ls h hW hS hl
  unfold wbX12_carries_82 at h
  refine lv_iconst (v := 0) hx hb dX12_carries_82 (by decide) ?_
  exact bX12_carries_83 C  _ _ _ _ _ h hW hS (lv_sub hl [] rfl)
set_option maxHeartbeats 4000000 in
set_option maxRecDepth 100000 in
theorem kX12_carries {post : tq_St → Int32 → Prop} {M : tq_St} {p0 : Int32} {p1 : Int32} {p2 : Int32} (h : wpX12_carries post M p0 p1 p2) : tq_mI l yX12_carries (tq_ws yX12_carries cX12_carries 4 (some .boolean)) 2 44 D cy z H0 ad N S M [.ref (ad 64 0), .int p0, .int p1, .int p2] post := by
  unfold wpX12_carries at h
  refine Met.ofW (cc := cX12_carries) (maxL := 4) (ret := (some .boolean)) (by decide) rfl ?_
  intro p e s m args below meth c s₁ B hml hv
  obtain ⟨rfl, hW, hK, hG⟩ := hv
  have hx := B.exec
  have hb := B.bytes
  have hr := B.returns
  have hts := atoms_spec (ws := (tq_ws yX12_carries cX12_carries 4 (some .boolean))) B.pre
  have hw : ∀ w ∈ tq_W, w.before _ s = true := fun w h => hts w (List.mem_cons_of_mem _ h)
  have hown : s.vm.findClass RX12 = some m.cls := findClass_of_methodNamed B.named
  have hlocks := B.notSynchronized
  have C : tq_At p s m meth c [.ref (ad 64 0), .int p0, .int p1, .int p2].toArray cX12_carries 4 ((some .boolean)) ((tq_ws yX12_carries cX12_carries 4 (some .boolean))) RX12 D cy z ad := ⟨hx, hb, hr, hml, hown, hts, hlocks, hK, hG⟩
  have hS : va_S (fun q => z ≤ q) s.heap s.heap [] := va_S.rf
  have hl := lv_entry ([.ref (ad 64 0), .int p0, .int p1, .int p2]) (n := 4) (Nat.le_of_ble_eq_true rfl)
  rw [lg_entry_eq]
  generalize (lg_sl ([.ref (ad 64 0), .int p0, .int p1, .int p2]) ++ List.replicate (4 - (lg_sl ([.ref (ad 64 0), .int p0, .int p1, .int p2])).length) Slot.unset).toArray = ls at hl ⊢
  have hl : lv_has ls 4 [(0, .ref (ad 64 0)), (1, .int p0), (2, .int p1), (3, .int p2)] := hl
  have hW : tq_wd D cy z H0 ad N (tq_mix S M) s.heap := hW
  refine lv_iload_n hx hb dX12_carries_0 rfl (lv_at hl 2 rfl) ?_
  refine lv_iload_n hx hb dX12_carries_1 rfl (lv_at hl 3 rfl) ?_
  refine lv_iand hx hb dX12_carries_2 ?_
  refine lv_if_ne (tgt := 25) hx hb dX12_carries_3 (by decide) (fun c1 => ?_) (fun c1 => ?_)
  · have h := h.1 c1
    exact bX12_carries_25 C  _  _ _ _ h hW hS (lv_sub hl [] rfl)
  · have h := h.2 c1
    refine lv_iconst (v := 2) hx hb dX12_carries_6 (by decide) ?_
    refine lv_iload_n hx hb dX12_carries_7 rfl (lv_at hl 2 rfl) ?_
    refine lv_iload_n hx hb dX12_carries_8 rfl (lv_at hl 3 rfl) ?_
    refine lv_ior hx hb dX12_carries_9 ?_
    refine tq_callSi (As := [.int (p1 ||| p2)]) (rest := [.int 2]) (kJ6_bitCount_0f7a4 h) ⟨hx, hb, hml, hown, hts⟩ (va_cwS 1 hts (tq_goodS tw_2022 tw_1257 tw_140 tw_1258) rfl rfl rfl (by decide +kernel) ⟨Nat.le_of_ble_eq_true rfl, Nat.le_of_ble_eq_true rfl⟩) hK hG hW hS rfl hl.1 rfl (Nat.le_of_ble_eq_true rfl) dX12_carries_10 ⟨Nat.le_of_ble_eq_true rfl, Nat.le_of_ble_eq_true rfl⟩ (fun r3 M2 H locs h hW hS => ?_)
    refine lv_imul hx hb dX12_carries_13 ?_
    refine lv_aload_n hx hb dX12_carries_14 rfl (lv_at hl 0 rfl) ?_
    refine lv_iload_n hx hb dX12_carries_15 rfl (lv_at hl 1 rfl) ?_
    refine tq_callVi (As := [.int p0]) (rest := [.int (2 * r3)]) (kX12_sitting h) ⟨hx, hb, hml, hown, hts⟩ (cwV 1 hts (tq_goodV tw_2014 tw_2016 tw_106 tw_125 tw_2017) rfl rfl rfl (by decide +kernel) ⟨Nat.le_of_ble_eq_true rfl, Nat.le_of_ble_eq_true rfl⟩) hK hG hW hS rfl hl.1 rfl (Nat.le_of_ble_eq_true rfl) dX12_carries_16 ⟨Nat.le_of_ble_eq_true rfl, Nat.le_of_ble_eq_true rfl⟩ (fun r5 M4 H locs h hW hS => ?_)
    refine tq_callSi (As := [.int r5]) (rest := [.int (2 * r3)]) (kJ6_bitCount_0f7a4 h) ⟨hx, hb, hml, hown, hts⟩ (va_cwS 1 hts (tq_goodS tw_2022 tw_1257 tw_140 tw_1258) rfl rfl rfl (by decide +kernel) ⟨Nat.le_of_ble_eq_true rfl, Nat.le_of_ble_eq_true rfl⟩) hK hG hW hS rfl hl.1 rfl (Nat.le_of_ble_eq_true rfl) dX12_carries_19 ⟨Nat.le_of_ble_eq_true rfl, Nat.le_of_ble_eq_true rfl⟩ (fun r7 M6 H locs h hW hS => ?_)
    refine lv_icmp_ge (tgt := 27) hx hb dX12_carries_22 (by decide) (fun c8 => ?_) (fun c8 => ?_)
    · have h := h.1 c8
      refine lv_aload_n hx hb dX12_carries_27 rfl (lv_at hl 0 rfl) ?_
      refine lv_iload_n hx hb dX12_carries_28 rfl (lv_at hl 2 rfl) ?_
      refine tq_callVi (As := [.int p1]) (rest := []) (kX12_ranks h) ⟨hx, hb, hml, hown, hts⟩ (cwV 1 hts (tq_goodV tw_2023 tw_2025 tw_108 tw_125 tw_2026) rfl rfl rfl (by decide +kernel) ⟨Nat.le_of_ble_eq_true rfl, Nat.le_of_ble_eq_true rfl⟩) hK hG hW hS rfl hl.1 rfl (Nat.le_of_ble_eq_true rfl) dX12_carries_29 ⟨Nat.le_of_ble_eq_true rfl, Nat.le_of_ble_eq_true rfl⟩ (fun r10 M9 H locs h hW hS => ?_)
      refine lv_aload_n hx hb dX12_carries_32 rfl (lv_at hl 0 rfl) ?_
      refine lv_iload_n hx hb dX12_carries_33 rfl (lv_at hl 3 rfl) ?_
      refine tq_callVi (As := [.int p2]) (rest := [.int r10]) (kX12_ranks h) ⟨hx, hb, hml, hown, hts⟩ (cwV 1 hts (tq_goodV tw_2023 tw_2025 tw_108 tw_125 tw_2026) rfl rfl rfl (by decide +kernel) ⟨Nat.le_of_ble_eq_true rfl, Nat.le_of_ble_eq_true rfl⟩) hK hG hW hS rfl hl.1 rfl (Nat.le_of_ble_eq_true rfl) dX12_carries_34 ⟨Nat.le_of_ble_eq_true rfl, Nat.le_of_ble_eq_true rfl⟩ (fun r12 M11 H locs h hW hS => ?_)
      refine lv_icmp_eq (tgt := 59) hx hb dX12_carries_37 (by decide) (fun c13 => ?_) (fun c13 => ?_)
      · have h := h.1 c13
        refine lv_iload_n hx hb dX12_carries_59 rfl (lv_at hl 2 rfl) ?_
        refine lv_if_eq (tgt := 82) hx hb dX12_carries_60 (by decide) (fun c14 => ?_) (fun c14 => ?_)
        · have h := h.1 c14
          exact bX12_carries_82 C  _  _ _ _ h hW hS (lv_sub hl [] rfl)
        · have h := h.2 c14
          refine lv_aload_n hx hb dX12_carries_63 rfl (lv_at hl 0 rfl) ?_
          refine lv_iload_n hx hb dX12_carries_64 rfl (lv_at hl 2 rfl) ?_
          refine tq_callVi (As := [.int p1]) (rest := []) (kX12_greatestRank h) ⟨hx, hb, hml, hown, hts⟩ (cwV 1 hts (tq_goodV tw_2027 tw_2029 tw_109 tw_125 tw_2030) rfl rfl rfl (by decide +kernel) ⟨Nat.le_of_ble_eq_true rfl, Nat.le_of_ble_eq_true rfl⟩) hK hG hW hS rfl hl.1 rfl (Nat.le_of_ble_eq_true rfl) dX12_carries_65 ⟨Nat.le_of_ble_eq_true rfl, Nat.le_of_ble_eq_true rfl⟩ (fun r16 M15 H locs h hW hS => ?_)
          refine lv_aload_n hx hb dX12_carries_68 rfl (lv_at hl 0 rfl) ?_
          refine lv_iload_n hx hb dX12_carries_69 rfl (lv_at hl 2 rfl) ?_
          refine lv_iload_n hx hb dX12_carries_70 rfl (lv_at hl 3 rfl) ?_
          refine lv_ior hx hb dX12_carries_71 ?_
          refine tq_callVi (As := [.int (p1 ||| p2)]) (rest := [.int r16]) (kX12_greatestRank h) ⟨hx, hb, hml, hown, hts⟩ (cwV 1 hts (tq_goodV tw_2027 tw_2029 tw_109 tw_125 tw_2030) rfl rfl rfl (by decide +kernel) ⟨Nat.le_of_ble_eq_true rfl, Nat.le_of_ble_eq_true rfl⟩) hK hG hW hS rfl hl.1 rfl (Nat.le_of_ble_eq_true rfl) dX12_carries_72 ⟨Nat.le_of_ble_eq_true rfl, Nat.le_of_ble_eq_true rfl⟩ (fun r18 M17 H locs h hW hS => ?_)
          refine lv_icmp_ne (tgt := 82) hx hb dX12_carries_75 (by decide) (fun c19 => ?_) (fun c19 => ?_)
          · have h := h.1 c19
            exact bX12_carries_82 C  _  _ _ _ h hW hS (lv_sub hl [] rfl)
          · have h := h.2 c19
            refine lv_iconst (v := 1) hx hb dX12_carries_78 (by decide) ?_
            refine lv_goto (tgt := 83) hx hb dX12_carries_79 (by decide) ?_
            exact bX12_carries_83 C  _ _ _ _ _ h hW hS (lv_sub hl [] rfl)
      · have h := h.2 c13
        refine lv_aload_n hx hb dX12_carries_40 rfl (lv_at hl 0 rfl) ?_
        refine lv_iload_n hx hb dX12_carries_41 rfl (lv_at hl 2 rfl) ?_
        refine tq_callVi (As := [.int p1]) (rest := []) (kX12_ranks h) ⟨hx, hb, hml, hown, hts⟩ (cwV 1 hts (tq_goodV tw_2023 tw_2025 tw_108 tw_125 tw_2026) rfl rfl rfl (by decide +kernel) ⟨Nat.le_of_ble_eq_true rfl, Nat.le_of_ble_eq_true rfl⟩) hK hG hW hS rfl hl.1 rfl (Nat.le_of_ble_eq_true rfl) dX12_carries_42 ⟨Nat.le_of_ble_eq_true rfl, Nat.le_of_ble_eq_true rfl⟩ (fun r21 M20 H locs h hW hS => ?_)
        refine lv_aload_n hx hb dX12_carries_45 rfl (lv_at hl 0 rfl) ?_
        refine lv_iload_n hx hb dX12_carries_46 rfl (lv_at hl 3 rfl) ?_
        refine tq_callVi (As := [.int p2]) (rest := [.int r21]) (kX12_ranks h) ⟨hx, hb, hml, hown, hts⟩ (cwV 1 hts (tq_goodV tw_2023 tw_2025 tw_108 tw_125 tw_2026) rfl rfl rfl (by decide +kernel) ⟨Nat.le_of_ble_eq_true rfl, Nat.le_of_ble_eq_true rfl⟩) hK hG hW hS rfl hl.1 rfl (Nat.le_of_ble_eq_true rfl) dX12_carries_47 ⟨Nat.le_of_ble_eq_true rfl, Nat.le_of_ble_eq_true rfl⟩ (fun r23 M22 H locs h hW hS => ?_)
        refine lv_icmp_le (tgt := 57) hx hb dX12_carries_50 (by decide) (fun c24 => ?_) (fun c24 => ?_)
        · have h := h.1 c24
          refine lv_iconst (v := 0) hx hb dX12_carries_57 (by decide) ?_
          exact bX12_carries_58 C  _ _ _ _ _ h hW hS (lv_sub hl [] rfl)
        · have h := h.2 c24
          refine lv_iconst (v := 1) hx hb dX12_carries_53 (by decide) ?_
          refine lv_goto (tgt := 58) hx hb dX12_carries_54 (by decide) ?_
          exact bX12_carries_58 C  _ _ _ _ _ h hW hS (lv_sub hl [] rfl)
    · have h := h.2 c8
      exact bX12_carries_25 C  _  _ _ _ h hW hS (lv_sub hl [] rfl)
