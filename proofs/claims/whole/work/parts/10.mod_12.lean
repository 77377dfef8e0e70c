variable {l : Launch} {D : va_G} {cy : Nat → ClassId} {z : Nat} {H0 : Heap} {ad : Nat → Nat → Nat} {N : tq_Nn} {S : tq_St}
-- recount
def wbX12_recount_15 (post : tq_St → Int32 → Prop)  (M : tq_St) : Prop :=
  post M ((-1))
def wbX12_recount_36 (post : tq_St → Int32 → Prop)  (M : tq_St) : Prop :=
  post M ((-3))
def wpX12_recount (post : tq_St → Int32 → Prop) (M : tq_St) (p0 : Int32) (p1 : Int32) (p2 : Int32) : Prop :=
  wpX12_isVoyage (fun M1 r2 => (r2 = 0 → (wbX12_recount_15 post M1 )) ∧ (¬ r2 = 0 → (wpX12_isSort (fun M4 r5 => (¬ r5 = 0 → (vp_in p0 99 ∧ (((M4 133 0 p0.toNatClampNeg) = 0 → (wbX12_recount_36 post M4 )) ∧ (¬ (M4 133 0 p0.toNatClampNeg) = 0 → (((M4 138 0 p0.toNatClampNeg) = 1 → (wpX12_in (fun M10 r11 => (¬ r11 = 0 → (vp_in p1 4 ∧ (∀ M14, M14 = tq_up M10 140 p0.toNatClampNeg p1.toNatClampNeg p2 → (post M14 (M10 140 p0.toNatClampNeg p1.toNatClampNeg))))) ∧ (r11 = 0 → (post M10 ((-2))))) M4 p2 0 99)) ∧ (¬ (M4 138 0 p0.toNatClampNeg) = 1 → (wbX12_recount_36 post M4 ))))))) ∧ (r5 = 0 → (wbX12_recount_15 post M4 ))) M1 p1))) M p0
set_option maxHeartbeats 4000000 in
set_option maxRecDepth 100000 in
theorem bX12_recount_15 {p : Program} {e : Env} {s : State} {m : MethodId} {args : Array Value} {below : List Frame} {meth : Method} {c : Code} {post : tq_St → Int32 → Prop} (C : tq_At p s m meth c args cX12_recount 5 ((some .int)) ((tq_ws yX12_recount cX12_recount 5 (some .int))) RX12 D cy z ad)  : ∀ (M : tq_St)  (H : Heap) (locs : List Loc) (ls : Array Slot), wbX12_recount_15 post   M  → tq_wd D cy z H0 ad N (tq_mix S M) H → va_S (fun q => z ≤ q) s.heap H locs → lv_has ls 5 [] → W p l e (tq_rm 2 43) s m args below meth c H locs 0 0 (MQ below (va_Qi (fun r u => post u r) (tq_P D cy z H0 ad N S) (fun q => z ≤ q)) args s 0 0 (fun q => z ≤ q)) (F0 m 15 ls []) := by
  obtain ⟨hx, hb, hr, hml, hown, hts, hlocks, hK, hG⟩ := id C
  have hw : ∀ w ∈ tq_W, w.before args s = true := fun w h => hts w (List.mem_cons_of_mem _ h)
  intro M  H locs ls h hW hS hl
  unfold wbX12_recount_15 at h
  refine lv_iconst (v := (-1)) hx hb dX12_recount_15 (by decide) ?_
  exact W.iret (v := (-1)) hx hb hr (fun t ht hWm => ⟨⟨_, M, rfl, h, tq_pe ht hW⟩, hS.F ht⟩) hS.2.2 dX12_recount_16
set_option maxHeartbeats 4000000 in
set_option maxRecDepth 100000 in
theorem bX12_recount_36 {p : Program} {e : Env} {s : State} {m : MethodId} {args : Array Value} {below : List Frame} {meth : Method} {c : Code} {post : tq_St → Int32 → Prop} (C : tq_At p s m meth c args cX12_recount 5 ((some .int)) ((tq_ws yX12_recount cX12_recount 5 (some .int))) RX12 D cy z ad)  : ∀ (M : tq_St)  (H : Heap) (locs : List Loc) (ls : Array Slot), wbX12_recount_36 post   M  → tq_wd D cy z H0 ad N (tq_mix S M) H → va_S (fun q => z ≤ q) s.heap H locs → lv_has ls 5 [] → W p l e (tq_rm 2 43) s m args below meth c H locs 0 0 (MQ below (va_Qi (fun r u => post u r) (tq_P D cy z H0 ad N S) (fun q => z ≤ q)) args s 0 0 (fun q => z ≤ q)) (F0 m 36 ls []) := by
  obtain ⟨hx, hb, hr, hml, hown, hts, hlocks, hK, hG⟩ := id C
  have hw : ∀ w ∈ tq_W, w.before args s = true := fun w h => hts w (List.mem_cons_of_mem _ h)
  intro M  H locs ls h hW hS hl
  unfold wbX12_recount_36 at h
  refine lv_bipush (v := (-3)) hx hb dX12_recount_36 (by decide) ?_
  exact W.iret (v := (-3)) hx hb hr (fun t ht hWm => ⟨⟨_, M, rfl, h, tq_pe ht hW⟩, hS.F ht⟩) hS.2.2 dX12_recount_38
set_option maxHeartbeats 4000000 in
set_option maxRecDepth 100000 in
theorem kX12_recount {post : tq_St → Int32 → Prop} {M : tq_St} {p0 : Int32} {p1 : Int32} {p2 : Int32} (h : wpX12_recount post M p0 p1 p2) : tq_mI l yX12_recount (tq_ws yX12_recount cX12_recount 5 (some .int)) 2 43 D cy z H0 ad N S M [.ref (ad 64 0), .int p0, .int p1, .int p2] post := by
  unfold wpX12_recount at h
  refine Met.ofW (cc := cX12_recount) (maxL := 5) (ret := (some .int)) (by decide) rfl ?_
  intro p e s m args below meth c s₁ B hml hv
  obtain ⟨rfl, hW, hK, hG⟩ := hv
  have hx := B.exec
  have hb := B.bytes
  have hr := B.returns
  have hts := atoms_spec (ws := (tq_ws yX12_recount cX12_recount 5 (some .int))) B.pre
  have hw : ∀ w ∈ tq_W, w.before _ s = true := fun w h => hts w (List.mem_cons_of_mem _ h)
  have hown : s.vm.findClass RX12 = some m.cls := findClass_of_methodNamed B.named
  have hlocks := B.notSynchronized
  have C : tq_At p s m meth c [.ref (ad 64 0), .int p0, .int p1, .int p2].toArray cX12_recount 5 ((some .int)) ((tq_ws yX12_recount cX12_recount 5 (some .int))) RX12 D cy z ad := ⟨hx, hb, hr, hml, hown, hts, hlocks, hK, hG⟩
  have hS : va_S (fun q => z ≤ q) s.heap s.heap [] := va_S.rf
  have hl := lv_entry ([.ref (ad 64 0), .int p0, .int p1, .int p2]) (n := 5) (Nat.le_of_ble_eq_true rfl)
  rw [lg_entry_eq]
  generalize (lg_sl ([.ref (ad 64 0), .int p0, .int p1, .int p2]) ++ List.replicate (5 - (lg_sl ([.ref (ad 64 0), .int p0, .int p1, .int p2])).length) Slot.unset).toArray = ls at hl ⊢
  have hl : lv_has ls 5 [(0, .ref (ad 64 0)), (1, .int p0), (2, .int p1), (3, .int p2)] := hl
  have hW : tq_wd D cy z H0 ad N (tq_mix S M) s.heap := hW
  refine lv_aload_n hx hb dX12_recount_0 rfl (lv_at hl 0 rfl) ?_
  refine lv_iload_n hx hb dX12_recount_1 rfl (lv_at hl 1 rfl) ?_
  refine tq_callVi (As := [.int p0]) (rest := []) (kX12_isVoyage h) ⟨hx, hb, hml, hown, hts⟩ (cwV 1 hts (tq_goodV tw_1881 tw_1883 tw_84 tw_125 tw_1884) rfl rfl rfl (by decide +kernel) ⟨Nat.le_of_ble_eq_true rfl, Nat.le_of_ble_eq_true rfl⟩) hK hG hW hS rfl hl.1 rfl (Nat.le_of_ble_eq_true rfl) dX12_recount_2 ⟨Nat.le_of_ble_eq_true rfl, Nat.le_of_ble_eq_true rfl⟩ (fun r2 M1 H locs h hW hS => ?_)
  refine lv_if_eq (tgt := 15) hx hb dX12_recount_5 (by decide) (fun c3 => ?_) (fun c3 => ?_)
  · have h := h.1 c3
    exact bX12_recount_15 C  _  _ _ _ h hW hS (lv_sub hl [] rfl)
  · have h := h.2 c3
    refine lv_iload_n hx hb dX12_recount_8 rfl (lv_at hl 2 rfl) ?_
    refine tq_callSi (As := [.int p1]) (rest := []) (kX12_isSort h) ⟨hx, hb, hml, hown, hts⟩ (va_cwS 1 hts (tq_goodS tw_1655 tw_1656 tw_125 tw_1657) rfl rfl rfl (by decide +kernel) ⟨Nat.le_of_ble_eq_true rfl, Nat.le_of_ble_eq_true rfl⟩) hK hG hW hS rfl hl.1 rfl (Nat.le_of_ble_eq_true rfl) dX12_recount_9 ⟨Nat.le_of_ble_eq_true rfl, Nat.le_of_ble_eq_true rfl⟩ (fun r5 M4 H locs h hW hS => ?_)
    refine lv_if_ne (tgt := 17) hx hb dX12_recount_12 (by decide) (fun c6 => ?_) (fun c6 => ?_)
    · have h := h.1 c6
      refine lv_aload_n hx hb dX12_recount_17 rfl (lv_at hl 0 rfl) ?_
      refine tqm_get (v := .ref (ad 133 0)) hx hb hw tq_inX12 hown hK hW (by decide) (tq_mk_64 (by decide)) rfl 33 (by decide) (hw _ tw_1441) (fun _ h9 => h9) rfl dX12_recount_18 ?_
      refine lv_iload_n hx hb dX12_recount_21 rfl (lv_at hl 1 rfl) ?_
      obtain ⟨b7, h⟩ := h
      refine tqm_iald (jn := p0.toNatClampNeg) hx hb hK hW (by decide) (tq_mk_133 (by decide)) b7 rfl dX12_recount_22 ?_
      refine lv_if_eq (tgt := 36) hx hb dX12_recount_23 (by decide) (fun c8 => ?_) (fun c8 => ?_)
      · have h := h.1 c8
        exact bX12_recount_36 C  _  _ _ _ h hW hS (lv_sub hl [] rfl)
      · have h := h.2 c8
        refine lv_aload_n hx hb dX12_recount_26 rfl (lv_at hl 0 rfl) ?_
        refine tqm_get (v := .ref (ad 138 0)) hx hb hw tq_inX12 hown hK hW (by decide) (tq_mk_64 (by decide)) rfl 38 (by decide) (hw _ tw_1446) (fun _ h9 => h9) rfl dX12_recount_27 ?_
        refine lv_iload_n hx hb dX12_recount_30 rfl (lv_at hl 1 rfl) ?_
        refine tqm_iald (jn := p0.toNatClampNeg) hx hb hK hW (by decide) (tq_mk_138 (by decide)) b7 rfl dX12_recount_31 ?_
        refine lv_iconst (v := 1) hx hb dX12_recount_32 (by decide) ?_
        refine lv_icmp_eq (tgt := 39) hx hb dX12_recount_33 (by decide) (fun c9 => ?_) (fun c9 => ?_)
        · have h := h.1 c9
          refine lv_iload_n hx hb dX12_recount_39 rfl (lv_at hl 3 rfl) ?_
          refine lv_iconst (v := 0) hx hb dX12_recount_40 (by decide) ?_
          refine lv_bipush (v := 99) hx hb dX12_recount_41 (by decide) ?_
          refine tq_callSi (As := [.int p2, .int 0, .int 99]) (rest := []) (kX12_in h) ⟨hx, hb, hml, hown, hts⟩ (va_cwS 3 hts (tq_goodS tw_1648 tw_1649 tw_125 tw_1650) rfl rfl rfl (by decide +kernel) ⟨Nat.le_of_ble_eq_true rfl, Nat.le_of_ble_eq_true rfl⟩) hK hG hW hS rfl hl.1 rfl (Nat.le_of_ble_eq_true rfl) dX12_recount_43 ⟨Nat.le_of_ble_eq_true rfl, Nat.le_of_ble_eq_true rfl⟩ (fun r11 M10 H locs h hW hS => ?_)
          refine lv_if_ne (tgt := 52) hx hb dX12_recount_46 (by decide) (fun c12 => ?_) (fun c12 => ?_)
          · have h := h.1 c12
            refine lv_aload_n hx hb dX12_recount_52 rfl (lv_at hl 0 rfl) ?_
            refine tqm_get (v := .ref (ad 240 0)) hx hb hw tq_inX12 hown hK hW (by decide) (tq_mk_64 (by decide)) rfl 40 (by decide) (hw _ tw_1448) (fun _ h9 => h9) rfl dX12_recount_53 ?_
            refine lv_iload_n hx hb dX12_recount_56 rfl (lv_at hl 1 rfl) ?_
            refine tqm_aald (jn := p0.toNatClampNeg) (v := .ref (ad 140 p0.toNatClampNeg)) hx hb hK hW (by decide) (tq_mk_240 (by decide)) 2 rfl rfl b7 rfl rfl dX12_recount_57 ?_
            refine lv_iload_n hx hb dX12_recount_58 rfl (lv_at hl 2 rfl) ?_
            obtain ⟨b13, h⟩ := h
            refine tqm_iald (jn := p1.toNatClampNeg) hx hb hK hW (by decide) (tq_mk_140 (tq_lt b7)) b13 rfl dX12_recount_59 ?_
            refine lv_istore (lv' := [(4, .int (M10 140 p0.toNatClampNeg p1.toNatClampNeg)), (0, .ref (ad 64 0)), (1, .int p0), (2, .int p1), (3, .int p2)]) hx hb dX12_recount_60 hl (by decide) rfl (fun ls hl => ?_)
            refine lv_aload_n hx hb dX12_recount_62 rfl (lv_at hl 1 rfl) ?_
            refine tqm_get (v := .ref (ad 240 0)) hx hb hw tq_inX12 hown hK hW (by decide) (tq_mk_64 (by decide)) rfl 40 (by decide) (hw _ tw_1448) (fun _ h9 => h9) rfl dX12_recount_63 ?_
            refine lv_iload_n hx hb dX12_recount_66 rfl (lv_at hl 2 rfl) ?_
            refine tqm_aald (jn := p0.toNatClampNeg) (v := .ref (ad 140 p0.toNatClampNeg)) hx hb hK hW (by decide) (tq_mk_240 (by decide)) 2 rfl rfl b7 rfl rfl dX12_recount_67 ?_
            refine lv_iload_n hx hb dX12_recount_68 rfl (lv_at hl 3 rfl) ?_
            refine lv_iload_n hx hb dX12_recount_69 rfl (lv_at hl 4 rfl) ?_
            refine tqm_iast (jn := p1.toNatClampNeg) hx hb hK hW hS (by decide) (tq_mk_140 (tq_lt b7)) b13 rfl (tq_mk_140 (tq_lt b7)) dX12_recount_70 (fun H locs hW hS => ?_)
            generalize eM14 : tq_up M10 140 p0.toNatClampNeg p1.toNatClampNeg p2 = M14 at hW
            have h := h M14 eM14.symm
            refine lv_iload hx hb dX12_recount_71 (lv_at hl 0 rfl) ?_
            exact W.iret (v := M10 140 p0.toNatClampNeg p1.toNatClampNeg) hx hb hr (fun t ht hWm => ⟨⟨_, M14, rfl, h, tq_pe ht hW⟩, hS.F ht⟩) hS.2.2 dX12_recount_73
          · have h := h.2 c12
            refine lv_bipush (v := (-2)) hx hb dX12_recount_49 (by decide) ?_
            exact W.iret (v := (-2)) hx hb hr (fun t ht hWm => ⟨⟨_, M10, rfl, h, tq_pe ht hW⟩, hS.F ht⟩) hS.2.2 dX12_recount_51
        · have h := h.2 c9
          exact bX12_recount_36 C  _  _ _ _ h hW hS (lv_sub hl [] rfl)
    · have h := h.2 c6
      exact bX12_recount_15 C  _  _ _ _ h hW hS (lv_sub hl [] rfl)
-- empty
def wbX12_empty_24 (post : tq_St → Prop) : Nat → tq_St → Int32 → Int32 → Prop
  | 0, _, _, _ => False
  | n + 1, M, x1, x2 =>
    (20 ≤ x2 → (vp_in x1 8 ∧ (∀ M7, M7 = tq_up M 128 0 x1.toNatClampNeg 0 → (post M7)))) ∧ (¬ 20 ≤ x2 → (vp_in x1 8 ∧ (vp_in x2 20 ∧ (∀ M10, M10 = tq_up M 129 x1.toNatClampNeg x2.toNatClampNeg 0 → ((wbX12_empty_24 post n) M10 x1 (x2 + 1))))))
def wbX12_empty_2 (post : tq_St → Prop) : Nat → tq_St → Int32 → Int32 → Prop
  | 0, _, _, _ => False
  | n + 1, M, x1, x2 =>
    (4 ≤ x2 → (∃ nq, wbX12_empty_24 post nq M x1 0)) ∧ (¬ 4 ≤ x2 → (vp_in x1 8 ∧ (vp_in x2 4 ∧ (∀ M4, M4 = tq_up M 127 x1.toNatClampNeg x2.toNatClampNeg 0 → ((wbX12_empty_2 post n) M4 x1 (x2 + 1))))))
def wpX12_empty (post : tq_St → Prop) (M : tq_St) (p0 : Int32) : Prop :=
  ∃ nq, wbX12_empty_2 post nq M p0 0
set_option maxHeartbeats 4000000 in
set_option maxRecDepth 100000 in
theorem bX12_empty_24 {p : Program} {e : Env} {s : State} {m : MethodId} {args : Array Value} {below : List Frame} {meth : Method} {c : Code} {post : tq_St → Prop} (C : tq_At p s m meth c args cX12_empty 3 (none) ((tq_ws yX12_empty cX12_empty 3 none)) RX12 D cy z ad)  : ∀ n : Nat, ∀ (M : tq_St) (x1 : Int32) (x2 : Int32) (H : Heap) (locs : List Loc) (ls : Array Slot), wbX12_empty_24 post   n M x1 x2 → tq_wd D cy z H0 ad N (tq_mix S M) H → va_S (fun q => z ≤ q) s.heap H locs → lv_has ls 3 [(0, .ref (ad 64 0)), (1, .int x1), (2, .int x2)] → W p l e (tq_rm 0 0) s m args below meth c H locs 0 0 (MQ below (va_Qv (fun u => post u) (tq_P D cy z H0 ad N S) (fun q => z ≤ q)) args s 0 0 (fun q => z ≤ q)) (F0 m 24 ls []) := by
  obtain ⟨hx, hb, hr, hml, hown, hts, hlocks, hK, hG⟩ := id C
  have hw : ∀ w ∈ tq_W, w.before args s = true := fun w h => hts w (List.mem_cons_of_mem _ h)
  intro n
  induction n with
  | zero =>
    intro M x1 x2 H locs ls h
    exact absurd h (by unfold wbX12_empty_24; exact id)
  | succ n ih =>
    intro M x1 x2 H locs ls h hW hS hl
    unfold wbX12_empty_24 at h
    refine lv_iload_n hx hb dX12_empty_24 rfl (lv_at hl 2 rfl) ?_
    refine lv_bipush (v := 20) hx hb dX12_empty_25 (by decide) ?_
    refine lv_icmp_ge (tgt := 45) hx hb dX12_empty_27 (by decide) (fun c5 => ?_) (fun c5 => ?_)
    · have h := h.1 c5
      refine lv_aload_n hx hb dX12_empty_45 rfl (lv_at hl 0 rfl) ?_
      refine tqm_get (v := .ref (ad 128 0)) hx hb hw tq_inX12 hown hK hW (by decide) (tq_mk_64 (by decide)) rfl 28 (by decide) (hw _ tw_1436) (fun _ h9 => h9) rfl dX12_empty_46 ?_
      refine lv_iload_n hx hb dX12_empty_49 rfl (lv_at hl 1 rfl) ?_
      refine lv_iconst (v := 0) hx hb dX12_empty_50 (by decide) ?_
      obtain ⟨b6, h⟩ := h
      refine tqm_iast (jn := x1.toNatClampNeg) hx hb hK hW hS (by decide) (tq_mk_128 (by decide)) b6 rfl (tq_mk_128 (by decide)) dX12_empty_51 (fun H locs hW hS => ?_)
      generalize eM7 : tq_up M 128 0 x1.toNatClampNeg 0 = M7 at hW
      have h := h M7 eM7.symm
      exact W.vret hx hb hr (fun t ht hWm => ⟨⟨M7, rfl, h, tq_pe ht hW⟩, hS.F ht⟩) hS.2.2 dX12_empty_52
    · have h := h.2 c5
      refine lv_aload_n hx hb dX12_empty_30 rfl (lv_at hl 0 rfl) ?_
      refine tqm_get (v := .ref (ad 229 0)) hx hb hw tq_inX12 hown hK hW (by decide) (tq_mk_64 (by decide)) rfl 29 (by decide) (hw _ tw_1437) (fun _ h9 => h9) rfl dX12_empty_31 ?_
      refine lv_iload_n hx hb dX12_empty_34 rfl (lv_at hl 1 rfl) ?_
      obtain ⟨b8, h⟩ := h
      refine tqm_aald (jn := x1.toNatClampNeg) (v := .ref (ad 129 x1.toNatClampNeg)) hx hb hK hW (by decide) (tq_mk_229 (by decide)) 2 rfl rfl b8 rfl rfl dX12_empty_35 ?_
      refine lv_iload_n hx hb dX12_empty_36 rfl (lv_at hl 2 rfl) ?_
      refine lv_iconst (v := 0) hx hb dX12_empty_37 (by decide) ?_
      obtain ⟨b9, h⟩ := h
      refine tqm_iast (jn := x2.toNatClampNeg) hx hb hK hW hS (by decide) (tq_mk_129 (tq_lt b8)) b9 rfl (tq_mk_129 (tq_lt b8)) dX12_empty_38 (fun H locs hW hS => ?_)
      generalize eM10 : tq_up M 129 x1.toNatClampNeg x2.toNatClampNeg 0 = M10 at hW
      have h := h M10 eM10.symm
      refine lv_iinc (v := x2 + 1) (lv' := [(2, .int (x2 + 1)), (0, .ref (ad 64 0)), (1, .int x1)]) hx hb dX12_empty_39 hl (k := 2) rfl rfl (by decide) rfl (fun ls hl => ?_)
      refine lv_goto (tgt := 24) hx hb dX12_empty_42 (by decide) ?_
      exact ih _ _ _ _ _ _ h hW hS (lv_sub hl [1, 2, 0] rfl)
set_option maxHeartbeats 4000000 in
set_option maxRecDepth 100000 in
theorem bX12_empty_2 {p : Program} {e : Env} {s : State} {m : MethodId} {args : Array Value} {below : List Frame} {meth : Method} {c : Code} {post : tq_St → Prop} (C : tq_At p s m meth c args cX12_empty 3 (none) ((tq_ws yX12_empty cX12_empty 3 none)) RX12 D cy z ad)  : ∀ n : Nat, ∀ (M : tq_St) (x1 : Int32) (x2 : Int32) (H : Heap) (locs : List Loc) (ls : Array Slot), wbX12_empty_2 post   n M x1 x2 → tq_wd D cy z H0 ad N (tq_mix S M) H → va_S (fun q => z ≤ q) s.heap H locs → lv_has ls 3 [(0, .ref (ad 64 0)), (1, .int x1), (2, .int x2)] → W p l e (tq_rm 0 0) s m args below meth c H locs 0 0 (MQ below (va_Qv (fun u => post u) (tq_P D cy z H0 ad N S) (fun q => z ≤ q)) args s 0 0 (fun q => z ≤ q)) (F0 m 2 ls []) := by
  obtain ⟨hx, hb, hr, hml, hown, hts, hlocks, hK, hG⟩ := id C
  have hw : ∀ w ∈ tq_W, w.before args s = true := fun w h => hts w (List.mem_cons_of_mem _ h)
  intro n
  induction n with
  | zero =>
    intro M x1 x2 H locs ls h
    exact absurd h (by unfold wbX12_empty_2; exact id)
  | succ n ih =>
    intro M x1 x2 H locs ls h hW hS hl
    unfold wbX12_empty_2 at h
    refine lv_iload_n hx hb dX12_empty_2 rfl (lv_at hl 2 rfl) ?_
    refine lv_iconst (v := 4) hx hb dX12_empty_3 (by decide) ?_
    refine lv_icmp_ge (tgt := 22) hx hb dX12_empty_4 (by decide) (fun c1 => ?_) (fun c1 => ?_)
    · have h := h.1 c1
      refine lv_iconst (v := 0) hx hb dX12_empty_22 (by decide) ?_
      refine lv_istore_n (lv' := [(2, .int 0), (0, .ref (ad 64 0)), (1, .int x1)]) hx hb dX12_empty_23 rfl hl (by decide) rfl (fun ls hl => ?_)
      obtain ⟨nq, h⟩ := h
      exact bX12_empty_24 C  nq _ _ _ _ _ _ h hW hS (lv_sub hl [1, 2, 0] rfl)
    · have h := h.2 c1
      refine lv_aload_n hx hb dX12_empty_7 rfl (lv_at hl 0 rfl) ?_
      refine tqm_get (v := .ref (ad 227 0)) hx hb hw tq_inX12 hown hK hW (by decide) (tq_mk_64 (by decide)) rfl 27 (by decide) (hw _ tw_1435) (fun _ h9 => h9) rfl dX12_empty_8 ?_
      refine lv_iload_n hx hb dX12_empty_11 rfl (lv_at hl 1 rfl) ?_
      obtain ⟨b2, h⟩ := h
      refine tqm_aald (jn := x1.toNatClampNeg) (v := .ref (ad 127 x1.toNatClampNeg)) hx hb hK hW (by decide) (tq_mk_227 (by decide)) 2 rfl rfl b2 rfl rfl dX12_empty_12 ?_
      refine lv_iload_n hx hb dX12_empty_13 rfl (lv_at hl 2 rfl) ?_
      refine lv_iconst (v := 0) hx hb dX12_empty_14 (by decide) ?_
      obtain ⟨b3, h⟩ := h
      refine tqm_iast (jn := x2.toNatClampNeg) hx hb hK hW hS (by decide) (tq_mk_127 (tq_lt b2)) b3 rfl (tq_mk_127 (tq_lt b2)) dX12_empty_15 (fun H locs hW hS => ?_)
      generalize eM4 : tq_up M 127 x1.toNatClampNeg x2.toNatClampNeg 0 = M4 at hW
      have h := h M4 eM4.symm
      refine lv_iinc (v := x2 + 1) (lv' := [(2, .int (x2 + 1)), (0, .ref (ad 64 0)), (1, .int x1)]) hx hb dX12_empty_16 hl (k := 2) rfl rfl (by decide) rfl (fun ls hl => ?_)
      refine lv_goto (tgt := 2) hx hb dX12_empty_19 (by decide) ?_
      exact ih _ _ _ _ _ _ h hW hS (lv_sub hl [1, 2, 0] rfl)
set_option maxHeartbeats 4000000 in
set_option maxRecDepth 100000 in
theorem kX12_empty {post : tq_St → Prop} {M : tq_St} {p0 : Int32} (h : wpX12_empty post M p0) : tq_mV l yX12_empty (tq_ws yX12_empty cX12_empty 3 none) 0 0 D cy z H0 ad N S M [.ref (ad 64 0), .int p0] post := by
  unfold wpX12_empty at h
  refine Met.ofW (cc := cX12_empty) (maxL := 3) (ret := none) (by decide) rfl ?_
  intro p e s m args below meth c s₁ B hml hv
  obtain ⟨rfl, hW, hK, hG⟩ := hv
  have hx := B.exec
  have hb := B.bytes
  have hr := B.returns
  have hts := atoms_spec (ws := (tq_ws yX12_empty cX12_empty 3 none)) B.pre
  have hw : ∀ w ∈ tq_W, w.before _ s = true := fun w h => hts w (List.mem_cons_of_mem _ h)
  have hown : s.vm.findClass RX12 = some m.cls := findClass_of_methodNamed B.named
  have hlocks := B.notSynchronized
  have C : tq_At p s m meth c [.ref (ad 64 0), .int p0].toArray cX12_empty 3 (none) ((tq_ws yX12_empty cX12_empty 3 none)) RX12 D cy z ad := ⟨hx, hb, hr, hml, hown, hts, hlocks, hK, hG⟩
  have hS : va_S (fun q => z ≤ q) s.heap s.heap [] := va_S.rf
  have hl := lv_entry ([.ref (ad 64 0), .int p0]) (n := 3) (Nat.le_of_ble_eq_true rfl)
  rw [lg_entry_eq]
  generalize (lg_sl ([.ref (ad 64 0), .int p0]) ++ List.replicate (3 - (lg_sl ([.ref (ad 64 0), .int p0])).length) Slot.unset).toArray = ls at hl ⊢
  have hl : lv_has ls 3 [(0, .ref (ad 64 0)), (1, .int p0)] := hl
  have hW : tq_wd D cy z H0 ad N (tq_mix S M) s.heap := hW
  refine lv_iconst (v := 0) hx hb dX12_empty_0 (by decide) ?_
  refine lv_istore_n (lv' := [(2, .int 0), (0, .ref (ad 64 0)), (1, .int p0)]) hx hb dX12_empty_1 rfl hl (by decide) rfl (fun ls hl => ?_)
  obtain ⟨nq, h⟩ := h
  exact bX12_empty_2 C  nq _ _ _ _ _ _ h hW hS (lv_sub hl [1, 2, 0] rfl)
-- gone
def wbX12_gone_7 (post : tq_St → Prop) : Nat → tq_St → Int32 → Int32 → Prop
  | 0, _, _, _ => False
  | n + 1, M, x1, x2 =>
    ((M 64 0 9) ≤ x2 → (vp_in x1 8 ∧ (∀ M4, M4 = tq_up M 124 0 x1.toNatClampNeg ((-2)) → (vp_in (M4 130 0 x1.toNatClampNeg) 99 ∧ (∀ M6, M6 = tq_up M4 138 0 ((M4 130 0 x1.toNatClampNeg).toNatClampNeg) 2 → (post M6)))))) ∧ (¬ (M 64 0 9) ≤ x2 → (vp_in x2 150 ∧ (vp_in x1 8 ∧ (∀ M9, M9 = tq_up M 120 x2.toNatClampNeg x1.toNatClampNeg 0 → ((wbX12_gone_7 post n) M9 x1 (x2 + 1))))))
def wpX12_gone (post : tq_St → Prop) (M : tq_St) (p0 : Int32) : Prop :=
  wpX12_empty (fun M1 => ∃ nq, wbX12_gone_7 post nq M1 p0 0) M p0
set_option maxHeartbeats 4000000 in
set_option maxRecDepth 100000 in
theorem bX12_gone_7 {p : Program} {e : Env} {s : State} {m : MethodId} {args : Array Value} {below : List Frame} {meth : Method} {c : Code} {post : tq_St → Prop} (C : tq_At p s m meth c args cX12_gone 3 (none) ((tq_ws yX12_gone cX12_gone 3 none)) RX12 D cy z ad)  : ∀ n : Nat, ∀ (M : tq_St) (x1 : Int32) (x2 : Int32) (H : Heap) (locs : List Loc) (ls : Array Slot), wbX12_gone_7 post   n M x1 x2 → tq_wd D cy z H0 ad N (tq_mix S M) H → va_S (fun q => z ≤ q) s.heap H locs → lv_has ls 3 [(0, .ref (ad 64 0)), (1, .int x1), (2, .int x2)] → W p l e (tq_rm 1 22) s m args below meth c H locs 0 0 (MQ below (va_Qv (fun u => post u) (tq_P D cy z H0 ad N S) (fun q => z ≤ q)) args s 0 0 (fun q => z ≤ q)) (F0 m 7 ls []) := by
  obtain ⟨hx, hb, hr, hml, hown, hts, hlocks, hK, hG⟩ := id C
  have hw : ∀ w ∈ tq_W, w.before args s = true := fun w h => hts w (List.mem_cons_of_mem _ h)
  intro n
  induction n with
  | zero =>
    intro M x1 x2 H locs ls h
    exact absurd h (by unfold wbX12_gone_7; exact id)
  | succ n ih =>
    intro M x1 x2 H locs ls h hW hS hl
    unfold wbX12_gone_7 at h
    refine lv_iload_n hx hb dX12_gone_7 rfl (lv_at hl 2 rfl) ?_
    refine lv_aload_n hx hb dX12_gone_8 rfl (lv_at hl 0 rfl) ?_
    refine tqm_get (v := .int (M 64 0 9)) hx hb hw tq_inX12 hown hK hW (by decide) (tq_mk_64 (by decide)) rfl 9 (by decide) (hw _ tw_1417) (fun _ h9 => h9) rfl dX12_gone_9 ?_
    refine lv_icmp_ge (tgt := 30) hx hb dX12_gone_12 (by decide) (fun c2 => ?_) (fun c2 => ?_)
    · have h := h.1 c2
      refine lv_aload_n hx hb dX12_gone_30 rfl (lv_at hl 0 rfl) ?_
      refine tqm_get (v := .ref (ad 124 0)) hx hb hw tq_inX12 hown hK hW (by decide) (tq_mk_64 (by decide)) rfl 24 (by decide) (hw _ tw_1432) (fun _ h9 => h9) rfl dX12_gone_31 ?_
      refine lv_iload_n hx hb dX12_gone_34 rfl (lv_at hl 1 rfl) ?_
      refine lv_bipush (v := (-2)) hx hb dX12_gone_35 (by decide) ?_
      obtain ⟨b3, h⟩ := h
      refine tqm_iast (jn := x1.toNatClampNeg) hx hb hK hW hS (by decide) (tq_mk_124 (by decide)) b3 rfl (tq_mk_124 (by decide)) dX12_gone_37 (fun H locs hW hS => ?_)
      generalize eM4 : tq_up M 124 0 x1.toNatClampNeg ((-2)) = M4 at hW
      have h := h M4 eM4.symm
      refine lv_aload_n hx hb dX12_gone_38 rfl (lv_at hl 0 rfl) ?_
      refine tqm_get (v := .ref (ad 138 0)) hx hb hw tq_inX12 hown hK hW (by decide) (tq_mk_64 (by decide)) rfl 38 (by decide) (hw _ tw_1446) (fun _ h9 => h9) rfl dX12_gone_39 ?_
      refine lv_aload_n hx hb dX12_gone_42 rfl (lv_at hl 0 rfl) ?_
      refine tqm_get (v := .ref (ad 130 0)) hx hb hw tq_inX12 hown hK hW (by decide) (tq_mk_64 (by decide)) rfl 30 (by decide) (hw _ tw_1438) (fun _ h9 => h9) rfl dX12_gone_43 ?_
      refine lv_iload_n hx hb dX12_gone_46 rfl (lv_at hl 1 rfl) ?_
      refine tqm_iald (jn := x1.toNatClampNeg) hx hb hK hW (by decide) (tq_mk_130 (by decide)) b3 rfl dX12_gone_47 ?_
      refine lv_iconst (v := 2) hx hb dX12_gone_48 (by decide) ?_
      obtain ⟨b5, h⟩ := h
      refine tqm_iast (jn := (M4 130 0 x1.toNatClampNeg).toNatClampNeg) hx hb hK hW hS (by decide) (tq_mk_138 (by decide)) b5 rfl (tq_mk_138 (by decide)) dX12_gone_49 (fun H locs hW hS => ?_)
      generalize eM6 : tq_up M4 138 0 ((M4 130 0 x1.toNatClampNeg).toNatClampNeg) 2 = M6 at hW
      have h := h M6 eM6.symm
      exact W.vret hx hb hr (fun t ht hWm => ⟨⟨M6, rfl, h, tq_pe ht hW⟩, hS.F ht⟩) hS.2.2 dX12_gone_50
    · have h := h.2 c2
      refine lv_aload_n hx hb dX12_gone_15 rfl (lv_at hl 0 rfl) ?_
      refine tqm_get (v := .ref (ad 220 0)) hx hb hw tq_inX12 hown hK hW (by decide) (tq_mk_64 (by decide)) rfl 20 (by decide) (hw _ tw_1428) (fun _ h9 => h9) rfl dX12_gone_16 ?_
      refine lv_iload_n hx hb dX12_gone_19 rfl (lv_at hl 2 rfl) ?_
      obtain ⟨b7, h⟩ := h
      refine tqm_aald (jn := x2.toNatClampNeg) (v := .ref (ad 120 x2.toNatClampNeg)) hx hb hK hW (by decide) (tq_mk_220 (by decide)) 2 rfl rfl b7 rfl rfl dX12_gone_20 ?_
      refine lv_iload_n hx hb dX12_gone_21 rfl (lv_at hl 1 rfl) ?_
      refine lv_iconst (v := 0) hx hb dX12_gone_22 (by decide) ?_
      obtain ⟨b8, h⟩ := h
      refine tqm_iast (jn := x1.toNatClampNeg) hx hb hK hW hS (by decide) (tq_mk_120 (tq_lt b7)) b8 rfl (tq_mk_120 (tq_lt b7)) dX12_gone_23 (fun H locs hW hS => ?_)
      generalize eM9 : tq_up M 120 x2.toNatClampNeg x1.toNatClampNeg 0 = M9 at hW
      have h := h M9 eM9.symm
      refine lv_iinc (v := x2 + 1) (lv' := [(2, .int (x2 + 1)), (0, .ref (ad 64 0)), (1, .int x1)]) hx hb dX12_gone_24 hl (k := 2) rfl rfl (by decide) rfl (fun ls hl => ?_)
      refine lv_goto (tgt := 7) hx hb dX12_gone_27 (by decide) ?_
      exact ih _ _ _ _ _ _ h hW hS (lv_sub hl [1, 2, 0] rfl)
set_option maxHeartbeats 4000000 in
set_option maxRecDepth 100000 in
theorem kX12_gone {post : tq_St → Prop} {M : tq_St} {p0 : Int32} (h : wpX12_gone post M p0) : tq_mV l yX12_gone (tq_ws yX12_gone cX12_gone 3 none) 1 22 D cy z H0 ad N S M [.ref (ad 64 0), .int p0] post := by
  unfold wpX12_gone at h
  refine Met.ofW (cc := cX12_gone) (maxL := 3) (ret := none) (by decide) rfl ?_
  intro p e s m args below meth c s₁ B hml hv
  obtain ⟨rfl, hW, hK, hG⟩ := hv
  have hx := B.exec
  have hb := B.bytes
  have hr := B.returns
  have hts := atoms_spec (ws := (tq_ws yX12_gone cX12_gone 3 none)) B.pre
  have hw : ∀ w ∈ tq_W, w.before _ s = true := fun w h => hts w (List.mem_cons_of_mem _ h)
  have hown : s.vm.findClass RX12 = some m.cls := findClass_of_methodNamed B.named
  have hlocks := B.notSynchronized
  have C : tq_At p s m meth c [.ref (ad 64 0), .int p0].toArray cX12_gone 3 (none) ((tq_ws yX12_gone cX12_gone 3 none)) RX12 D cy z ad := ⟨hx, hb, hr, hml, hown, hts, hlocks, hK, hG⟩
  have hS : va_S (fun q => z ≤ q) s.heap s.heap [] := va_S.rf
  have hl := lv_entry ([.ref (ad 64 0), .int p0]) (n := 3) (Nat.le_of_ble_eq_true rfl)
  rw [lg_entry_eq]
  generalize (lg_sl ([.ref (ad 64 0), .int p0]) ++ List.replicate (3 - (lg_sl ([.ref (ad 64 0), .int p0])).length) Slot.unset).toArray = ls at hl ⊢
  have hl : lv_has ls 3 [(0, .ref (ad 64 0)), (1, .int p0)] := hl
  have hW : tq_wd D cy z H0 ad N (tq_mix S M) s.heap := hW
  refine lv_aload_n hx hb dX12_gone_0 rfl (lv_at hl 0 rfl) ?_
  refine lv_iload_n hx hb dX12_gone_1 rfl (lv_at hl 1 rfl) ?_
  refine tq_callVv (As := [.int p0]) (rest := []) (kX12_empty h) ⟨hx, hb, hml, hown, hts⟩ (cwV 1 hts (tq_goodV tw_1925 tw_1927 tw_90 tw_125 tw_1928) rfl rfl rfl (by decide +kernel) ⟨Nat.le_of_ble_eq_true rfl, Nat.le_of_ble_eq_true rfl⟩) hK hG hW hS rfl hl.1 rfl (Nat.le_of_ble_eq_true rfl) dX12_gone_2 ⟨Nat.le_of_ble_eq_true rfl, Nat.le_of_ble_eq_true rfl⟩ (fun M1 H locs h hW hS => ?_)
  refine lv_iconst (v := 0) hx hb dX12_gone_5 (by decide) ?_
  refine lv_istore_n (lv' := [(2, .int 0), (0, .ref (ad 64 0)), (1, .int p0)]) hx hb dX12_gone_6 rfl hl (by decide) rfl (fun ls hl => ?_)
  obtain ⟨nq, h⟩ := h
  exact bX12_gone_7 C  nq _ _ _ _ _ _ h hW hS (lv_sub hl [1, 2, 0] rfl)
-- comes
def wbX12_comes_172 (post : tq_St → Prop) (L105 : tq_St → Int32 → Int32 → Int32 → Prop) (M : tq_St) (x1 : Int32) (x3 : Int32) (x4 : Int32) : Prop :=
  L105 M x1 x3 (x4 + 1)
def wbX12_comes_189 (post : tq_St → Prop)  (M : tq_St) : Prop :=
  post M
def wbX12_comes_105 (post : tq_St → Prop) : Nat → tq_St → Int32 → Int32 → Int32 → Prop
  | 0, _, _, _, _ => False
  | n + 1, M, x1, x3, x4 =>
    ((M 64 0 9) ≤ x4 → ((¬ x3 = 0 → (wbX12_comes_189 post M )) ∧ (x3 = 0 → (vp_in x1 8 ∧ (∀ M19, M19 = tq_up M 125 0 x1.toNatClampNeg 0 → (wbX12_comes_189 post M19 )))))) ∧ (¬ (M 64 0 9) ≤ x4 → (vp_in x4 150 ∧ (vp_in x1 8 ∧ (((M 120 x4.toNatClampNeg x1.toNatClampNeg) ≤ 0 → (wbX12_comes_172 post  (wbX12_comes_105 post n) M x1 x3 x4)) ∧ (¬ (M 120 x4.toNatClampNeg x1.toNatClampNeg) ≤ 0 → ((¬ (M 113 0 x4.toNatClampNeg) = x3 → (wbX12_comes_172 post  (wbX12_comes_105 post n) M x1 x3 x4)) ∧ ((M 113 0 x4.toNatClampNeg) = x3 → (∀ M24, M24 = tq_up M 120 x4.toNatClampNeg x1.toNatClampNeg 0 → (vp_in x3 5 ∧ ((0 ≤ (M24 115 x4.toNatClampNeg x3.toNatClampNeg) → (wbX12_comes_172 post  (wbX12_comes_105 post n) M24 x1 x3 x4)) ∧ (¬ 0 ≤ (M24 115 x4.toNatClampNeg x3.toNatClampNeg) → (∀ M27, M27 = tq_up M24 115 x4.toNatClampNeg x3.toNatClampNeg (M24 64 0 0) → (wbX12_comes_172 post  (wbX12_comes_105 post n) M27 x1 x3 x4)))))))))))))
def wbX12_comes_31 (post : tq_St → Prop) : Nat → tq_St → Int32 → Int32 → Int32 → Int32 → Prop
  | 0, _, _, _, _, _ => False
  | n + 1, M, x1, x2, x3, x4 =>
    (4 ≤ x4 → (vp_in x3 5 ∧ (vp_in x1 8 ∧ (∀ M8, M8 = tq_up M 101 0 x3.toNatClampNeg ((M 101 0 x3.toNatClampNeg) + (M 128 0 x1.toNatClampNeg)) → (wpX12_empty (fun M9 => ∃ nq, wbX12_comes_105 post nq M9 x1 x3 0) M8 x1))))) ∧ (¬ 4 ≤ x4 → (vp_in x3 5 ∧ (vp_in x4 4 ∧ (vp_in x1 8 ∧ (∀ M13, M13 = tq_up M 102 x3.toNatClampNeg x4.toNatClampNeg ((M 102 x3.toNatClampNeg x4.toNatClampNeg) + (M 127 x1.toNatClampNeg x4.toNatClampNeg)) → (vp_in x2 99 ∧ (∀ M15, M15 = tq_up M13 140 x2.toNatClampNeg x4.toNatClampNeg (M13 127 x1.toNatClampNeg x4.toNatClampNeg) → ((wbX12_comes_31 post n) M15 x1 x2 x3 (x4 + 1)))))))))
def wpX12_comes (post : tq_St → Prop) (M : tq_St) (p0 : Int32) : Prop :=
  vp_in p0 8 ∧ (vp_in (M 130 0 p0.toNatClampNeg) 99 ∧ (∀ M3, M3 = tq_up M 124 0 p0.toNatClampNeg (M 134 0 ((M 130 0 p0.toNatClampNeg).toNatClampNeg)) → (∀ M4, M4 = tq_up M3 138 0 ((M 130 0 p0.toNatClampNeg).toNatClampNeg) 1 → (∃ nq, wbX12_comes_31 post nq M4 p0 (M 130 0 p0.toNatClampNeg) (M 134 0 ((M 130 0 p0.toNatClampNeg).toNatClampNeg)) 0))))
set_option maxHeartbeats 4000000 in
set_option maxRecDepth 100000 in
theorem bX12_comes_172 {p : Program} {e : Env} {s : State} {m : MethodId} {args : Array Value} {below : List Frame} {meth : Method} {c : Code} {post : tq_St → Prop} (C : tq_At p s m meth c args cX12_comes 5 (none) ((tq_ws yX12_comes cX12_comes 5 none)) RX12 D cy z ad) {L105 : tq_St → Int32 → Int32 → Int32 → Prop} (hL105 : ∀ (M : tq_St) (x1 : Int32) (x3 : Int32) (x4 : Int32) (H : Heap) (locs : List Loc) (ls : Array Slot), L105 M x1 x3 x4 → tq_wd D cy z H0 ad N (tq_mix S M) H → va_S (fun q => z ≤ q) s.heap H locs → lv_has ls 5 [(0, .ref (ad 64 0)), (1, .int x1), (3, .int x3), (4, .int x4)] → W p l e (tq_rm 1 22) s m args below meth c H locs 0 0 (MQ below (va_Qv (fun u => post u) (tq_P D cy z H0 ad N S) (fun q => z ≤ q)) args s 0 0 (fun q => z ≤ q)) (F0 m 105 ls [])) : ∀ (M : tq_St) (x1 : Int32) (x3 : Int32) (x4 : Int32) (H : Heap) (locs : List Loc) (ls : Array Slot), wbX12_comes_172 post  L105 M x1 x3 x4 → tq_wd D cy z H0 ad N (tq_mix S M) H → va_S (fun q => z ≤ q) s.heap H locs → lv_has ls 5 [(0, .ref (ad 64 0)), (1, .int x1), (3, .int x3), (4, .int x4)] → W p l e (tq_rm 1 22) s m args below meth c H locs 0 0 (MQ below (va_Qv (fun u => post u) (tq_P D cy z H0 ad N S) (fun q => z ≤ q)) args s 0 0 (fun q => z ≤ q)) (F0 m 172 ls []) := by
  obtain ⟨hx, hb, hr, hml, hown, hts, hlocks, hK, hG⟩ := id C
  have hw : ∀ w ∈ tq_W, w.before args s = true := fun w h => hts w (List.mem_cons_of_mem _ h)
  intro M x1 x3 x4 H locs ls h hW hS hl
  unfold wbX12_comes_172 at h
  refine lv_iinc (v := x4 + 1) (lv' := [(4, .int (x4 + 1)), (0, .ref (ad 64 0)), (1, .int x1), (3, .int x3)]) hx hb dX12_comes_172 hl (k := 3) rfl rfl (by decide) rfl (fun ls hl => ?_)
  refine lv_goto (tgt := 105) hx hb dX12_comes_175 (by decide) ?_
  exact hL105 _ _ _ _ _ _ _ h hW hS (lv_sub hl [1, 2, 3, 0] rfl)
set_option maxHeartbeats 4000000 in
set_option maxRecDepth 100000 in
theorem bX12_comes_189 {p : Program} {e : Env} {s : State} {m : MethodId} {args : Array Value} {below : List Frame} {meth : Method} {c : Code} {post : tq_St → Prop} (C : tq_At p s m meth c args cX12_comes 5 (none) ((tq_ws yX12_comes cX12_comes 5 none)) RX12 D cy z ad)  : ∀ (M : tq_St)  (H : Heap) (locs : List Loc) (ls : Array Slot), wbX12_comes_189 post   M  → tq_wd D cy z H0 ad N (tq_mix S M) H → va_S (fun q => z ≤ q) s.heap H locs → lv_has ls 5 [] → W p l e (tq_rm 1 22) s m args below meth c H locs 0 0 (MQ below (va_Qv (fun u => post u) (tq_P D cy z H0 ad N S) (fun q => z ≤ q)) args s 0 0 (fun q => z ≤ q)) (F0 m 189 ls []) := by
  obtain ⟨hx, hb, hr, hml, hown, hts, hlocks, hK, hG⟩ := id C
  have hw : ∀ w ∈ tq_W, w.before args s = true := fun w h => hts w (List.mem_cons_of_mem _ h)
  intro M  H locs ls h hW hS hl
  unfold wbX12_comes_189 at h
  exact W.vret hx hb hr (fun t ht hWm => ⟨⟨M, rfl, h, tq_pe ht hW⟩, hS.F ht⟩) hS.2.2 dX12_comes_189
set_option maxHeartbeats 4000000 in
set_option maxRecDepth 100000 in
theorem bX12_comes_105 {p : Program} {e : Env} {s : State} {m : MethodId} {args : Array Value} {below : List Frame} {meth : Method} {c : Code} {post : tq_St → Prop} (C : tq_At p s m meth c args cX12_comes 5 (none) ((tq_ws yX12_comes cX12_comes 5 none)) RX12 D cy z ad)  : ∀ n : Nat, ∀ (M : tq_St) (x1 : Int32) (x3 : Int32) (x4 : Int32) (H : Heap) (locs : List Loc) (ls : Array Slot), wbX12_comes_105 post   n M x1 x3 x4 → tq_wd D cy z H0 ad N (tq_mix S M) H → va_S (fun q => z ≤ q) s.heap H locs → lv_has ls 5 [(0, .ref (ad 64 0)), (1, .int x1), (3, .int x3), (4, .int x4)] → W p l e (tq_rm 1 22) s m args below meth c H locs 0 0 (MQ below (va_Qv (fun u => post u) (tq_P D cy z H0 ad N S) (fun q => z ≤ q)) args s 0 0 (fun q => z ≤ q)) (F0 m 105 ls []) := by
  obtain ⟨hx, hb, hr, hml, hown, hts, hlocks, hK, hG⟩ := id C
  have hw : ∀ w ∈ tq_W, w.before args s = true := fun w h => hts w (List.mem_cons_of_mem _ h)
  intro n
  induction n with
  | zero =>
    intro M x1 x3 x4 H locs ls h
    exact absurd h (by unfold wbX12_comes_105; exact id)
  | succ n ih =>
    intro M x1 x3 x4 H locs ls h hW hS hl
    unfold wbX12_comes_105 at h
    refine lv_iload hx hb dX12_comes_105 (lv_at hl 3 rfl) ?_
    refine lv_aload_n hx hb dX12_comes_107 rfl (lv_at hl 0 rfl) ?_
    refine tqm_get (v := .int (M 64 0 9)) hx hb hw tq_inX12 hown hK hW (by decide) (tq_mk_64 (by decide)) rfl 9 (by decide) (hw _ tw_1417) (fun _ h9 => h9) rfl dX12_comes_108 ?_
    refine lv_icmp_ge (tgt := 178) hx hb dX12_comes_111 (by decide) (fun c16 => ?_) (fun c16 => ?_)
    · have h := h.1 c16
      refine lv_iload_n hx hb dX12_comes_178 rfl (lv_at hl 2 rfl) ?_
      refine lv_if_ne (tgt := 189) hx hb dX12_comes_179 (by decide) (fun c17 => ?_) (fun c17 => ?_)
      · have h := h.1 c17
        exact bX12_comes_189 C  _  _ _ _ h hW hS (lv_sub hl [] rfl)
      · have h := h.2 c17
        refine lv_aload_n hx hb dX12_comes_182 rfl (lv_at hl 0 rfl) ?_
        refine tqm_get (v := .ref (ad 125 0)) hx hb hw tq_inX12 hown hK hW (by decide) (tq_mk_64 (by decide)) rfl 25 (by decide) (hw _ tw_1433) (fun _ h9 => h9) rfl dX12_comes_183 ?_
        refine lv_iload_n hx hb dX12_comes_186 rfl (lv_at hl 1 rfl) ?_
        refine lv_iconst (v := 0) hx hb dX12_comes_187 (by decide) ?_
        obtain ⟨b18, h⟩ := h
        refine tqm_zast (jn := x1.toNatClampNeg) hx hb hK hW hS (by decide) (tq_mk_125 (by decide)) b18 rfl rfl (tq_mk_125 (by decide)) dX12_comes_188 (fun H locs hW hS => ?_)
        generalize eM19 : tq_up M 125 0 x1.toNatClampNeg 0 = M19 at hW
        have h := h M19 eM19.symm
        exact bX12_comes_189 C  _  _ _ _ h hW hS (lv_sub hl [] rfl)
    · have h := h.2 c16
      refine lv_aload_n hx hb dX12_comes_114 rfl (lv_at hl 0 rfl) ?_
      refine tqm_get (v := .ref (ad 220 0)) hx hb hw tq_inX12 hown hK hW (by decide) (tq_mk_64 (by decide)) rfl 20 (by decide) (hw _ tw_1428) (fun _ h9 => h9) rfl dX12_comes_115 ?_
      refine lv_iload hx hb dX12_comes_118 (lv_at hl 3 rfl) ?_
      obtain ⟨b20, h⟩ := h
      refine tqm_aald (jn := x4.toNatClampNeg) (v := .ref (ad 120 x4.toNatClampNeg)) hx hb hK hW (by decide) (tq_mk_220 (by decide)) 2 rfl rfl b20 rfl rfl dX12_comes_120 ?_
      refine lv_iload_n hx hb dX12_comes_121 rfl (lv_at hl 1 rfl) ?_
      obtain ⟨b21, h⟩ := h
      refine tqm_iald (jn := x1.toNatClampNeg) hx hb hK hW (by decide) (tq_mk_120 (tq_lt b20)) b21 rfl dX12_comes_122 ?_
      refine lv_if_le (tgt := 172) hx hb dX12_comes_123 (by decide) (fun c22 => ?_) (fun c22 => ?_)
      · have h := h.1 c22
        exact bX12_comes_172 C (fun M9 a09 a19 a29 H9 q9 ls9 h9 hW9 hS9 hl9 => ih M9 a09 a19 a29 H9 q9 ls9 h9 hW9 hS9 hl9) _ _ _ _ _ _ _ h hW hS (lv_sub hl [0, 1, 2, 3] rfl)
      · have h := h.2 c22
        refine lv_aload_n hx hb dX12_comes_126 rfl (lv_at hl 0 rfl) ?_
        refine tqm_get (v := .ref (ad 113 0)) hx hb hw tq_inX12 hown hK hW (by decide) (tq_mk_64 (by decide)) rfl 13 (by decide) (hw _ tw_1421) (fun _ h9 => h9) rfl dX12_comes_127 ?_
        refine lv_iload hx hb dX12_comes_130 (lv_at hl 3 rfl) ?_
        refine tqm_iald (jn := x4.toNatClampNeg) hx hb hK hW (by decide) (tq_mk_113 (by decide)) b20 rfl dX12_comes_132 ?_
        refine lv_iload_n hx hb dX12_comes_133 rfl (lv_at hl 2 rfl) ?_
        refine lv_icmp_ne (tgt := 172) hx hb dX12_comes_134 (by decide) (fun c23 => ?_) (fun c23 => ?_)
        · have h := h.1 c23
          exact bX12_comes_172 C (fun M9 a09 a19 a29 H9 q9 ls9 h9 hW9 hS9 hl9 => ih M9 a09 a19 a29 H9 q9 ls9 h9 hW9 hS9 hl9) _ _ _ _ _ _ _ h hW hS (lv_sub hl [0, 1, 2, 3] rfl)
        · have h := h.2 c23
          refine lv_aload_n hx hb dX12_comes_137 rfl (lv_at hl 0 rfl) ?_
          refine tqm_get (v := .ref (ad 220 0)) hx hb hw tq_inX12 hown hK hW (by decide) (tq_mk_64 (by decide)) rfl 20 (by decide) (hw _ tw_1428) (fun _ h9 => h9) rfl dX12_comes_138 ?_
          refine lv_iload hx hb dX12_comes_141 (lv_at hl 3 rfl) ?_
          refine tqm_aald (jn := x4.toNatClampNeg) (v := .ref (ad 120 x4.toNatClampNeg)) hx hb hK hW (by decide) (tq_mk_220 (by decide)) 2 rfl rfl b20 rfl rfl dX12_comes_143 ?_
          refine lv_iload_n hx hb dX12_comes_144 rfl (lv_at hl 1 rfl) ?_
          refine lv_iconst (v := 0) hx hb dX12_comes_145 (by decide) ?_
          refine tqm_iast (jn := x1.toNatClampNeg) hx hb hK hW hS (by decide) (tq_mk_120 (tq_lt b20)) b21 rfl (tq_mk_120 (tq_lt b20)) dX12_comes_146 (fun H locs hW hS => ?_)
          generalize eM24 : tq_up M 120 x4.toNatClampNeg x1.toNatClampNeg 0 = M24 at hW
          have h := h M24 eM24.symm
          refine lv_aload_n hx hb dX12_comes_147 rfl (lv_at hl 0 rfl) ?_
          refine tqm_get (v := .ref (ad 215 0)) hx hb hw tq_inX12 hown hK hW (by decide) (tq_mk_64 (by decide)) rfl 15 (by decide) (hw _ tw_1423) (fun _ h9 => h9) rfl dX12_comes_148 ?_
          refine lv_iload hx hb dX12_comes_151 (lv_at hl 3 rfl) ?_
          refine tqm_aald (jn := x4.toNatClampNeg) (v := .ref (ad 115 x4.toNatClampNeg)) hx hb hK hW (by decide) (tq_mk_215 (by decide)) 2 rfl rfl b20 rfl rfl dX12_comes_153 ?_
          refine lv_iload_n hx hb dX12_comes_154 rfl (lv_at hl 2 rfl) ?_
          obtain ⟨b25, h⟩ := h
          refine tqm_iald (jn := x3.toNatClampNeg) hx hb hK hW (by decide) (tq_mk_115 (tq_lt b20)) b25 rfl dX12_comes_155 ?_
          refine lv_if_ge (tgt := 172) hx hb dX12_comes_156 (by decide) (fun c26 => ?_) (fun c26 => ?_)
          · have h := h.1 c26
            exact bX12_comes_172 C (fun M9 a09 a19 a29 H9 q9 ls9 h9 hW9 hS9 hl9 => ih M9 a09 a19 a29 H9 q9 ls9 h9 hW9 hS9 hl9) _ _ _ _ _ _ _ h hW hS (lv_sub hl [0, 1, 2, 3] rfl)
          · have h := h.2 c26
            refine lv_aload_n hx hb dX12_comes_159 rfl (lv_at hl 0 rfl) ?_
            refine tqm_get (v := .ref (ad 215 0)) hx hb hw tq_inX12 hown hK hW (by decide) (tq_mk_64 (by decide)) rfl 15 (by decide) (hw _ tw_1423) (fun _ h9 => h9) rfl dX12_comes_160 ?_
            refine lv_iload hx hb dX12_comes_163 (lv_at hl 3 rfl) ?_
            refine tqm_aald (jn := x4.toNatClampNeg) (v := .ref (ad 115 x4.toNatClampNeg)) hx hb hK hW (by decide) (tq_mk_215 (by decide)) 2 rfl rfl b20 rfl rfl dX12_comes_165 ?_
            refine lv_iload_n hx hb dX12_comes_166 rfl (lv_at hl 2 rfl) ?_
            refine lv_aload_n hx hb dX12_comes_167 rfl (lv_at hl 0 rfl) ?_
            refine tqm_get (v := .int (M24 64 0 0)) hx hb hw tq_inX12 hown hK hW (by decide) (tq_mk_64 (by decide)) rfl 0 (by decide) (hw _ tw_1408) (fun _ h9 => h9) rfl dX12_comes_168 ?_
            refine tqm_iast (jn := x3.toNatClampNeg) hx hb hK hW hS (by decide) (tq_mk_115 (tq_lt b20)) b25 rfl (tq_mk_115 (tq_lt b20)) dX12_comes_171 (fun H locs hW hS => ?_)
            generalize eM27 : tq_up M24 115 x4.toNatClampNeg x3.toNatClampNeg (M24 64 0 0) = M27 at hW
            have h := h M27 eM27.symm
            exact bX12_comes_172 C (fun M9 a09 a19 a29 H9 q9 ls9 h9 hW9 hS9 hl9 => ih M9 a09 a19 a29 H9 q9 ls9 h9 hW9 hS9 hl9) _ _ _ _ _ _ _ h hW hS (lv_sub hl [0, 1, 2, 3] rfl)
set_option maxHeartbeats 4000000 in
set_option maxRecDepth 100000 in
theorem bX12_comes_31 {p : Program} {e : Env} {s : State} {m : MethodId} {args : Array Value} {below : List Frame} {meth : Method} {c : Code} {post : tq_St → Prop} (C : tq_At p s m meth c args cX12_comes 5 (none) ((tq_ws yX12_comes cX12_comes 5 none)) RX12 D cy z ad)  : ∀ n : Nat, ∀ (M : tq_St) (x1 : Int32) (x2 : Int32) (x3 : Int32) (x4 : Int32) (H : Heap) (locs : List Loc) (ls : Array Slot), wbX12_comes_31 post   n M x1 x2 x3 x4 → tq_wd D cy z H0 ad N (tq_mix S M) H → va_S (fun q => z ≤ q) s.heap H locs → lv_has ls 5 [(0, .ref (ad 64 0)), (1, .int x1), (2, .int x2), (3, .int x3), (4, .int x4)] → W p l e (tq_rm 1 22) s m args below meth c H locs 0 0 (MQ below (va_Qv (fun u => post u) (tq_P D cy z H0 ad N S) (fun q => z ≤ q)) args s 0 0 (fun q => z ≤ q)) (F0 m 31 ls []) := by
  obtain ⟨hx, hb, hr, hml, hown, hts, hlocks, hK, hG⟩ := id C
  have hw : ∀ w ∈ tq_W, w.before args s = true := fun w h => hts w (List.mem_cons_of_mem _ h)
  intro n
  induction n with
  | zero =>
    intro M x1 x2 x3 x4 H locs ls h
    exact absurd h (by unfold wbX12_comes_31; exact id)
  | succ n ih =>
    intro M x1 x2 x3 x4 H locs ls h hW hS hl
    unfold wbX12_comes_31 at h
    refine lv_iload hx hb dX12_comes_31 (lv_at hl 4 rfl) ?_
    refine lv_iconst (v := 4) hx hb dX12_comes_33 (by decide) ?_
    refine lv_icmp_ge (tgt := 82) hx hb dX12_comes_34 (by decide) (fun c5 => ?_) (fun c5 => ?_)
    · have h := h.1 c5
      refine lv_aload_n hx hb dX12_comes_82 rfl (lv_at hl 0 rfl) ?_
      refine tqm_get (v := .ref (ad 101 0)) hx hb hw tq_inX12 hown hK hW (by decide) (tq_mk_64 (by decide)) rfl 1 (by decide) (hw _ tw_1409) (fun _ h9 => h9) rfl dX12_comes_83 ?_
      refine lv_iload_n hx hb dX12_comes_86 rfl (lv_at hl 3 rfl) ?_
      refine lv_dup2_11 hx hb dX12_comes_87 rfl rfl ?_
      obtain ⟨b6, h⟩ := h
      refine tqm_iald (jn := x3.toNatClampNeg) hx hb hK hW (by decide) (tq_mk_101 (by decide)) b6 rfl dX12_comes_88 ?_
      refine lv_aload_n hx hb dX12_comes_89 rfl (lv_at hl 0 rfl) ?_
      refine tqm_get (v := .ref (ad 128 0)) hx hb hw tq_inX12 hown hK hW (by decide) (tq_mk_64 (by decide)) rfl 28 (by decide) (hw _ tw_1436) (fun _ h9 => h9) rfl dX12_comes_90 ?_
      refine lv_iload_n hx hb dX12_comes_93 rfl (lv_at hl 1 rfl) ?_
      obtain ⟨b7, h⟩ := h
      refine tqm_iald (jn := x1.toNatClampNeg) hx hb hK hW (by decide) (tq_mk_128 (by decide)) b7 rfl dX12_comes_94 ?_
      refine lv_iadd hx hb dX12_comes_95 ?_
      refine tqm_iast (jn := x3.toNatClampNeg) hx hb hK hW hS (by decide) (tq_mk_101 (by decide)) b6 rfl (tq_mk_101 (by decide)) dX12_comes_96 (fun H locs hW hS => ?_)
      generalize eM8 : tq_up M 101 0 x3.toNatClampNeg ((M 101 0 x3.toNatClampNeg) + (M 128 0 x1.toNatClampNeg)) = M8 at hW
      have h := h M8 eM8.symm
      refine lv_aload_n hx hb dX12_comes_97 rfl (lv_at hl 0 rfl) ?_
      refine lv_iload_n hx hb dX12_comes_98 rfl (lv_at hl 1 rfl) ?_
      refine tq_callVv (As := [.int x1]) (rest := []) (kX12_empty h) ⟨hx, hb, hml, hown, hts⟩ (cwV 1 hts (tq_goodV tw_1925 tw_1927 tw_90 tw_125 tw_1928) rfl rfl rfl (by decide +kernel) ⟨Nat.le_of_ble_eq_true rfl, Nat.le_of_ble_eq_true rfl⟩) hK hG hW hS rfl hl.1 rfl (Nat.le_of_ble_eq_true rfl) dX12_comes_99 ⟨Nat.le_of_ble_eq_true rfl, Nat.le_of_ble_eq_true rfl⟩ (fun M9 H locs h hW hS => ?_)
      refine lv_iconst (v := 0) hx hb dX12_comes_102 (by decide) ?_
      refine lv_istore (lv' := [(4, .int 0), (0, .ref (ad 64 0)), (1, .int x1), (2, .int x2), (3, .int x3)]) hx hb dX12_comes_103 hl (by decide) rfl (fun ls hl => ?_)
      obtain ⟨nq, h⟩ := h
      exact bX12_comes_105 C  nq _ _ _ _ _ _ _ h hW hS (lv_sub hl [1, 2, 4, 0] rfl)
    · have h := h.2 c5
      refine lv_aload_n hx hb dX12_comes_37 rfl (lv_at hl 0 rfl) ?_
      refine tqm_get (v := .ref (ad 202 0)) hx hb hw tq_inX12 hown hK hW (by decide) (tq_mk_64 (by decide)) rfl 2 (by decide) (hw _ tw_1410) (fun _ h9 => h9) rfl dX12_comes_38 ?_
      refine lv_iload_n hx hb dX12_comes_41 rfl (lv_at hl 3 rfl) ?_
      obtain ⟨b10, h⟩ := h
      refine tqm_aald (jn := x3.toNatClampNeg) (v := .ref (ad 102 x3.toNatClampNeg)) hx hb hK hW (by decide) (tq_mk_202 (by decide)) 2 rfl rfl b10 rfl rfl dX12_comes_42 ?_
      refine lv_iload hx hb dX12_comes_43 (lv_at hl 4 rfl) ?_
      refine lv_dup2_11 hx hb dX12_comes_45 rfl rfl ?_
      obtain ⟨b11, h⟩ := h
      refine tqm_iald (jn := x4.toNatClampNeg) hx hb hK hW (by decide) (tq_mk_102 (tq_lt b10)) b11 rfl dX12_comes_46 ?_
      refine lv_aload_n hx hb dX12_comes_47 rfl (lv_at hl 0 rfl) ?_
      refine tqm_get (v := .ref (ad 227 0)) hx hb hw tq_inX12 hown hK hW (by decide) (tq_mk_64 (by decide)) rfl 27 (by decide) (hw _ tw_1435) (fun _ h9 => h9) rfl dX12_comes_48 ?_
      refine lv_iload_n hx hb dX12_comes_51 rfl (lv_at hl 1 rfl) ?_
      obtain ⟨b12, h⟩ := h
      refine tqm_aald (jn := x1.toNatClampNeg) (v := .ref (ad 127 x1.toNatClampNeg)) hx hb hK hW (by decide) (tq_mk_227 (by decide)) 2 rfl rfl b12 rfl rfl dX12_comes_52 ?_
      refine lv_iload hx hb dX12_comes_53 (lv_at hl 4 rfl) ?_
      refine tqm_iald (jn := x4.toNatClampNeg) hx hb hK hW (by decide) (tq_mk_127 (tq_lt b12)) b11 rfl dX12_comes_55 ?_
      refine lv_iadd hx hb dX12_comes_56 ?_
      refine tqm_iast (jn := x4.toNatClampNeg) hx hb hK hW hS (by decide) (tq_mk_102 (tq_lt b10)) b11 rfl (tq_mk_102 (tq_lt b10)) dX12_comes_57 (fun H locs hW hS => ?_)
      generalize eM13 : tq_up M 102 x3.toNatClampNeg x4.toNatClampNeg ((M 102 x3.toNatClampNeg x4.toNatClampNeg) + (M 127 x1.toNatClampNeg x4.toNatClampNeg)) = M13 at hW
      have h := h M13 eM13.symm
      refine lv_aload_n hx hb dX12_comes_58 rfl (lv_at hl 0 rfl) ?_
      refine tqm_get (v := .ref (ad 240 0)) hx hb hw tq_inX12 hown hK hW (by decide) (tq_mk_64 (by decide)) rfl 40 (by decide) (hw _ tw_1448) (fun _ h9 => h9) rfl dX12_comes_59 ?_
      refine lv_iload_n hx hb dX12_comes_62 rfl (lv_at hl 2 rfl) ?_
      obtain ⟨b14, h⟩ := h
      refine tqm_aald (jn := x2.toNatClampNeg) (v := .ref (ad 140 x2.toNatClampNeg)) hx hb hK hW (by decide) (tq_mk_240 (by decide)) 2 rfl rfl b14 rfl rfl dX12_comes_63 ?_
      refine lv_iload hx hb dX12_comes_64 (lv_at hl 4 rfl) ?_
      refine lv_aload_n hx hb dX12_comes_66 rfl (lv_at hl 0 rfl) ?_
      refine tqm_get (v := .ref (ad 227 0)) hx hb hw tq_inX12 hown hK hW (by decide) (tq_mk_64 (by decide)) rfl 27 (by decide) (hw _ tw_1435) (fun _ h9 => h9) rfl dX12_comes_67 ?_
      refine lv_iload_n hx hb dX12_comes_70 rfl (lv_at hl 1 rfl) ?_
      refine tqm_aald (jn := x1.toNatClampNeg) (v := .ref (ad 127 x1.toNatClampNeg)) hx hb hK hW (by decide) (tq_mk_227 (by decide)) 2 rfl rfl b12 rfl rfl dX12_comes_71 ?_
      refine lv_iload hx hb dX12_comes_72 (lv_at hl 4 rfl) ?_
      refine tqm_iald (jn := x4.toNatClampNeg) hx hb hK hW (by decide) (tq_mk_127 (tq_lt b12)) b11 rfl dX12_comes_74 ?_
      refine tqm_iast (jn := x4.toNatClampNeg) hx hb hK hW hS (by decide) (tq_mk_140 (tq_lt b14)) b11 rfl (tq_mk_140 (tq_lt b14)) dX12_comes_75 (fun H locs hW hS => ?_)
      generalize eM15 : tq_up M13 140 x2.toNatClampNeg x4.toNatClampNeg (M13 127 x1.toNatClampNeg x4.toNatClampNeg) = M15 at hW
      have h := h M15 eM15.symm
      refine lv_iinc (v := x4 + 1) (lv' := [(4, .int (x4 + 1)), (0, .ref (ad 64 0)), (1, .int x1), (2, .int x2), (3, .int x3)]) hx hb dX12_comes_76 hl (k := 4) rfl rfl (by decide) rfl (fun ls hl => ?_)
      refine lv_goto (tgt := 31) hx hb dX12_comes_79 (by decide) ?_
      exact ih _ _ _ _ _ _ _ _ h hW hS (lv_sub hl [1, 2, 3, 4, 0] rfl)
set_option maxHeartbeats 4000000 in
set_option maxRecDepth 100000 in
theorem kX12_comes {post : tq_St → Prop} {M : tq_St} {p0 : Int32} (h : wpX12_comes post M p0) : tq_mV l yX12_comes (tq_ws yX12_comes cX12_comes 5 none) 1 22 D cy z H0 ad N S M [.ref (ad 64 0), .int p0] post := by
  unfold wpX12_comes at h
  refine Met.ofW (cc := cX12_comes) (maxL := 5) (ret := none) (by decide) rfl ?_
  intro p e s m args below meth c s₁ B hml hv
  obtain ⟨rfl, hW, hK, hG⟩ := hv
  have hx := B.exec
  have hb := B.bytes
  have hr := B.returns
  have hts := atoms_spec (ws := (tq_ws yX12_comes cX12_comes 5 none)) B.pre
  have hw : ∀ w ∈ tq_W, w.before _ s = true := fun w h => hts w (List.mem_cons_of_mem _ h)
  have hown : s.vm.findClass RX12 = some m.cls := findClass_of_methodNamed B.named
  have hlocks := B.notSynchronized
  have C : tq_At p s m meth c [.ref (ad 64 0), .int p0].toArray cX12_comes 5 (none) ((tq_ws yX12_comes cX12_comes 5 none)) RX12 D cy z ad := ⟨hx, hb, hr, hml, hown, hts, hlocks, hK, hG⟩
  have hS : va_S (fun q => z ≤ q) s.heap s.heap [] := va_S.rf
  have hl := lv_entry ([.ref (ad 64 0), .int p0]) (n := 5) (Nat.le_of_ble_eq_true rfl)
  rw [lg_entry_eq]
  generalize (lg_sl ([.ref (ad 64 0), .int p0]) ++ List.replicate (5 - (lg_sl ([.ref (ad 64 0), .int p0])).length) Slot.unset).toArray = ls at hl ⊢
  have hl : lv_has ls 5 [(0, .ref (ad 64 0)), (1, .int p0)] := hl
  have hW : tq_wd D cy z H0 ad N (tq_mix S M) s.heap := hW
  refine lv_aload_n hx hb dX12_comes_0 rfl (lv_at hl 0 rfl) ?_
  refine tqm_get (v := .ref (ad 130 0)) hx hb hw tq_inX12 hown hK hW (by decide) (tq_mk_64 (by decide)) rfl 30 (by decide) (hw _ tw_1438) (fun _ h9 => h9) rfl dX12_comes_1 ?_
  refine lv_iload_n hx hb dX12_comes_4 rfl (lv_at hl 1 rfl) ?_
  obtain ⟨b1, h⟩ := h
  refine tqm_iald (jn := p0.toNatClampNeg) hx hb hK hW (by decide) (tq_mk_130 (by decide)) b1 rfl dX12_comes_5 ?_
  refine lv_istore_n (lv' := [(2, .int (M 130 0 p0.toNatClampNeg)), (0, .ref (ad 64 0)), (1, .int p0)]) hx hb dX12_comes_6 rfl hl (by decide) rfl (fun ls hl => ?_)
  refine lv_aload_n hx hb dX12_comes_7 rfl (lv_at hl 1 rfl) ?_
  refine tqm_get (v := .ref (ad 134 0)) hx hb hw tq_inX12 hown hK hW (by decide) (tq_mk_64 (by decide)) rfl 34 (by decide) (hw _ tw_1442) (fun _ h9 => h9) rfl dX12_comes_8 ?_
  refine lv_iload_n hx hb dX12_comes_11 rfl (lv_at hl 0 rfl) ?_
  obtain ⟨b2, h⟩ := h
  refine tqm_iald (jn := (M 130 0 p0.toNatClampNeg).toNatClampNeg) hx hb hK hW (by decide) (tq_mk_134 (by decide)) b2 rfl dX12_comes_12 ?_
  refine lv_istore_n (lv' := [(3, .int (M 134 0 ((M 130 0 p0.toNatClampNeg).toNatClampNeg))), (2, .int (M 130 0 p0.toNatClampNeg)), (0, .ref (ad 64 0)), (1, .int p0)]) hx hb dX12_comes_13 rfl hl (by decide) rfl (fun ls hl => ?_)
  refine lv_aload_n hx hb dX12_comes_14 rfl (lv_at hl 2 rfl) ?_
  refine tqm_get (v := .ref (ad 124 0)) hx hb hw tq_inX12 hown hK hW (by decide) (tq_mk_64 (by decide)) rfl 24 (by decide) (hw _ tw_1432) (fun _ h9 => h9) rfl dX12_comes_15 ?_
  refine lv_iload_n hx hb dX12_comes_18 rfl (lv_at hl 3 rfl) ?_
  refine lv_iload_n hx hb dX12_comes_19 rfl (lv_at hl 0 rfl) ?_
  refine tqm_iast (jn := p0.toNatClampNeg) hx hb hK hW hS (by decide) (tq_mk_124 (by decide)) b1 rfl (tq_mk_124 (by decide)) dX12_comes_20 (fun H locs hW hS => ?_)
  generalize eM3 : tq_up M 124 0 p0.toNatClampNeg (M 134 0 ((M 130 0 p0.toNatClampNeg).toNatClampNeg)) = M3 at hW
  have h := h M3 eM3.symm
  refine lv_aload_n hx hb dX12_comes_21 rfl (lv_at hl 2 rfl) ?_
  refine tqm_get (v := .ref (ad 138 0)) hx hb hw tq_inX12 hown hK hW (by decide) (tq_mk_64 (by decide)) rfl 38 (by decide) (hw _ tw_1446) (fun _ h9 => h9) rfl dX12_comes_22 ?_
  refine lv_iload_n hx hb dX12_comes_25 rfl (lv_at hl 1 rfl) ?_
  refine lv_iconst (v := 1) hx hb dX12_comes_26 (by decide) ?_
  refine tqm_iast (jn := (M 130 0 p0.toNatClampNeg).toNatClampNeg) hx hb hK hW hS (by decide) (tq_mk_138 (by decide)) b2 rfl (tq_mk_138 (by decide)) dX12_comes_27 (fun H locs hW hS => ?_)
  generalize eM4 : tq_up M3 138 0 ((M 130 0 p0.toNatClampNeg).toNatClampNeg) 1 = M4 at hW
  have h := h M4 eM4.symm
  refine lv_iconst (v := 0) hx hb dX12_comes_28 (by decide) ?_
  refine lv_istore (lv' := [(4, .int 0), (3, .int (M 134 0 ((M 130 0 p0.toNatClampNeg).toNatClampNeg))), (2, .int (M 130 0 p0.toNatClampNeg)), (0, .ref (ad 64 0)), (1, .int p0)]) hx hb dX12_comes_29 hl (by decide) rfl (fun ls hl => ?_)
  obtain ⟨nq, h⟩ := h
  exact bX12_comes_31 C  nq _ _ _ _ _ _ _ _ h hW hS (lv_sub hl [3, 4, 2, 1, 0] rfl)
-- interest
def wpX12_interest (post : tq_St → Int32 → Prop) (M : tq_St) (p0 : Int32) : Prop :=
  vp_in p0 150 ∧ (post M (((((M 116 p0.toNatClampNeg 0).toInt64) * ((((M 64 0 0) - (M 112 0 p0.toNatClampNeg)) / 30).toInt64)) / ((100))).toInt32))
set_option maxHeartbeats 4000000 in
set_option maxRecDepth 100000 in
theorem kX12_interest {post : tq_St → Int32 → Prop} {M : tq_St} {p0 : Int32} (h : wpX12_interest post M p0) : tq_mI l yX12_interest (tq_ws yX12_interest cX12_interest 3 (some .int)) 0 0 D cy z H0 ad N S M [.ref (ad 64 0), .int p0] post := by
  unfold wpX12_interest at h
  refine Met.ofW (cc := cX12_interest) (maxL := 3) (ret := (some .int)) (by decide) rfl ?_
  intro p e s m args below meth c s₁ B hml hv
  obtain ⟨rfl, hW, hK, hG⟩ := hv
  have hx := B.exec
  have hb := B.bytes
  have hr := B.returns
  have hts := atoms_spec (ws := (tq_ws yX12_interest cX12_interest 3 (some .int))) B.pre
  have hw : ∀ w ∈ tq_W, w.before _ s = true := fun w h => hts w (List.mem_cons_of_mem _ h)
  have hown : s.vm.findClass RX12 = some m.cls := findClass_of_methodNamed B.named
  have hlocks := B.notSynchronized
  have C : tq_At p s m meth c [.ref (ad 64 0), .int p0].toArray cX12_interest 3 ((some .int)) ((tq_ws yX12_interest cX12_interest 3 (some .int))) RX12 D cy z ad := ⟨hx, hb, hr, hml, hown, hts, hlocks, hK, hG⟩
  have hS : va_S (fun q => z ≤ q) s.heap s.heap [] := va_S.rf
  have hl := lv_entry ([.ref (ad 64 0), .int p0]) (n := 3) (Nat.le_of_ble_eq_true rfl)
  rw [lg_entry_eq]
  generalize (lg_sl ([.ref (ad 64 0), .int p0]) ++ List.replicate (3 - (lg_sl ([.ref (ad 64 0), .int p0])).length) Slot.unset).toArray = ls at hl ⊢
  have hl : lv_has ls 3 [(0, .ref (ad 64 0)), (1, .int p0)] := hl
  have hW : tq_wd D cy z H0 ad N (tq_mix S M) s.heap := hW
  refine lv_aload_n hx hb dX12_interest_0 rfl (lv_at hl 0 rfl) ?_
  refine tqm_get (v := .int (M 64 0 0)) hx hb hw tq_inX12 hown hK hW (by decide) (tq_mk_64 (by decide)) rfl 0 (by decide) (hw _ tw_1408) (fun _ h9 => h9) rfl dX12_interest_1 ?_
  refine lv_aload_n hx hb dX12_interest_4 rfl (lv_at hl 0 rfl) ?_
  refine tqm_get (v := .ref (ad 112 0)) hx hb hw tq_inX12 hown hK hW (by decide) (tq_mk_64 (by decide)) rfl 12 (by decide) (hw _ tw_1420) (fun _ h9 => h9) rfl dX12_interest_5 ?_
  refine lv_iload_n hx hb dX12_interest_8 rfl (lv_at hl 1 rfl) ?_
  obtain ⟨b1, h⟩ := h
  refine tqm_iald (jn := p0.toNatClampNeg) hx hb hK hW (by decide) (tq_mk_112 (by decide)) b1 rfl dX12_interest_9 ?_
  refine lv_isub hx hb dX12_interest_10 ?_
  refine lv_bipush (v := 30) hx hb dX12_interest_11 (by decide) ?_
  refine lv_idiv hx hb dX12_interest_13 (by decide) ?_
  refine lv_istore_n (lv' := [(2, .int (((M 64 0 0) - (M 112 0 p0.toNatClampNeg)) / 30)), (0, .ref (ad 64 0)), (1, .int p0)]) hx hb dX12_interest_14 rfl hl (by decide) rfl (fun ls hl => ?_)
  refine lv_aload_n hx hb dX12_interest_15 rfl (lv_at hl 1 rfl) ?_
  refine tqm_get (v := .ref (ad 216 0)) hx hb hw tq_inX12 hown hK hW (by decide) (tq_mk_64 (by decide)) rfl 16 (by decide) (hw _ tw_1424) (fun _ h9 => h9) rfl dX12_interest_16 ?_
  refine lv_iload_n hx hb dX12_interest_19 rfl (lv_at hl 2 rfl) ?_
  refine tqm_aald (jn := p0.toNatClampNeg) (v := .ref (ad 116 p0.toNatClampNeg)) hx hb hK hW (by decide) (tq_mk_216 (by decide)) 2 rfl rfl b1 rfl rfl dX12_interest_20 ?_
  refine lv_iconst (v := 0) hx hb dX12_interest_21 (by decide) ?_
  refine tqm_iald (jn := 0) hx hb hK hW (by decide) (tq_mk_116 (tq_lt b1)) (by unfold vp_in; decide) (by decide) dX12_interest_22 ?_
  refine lv_i2l (v := (M 116 p0.toNatClampNeg 0).toInt64) hx hb dX12_interest_23 rfl ?_
  refine lv_iload_n hx hb dX12_interest_24 rfl (lv_at hl 0 rfl) ?_
  refine lv_i2l (v := (((M 64 0 0) - (M 112 0 p0.toNatClampNeg)) / 30).toInt64) hx hb dX12_interest_25 rfl ?_
  refine lv_lmul hx hb dX12_interest_26 ?_
  refine lv_ldc2 hx hb hown (hw _ tw_1941) dX12_interest_27 ?_
  refine lv_ldiv hx hb dX12_interest_30 (by decide) ?_
  refine lv_l2i (v := ((((M 116 p0.toNatClampNeg 0).toInt64) * ((((M 64 0 0) - (M 112 0 p0.toNatClampNeg)) / 30).toInt64)) / ((100))).toInt32) hx hb dX12_interest_31 rfl ?_
  exact W.iret (v := ((((M 116 p0.toNatClampNeg 0).toInt64) * ((((M 64 0 0) - (M 112 0 p0.toNatClampNeg)) / 30).toInt64)) / ((100))).toInt32) hx hb hr (fun t ht hWm => ⟨⟨_, M, rfl, h, tq_pe ht hW⟩, hS.F ht⟩) hS.2.2 dX12_interest_32
