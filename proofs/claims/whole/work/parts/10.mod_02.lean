variable {l : Launch} {D : va_G} {cy : Nat → ClassId} {z : Nat} {H0 : Heap} {ad : Nat → Nat → Nat} {N : tq_Nn} {S : tq_St}
-- feed
def wbX12_feed_30 (post : tq_St → Int32 → Prop) : Nat → tq_St → Int32 → Int32 → Prop
  | 0, _, _, _ => False
  | n + 1, M, x1, x3 =>
    (x3 < 0 → (post M (M 64 0 61))) ∧ (¬ x3 < 0 → (∀ M6, M6 = tq_up M 64 0 61 ((M 64 0 61) + 1) → (vp_in (M 64 0 61) 120 ∧ (∀ M8, M8 = tq_up M6 160 0 ((M 64 0 61).toNatClampNeg) ((x1 >>> ((8 * x3) &&& 31)) &&& 255) → ((wbX12_feed_30 post n) M8 x1 (x3 + (-1)))))))
def wpX12_feed (post : tq_St → Int32 → Prop) (M : tq_St) (p0 : Int32) (p1 : Int32) : Prop :=
  wpX12_in (fun M1 r2 => (¬ r2 = 0 → ((((M1 64 0 61) + p1) ≤ 120 → (∃ nq, wbX12_feed_30 post nq M1 p0 (p1 - 1))) ∧ (¬ ((M1 64 0 61) + p1) ≤ 120 → (post M1 ((-4)))))) ∧ (r2 = 0 → (post M1 ((-2))))) M p1 0 4
set_option maxHeartbeats 4000000 in
set_option maxRecDepth 100000 in
theorem bX12_feed_30 {p : Program} {e : Env} {s : State} {m : MethodId} {args : Array Value} {below : List Frame} {meth : Method} {c : Code} {post : tq_St → Int32 → Prop} (C : tq_At p s m meth c args cX12_feed 4 ((some .int)) ((tq_ws yX12_feed cX12_feed 4 (some .int))) RX12 D cy z ad)  : ∀ n : Nat, ∀ (M : tq_St) (x1 : Int32) (x3 : Int32) (H : Heap) (locs : List Loc) (ls : Array Slot), wbX12_feed_30 post   n M x1 x3 → tq_wd D cy z H0 ad N (tq_mix S M) H → va_S (fun q => z ≤ q) s.heap H locs → lv_has ls 4 [(0, .ref (ad 64 0)), (1, .int x1), (3, .int x3)] → W p l e (tq_rm 1 22) s m args below meth c H locs 0 0 (MQ below (va_Qi (fun r u => post u r) (tq_P D cy z H0 ad N S) (fun q => z ≤ q)) args s 0 0 (fun q => z ≤ q)) (F0 m 30 ls []) := by
  obtain ⟨hx, hb, hr, hml, hown, hts, hlocks, hK, hG⟩ := id C
  have hw : ∀ w ∈ tq_W, w.before args s = true := fun w h => hts w (List.mem_cons_of_mem _ h)
  intro n
  induction n with
  | zero =>
    intro M x1 x3 H locs ls h
    exact absurd h (by unfold wbX12_feed_30; exact id)
  | succ n ih =>
    intro M x1 x3 H locs ls h hW hS hl
    unfold wbX12_feed_30 at h
    refine lv_iload_n hx hb dX12_feed_30 rfl (lv_at hl 2 rfl) ?_
    refine lv_if_lt (tgt := 66) hx hb dX12_feed_31 (by decide) (fun c5 => ?_) (fun c5 => ?_)
    · have h := h.1 c5
      refine lv_aload_n hx hb dX12_feed_66 rfl (lv_at hl 0 rfl) ?_
      refine tqm_get (v := .int (M 64 0 61)) hx hb hw tq_inX12 hown hK hW (by decide) (tq_mk_64 (by decide)) rfl 61 (by decide) (hw _ tw_1469) (fun _ h9 => h9) rfl dX12_feed_67 ?_
      exact W.iret (v := M 64 0 61) hx hb hr (fun t ht hWm => ⟨⟨_, M, rfl, h, tq_pe ht hW⟩, hS.F ht⟩) hS.2.2 dX12_feed_70
    · have h := h.2 c5
      refine lv_aload_n hx hb dX12_feed_34 rfl (lv_at hl 0 rfl) ?_
      refine tqm_get (v := .ref (ad 160 0)) hx hb hw tq_inX12 hown hK hW (by decide) (tq_mk_64 (by decide)) rfl 60 (by decide) (hw _ tw_1468) (fun _ h9 => h9) rfl dX12_feed_35 ?_
      refine lv_aload_n hx hb dX12_feed_38 rfl (lv_at hl 0 rfl) ?_
      refine lv_dup hx hb dX12_feed_39 rfl ?_
      refine tqm_get (v := .int (M 64 0 61)) hx hb hw tq_inX12 hown hK hW (by decide) (tq_mk_64 (by decide)) rfl 61 (by decide) (hw _ tw_1469) (fun _ h9 => h9) rfl dX12_feed_40 ?_
      refine lv_dup_x1 hx hb dX12_feed_43 rfl rfl ?_
      refine lv_iconst (v := 1) hx hb dX12_feed_44 (by decide) ?_
      refine lv_iadd hx hb dX12_feed_45 ?_
      refine tqm_put hx hb hw tq_inX12 tyX12 tyX12_ok nmX12 hown hK hW hS (by decide) (tq_mk_64 (by decide)) rfl 61 (by decide) (hw _ tw_1469) (fun _ h9 => h9) rfl rfl rfl rfl (tq_mk_64 (by decide)) dX12_feed_46 (fun H locs hW hS => ?_)
      generalize eM6 : tq_up M 64 0 61 ((M 64 0 61) + 1) = M6 at hW
      have h := h M6 eM6.symm
      refine lv_iload_n hx hb dX12_feed_49 rfl (lv_at hl 1 rfl) ?_
      refine lv_bipush (v := 8) hx hb dX12_feed_50 (by decide) ?_
      refine lv_iload_n hx hb dX12_feed_52 rfl (lv_at hl 2 rfl) ?_
      refine lv_imul hx hb dX12_feed_53 ?_
      refine lv_ishr hx hb dX12_feed_54 ?_
      refine lv_sipush (v := 255) hx hb dX12_feed_55 (by decide) ?_
      refine lv_iand hx hb dX12_feed_58 ?_
      obtain ⟨b7, h⟩ := h
      refine tqm_iast (jn := (M 64 0 61).toNatClampNeg) hx hb hK hW hS (by decide) (tq_mk_160 (by decide)) b7 rfl (tq_mk_160 (by decide)) dX12_feed_59 (fun H locs hW hS => ?_)
      generalize eM8 : tq_up M6 160 0 ((M 64 0 61).toNatClampNeg) ((x1 >>> ((8 * x3) &&& 31)) &&& 255) = M8 at hW
      have h := h M8 eM8.symm
      refine lv_iinc (v := x3 + (-1)) (lv' := [(3, .int (x3 + (-1))), (0, .ref (ad 64 0)), (1, .int x1)]) hx hb dX12_feed_60 hl (k := 2) rfl rfl (by decide) rfl (fun ls hl => ?_)
      refine lv_goto (tgt := 30) hx hb dX12_feed_63 (by decide) ?_
      exact ih _ _ _ _ _ _ h hW hS (lv_sub hl [1, 2, 0] rfl)
set_option maxHeartbeats 4000000 in
set_option maxRecDepth 100000 in
theorem kX12_feed {post : tq_St → Int32 → Prop} {M : tq_St} {p0 : Int32} {p1 : Int32} (h : wpX12_feed post M p0 p1) : tq_mI l yX12_feed (tq_ws yX12_feed cX12_feed 4 (some .int)) 1 22 D cy z H0 ad N S M [.ref (ad 64 0), .int p0, .int p1] post := by
  unfold wpX12_feed at h
  refine Met.ofW (cc := cX12_feed) (maxL := 4) (ret := (some .int)) (by decide) rfl ?_
  intro p e s m args below meth c s₁ B hml hv
  obtain ⟨rfl, hW, hK, hG⟩ := hv
  have hx := B.exec
  have hb := B.bytes
  have hr := B.returns
  have hts := atoms_spec (ws := (tq_ws yX12_feed cX12_feed 4 (some .int))) B.pre
  have hw : ∀ w ∈ tq_W, w.before _ s = true := fun w h => hts w (List.mem_cons_of_mem _ h)
  have hown : s.vm.findClass RX12 = some m.cls := findClass_of_methodNamed B.named
  have hlocks := B.notSynchronized
  have C : tq_At p s m meth c [.ref (ad 64 0), .int p0, .int p1].toArray cX12_feed 4 ((some .int)) ((tq_ws yX12_feed cX12_feed 4 (some .int))) RX12 D cy z ad := ⟨hx, hb, hr, hml, hown, hts, hlocks, hK, hG⟩
  have hS : va_S (fun q => z ≤ q) s.heap s.heap [] := va_S.rf
  have hl := lv_entry ([.ref (ad 64 0), .int p0, .int p1]) (n := 4) (Nat.le_of_ble_eq_true rfl)
  rw [lg_entry_eq]
  generalize (lg_sl ([.ref (ad 64 0), .int p0, .int p1]) ++ List.replicate (4 - (lg_sl ([.ref (ad 64 0), .int p0, .int p1])).length) Slot.unset).toArray = ls at hl ⊢
  have hl : lv_has ls 4 [(0, .ref (ad 64 0)), (1, .int p0), (2, .int p1)] := hl
  have hW : tq_wd D cy z H0 ad N (tq_mix S M) s.heap := hW
  refine lv_iload_n hx hb dX12_feed_0 rfl (lv_at hl 2 rfl) ?_
  refine lv_iconst (v := 0) hx hb dX12_feed_1 (by decide) ?_
  refine lv_iconst (v := 4) hx hb dX12_feed_2 (by decide) ?_
  refine tq_callSi (As := [.int p1, .int 0, .int 4]) (rest := []) (kX12_in h) ⟨hx, hb, hml, hown, hts⟩ (va_cwS 3 hts (tq_goodS tw_1648 tw_1649 tw_125 tw_1650) rfl rfl rfl (by decide +kernel) ⟨Nat.le_of_ble_eq_true rfl, Nat.le_of_ble_eq_true rfl⟩) hK hG hW hS rfl hl.1 rfl (Nat.le_of_ble_eq_true rfl) dX12_feed_3 ⟨Nat.le_of_ble_eq_true rfl, Nat.le_of_ble_eq_true rfl⟩ (fun r2 M1 H locs h hW hS => ?_)
  refine lv_if_ne (tgt := 12) hx hb dX12_feed_6 (by decide) (fun c3 => ?_) (fun c3 => ?_)
  · have h := h.1 c3
    refine lv_aload_n hx hb dX12_feed_12 rfl (lv_at hl 0 rfl) ?_
    refine tqm_get (v := .int (M1 64 0 61)) hx hb hw tq_inX12 hown hK hW (by decide) (tq_mk_64 (by decide)) rfl 61 (by decide) (hw _ tw_1469) (fun _ h9 => h9) rfl dX12_feed_13 ?_
    refine lv_iload_n hx hb dX12_feed_16 rfl (lv_at hl 2 rfl) ?_
    refine lv_iadd hx hb dX12_feed_17 ?_
    refine lv_bipush (v := 120) hx hb dX12_feed_18 (by decide) ?_
    refine lv_icmp_le (tgt := 26) hx hb dX12_feed_20 (by decide) (fun c4 => ?_) (fun c4 => ?_)
    · have h := h.1 c4
      refine lv_iload_n hx hb dX12_feed_26 rfl (lv_at hl 2 rfl) ?_
      refine lv_iconst (v := 1) hx hb dX12_feed_27 (by decide) ?_
      refine lv_isub hx hb dX12_feed_28 ?_
      refine lv_istore_n (lv' := [(3, .int (p1 - 1)), (0, .ref (ad 64 0)), (1, .int p0), (2, .int p1)]) hx hb dX12_feed_29 rfl hl (by decide) rfl (fun ls hl => ?_)
      obtain ⟨nq, h⟩ := h
      exact bX12_feed_30 C  nq _ _ _ _ _ _ h hW hS (lv_sub hl [1, 2, 0] rfl)
    · have h := h.2 c4
      refine lv_bipush (v := (-4)) hx hb dX12_feed_23 (by decide) ?_
      exact W.iret (v := (-4)) hx hb hr (fun t ht hWm => ⟨⟨_, M1, rfl, h, tq_pe ht hW⟩, hS.F ht⟩) hS.2.2 dX12_feed_25
  · have h := h.2 c3
    refine lv_bipush (v := (-2)) hx hb dX12_feed_9 (by decide) ?_
    exact W.iret (v := (-2)) hx hb hr (fun t ht hWm => ⟨⟨_, M1, rfl, h, tq_pe ht hW⟩, hS.F ht⟩) hS.2.2 dX12_feed_11
-- mail
def wbX12_mail_18 (post : tq_St → Int32 → Prop)  (M : tq_St) : Prop :=
  post M ((-1))
def wbX12_mail_92 (post : tq_St → Int32 → Prop)  (M : tq_St) : Prop :=
  post M ((-12))
def wbX12_mail_113 (post : tq_St → Int32 → Prop) : Nat → tq_St → Int32 → Int32 → Int32 → Int32 → Prop
  | 0, _, _, _, _, _ => False
  | n + 1, M, x1, x3, x4, x5 =>
    (x4 ≤ x5 → (post M (M 64 0 61))) ∧ (¬ x4 ≤ x5 → (∀ M17, M17 = tq_up M 64 0 61 ((M 64 0 61) + 1) → (vp_in x1 3 ∧ (vp_in (x3 + x5) 64 ∧ (vp_in (M 64 0 61) 120 ∧ (∀ M21, M21 = tq_up M17 160 0 ((M 64 0 61).toNatClampNeg) ((M17 163 x1.toNatClampNeg ((x3 + x5).toNatClampNeg)) &&& 255) → ((wbX12_mail_113 post n) M21 x1 x3 x4 (x5 + 1))))))))
def wpX12_mail (post : tq_St → Int32 → Prop) (M : tq_St) (p0 : Int32) (p1 : Int32) (p2 : Int32) (p3 : Int32) : Prop :=
  wpX12_in (fun M1 r2 => (r2 = 0 → (wbX12_mail_18 post M1 )) ∧ (¬ r2 = 0 → (wpX12_in (fun M4 r5 => (¬ r5 = 0 → ((0 ≤ p3 → ((¬ p3 = 0 → (vp_in p0 3 ∧ ((¬ (M4 162 0 p0.toNatClampNeg) = ((-1)) → (((M4 162 0 p0.toNatClampNeg) = p1 → ((p2 < 0 → (wbX12_mail_92 post M4 )) ∧ (¬ p2 < 0 → (((M4 164 0 p0.toNatClampNeg) < p3 → (wbX12_mail_92 post M4 )) ∧ (¬ (M4 164 0 p0.toNatClampNeg) < p3 → ((p2 ≤ ((M4 164 0 p0.toNatClampNeg) - p3) → ((p3 ≤ (120 - (M4 64 0 61)) → (∃ nq, wbX12_mail_113 post nq M4 p0 p2 p3 0)) ∧ (¬ p3 ≤ (120 - (M4 64 0 61)) → (post M4 ((-4)))))) ∧ (¬ p2 ≤ ((M4 164 0 p0.toNatClampNeg) - p3) → (wbX12_mail_92 post M4 )))))))) ∧ (¬ (M4 162 0 p0.toNatClampNeg) = p1 → (post M4 ((-13)))))) ∧ ((M4 162 0 p0.toNatClampNeg) = ((-1)) → (post M4 ((-11))))))) ∧ (p3 = 0 → (post M4 (M4 64 0 61))))) ∧ (¬ 0 ≤ p3 → (post M4 ((-2)))))) ∧ (r5 = 0 → (wbX12_mail_18 post M4 ))) M1 p1 0 2))) M p0 0 2
set_option maxHeartbeats 4000000 in
set_option maxRecDepth 100000 in
theorem bX12_mail_18 {p : Program} {e : Env} {s : State} {m : MethodId} {args : Array Value} {below : List Frame} {meth : Method} {c : Code} {post : tq_St → Int32 → Prop} (C : tq_At p s m meth c args cX12_mail 6 ((some .int)) ((tq_ws yX12_mail cX12_mail 6 (some .int))) RX12 D cy z ad)  : ∀ (M : tq_St)  (H : Heap) (locs : List Loc) (ls : Array Slot), wbX12_mail_18 post   M  → tq_wd D cy z H0 ad N (tq_mix S M) H → va_S (fun q => z ≤ q) s.heap H locs → lv_has ls 6 [] → W p l e (tq_rm 1 22) s m args below meth c H locs 0 0 (MQ below (va_Qi (fun r u => post u r) (tq_P D cy z H0 ad N S) (fun q => z ≤ q)) args s 0 0 (fun q => z ≤ q)) (F0 m 18 ls []) := by
  obtain ⟨hx, hb, hr, hml, hown, hts, hlocks, hK, hG⟩ := id C
  have hw : ∀ w ∈ tq_W, w.before args s = true := fun w h => hts w (List.mem_cons_of_mem _ h)
  intro M  H locs ls h hW hS hl
  unfold wbX12_mail_18 at h
  refine lv_iconst (v := (-1)) hx hb dX12_mail_18 (by decide) ?_
  exact W.iret (v := (-1)) hx hb hr (fun t ht hWm => ⟨⟨_, M, rfl, h, tq_pe ht hW⟩, hS.F ht⟩) hS.2.2 dX12_mail_19
set_option maxHeartbeats 4000000 in
set_option maxRecDepth 100000 in
theorem bX12_mail_92 {p : Program} {e : Env} {s : State} {m : MethodId} {args : Array Value} {below : List Frame} {meth : Method} {c : Code} {post : tq_St → Int32 → Prop} (C : tq_At p s m meth c args cX12_mail 6 ((some .int)) ((tq_ws yX12_mail cX12_mail 6 (some .int))) RX12 D cy z ad)  : ∀ (M : tq_St)  (H : Heap) (locs : List Loc) (ls : Array Slot), wbX12_mail_92 post   M  → tq_wd D cy z H0 ad N (tq_mix S M) H → va_S (fun q => z ≤ q) s.heap H locs → lv_has ls 6 [] → W p l e (tq_rm 1 22) s m args below meth c H locs 0 0 (MQ below (va_Qi (fun r u => post u r) (tq_P D cy z H0 ad N S) (fun q => z ≤ q)) args s 0 0 (fun q => z ≤ q)) (F0 m 92 ls []) := by
  obtain ⟨hx, hb, hr, hml, hown, hts, hlocks, hK, hG⟩ := id C
  have hw : ∀ w ∈ tq_W, w.before args s = true := fun w h => hts w (List.mem_cons_of_mem _ h)
  intro M  H locs ls h hW hS hl
  unfold wbX12_mail_92 at h
  refine lv_bipush (v := (-12)) hx hb dX12_mail_92 (by decide) ?_
  exact W.iret (v := (-12)) hx hb hr (fun t ht hWm => ⟨⟨_, M, rfl, h, tq_pe ht hW⟩, hS.F ht⟩) hS.2.2 dX12_mail_94
set_option maxHeartbeats 4000000 in
set_option maxRecDepth 100000 in
theorem bX12_mail_113 {p : Program} {e : Env} {s : State} {m : MethodId} {args : Array Value} {below : List Frame} {meth : Method} {c : Code} {post : tq_St → Int32 → Prop} (C : tq_At p s m meth c args cX12_mail 6 ((some .int)) ((tq_ws yX12_mail cX12_mail 6 (some .int))) RX12 D cy z ad)  : ∀ n : Nat, ∀ (M : tq_St) (x1 : Int32) (x3 : Int32) (x4 : Int32) (x5 : Int32) (H : Heap) (locs : List Loc) (ls : Array Slot), wbX12_mail_113 post   n M x1 x3 x4 x5 → tq_wd D cy z H0 ad N (tq_mix S M) H → va_S (fun q => z ≤ q) s.heap H locs → lv_has ls 6 [(0, .ref (ad 64 0)), (1, .int x1), (3, .int x3), (4, .int x4), (5, .int x5)] → W p l e (tq_rm 1 22) s m args below meth c H locs 0 0 (MQ below (va_Qi (fun r u => post u r) (tq_P D cy z H0 ad N S) (fun q => z ≤ q)) args s 0 0 (fun q => z ≤ q)) (F0 m 113 ls []) := by
  obtain ⟨hx, hb, hr, hml, hown, hts, hlocks, hK, hG⟩ := id C
  have hw : ∀ w ∈ tq_W, w.before args s = true := fun w h => hts w (List.mem_cons_of_mem _ h)
  intro n
  induction n with
  | zero =>
    intro M x1 x3 x4 x5 H locs ls h
    exact absurd h (by unfold wbX12_mail_113; exact id)
  | succ n ih =>
    intro M x1 x3 x4 x5 H locs ls h hW hS hl
    unfold wbX12_mail_113 at h
    refine lv_iload hx hb dX12_mail_113 (lv_at hl 4 rfl) ?_
    refine lv_iload hx hb dX12_mail_115 (lv_at hl 3 rfl) ?_
    refine lv_icmp_ge (tgt := 157) hx hb dX12_mail_117 (by decide) (fun c16 => ?_) (fun c16 => ?_)
    · have h := h.1 c16
      refine lv_aload_n hx hb dX12_mail_157 rfl (lv_at hl 0 rfl) ?_
      refine tqm_get (v := .int (M 64 0 61)) hx hb hw tq_inX12 hown hK hW (by decide) (tq_mk_64 (by decide)) rfl 61 (by decide) (hw _ tw_1469) (fun _ h9 => h9) rfl dX12_mail_158 ?_
      exact W.iret (v := M 64 0 61) hx hb hr (fun t ht hWm => ⟨⟨_, M, rfl, h, tq_pe ht hW⟩, hS.F ht⟩) hS.2.2 dX12_mail_161
    · have h := h.2 c16
      refine lv_aload_n hx hb dX12_mail_120 rfl (lv_at hl 0 rfl) ?_
      refine tqm_get (v := .ref (ad 160 0)) hx hb hw tq_inX12 hown hK hW (by decide) (tq_mk_64 (by decide)) rfl 60 (by decide) (hw _ tw_1468) (fun _ h9 => h9) rfl dX12_mail_121 ?_
      refine lv_aload_n hx hb dX12_mail_124 rfl (lv_at hl 0 rfl) ?_
      refine lv_dup hx hb dX12_mail_125 rfl ?_
      refine tqm_get (v := .int (M 64 0 61)) hx hb hw tq_inX12 hown hK hW (by decide) (tq_mk_64 (by decide)) rfl 61 (by decide) (hw _ tw_1469) (fun _ h9 => h9) rfl dX12_mail_126 ?_
      refine lv_dup_x1 hx hb dX12_mail_129 rfl rfl ?_
      refine lv_iconst (v := 1) hx hb dX12_mail_130 (by decide) ?_
      refine lv_iadd hx hb dX12_mail_131 ?_
      refine tqm_put hx hb hw tq_inX12 tyX12 tyX12_ok nmX12 hown hK hW hS (by decide) (tq_mk_64 (by decide)) rfl 61 (by decide) (hw _ tw_1469) (fun _ h9 => h9) rfl rfl rfl rfl (tq_mk_64 (by decide)) dX12_mail_132 (fun H locs hW hS => ?_)
      generalize eM17 : tq_up M 64 0 61 ((M 64 0 61) + 1) = M17 at hW
      have h := h M17 eM17.symm
      refine lv_aload_n hx hb dX12_mail_135 rfl (lv_at hl 0 rfl) ?_
      refine tqm_get (v := .ref (ad 263 0)) hx hb hw tq_inX12 hown hK hW (by decide) (tq_mk_64 (by decide)) rfl 63 (by decide) (hw _ tw_1471) (fun _ h9 => h9) rfl dX12_mail_136 ?_
      refine lv_iload_n hx hb dX12_mail_139 rfl (lv_at hl 1 rfl) ?_
      obtain ⟨b18, h⟩ := h
      refine tqm_aald (jn := x1.toNatClampNeg) (v := .ref (ad 163 x1.toNatClampNeg)) hx hb hK hW (by decide) (tq_mk_263 (by decide)) 2 rfl rfl b18 rfl rfl dX12_mail_140 ?_
      refine lv_iload_n hx hb dX12_mail_141 rfl (lv_at hl 2 rfl) ?_
      refine lv_iload hx hb dX12_mail_142 (lv_at hl 4 rfl) ?_
      refine lv_iadd hx hb dX12_mail_144 ?_
      obtain ⟨b19, h⟩ := h
      refine tqm_iald (jn := (x3 + x5).toNatClampNeg) hx hb hK hW (by decide) (tq_mk_163 (tq_lt b18)) b19 rfl dX12_mail_145 ?_
      refine lv_sipush (v := 255) hx hb dX12_mail_146 (by decide) ?_
      refine lv_iand hx hb dX12_mail_149 ?_
      obtain ⟨b20, h⟩ := h
      refine tqm_iast (jn := (M 64 0 61).toNatClampNeg) hx hb hK hW hS (by decide) (tq_mk_160 (by decide)) b20 rfl (tq_mk_160 (by decide)) dX12_mail_150 (fun H locs hW hS => ?_)
      generalize eM21 : tq_up M17 160 0 ((M 64 0 61).toNatClampNeg) ((M17 163 x1.toNatClampNeg ((x3 + x5).toNatClampNeg)) &&& 255) = M21 at hW
      have h := h M21 eM21.symm
      refine lv_iinc (v := x5 + 1) (lv' := [(5, .int (x5 + 1)), (0, .ref (ad 64 0)), (1, .int x1), (3, .int x3), (4, .int x4)]) hx hb dX12_mail_151 hl (k := 4) rfl rfl (by decide) rfl (fun ls hl => ?_)
      refine lv_goto (tgt := 113) hx hb dX12_mail_154 (by decide) ?_
      exact ih _ _ _ _ _ _ _ _ h hW hS (lv_sub hl [1, 2, 3, 4, 0] rfl)
set_option maxHeartbeats 4000000 in
set_option maxRecDepth 100000 in
theorem kX12_mail {post : tq_St → Int32 → Prop} {M : tq_St} {p0 : Int32} {p1 : Int32} {p2 : Int32} {p3 : Int32} (h : wpX12_mail post M p0 p1 p2 p3) : tq_mI l yX12_mail (tq_ws yX12_mail cX12_mail 6 (some .int)) 1 22 D cy z H0 ad N S M [.ref (ad 64 0), .int p0, .int p1, .int p2, .int p3] post := by
  unfold wpX12_mail at h
  refine Met.ofW (cc := cX12_mail) (maxL := 6) (ret := (some .int)) (by decide) rfl ?_
  intro p e s m args below meth c s₁ B hml hv
  obtain ⟨rfl, hW, hK, hG⟩ := hv
  have hx := B.exec
  have hb := B.bytes
  have hr := B.returns
  have hts := atoms_spec (ws := (tq_ws yX12_mail cX12_mail 6 (some .int))) B.pre
  have hw : ∀ w ∈ tq_W, w.before _ s = true := fun w h => hts w (List.mem_cons_of_mem _ h)
  have hown : s.vm.findClass RX12 = some m.cls := findClass_of_methodNamed B.named
  have hlocks := B.notSynchronized
  have C : tq_At p s m meth c [.ref (ad 64 0), .int p0, .int p1, .int p2, .int p3].toArray cX12_mail 6 ((some .int)) ((tq_ws yX12_mail cX12_mail 6 (some .int))) RX12 D cy z ad := ⟨hx, hb, hr, hml, hown, hts, hlocks, hK, hG⟩
  have hS : va_S (fun q => z ≤ q) s.heap s.heap [] := va_S.rf
  have hl := lv_entry ([.ref (ad 64 0), .int p0, .int p1, .int p2, .int p3]) (n := 6) (Nat.le_of_ble_eq_true rfl)
  rw [lg_entry_eq]
  generalize (lg_sl ([.ref (ad 64 0), .int p0, .int p1, .int p2, .int p3]) ++ List.replicate (6 - (lg_sl ([.ref (ad 64 0), .int p0, .int p1, .int p2, .int p3])).length) Slot.unset).toArray = ls at hl ⊢
  have hl : lv_has ls 6 [(0, .ref (ad 64 0)), (1, .int p0), (2, .int p1), (3, .int p2), (4, .int p3)] := hl
  have hW : tq_wd D cy z H0 ad N (tq_mix S M) s.heap := hW
  refine lv_iload_n hx hb dX12_mail_0 rfl (lv_at hl 1 rfl) ?_
  refine lv_iconst (v := 0) hx hb dX12_mail_1 (by decide) ?_
  refine lv_iconst (v := 2) hx hb dX12_mail_2 (by decide) ?_
  refine tq_callSi (As := [.int p0, .int 0, .int 2]) (rest := []) (kX12_in h) ⟨hx, hb, hml, hown, hts⟩ (va_cwS 3 hts (tq_goodS tw_1648 tw_1649 tw_125 tw_1650) rfl rfl rfl (by decide +kernel) ⟨Nat.le_of_ble_eq_true rfl, Nat.le_of_ble_eq_true rfl⟩) hK hG hW hS rfl hl.1 rfl (Nat.le_of_ble_eq_true rfl) dX12_mail_3 ⟨Nat.le_of_ble_eq_true rfl, Nat.le_of_ble_eq_true rfl⟩ (fun r2 M1 H locs h hW hS => ?_)
  refine lv_if_eq (tgt := 18) hx hb dX12_mail_6 (by decide) (fun c3 => ?_) (fun c3 => ?_)
  · have h := h.1 c3
    exact bX12_mail_18 C  _  _ _ _ h hW hS (lv_sub hl [] rfl)
  · have h := h.2 c3
    refine lv_iload_n hx hb dX12_mail_9 rfl (lv_at hl 2 rfl) ?_
    refine lv_iconst (v := 0) hx hb dX12_mail_10 (by decide) ?_
    refine lv_iconst (v := 2) hx hb dX12_mail_11 (by decide) ?_
    refine tq_callSi (As := [.int p1, .int 0, .int 2]) (rest := []) (kX12_in h) ⟨hx, hb, hml, hown, hts⟩ (va_cwS 3 hts (tq_goodS tw_1648 tw_1649 tw_125 tw_1650) rfl rfl rfl (by decide +kernel) ⟨Nat.le_of_ble_eq_true rfl, Nat.le_of_ble_eq_true rfl⟩) hK hG hW hS rfl hl.1 rfl (Nat.le_of_ble_eq_true rfl) dX12_mail_12 ⟨Nat.le_of_ble_eq_true rfl, Nat.le_of_ble_eq_true rfl⟩ (fun r5 M4 H locs h hW hS => ?_)
    refine lv_if_ne (tgt := 20) hx hb dX12_mail_15 (by decide) (fun c6 => ?_) (fun c6 => ?_)
    · have h := h.1 c6
      refine lv_iload hx hb dX12_mail_20 (lv_at hl 4 rfl) ?_
      refine lv_if_ge (tgt := 28) hx hb dX12_mail_22 (by decide) (fun c7 => ?_) (fun c7 => ?_)
      · have h := h.1 c7
        refine lv_iload hx hb dX12_mail_28 (lv_at hl 4 rfl) ?_
        refine lv_if_ne (tgt := 38) hx hb dX12_mail_30 (by decide) (fun c8 => ?_) (fun c8 => ?_)
        · have h := h.1 c8
          refine lv_aload_n hx hb dX12_mail_38 rfl (lv_at hl 0 rfl) ?_
          refine tqm_get (v := .ref (ad 162 0)) hx hb hw tq_inX12 hown hK hW (by decide) (tq_mk_64 (by decide)) rfl 62 (by decide) (hw _ tw_1470) (fun _ h9 => h9) rfl dX12_mail_39 ?_
          refine lv_iload_n hx hb dX12_mail_42 rfl (lv_at hl 1 rfl) ?_
          obtain ⟨b9, h⟩ := h
          refine tqm_iald (jn := p0.toNatClampNeg) hx hb hK hW (by decide) (tq_mk_162 (by decide)) b9 rfl dX12_mail_43 ?_
          refine lv_iconst (v := (-1)) hx hb dX12_mail_44 (by decide) ?_
          refine lv_icmp_ne (tgt := 51) hx hb dX12_mail_45 (by decide) (fun c10 => ?_) (fun c10 => ?_)
          · have h := h.1 c10
            refine lv_aload_n hx hb dX12_mail_51 rfl (lv_at hl 0 rfl) ?_
            refine tqm_get (v := .ref (ad 162 0)) hx hb hw tq_inX12 hown hK hW (by decide) (tq_mk_64 (by decide)) rfl 62 (by decide) (hw _ tw_1470) (fun _ h9 => h9) rfl dX12_mail_52 ?_
            refine lv_iload_n hx hb dX12_mail_55 rfl (lv_at hl 1 rfl) ?_
            refine tqm_iald (jn := p0.toNatClampNeg) hx hb hK hW (by decide) (tq_mk_162 (by decide)) b9 rfl dX12_mail_56 ?_
            refine lv_iload_n hx hb dX12_mail_57 rfl (lv_at hl 2 rfl) ?_
            refine lv_icmp_eq (tgt := 64) hx hb dX12_mail_58 (by decide) (fun c11 => ?_) (fun c11 => ?_)
            · have h := h.1 c11
              refine lv_iload_n hx hb dX12_mail_64 rfl (lv_at hl 3 rfl) ?_
              refine lv_if_lt (tgt := 92) hx hb dX12_mail_65 (by decide) (fun c12 => ?_) (fun c12 => ?_)
              · have h := h.1 c12
                exact bX12_mail_92 C  _  _ _ _ h hW hS (lv_sub hl [] rfl)
              · have h := h.2 c12
                refine lv_iload hx hb dX12_mail_68 (lv_at hl 4 rfl) ?_
                refine lv_aload_n hx hb dX12_mail_70 rfl (lv_at hl 0 rfl) ?_
                refine tqm_get (v := .ref (ad 164 0)) hx hb hw tq_inX12 hown hK hW (by decide) (tq_mk_64 (by decide)) rfl 64 (by decide) (hw _ tw_1472) (fun _ h9 => h9) rfl dX12_mail_71 ?_
                refine lv_iload_n hx hb dX12_mail_74 rfl (lv_at hl 1 rfl) ?_
                refine tqm_iald (jn := p0.toNatClampNeg) hx hb hK hW (by decide) (tq_mk_164 (by decide)) b9 rfl dX12_mail_75 ?_
                refine lv_icmp_gt (tgt := 92) hx hb dX12_mail_76 (by decide) (fun c13 => ?_) (fun c13 => ?_)
                · have h := h.1 c13
                  exact bX12_mail_92 C  _  _ _ _ h hW hS (lv_sub hl [] rfl)
                · have h := h.2 c13
                  refine lv_iload_n hx hb dX12_mail_79 rfl (lv_at hl 3 rfl) ?_
                  refine lv_aload_n hx hb dX12_mail_80 rfl (lv_at hl 0 rfl) ?_
                  refine tqm_get (v := .ref (ad 164 0)) hx hb hw tq_inX12 hown hK hW (by decide) (tq_mk_64 (by decide)) rfl 64 (by decide) (hw _ tw_1472) (fun _ h9 => h9) rfl dX12_mail_81 ?_
                  refine lv_iload_n hx hb dX12_mail_84 rfl (lv_at hl 1 rfl) ?_
                  refine tqm_iald (jn := p0.toNatClampNeg) hx hb hK hW (by decide) (tq_mk_164 (by decide)) b9 rfl dX12_mail_85 ?_
                  refine lv_iload hx hb dX12_mail_86 (lv_at hl 4 rfl) ?_
                  refine lv_isub hx hb dX12_mail_88 ?_
                  refine lv_icmp_le (tgt := 95) hx hb dX12_mail_89 (by decide) (fun c14 => ?_) (fun c14 => ?_)
                  · have h := h.1 c14
                    refine lv_iload hx hb dX12_mail_95 (lv_at hl 4 rfl) ?_
                    refine lv_bipush (v := 120) hx hb dX12_mail_97 (by decide) ?_
                    refine lv_aload_n hx hb dX12_mail_99 rfl (lv_at hl 0 rfl) ?_
                    refine tqm_get (v := .int (M4 64 0 61)) hx hb hw tq_inX12 hown hK hW (by decide) (tq_mk_64 (by decide)) rfl 61 (by decide) (hw _ tw_1469) (fun _ h9 => h9) rfl dX12_mail_100 ?_
                    refine lv_isub hx hb dX12_mail_103 ?_
                    refine lv_icmp_le (tgt := 110) hx hb dX12_mail_104 (by decide) (fun c15 => ?_) (fun c15 => ?_)
                    · have h := h.1 c15
                      refine lv_iconst (v := 0) hx hb dX12_mail_110 (by decide) ?_
                      refine lv_istore (lv' := [(5, .int 0), (0, .ref (ad 64 0)), (1, .int p0), (2, .int p1), (3, .int p2), (4, .int p3)]) hx hb dX12_mail_111 hl (by decide) rfl (fun ls hl => ?_)
                      obtain ⟨nq, h⟩ := h
                      exact bX12_mail_113 C  nq _ _ _ _ _ _ _ _ h hW hS (lv_sub hl [1, 2, 4, 5, 0] rfl)
                    · have h := h.2 c15
                      refine lv_bipush (v := (-4)) hx hb dX12_mail_107 (by decide) ?_
                      exact W.iret (v := (-4)) hx hb hr (fun t ht hWm => ⟨⟨_, M4, rfl, h, tq_pe ht hW⟩, hS.F ht⟩) hS.2.2 dX12_mail_109
                  · have h := h.2 c14
                    exact bX12_mail_92 C  _  _ _ _ h hW hS (lv_sub hl [] rfl)
            · have h := h.2 c11
              refine lv_bipush (v := (-13)) hx hb dX12_mail_61 (by decide) ?_
              exact W.iret (v := (-13)) hx hb hr (fun t ht hWm => ⟨⟨_, M4, rfl, h, tq_pe ht hW⟩, hS.F ht⟩) hS.2.2 dX12_mail_63
          · have h := h.2 c10
            refine lv_bipush (v := (-11)) hx hb dX12_mail_48 (by decide) ?_
            exact W.iret (v := (-11)) hx hb hr (fun t ht hWm => ⟨⟨_, M4, rfl, h, tq_pe ht hW⟩, hS.F ht⟩) hS.2.2 dX12_mail_50
        · have h := h.2 c8
          refine lv_aload_n hx hb dX12_mail_33 rfl (lv_at hl 0 rfl) ?_
          refine tqm_get (v := .int (M4 64 0 61)) hx hb hw tq_inX12 hown hK hW (by decide) (tq_mk_64 (by decide)) rfl 61 (by decide) (hw _ tw_1469) (fun _ h9 => h9) rfl dX12_mail_34 ?_
          exact W.iret (v := M4 64 0 61) hx hb hr (fun t ht hWm => ⟨⟨_, M4, rfl, h, tq_pe ht hW⟩, hS.F ht⟩) hS.2.2 dX12_mail_37
      · have h := h.2 c7
        refine lv_bipush (v := (-2)) hx hb dX12_mail_25 (by decide) ?_
        exact W.iret (v := (-2)) hx hb hr (fun t ht hWm => ⟨⟨_, M4, rfl, h, tq_pe ht hW⟩, hS.F ht⟩) hS.2.2 dX12_mail_27
    · have h := h.2 c6
      exact bX12_mail_18 C  _  _ _ _ h hW hS (lv_sub hl [] rfl)
-- wrong
def wbX12_wrong_15 (post : tq_St → Int32 → Prop)  (M : tq_St) : Prop :=
  post M 0
def wpX12_wrong (post : tq_St → Int32 → Prop) (M : tq_St)  : Prop :=
  (0 ≤ (M 64 0 68) → (wbX12_wrong_15 post M )) ∧ (¬ 0 ≤ (M 64 0 68) → (∀ M2, M2 = tq_up M 64 0 68 (M 64 0 67) → (wbX12_wrong_15 post M2 )))
set_option maxHeartbeats 4000000 in
set_option maxRecDepth 100000 in
theorem bX12_wrong_15 {p : Program} {e : Env} {s : State} {m : MethodId} {args : Array Value} {below : List Frame} {meth : Method} {c : Code} {post : tq_St → Int32 → Prop} (C : tq_At p s m meth c args cX12_wrong 1 ((some .boolean)) ((tq_ws yX12_wrong cX12_wrong 1 (some .boolean))) RX12 D cy z ad)  : ∀ (M : tq_St)  (H : Heap) (locs : List Loc) (ls : Array Slot), wbX12_wrong_15 post   M  → tq_wd D cy z H0 ad N (tq_mix S M) H → va_S (fun q => z ≤ q) s.heap H locs → lv_has ls 1 [] → W p l e (tq_rm 0 0) s m args below meth c H locs 0 0 (MQ below (va_Qi (fun r u => post u r) (tq_P D cy z H0 ad N S) (fun q => z ≤ q)) args s 0 0 (fun q => z ≤ q)) (F0 m 15 ls []) := by
  obtain ⟨hx, hb, hr, hml, hown, hts, hlocks, hK, hG⟩ := id C
  have hw : ∀ w ∈ tq_W, w.before args s = true := fun w h => hts w (List.mem_cons_of_mem _ h)
  intro M  H locs ls h hW hS hl
  unfold wbX12_wrong_15 at h
  refine lv_iconst (v := 0) hx hb dX12_wrong_15 (by decide) ?_
  exact W.zret (v := 0) hx hb hr rfl (fun t ht hWm => ⟨⟨_, M, rfl, h, tq_pe ht hW⟩, hS.F ht⟩) hS.2.2 dX12_wrong_16
set_option maxHeartbeats 4000000 in
set_option maxRecDepth 100000 in
theorem kX12_wrong {post : tq_St → Int32 → Prop} {M : tq_St}  (h : wpX12_wrong post M ) : tq_mI l yX12_wrong (tq_ws yX12_wrong cX12_wrong 1 (some .boolean)) 0 0 D cy z H0 ad N S M [.ref (ad 64 0)] post := by
  unfold wpX12_wrong at h
  refine Met.ofW (cc := cX12_wrong) (maxL := 1) (ret := (some .boolean)) (by decide) rfl ?_
  intro p e s m args below meth c s₁ B hml hv
  obtain ⟨rfl, hW, hK, hG⟩ := hv
  have hx := B.exec
  have hb := B.bytes
  have hr := B.returns
  have hts := atoms_spec (ws := (tq_ws yX12_wrong cX12_wrong 1 (some .boolean))) B.pre
  have hw : ∀ w ∈ tq_W, w.before _ s = true := fun w h => hts w (List.mem_cons_of_mem _ h)
  have hown : s.vm.findClass RX12 = some m.cls := findClass_of_methodNamed B.named
  have hlocks := B.notSynchronized
  have C : tq_At p s m meth c [.ref (ad 64 0)].toArray cX12_wrong 1 ((some .boolean)) ((tq_ws yX12_wrong cX12_wrong 1 (some .boolean))) RX12 D cy z ad := ⟨hx, hb, hr, hml, hown, hts, hlocks, hK, hG⟩
  have hS : va_S (fun q => z ≤ q) s.heap s.heap [] := va_S.rf
  have hl := lv_entry ([.ref (ad 64 0)]) (n := 1) (Nat.le_of_ble_eq_true rfl)
  rw [lg_entry_eq]
  generalize (lg_sl ([.ref (ad 64 0)]) ++ List.replicate (1 - (lg_sl ([.ref (ad 64 0)])).length) Slot.unset).toArray = ls at hl ⊢
  have hl : lv_has ls 1 [(0, .ref (ad 64 0))] := hl
  have hW : tq_wd D cy z H0 ad N (tq_mix S M) s.heap := hW
  refine lv_aload_n hx hb dX12_wrong_0 rfl (lv_at hl 0 rfl) ?_
  refine tqm_get (v := .int (M 64 0 68)) hx hb hw tq_inX12 hown hK hW (by decide) (tq_mk_64 (by decide)) rfl 68 (by decide) (hw _ tw_1476) (fun _ h9 => h9) rfl dX12_wrong_1 ?_
  refine lv_if_ge (tgt := 15) hx hb dX12_wrong_4 (by decide) (fun c1 => ?_) (fun c1 => ?_)
  · have h := h.1 c1
    exact bX12_wrong_15 C  _  _ _ _ h hW hS (lv_sub hl [] rfl)
  · have h := h.2 c1
    refine lv_aload_n hx hb dX12_wrong_7 rfl (lv_at hl 0 rfl) ?_
    refine lv_aload_n hx hb dX12_wrong_8 rfl (lv_at hl 0 rfl) ?_
    refine tqm_get (v := .int (M 64 0 67)) hx hb hw tq_inX12 hown hK hW (by decide) (tq_mk_64 (by decide)) rfl 67 (by decide) (hw _ tw_1475) (fun _ h9 => h9) rfl dX12_wrong_9 ?_
    refine tqm_put hx hb hw tq_inX12 tyX12 tyX12_ok nmX12 hown hK hW hS (by decide) (tq_mk_64 (by decide)) rfl 68 (by decide) (hw _ tw_1476) (fun _ h9 => h9) rfl rfl rfl rfl (tq_mk_64 (by decide)) dX12_wrong_12 (fun H locs hW hS => ?_)
    generalize eM2 : tq_up M 64 0 68 (M 64 0 67) = M2 at hW
    have h := h M2 eM2.symm
    exact bX12_wrong_15 C  _  _ _ _ h hW hS (lv_sub hl [] rfl)
-- here
def wbX12_here_24 (post : tq_St → Int32 → Prop)  (M : tq_St) (y0 : Int32) : Prop :=
  post M y0
def wpX12_here (post : tq_St → Int32 → Prop) (M : tq_St)  : Prop :=
  ((M 64 0 61) ≤ (M 64 0 67) → (wbX12_here_24 post M ((-1)))) ∧ (¬ (M 64 0 61) ≤ (M 64 0 67) → (vp_in (M 64 0 67) 120 ∧ (wbX12_here_24 post M (M 160 0 ((M 64 0 67).toNatClampNeg)))))
set_option maxHeartbeats 4000000 in
set_option maxRecDepth 100000 in
theorem bX12_here_24 {p : Program} {e : Env} {s : State} {m : MethodId} {args : Array Value} {below : List Frame} {meth : Method} {c : Code} {post : tq_St → Int32 → Prop} (C : tq_At p s m meth c args cX12_here 1 ((some .int)) ((tq_ws yX12_here cX12_here 1 (some .int))) RX12 D cy z ad)  : ∀ (M : tq_St) (y0 : Int32) (H : Heap) (locs : List Loc) (ls : Array Slot), wbX12_here_24 post   M y0 → tq_wd D cy z H0 ad N (tq_mix S M) H → va_S (fun q => z ≤ q) s.heap H locs → lv_has ls 1 [] → W p l e (tq_rm 0 0) s m args below meth c H locs 0 0 (MQ below (va_Qi (fun r u => post u r) (tq_P D cy z H0 ad N S) (fun q => z ≤ q)) args s 0 0 (fun q => z ≤ q)) (F0 m 24 ls [.int y0]) := by
  obtain ⟨hx, hb, hr, hml, hown, hts, hlocks, hK, hG⟩ := id C
  have hw : ∀ w ∈ tq_W, w.before args s = true := fun w h => hts w (List.mem_cons_of_mem _ h)
  intro M y0 H locs ls h hW hS hl
  unfold wbX12_here_24 at h
  exact W.iret (v := y0) hx hb hr (fun t ht hWm => ⟨⟨_, M, rfl, h, tq_pe ht hW⟩, hS.F ht⟩) hS.2.2 dX12_here_24
set_option maxHeartbeats 4000000 in
set_option maxRecDepth 100000 in
theorem kX12_here {post : tq_St → Int32 → Prop} {M : tq_St}  (h : wpX12_here post M ) : tq_mI l yX12_here (tq_ws yX12_here cX12_here 1 (some .int)) 0 0 D cy z H0 ad N S M [.ref (ad 64 0)] post := by
  unfold wpX12_here at h
  refine Met.ofW (cc := cX12_here) (maxL := 1) (ret := (some .int)) (by decide) rfl ?_
  intro p e s m args below meth c s₁ B hml hv
  obtain ⟨rfl, hW, hK, hG⟩ := hv
  have hx := B.exec
  have hb := B.bytes
  have hr := B.returns
  have hts := atoms_spec (ws := (tq_ws yX12_here cX12_here 1 (some .int))) B.pre
  have hw : ∀ w ∈ tq_W, w.before _ s = true := fun w h => hts w (List.mem_cons_of_mem _ h)
  have hown : s.vm.findClass RX12 = some m.cls := findClass_of_methodNamed B.named
  have hlocks := B.notSynchronized
  have C : tq_At p s m meth c [.ref (ad 64 0)].toArray cX12_here 1 ((some .int)) ((tq_ws yX12_here cX12_here 1 (some .int))) RX12 D cy z ad := ⟨hx, hb, hr, hml, hown, hts, hlocks, hK, hG⟩
  have hS : va_S (fun q => z ≤ q) s.heap s.heap [] := va_S.rf
  have hl := lv_entry ([.ref (ad 64 0)]) (n := 1) (Nat.le_of_ble_eq_true rfl)
  rw [lg_entry_eq]
  generalize (lg_sl ([.ref (ad 64 0)]) ++ List.replicate (1 - (lg_sl ([.ref (ad 64 0)])).length) Slot.unset).toArray = ls at hl ⊢
  have hl : lv_has ls 1 [(0, .ref (ad 64 0))] := hl
  have hW : tq_wd D cy z H0 ad N (tq_mix S M) s.heap := hW
  refine lv_aload_n hx hb dX12_here_0 rfl (lv_at hl 0 rfl) ?_
  refine tqm_get (v := .int (M 64 0 67)) hx hb hw tq_inX12 hown hK hW (by decide) (tq_mk_64 (by decide)) rfl 67 (by decide) (hw _ tw_1475) (fun _ h9 => h9) rfl dX12_here_1 ?_
  refine lv_aload_n hx hb dX12_here_4 rfl (lv_at hl 0 rfl) ?_
  refine tqm_get (v := .int (M 64 0 61)) hx hb hw tq_inX12 hown hK hW (by decide) (tq_mk_64 (by decide)) rfl 61 (by decide) (hw _ tw_1469) (fun _ h9 => h9) rfl dX12_here_5 ?_
  refine lv_icmp_ge (tgt := 23) hx hb dX12_here_8 (by decide) (fun c1 => ?_) (fun c1 => ?_)
  · have h := h.1 c1
    refine lv_iconst (v := (-1)) hx hb dX12_here_23 (by decide) ?_
    exact bX12_here_24 C  _ _ _ _ _ h hW hS (lv_sub hl [] rfl)
  · have h := h.2 c1
    refine lv_aload_n hx hb dX12_here_11 rfl (lv_at hl 0 rfl) ?_
    refine tqm_get (v := .ref (ad 160 0)) hx hb hw tq_inX12 hown hK hW (by decide) (tq_mk_64 (by decide)) rfl 60 (by decide) (hw _ tw_1468) (fun _ h9 => h9) rfl dX12_here_12 ?_
    refine lv_aload_n hx hb dX12_here_15 rfl (lv_at hl 0 rfl) ?_
    refine tqm_get (v := .int (M 64 0 67)) hx hb hw tq_inX12 hown hK hW (by decide) (tq_mk_64 (by decide)) rfl 67 (by decide) (hw _ tw_1475) (fun _ h9 => h9) rfl dX12_here_16 ?_
    obtain ⟨b2, h⟩ := h
    refine tqm_iald (jn := (M 64 0 67).toNatClampNeg) hx hb hK hW (by decide) (tq_mk_160 (by decide)) b2 rfl dX12_here_19 ?_
    refine lv_goto (tgt := 24) hx hb dX12_here_20 (by decide) ?_
    exact bX12_here_24 C  _ _ _ _ _ h hW hS (lv_sub hl [] rfl)
-- word
def wbX12_word_2 (post : tq_St → Int32 → Prop) : Nat → tq_St → Nat → Int32 → Prop
  | 0, _, _, _ => False
  | n + 1, M, x1, x2 =>
    wpJ0_length_8abf5 (fun M1 r2 => (r2 ≤ x2 → (post M1 1)) ∧ (¬ r2 ≤ x2 → (wpX12_here (fun M5 r6 => wpJ0_charAt_5068e (fun M7 r8 => (r6 = r8 → (∀ M11, M11 = tq_up M7 64 0 67 ((M7 64 0 67) + 1) → ((wbX12_word_2 post n) M11 x1 (x2 + 1)))) ∧ (¬ r6 = r8 → (wpX12_wrong (fun M12 r13 => narrow .boolean (.int r13) = .int r13 ∧ post M12 r13) M7 ))) M5 x1 x2) M1 ))) M x1 
def wpX12_word (post : tq_St → Int32 → Prop) (M : tq_St) (p0 : Nat) : Prop :=
  ∃ nq, wbX12_word_2 post nq M p0 0
set_option maxHeartbeats 4000000 in
set_option maxRecDepth 100000 in
theorem bX12_word_2 {p : Program} {e : Env} {s : State} {m : MethodId} {args : Array Value} {below : List Frame} {meth : Method} {c : Code} {post : tq_St → Int32 → Prop} (C : tq_At p s m meth c args cX12_word 3 ((some .boolean)) ((tq_ws yX12_word cX12_word 3 (some .boolean))) RX12 D cy z ad)  : ∀ n : Nat, ∀ (M : tq_St) (x1 : Nat) (x2 : Int32) (H : Heap) (locs : List Loc) (ls : Array Slot), wbX12_word_2 post   n M x1 x2 → tq_wd D cy z H0 ad N (tq_mix S M) H → va_S (fun q => z ≤ q) s.heap H locs → lv_has ls 3 [(0, .ref (ad 64 0)), (1, .ref (ad 61 x1)), (2, .int x2)] → W p l e (tq_rm 4 85) s m args below meth c H locs 0 0 (MQ below (va_Qi (fun r u => post u r) (tq_P D cy z H0 ad N S) (fun q => z ≤ q)) args s 0 0 (fun q => z ≤ q)) (F0 m 2 ls []) := by
  obtain ⟨hx, hb, hr, hml, hown, hts, hlocks, hK, hG⟩ := id C
  have hw : ∀ w ∈ tq_W, w.before args s = true := fun w h => hts w (List.mem_cons_of_mem _ h)
  intro n
  induction n with
  | zero =>
    intro M x1 x2 H locs ls h
    exact absurd h (by unfold wbX12_word_2; exact id)
  | succ n ih =>
    intro M x1 x2 H locs ls h hW hS hl
    unfold wbX12_word_2 at h
    refine lv_iload_n hx hb dX12_word_2 rfl (lv_at hl 2 rfl) ?_
    refine lv_aload_n hx hb dX12_word_3 rfl (lv_at hl 1 rfl) ?_
    have b3 := h.1
    refine tq_callRi (b := ad 61 x1) (As := []) (rest := [.int x2]) (kJ0_length_8abf5 h) ⟨hx, hb, hml, hown, hts⟩ (cwV 0 hts (tq_goodV tw_1730 tw_582 tw_583 tw_127 tw_584) rfl rfl rfl (by decide +kernel) ⟨Nat.le_of_ble_eq_true rfl, Nat.le_of_ble_eq_true rfl⟩) (vk_recv hG.1 b3 hS) hK hG hW hS rfl hl.1 rfl (Nat.le_of_ble_eq_true rfl) dX12_word_4 ⟨Nat.le_of_ble_eq_true rfl, Nat.le_of_ble_eq_true rfl⟩ (fun r2 M1 H locs h hW hS => ?_)
    refine lv_icmp_ge (tgt := 43) hx hb dX12_word_7 (by decide) (fun c4 => ?_) (fun c4 => ?_)
    · have h := h.1 c4
      refine lv_iconst (v := 1) hx hb dX12_word_43 (by decide) ?_
      exact W.zret (v := 1) hx hb hr rfl (fun t ht hWm => ⟨⟨_, M1, rfl, h, tq_pe ht hW⟩, hS.F ht⟩) hS.2.2 dX12_word_44
    · have h := h.2 c4
      refine lv_aload_n hx hb dX12_word_10 rfl (lv_at hl 0 rfl) ?_
      refine tq_callVi (As := []) (rest := []) (kX12_here h) ⟨hx, hb, hml, hown, hts⟩ (cwV 0 hts (tq_goodV tw_1716 tw_1718 tw_61 tw_125 tw_1719) rfl rfl rfl (by decide +kernel) ⟨Nat.le_of_ble_eq_true rfl, Nat.le_of_ble_eq_true rfl⟩) hK hG hW hS rfl hl.1 rfl (Nat.le_of_ble_eq_true rfl) dX12_word_11 ⟨Nat.le_of_ble_eq_true rfl, Nat.le_of_ble_eq_true rfl⟩ (fun r6 M5 H locs h hW hS => ?_)
      refine lv_aload_n hx hb dX12_word_14 rfl (lv_at hl 1 rfl) ?_
      refine lv_iload_n hx hb dX12_word_15 rfl (lv_at hl 2 rfl) ?_
      have b9 := h.1
      refine tq_callRi (b := ad 61 x1) (As := [.int x2]) (rest := [.int r6]) (kJ0_charAt_5068e h) ⟨hx, hb, hml, hown, hts⟩ (cwV 1 hts (tq_goodV tw_1731 tw_592 tw_593 tw_127 tw_594) rfl rfl rfl (by decide +kernel) ⟨Nat.le_of_ble_eq_true rfl, Nat.le_of_ble_eq_true rfl⟩) (vk_recv hG.1 b9 hS) hK hG hW hS rfl hl.1 rfl (Nat.le_of_ble_eq_true rfl) dX12_word_16 ⟨Nat.le_of_ble_eq_true rfl, Nat.le_of_ble_eq_true rfl⟩ (fun r8 M7 H locs h hW hS => ?_)
      refine lv_icmp_eq (tgt := 27) hx hb dX12_word_19 (by decide) (fun c10 => ?_) (fun c10 => ?_)
      · have h := h.1 c10
        refine lv_aload_n hx hb dX12_word_27 rfl (lv_at hl 0 rfl) ?_
        refine lv_dup hx hb dX12_word_28 rfl ?_
        refine tqm_get (v := .int (M7 64 0 67)) hx hb hw tq_inX12 hown hK hW (by decide) (tq_mk_64 (by decide)) rfl 67 (by decide) (hw _ tw_1475) (fun _ h9 => h9) rfl dX12_word_29 ?_
        refine lv_iconst (v := 1) hx hb dX12_word_32 (by decide) ?_
        refine lv_iadd hx hb dX12_word_33 ?_
        refine tqm_put hx hb hw tq_inX12 tyX12 tyX12_ok nmX12 hown hK hW hS (by decide) (tq_mk_64 (by decide)) rfl 67 (by decide) (hw _ tw_1475) (fun _ h9 => h9) rfl rfl rfl rfl (tq_mk_64 (by decide)) dX12_word_34 (fun H locs hW hS => ?_)
        generalize eM11 : tq_up M7 64 0 67 ((M7 64 0 67) + 1) = M11 at hW
        have h := h M11 eM11.symm
        refine lv_iinc (v := x2 + 1) (lv' := [(2, .int (x2 + 1)), (0, .ref (ad 64 0)), (1, .ref (ad 61 x1))]) hx hb dX12_word_37 hl (k := 2) rfl rfl (by decide) rfl (fun ls hl => ?_)
        refine lv_goto (tgt := 2) hx hb dX12_word_40 (by decide) ?_
        exact ih _ _ _ _ _ _ h hW hS (lv_sub hl [1, 2, 0] rfl)
      · have h := h.2 c10
        refine lv_aload_n hx hb dX12_word_22 rfl (lv_at hl 0 rfl) ?_
        refine tq_callVi (As := []) (rest := []) (kX12_wrong h) ⟨hx, hb, hml, hown, hts⟩ (cwV 0 hts (tq_goodV tw_1732 tw_1734 tw_63 tw_125 tw_1735) rfl rfl rfl (by decide +kernel) ⟨Nat.le_of_ble_eq_true rfl, Nat.le_of_ble_eq_true rfl⟩) hK hG hW hS rfl hl.1 rfl (Nat.le_of_ble_eq_true rfl) dX12_word_23 ⟨Nat.le_of_ble_eq_true rfl, Nat.le_of_ble_eq_true rfl⟩ (fun r13 M12 H locs h hW hS => ?_)
        obtain ⟨b14, h⟩ := h
        exact W.zret (v := r13) hx hb hr b14 (fun t ht hWm => ⟨⟨_, M12, rfl, h, tq_pe ht hW⟩, hS.F ht⟩) hS.2.2 dX12_word_26
set_option maxHeartbeats 4000000 in
set_option maxRecDepth 100000 in
theorem kX12_word {post : tq_St → Int32 → Prop} {M : tq_St} {p0 : Nat} (h : wpX12_word post M p0) : tq_mI l yX12_word (tq_ws yX12_word cX12_word 3 (some .boolean)) 4 85 D cy z H0 ad N S M [.ref (ad 64 0), .ref (ad 61 p0)] post := by
  unfold wpX12_word at h
  refine Met.ofW (cc := cX12_word) (maxL := 3) (ret := (some .boolean)) (by decide) rfl ?_
  intro p e s m args below meth c s₁ B hml hv
  obtain ⟨rfl, hW, hK, hG⟩ := hv
  have hx := B.exec
  have hb := B.bytes
  have hr := B.returns
  have hts := atoms_spec (ws := (tq_ws yX12_word cX12_word 3 (some .boolean))) B.pre
  have hw : ∀ w ∈ tq_W, w.before _ s = true := fun w h => hts w (List.mem_cons_of_mem _ h)
  have hown : s.vm.findClass RX12 = some m.cls := findClass_of_methodNamed B.named
  have hlocks := B.notSynchronized
  have C : tq_At p s m meth c [.ref (ad 64 0), .ref (ad 61 p0)].toArray cX12_word 3 ((some .boolean)) ((tq_ws yX12_word cX12_word 3 (some .boolean))) RX12 D cy z ad := ⟨hx, hb, hr, hml, hown, hts, hlocks, hK, hG⟩
  have hS : va_S (fun q => z ≤ q) s.heap s.heap [] := va_S.rf
  have hl := lv_entry ([.ref (ad 64 0), .ref (ad 61 p0)]) (n := 3) (Nat.le_of_ble_eq_true rfl)
  rw [lg_entry_eq]
  generalize (lg_sl ([.ref (ad 64 0), .ref (ad 61 p0)]) ++ List.replicate (3 - (lg_sl ([.ref (ad 64 0), .ref (ad 61 p0)])).length) Slot.unset).toArray = ls at hl ⊢
  have hl : lv_has ls 3 [(0, .ref (ad 64 0)), (1, .ref (ad 61 p0))] := hl
  have hW : tq_wd D cy z H0 ad N (tq_mix S M) s.heap := hW
  refine lv_iconst (v := 0) hx hb dX12_word_0 (by decide) ?_
  refine lv_istore_n (lv' := [(2, .int 0), (0, .ref (ad 64 0)), (1, .ref (ad 61 p0))]) hx hb dX12_word_1 rfl hl (by decide) rfl (fun ls hl => ?_)
  obtain ⟨nq, h⟩ := h
  exact bX12_word_2 C  nq _ _ _ _ _ _ h hW hS (lv_sub hl [1, 2, 0] rfl)
-- sortHere
def wbX12_sortHere_17 (post : tq_St → Int32 → Prop)  (M : tq_St) : Prop :=
  wpX12_wrong (fun M7 r8 => narrow .boolean (.int r8) = .int r8 ∧ post M7 r8) M 
def wpX12_sortHere (post : tq_St → Int32 → Prop) (M : tq_St)  : Prop :=
  wpX12_here (fun M1 r2 => (r2 < 48 → (wbX12_sortHere_17 post M1 )) ∧ (¬ r2 < 48 → ((r2 ≤ 51 → (∀ M5, M5 = tq_up M1 64 0 69 (r2 - 48) → (∀ M6, M6 = tq_up M5 64 0 67 ((M5 64 0 67) + 1) → (post M6 1)))) ∧ (¬ r2 ≤ 51 → (wbX12_sortHere_17 post M1 ))))) M 
set_option maxHeartbeats 4000000 in
set_option maxRecDepth 100000 in
theorem bX12_sortHere_17 {p : Program} {e : Env} {s : State} {m : MethodId} {args : Array Value} {below : List Frame} {meth : Method} {c : Code} {post : tq_St → Int32 → Prop} (C : tq_At p s m meth c args cX12_sortHere 2 ((some .boolean)) ((tq_ws yX12_sortHere cX12_sortHere 2 (some .boolean))) RX12 D cy z ad)  : ∀ (M : tq_St)  (H : Heap) (locs : List Loc) (ls : Array Slot), wbX12_sortHere_17 post   M  → tq_wd D cy z H0 ad N (tq_mix S M) H → va_S (fun q => z ≤ q) s.heap H locs → lv_has ls 2 [(0, .ref (ad 64 0))] → W p l e (tq_rm 1 20) s m args below meth c H locs 0 0 (MQ below (va_Qi (fun r u => post u r) (tq_P D cy z H0 ad N S) (fun q => z ≤ q)) args s 0 0 (fun q => z ≤ q)) (F0 m 17 ls []) := by
  obtain ⟨hx, hb, hr, hml, hown, hts, hlocks, hK, hG⟩ := id C
  have hw : ∀ w ∈ tq_W, w.before args s = true := fun w h => hts w (List.mem_cons_of_mem _ h)
  intro M  H locs ls h hW hS hl
  unfold wbX12_sortHere_17 at h
  refine lv_aload_n hx hb dX12_sortHere_17 rfl (lv_at hl 0 rfl) ?_
  refine tq_callVi (As := []) (rest := []) (kX12_wrong h) ⟨hx, hb, hml, hown, hts⟩ (cwV 0 hts (tq_goodV tw_1732 tw_1734 tw_63 tw_125 tw_1735) rfl rfl rfl (by decide +kernel) ⟨Nat.le_of_ble_eq_true rfl, Nat.le_of_ble_eq_true rfl⟩) hK hG hW hS rfl hl.1 rfl (Nat.le_of_ble_eq_true rfl) dX12_sortHere_18 ⟨Nat.le_of_ble_eq_true rfl, Nat.le_of_ble_eq_true rfl⟩ (fun r8 M7 H locs h hW hS => ?_)
  obtain ⟨b9, h⟩ := h
  exact W.zret (v := r8) hx hb hr b9 (fun t ht hWm => ⟨⟨_, M7, rfl, h, tq_pe ht hW⟩, hS.F ht⟩) hS.2.2 dX12_sortHere_21
set_option maxHeartbeats 4000000 in
set_option maxRecDepth 100000 in
theorem kX12_sortHere {post : tq_St → Int32 → Prop} {M : tq_St}  (h : wpX12_sortHere post M ) : tq_mI l yX12_sortHere (tq_ws yX12_sortHere cX12_sortHere 2 (some .boolean)) 1 20 D cy z H0 ad N S M [.ref (ad 64 0)] post := by
  unfold wpX12_sortHere at h
  refine Met.ofW (cc := cX12_sortHere) (maxL := 2) (ret := (some .boolean)) (by decide) rfl ?_
  intro p e s m args below meth c s₁ B hml hv
  obtain ⟨rfl, hW, hK, hG⟩ := hv
  have hx := B.exec
  have hb := B.bytes
  have hr := B.returns
  have hts := atoms_spec (ws := (tq_ws yX12_sortHere cX12_sortHere 2 (some .boolean))) B.pre
  have hw : ∀ w ∈ tq_W, w.before _ s = true := fun w h => hts w (List.mem_cons_of_mem _ h)
  have hown : s.vm.findClass RX12 = some m.cls := findClass_of_methodNamed B.named
  have hlocks := B.notSynchronized
  have C : tq_At p s m meth c [.ref (ad 64 0)].toArray cX12_sortHere 2 ((some .boolean)) ((tq_ws yX12_sortHere cX12_sortHere 2 (some .boolean))) RX12 D cy z ad := ⟨hx, hb, hr, hml, hown, hts, hlocks, hK, hG⟩
  have hS : va_S (fun q => z ≤ q) s.heap s.heap [] := va_S.rf
  have hl := lv_entry ([.ref (ad 64 0)]) (n := 2) (Nat.le_of_ble_eq_true rfl)
  rw [lg_entry_eq]
  generalize (lg_sl ([.ref (ad 64 0)]) ++ List.replicate (2 - (lg_sl ([.ref (ad 64 0)])).length) Slot.unset).toArray = ls at hl ⊢
  have hl : lv_has ls 2 [(0, .ref (ad 64 0))] := hl
  have hW : tq_wd D cy z H0 ad N (tq_mix S M) s.heap := hW
  refine lv_aload_n hx hb dX12_sortHere_0 rfl (lv_at hl 0 rfl) ?_
  refine tq_callVi (As := []) (rest := []) (kX12_here h) ⟨hx, hb, hml, hown, hts⟩ (cwV 0 hts (tq_goodV tw_1716 tw_1718 tw_61 tw_125 tw_1719) rfl rfl rfl (by decide +kernel) ⟨Nat.le_of_ble_eq_true rfl, Nat.le_of_ble_eq_true rfl⟩) hK hG hW hS rfl hl.1 rfl (Nat.le_of_ble_eq_true rfl) dX12_sortHere_1 ⟨Nat.le_of_ble_eq_true rfl, Nat.le_of_ble_eq_true rfl⟩ (fun r2 M1 H locs h hW hS => ?_)
  refine lv_istore_n (lv' := [(1, .int r2), (0, .ref (ad 64 0))]) hx hb dX12_sortHere_4 rfl hl (by decide) rfl (fun ls hl => ?_)
  refine lv_iload_n hx hb dX12_sortHere_5 rfl (lv_at hl 0 rfl) ?_
  refine lv_bipush (v := 48) hx hb dX12_sortHere_6 (by decide) ?_
  refine lv_icmp_lt (tgt := 17) hx hb dX12_sortHere_8 (by decide) (fun c3 => ?_) (fun c3 => ?_)
  · have h := h.1 c3
    exact bX12_sortHere_17 C  _  _ _ _ h hW hS (lv_sub hl [1] rfl)
  · have h := h.2 c3
    refine lv_iload_n hx hb dX12_sortHere_11 rfl (lv_at hl 0 rfl) ?_
    refine lv_bipush (v := 51) hx hb dX12_sortHere_12 (by decide) ?_
    refine lv_icmp_le (tgt := 22) hx hb dX12_sortHere_14 (by decide) (fun c4 => ?_) (fun c4 => ?_)
    · have h := h.1 c4
      refine lv_aload_n hx hb dX12_sortHere_22 rfl (lv_at hl 1 rfl) ?_
      refine lv_iload_n hx hb dX12_sortHere_23 rfl (lv_at hl 0 rfl) ?_
      refine lv_bipush (v := 48) hx hb dX12_sortHere_24 (by decide) ?_
      refine lv_isub hx hb dX12_sortHere_26 ?_
      refine tqm_put hx hb hw tq_inX12 tyX12 tyX12_ok nmX12 hown hK hW hS (by decide) (tq_mk_64 (by decide)) rfl 69 (by decide) (hw _ tw_1477) (fun _ h9 => h9) rfl rfl rfl rfl (tq_mk_64 (by decide)) dX12_sortHere_27 (fun H locs hW hS => ?_)
      generalize eM5 : tq_up M1 64 0 69 (r2 - 48) = M5 at hW
      have h := h M5 eM5.symm
      refine lv_aload_n hx hb dX12_sortHere_30 rfl (lv_at hl 1 rfl) ?_
      refine lv_dup hx hb dX12_sortHere_31 rfl ?_
      refine tqm_get (v := .int (M5 64 0 67)) hx hb hw tq_inX12 hown hK hW (by decide) (tq_mk_64 (by decide)) rfl 67 (by decide) (hw _ tw_1475) (fun _ h9 => h9) rfl dX12_sortHere_32 ?_
      refine lv_iconst (v := 1) hx hb dX12_sortHere_35 (by decide) ?_
      refine lv_iadd hx hb dX12_sortHere_36 ?_
      refine tqm_put hx hb hw tq_inX12 tyX12 tyX12_ok nmX12 hown hK hW hS (by decide) (tq_mk_64 (by decide)) rfl 67 (by decide) (hw _ tw_1475) (fun _ h9 => h9) rfl rfl rfl rfl (tq_mk_64 (by decide)) dX12_sortHere_37 (fun H locs hW hS => ?_)
      generalize eM6 : tq_up M5 64 0 67 ((M5 64 0 67) + 1) = M6 at hW
      have h := h M6 eM6.symm
      refine lv_iconst (v := 1) hx hb dX12_sortHere_40 (by decide) ?_
      exact W.zret (v := 1) hx hb hr rfl (fun t ht hWm => ⟨⟨_, M6, rfl, h, tq_pe ht hW⟩, hS.F ht⟩) hS.2.2 dX12_sortHere_41
    · have h := h.2 c4
      exact bX12_sortHere_17 C  _  _ _ _ h hW hS (lv_sub hl [1] rfl)
