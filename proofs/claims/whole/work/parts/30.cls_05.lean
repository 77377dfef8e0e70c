variable {l : Launch} {D : va_G} {cy : Nat → ClassId} {z : Nat} {H0 : Heap} {ad : Nat → Nat → Nat} {N : tq_Nn} {M : tq_St}
-- X11 beyondRights
def wbX11_beyondRights_43 (N : tq_Nn) (post : tq_St → Int32 → Prop) (L11 : tq_St → Int32 → Int32 → Int32 → Prop) (S : tq_St) (x2 : Int32) (x3 : Int32) (x4 : Int32) : Prop :=
  L11 S x2 x3 (x4 + 1)
def wbX11_beyondRights_11 (N : tq_Nn) (post : tq_St → Int32 → Prop) : Nat → tq_St → Int32 → Int32 → Int32 → Prop
  | 0, _, _, _, _ => False
  | n + 1, S, x2, x3, x4 =>
    ((S 1 0 2) ≤ x4 → (post S (if x3 < 0 then 0 else x3))) ∧ (¬ (S 1 0 2) ≤ x4 → (vp_in x4 20 ∧ ((¬ (S 13 0 x4.toNatClampNeg) = x2 → (wbX11_beyondRights_43 N post  (wbX11_beyondRights_11 N post n) S x2 x3 x4)) ∧ ((S 13 0 x4.toNatClampNeg) = x2 → (wbX11_beyondRights_43 N post  (wbX11_beyondRights_11 N post n) S x2 (x3 - ((S 14 0 x4.toNatClampNeg) / 2)) x4)))))
def wpX11_beyondRights (N : tq_Nn) (post : tq_St → Int32 → Prop) (S : tq_St) (p0 : Nat) (p1 : Int32) : Prop :=
  N 8 p0 = 1 ∧ (N 55 p0 = 1 ∧ (∃ nq, wbX11_beyondRights_11 N post nq S p1 (bx_sum (S 55 p0) 20) 0))
set_option maxHeartbeats 4000000 in
set_option maxRecDepth 100000 in
theorem bX11_beyondRights_43 {p : Program} {e : Env} {s : State} {m : MethodId} {args : Array Value} {below : List Frame} {meth : Method} {c : Code} {post : tq_St → Int32 → Prop} (C : tq_At p s m meth c args cX11_beyondRights 5 ((some .int)) ((tq_ws yX11_beyondRights cX11_beyondRights 5 (some .int))) RX11 D cy z ad) {L11 : tq_St → Int32 → Int32 → Int32 → Prop} (hL11 : ∀ (S : tq_St) (x2 : Int32) (x3 : Int32) (x4 : Int32) (H : Heap) (locs : List Loc) (ls : Array Slot), L11 S x2 x3 x4 → tq_wd D cy z H0 ad N (tq_mix S M) H → va_S (fun q => z ≤ q) s.heap H locs → lv_has ls 5 [(0, .ref (ad 1 0)), (2, .int x2), (3, .int x3), (4, .int x4)] → W p l e (tq_rm 1 22) s m args below meth c H locs 0 0 (MQ below (va_Qi (fun r u => post u r) (fun u => tq_P D cy z H0 ad N u M) (fun q => z ≤ q)) args s 0 0 (fun q => z ≤ q)) (F0 m 11 ls [])) : ∀ (S : tq_St) (x2 : Int32) (x3 : Int32) (x4 : Int32) (H : Heap) (locs : List Loc) (ls : Array Slot), wbX11_beyondRights_43 N post  L11 S x2 x3 x4 → tq_wd D cy z H0 ad N (tq_mix S M) H → va_S (fun q => z ≤ q) s.heap H locs → lv_has ls 5 [(0, .ref (ad 1 0)), (2, .int x2), (3, .int x3), (4, .int x4)] → W p l e (tq_rm 1 22) s m args below meth c H locs 0 0 (MQ below (va_Qi (fun r u => post u r) (fun u => tq_P D cy z H0 ad N u M) (fun q => z ≤ q)) args s 0 0 (fun q => z ≤ q)) (F0 m 43 ls []) := by
  obtain ⟨hx, hb, hr, hml, hown, hts, hlocks, hK, hG⟩ := id C
  have hw : ∀ w ∈ tq_W, w.before args s = true := fun w h => hts w (List.mem_cons_of_mem _ h)
  intro S x2 x3 x4 H locs ls h hW hS hl
  unfold wbX11_beyondRights_43 at h
  refine lv_iinc (v := x4 + 1) (lv' := [(4, .int (x4 + 1)), (0, .ref (ad 1 0)), (2, .int x2), (3, .int x3)]) hx hb dX11_beyondRights_43 hl (k := 3) rfl rfl (by decide) rfl (fun ls hl => ?_)
  refine lv_goto (tgt := 11) hx hb dX11_beyondRights_46 (by decide) ?_
  exact hL11 _ _ _ _ _ _ _ h hW hS (lv_sub hl [1, 2, 3, 0] rfl)
set_option maxHeartbeats 4000000 in
set_option maxRecDepth 100000 in
theorem bX11_beyondRights_11 {p : Program} {e : Env} {s : State} {m : MethodId} {args : Array Value} {below : List Frame} {meth : Method} {c : Code} {post : tq_St → Int32 → Prop} (C : tq_At p s m meth c args cX11_beyondRights 5 ((some .int)) ((tq_ws yX11_beyondRights cX11_beyondRights 5 (some .int))) RX11 D cy z ad)  : ∀ n : Nat, ∀ (S : tq_St) (x2 : Int32) (x3 : Int32) (x4 : Int32) (H : Heap) (locs : List Loc) (ls : Array Slot), wbX11_beyondRights_11 N post   n S x2 x3 x4 → tq_wd D cy z H0 ad N (tq_mix S M) H → va_S (fun q => z ≤ q) s.heap H locs → lv_has ls 5 [(0, .ref (ad 1 0)), (2, .int x2), (3, .int x3), (4, .int x4)] → W p l e (tq_rm 1 22) s m args below meth c H locs 0 0 (MQ below (va_Qi (fun r u => post u r) (fun u => tq_P D cy z H0 ad N u M) (fun q => z ≤ q)) args s 0 0 (fun q => z ≤ q)) (F0 m 11 ls []) := by
  obtain ⟨hx, hb, hr, hml, hown, hts, hlocks, hK, hG⟩ := id C
  have hw : ∀ w ∈ tq_W, w.before args s = true := fun w h => hts w (List.mem_cons_of_mem _ h)
  intro n
  induction n with
  | zero =>
    intro S x2 x3 x4 H locs ls h
    exact absurd h (by unfold wbX11_beyondRights_11; exact id)
  | succ n ih =>
    intro S x2 x3 x4 H locs ls h hW hS hl
    unfold wbX11_beyondRights_11 at h
    refine lv_iload hx hb dX11_beyondRights_11 (lv_at hl 3 rfl) ?_
    refine lv_aload_n hx hb dX11_beyondRights_13 rfl (lv_at hl 0 rfl) ?_
    refine tqc_get (v := .int (S 1 0 2)) hx hb hw tq_inX11 hown hK hW (by decide) (tq_mk_1 (by decide)) rfl 2 (by decide) (hw _ tw_339) (fun _ h9 => h9) rfl dX11_beyondRights_14 ?_
    refine lv_icmp_ge (tgt := 49) hx hb dX11_beyondRights_17 (by decide) (fun c5 => ?_) (fun c5 => ?_)
    · have h := h.1 c5
      refine lv_iload_n hx hb dX11_beyondRights_49 rfl (lv_at hl 2 rfl) ?_
      refine lv_iconst (v := 0) hx hb dX11_beyondRights_50 (by decide) ?_
      refine va_mmax hx hb (hml.trans hl.1.symm) hown (hw _ tw_1108) (hw _ tw_660) (hw _ tw_132) (hw _ tw_661) (Nat.le_of_ble_eq_true rfl) (Nat.le_of_ble_eq_true rfl) (Nat.zero_le _) (Nat.zero_le _) dX11_beyondRights_51 ?_
      exact W.iret (v := if x3 < 0 then 0 else x3) hx hb hr (fun t ht hWm => ⟨⟨_, S, rfl, h, tq_pe ht hW⟩, hS.F ht⟩) hS.2.2 dX11_beyondRights_54
    · have h := h.2 c5
      refine lv_aload_n hx hb dX11_beyondRights_20 rfl (lv_at hl 0 rfl) ?_
      refine tqc_get (v := .ref (ad 13 0)) hx hb hw tq_inX11 hown hK hW (by decide) (tq_mk_1 (by decide)) rfl 3 (by decide) (hw _ tw_340) (fun _ h9 => h9) rfl dX11_beyondRights_21 ?_
      refine lv_iload hx hb dX11_beyondRights_24 (lv_at hl 3 rfl) ?_
      obtain ⟨b6, h⟩ := h
      refine tqc_iald (jn := x4.toNatClampNeg) hx hb hK hW (by decide) (tq_mk_13 (by decide)) b6 rfl dX11_beyondRights_26 ?_
      refine lv_iload_n hx hb dX11_beyondRights_27 rfl (lv_at hl 1 rfl) ?_
      refine lv_icmp_ne (tgt := 43) hx hb dX11_beyondRights_28 (by decide) (fun c7 => ?_) (fun c7 => ?_)
      · have h := h.1 c7
        exact bX11_beyondRights_43 C (fun M9 a09 a19 a29 H9 q9 ls9 h9 hW9 hS9 hl9 => ih M9 a09 a19 a29 H9 q9 ls9 h9 hW9 hS9 hl9) _ _ _ _ _ _ _ h hW hS (lv_sub hl [0, 1, 2, 3] rfl)
      · have h := h.2 c7
        refine lv_iload_n hx hb dX11_beyondRights_31 rfl (lv_at hl 2 rfl) ?_
        refine lv_aload_n hx hb dX11_beyondRights_32 rfl (lv_at hl 0 rfl) ?_
        refine tqc_get (v := .ref (ad 14 0)) hx hb hw tq_inX11 hown hK hW (by decide) (tq_mk_1 (by decide)) rfl 4 (by decide) (hw _ tw_341) (fun _ h9 => h9) rfl dX11_beyondRights_33 ?_
        refine lv_iload hx hb dX11_beyondRights_36 (lv_at hl 3 rfl) ?_
        refine tqc_iald (jn := x4.toNatClampNeg) hx hb hK hW (by decide) (tq_mk_14 (by decide)) b6 rfl dX11_beyondRights_38 ?_
        refine lv_iconst (v := 2) hx hb dX11_beyondRights_39 (by decide) ?_
        refine lv_idiv hx hb dX11_beyondRights_40 (by decide) ?_
        refine lv_isub hx hb dX11_beyondRights_41 ?_
        refine lv_istore_n (lv' := [(3, .int (x3 - ((S 14 0 x4.toNatClampNeg) / 2))), (0, .ref (ad 1 0)), (2, .int x2), (4, .int x4)]) hx hb dX11_beyondRights_42 rfl hl (by decide) rfl (fun ls hl => ?_)
        exact bX11_beyondRights_43 C (fun M9 a09 a19 a29 H9 q9 ls9 h9 hW9 hS9 hl9 => ih M9 a09 a19 a29 H9 q9 ls9 h9 hW9 hS9 hl9) _ _ _ _ _ _ _ h hW hS (lv_sub hl [1, 2, 0, 3] rfl)
set_option maxHeartbeats 4000000 in
set_option maxRecDepth 100000 in
theorem kX11_beyondRights {post : tq_St → Int32 → Prop} {S : tq_St} {p0 : Nat} {p1 : Int32} (h : wpX11_beyondRights N post S p0 p1) : tq_sI l yX11_beyondRights (tq_ws yX11_beyondRights cX11_beyondRights 5 (some .int)) 1 22 D cy z H0 ad N M S [.ref (ad 1 0), .ref (ad 8 p0), .int p1] post := by
  unfold wpX11_beyondRights at h
  refine Met.ofW (cc := cX11_beyondRights) (maxL := 5) (ret := (some .int)) (by decide) rfl ?_
  intro p e s m args below meth c s₁ B hml hv
  obtain ⟨rfl, hW, hK, hG⟩ := hv
  have hx := B.exec
  have hb := B.bytes
  have hr := B.returns
  have hts := atoms_spec (ws := (tq_ws yX11_beyondRights cX11_beyondRights 5 (some .int))) B.pre
  have hw : ∀ w ∈ tq_W, w.before _ s = true := fun w h => hts w (List.mem_cons_of_mem _ h)
  have hown : s.vm.findClass RX11 = some m.cls := findClass_of_methodNamed B.named
  have hlocks := B.notSynchronized
  have C : tq_At p s m meth c [.ref (ad 1 0), .ref (ad 8 p0), .int p1].toArray cX11_beyondRights 5 ((some .int)) ((tq_ws yX11_beyondRights cX11_beyondRights 5 (some .int))) RX11 D cy z ad := ⟨hx, hb, hr, hml, hown, hts, hlocks, hK, hG⟩
  have hS : va_S (fun q => z ≤ q) s.heap s.heap [] := va_S.rf
  have hl := lv_entry ([.ref (ad 1 0), .ref (ad 8 p0), .int p1]) (n := 5) (Nat.le_of_ble_eq_true rfl)
  rw [lg_entry_eq]
  generalize (lg_sl ([.ref (ad 1 0), .ref (ad 8 p0), .int p1]) ++ List.replicate (5 - (lg_sl ([.ref (ad 1 0), .ref (ad 8 p0), .int p1])).length) Slot.unset).toArray = ls at hl ⊢
  have hl : lv_has ls 5 [(0, .ref (ad 1 0)), (1, .ref (ad 8 p0)), (2, .int p1)] := hl
  have hW : tq_wd D cy z H0 ad N (tq_mix S M) s.heap := hW
  refine lv_aload_n hx hb dX11_beyondRights_0 rfl (lv_at hl 1 rfl) ?_
  obtain ⟨b1, h⟩ := h
  refine tqc_get (v := .ref (ad 55 p0)) hx hb hw tq_inX8 hown hK hW (by decide) (tq_mk_8 b1) rfl 9 (by decide) (hw _ tw_916) (fun _ h9 => h9) rfl dX11_beyondRights_1 ?_
  obtain ⟨b2, h⟩ := h
  refine tqc_callSi (As := [.ref (ad 55 p0)]) (rest := []) (kX11_sumOf (n := 20) (post := fun u r => u = S ∧ r = bx_sum (S 55 p0) 20) (by decide) (by decide) (fun f => tq_mk_55 b2) ⟨rfl, rfl⟩) ⟨hx, hb, hml, hown, hts⟩ (va_cwS 1 hts (tq_goodS tw_1045 tw_968 tw_115 tw_969) rfl rfl rfl (by decide +kernel) ⟨(Nat.le_of_ble_eq_true rfl), (Nat.le_of_ble_eq_true rfl)⟩) hK hG hW hS rfl hl.1 rfl (Nat.le_of_ble_eq_true rfl) dX11_beyondRights_4 ⟨(Nat.le_of_ble_eq_true rfl), (Nat.le_of_ble_eq_true rfl)⟩ (fun r4 S3 H locs q9 hW hS => ?_)
  rw [q9.1] at hW
  rw [q9.2]
  refine lv_istore_n (lv' := [(3, .int (bx_sum (S 55 p0) 20)), (0, .ref (ad 1 0)), (1, .ref (ad 8 p0)), (2, .int p1)]) hx hb dX11_beyondRights_7 rfl hl (by decide) rfl (fun ls hl => ?_)
  refine lv_iconst (v := 0) hx hb dX11_beyondRights_8 (by decide) ?_
  refine lv_istore (lv' := [(4, .int 0), (3, .int (bx_sum (S 55 p0) 20)), (0, .ref (ad 1 0)), (1, .ref (ad 8 p0)), (2, .int p1)]) hx hb dX11_beyondRights_9 hl (by decide) rfl (fun ls hl => ?_)
  obtain ⟨nq, h⟩ := h
  exact bX11_beyondRights_11 C  nq _ _ _ _ _ _ _ h hW hS (lv_sub hl [2, 4, 1, 0] rfl)
-- X11 fallDue
def wbX11_fallDue_48 (N : tq_Nn) (post : tq_St → Prop)  (S : tq_St) : Prop :=
  post S
def wpX11_fallDue (N : tq_Nn) (post : tq_St → Prop) (S : tq_St) (p0 : Nat) : Prop :=
  N 7 p0 = 1 ∧ ¬ S 7 p0 13 = 0 ∧ wpX1_settle N (fun S3 => ¬ S3 7 p0 13 = 0 ∧ (((S3 7 p0 12) ≤ (S3 2 0 1) → ((∀ S6, S6 = tq_up S3 2 0 1 ((S3 2 0 1) - (S3 7 p0 12)) → (wbX11_fallDue_48 N post S6 )))) ∧ (¬ (S3 7 p0 12) ≤ (S3 2 0 1) → ((∀ S7, S7 = tq_up S3 7 p0 10 3 → (wbX11_fallDue_48 N post S7 )))))) S p0 2 (S 1 0 0)
set_option maxHeartbeats 4000000 in
set_option maxRecDepth 100000 in
theorem bX11_fallDue_48 {p : Program} {e : Env} {s : State} {m : MethodId} {args : Array Value} {below : List Frame} {meth : Method} {c : Code} {post : tq_St → Prop} (C : tq_At p s m meth c args cX11_fallDue 3 (none) ((tq_ws yX11_fallDue cX11_fallDue 3 none)) RX11 D cy z ad)  : ∀ (S : tq_St)  (H : Heap) (locs : List Loc) (ls : Array Slot), wbX11_fallDue_48 N post   S  → tq_wd D cy z H0 ad N (tq_mix S M) H → va_S (fun q => z ≤ q) s.heap H locs → lv_has ls 3 [] → W p l e (tq_rm 1 23) s m args below meth c H locs 0 0 (MQ below (va_Qv (fun u => post u) (fun u => tq_P D cy z H0 ad N u M) (fun q => z ≤ q)) args s 0 0 (fun q => z ≤ q)) (F0 m 48 ls []) := by
  obtain ⟨hx, hb, hr, hml, hown, hts, hlocks, hK, hG⟩ := id C
  have hw : ∀ w ∈ tq_W, w.before args s = true := fun w h => hts w (List.mem_cons_of_mem _ h)
  intro S  H locs ls h hW hS hl
  unfold wbX11_fallDue_48 at h
  exact W.vret hx hb hr (fun t ht hWm => ⟨⟨S, rfl, h, tq_pe ht hW⟩, hS.F ht⟩) hS.2.2 dX11_fallDue_48
set_option maxHeartbeats 4000000 in
set_option maxRecDepth 100000 in
theorem kX11_fallDue {post : tq_St → Prop} {S : tq_St} {p0 : Nat} (h : wpX11_fallDue N post S p0) : tq_sV l yX11_fallDue (tq_ws yX11_fallDue cX11_fallDue 3 none) 1 23 D cy z H0 ad N M S [.ref (ad 1 0), .ref (ad 7 p0)] post := by
  unfold wpX11_fallDue at h
  refine Met.ofW (cc := cX11_fallDue) (maxL := 3) (ret := none) (by decide) rfl ?_
  intro p e s m args below meth c s₁ B hml hv
  obtain ⟨rfl, hW, hK, hG⟩ := hv
  have hx := B.exec
  have hb := B.bytes
  have hr := B.returns
  have hts := atoms_spec (ws := (tq_ws yX11_fallDue cX11_fallDue 3 none)) B.pre
  have hw : ∀ w ∈ tq_W, w.before _ s = true := fun w h => hts w (List.mem_cons_of_mem _ h)
  have hown : s.vm.findClass RX11 = some m.cls := findClass_of_methodNamed B.named
  have hlocks := B.notSynchronized
  have C : tq_At p s m meth c [.ref (ad 1 0), .ref (ad 7 p0)].toArray cX11_fallDue 3 (none) ((tq_ws yX11_fallDue cX11_fallDue 3 none)) RX11 D cy z ad := ⟨hx, hb, hr, hml, hown, hts, hlocks, hK, hG⟩
  have hS : va_S (fun q => z ≤ q) s.heap s.heap [] := va_S.rf
  have hl := lv_entry ([.ref (ad 1 0), .ref (ad 7 p0)]) (n := 3) (Nat.le_of_ble_eq_true rfl)
  rw [lg_entry_eq]
  generalize (lg_sl ([.ref (ad 1 0), .ref (ad 7 p0)]) ++ List.replicate (3 - (lg_sl ([.ref (ad 1 0), .ref (ad 7 p0)])).length) Slot.unset).toArray = ls at hl ⊢
  have hl : lv_has ls 3 [(0, .ref (ad 1 0)), (1, .ref (ad 7 p0))] := hl
  have hW : tq_wd D cy z H0 ad N (tq_mix S M) s.heap := hW
  refine lv_aload_n hx hb dX11_fallDue_0 rfl (lv_at hl 0 rfl) ?_
  refine tqc_get (v := .ref (ad 12 0)) hx hb hw tq_inX11 hown hK hW (by decide) (tq_mk_1 (by decide)) rfl 1 (by decide) (hw _ tw_338) (fun _ h9 => h9) rfl dX11_fallDue_1 ?_
  refine lv_iconst (v := 0) hx hb dX11_fallDue_4 (by decide) ?_
  refine tqc_aald (jn := 0) (v := .ref (ad 2 0)) hx hb hK hW (by decide) (tq_mk_12 (by decide)) 3 rfl rfl (by unfold vp_in; decide) (by decide) rfl dX11_fallDue_5 ?_
  refine lv_astore_n (lv' := [(2, .ref (ad 2 0)), (0, .ref (ad 1 0)), (1, .ref (ad 7 p0))]) hx hb dX11_fallDue_6 rfl hl (by decide) rfl (fun ls hl => ?_)
  refine lv_aload_n hx hb dX11_fallDue_7 rfl (lv_at hl 2 rfl) ?_
  refine lv_iconst (v := 2) hx hb dX11_fallDue_8 (by decide) ?_
  refine lv_aload_n hx hb dX11_fallDue_9 rfl (lv_at hl 1 rfl) ?_
  refine tqc_get (v := .int (S 1 0 0)) hx hb hw tq_inX11 hown hK hW (by decide) (tq_mk_1 (by decide)) rfl 0 (by decide) (hw _ tw_337) (fun _ h9 => h9) rfl dX11_fallDue_10 ?_
  obtain ⟨b1, h⟩ := h
  obtain ⟨b2, h⟩ := h
  refine tqc_callVv (As := [.int 2, .int (S 1 0 0)]) (rest := []) (kX1_settle h) ⟨hx, hb, hml, hown, hts⟩ (cwV 2 hts (tq_goodV tw_1119 tw_1120 tw_1121 tw_139 tw_1122) rfl rfl rfl (by decide +kernel) ⟨(Nat.le_of_ble_eq_true rfl), (Nat.le_of_ble_eq_true rfl)⟩) (tq_recvC hK hW (by decide) (tq_mk_7b b1 b2) rfl) hK hG hW hS rfl hl.1 rfl (Nat.le_of_ble_eq_true rfl) dX11_fallDue_13 ⟨(Nat.le_of_ble_eq_true rfl), (Nat.le_of_ble_eq_true rfl)⟩ (fun S3 H locs h hW hS => ?_)
  refine lv_aload_n hx hb dX11_fallDue_16 rfl (lv_at hl 2 rfl) ?_
  obtain ⟨b4, h⟩ := h
  refine tqc_getB (v := .int (S3 7 p0 12)) hx hb hw tq_inX1 hown hK hW b1 b4 12 (by decide) (hw _ tw_1198) (fun _ h9 => h9) rfl dX11_fallDue_17 ?_
  refine lv_aload_n hx hb dX11_fallDue_20 rfl (lv_at hl 0 rfl) ?_
  refine tqc_get (v := .int (S3 2 0 1)) hx hb hw tq_inX5 hown hK hW (by decide) (tq_mk_2 (by decide)) rfl 1 (by decide) (hw _ tw_255) (fun _ h9 => h9) rfl dX11_fallDue_21 ?_
  refine lv_icmp_le (tgt := 35) hx hb dX11_fallDue_24 (by decide) (fun c5 => ?_) (fun c5 => ?_)
  · have h := h.1 c5
    refine lv_aload_n hx hb dX11_fallDue_35 rfl (lv_at hl 0 rfl) ?_
    refine lv_dup hx hb dX11_fallDue_36 rfl ?_
    refine tqc_get (v := .int (S3 2 0 1)) hx hb hw tq_inX5 hown hK hW (by decide) (tq_mk_2 (by decide)) rfl 1 (by decide) (hw _ tw_255) (fun _ h9 => h9) rfl dX11_fallDue_37 ?_
    refine lv_aload_n hx hb dX11_fallDue_40 rfl (lv_at hl 2 rfl) ?_
    refine tqc_getB (v := .int (S3 7 p0 12)) hx hb hw tq_inX1 hown hK hW b1 b4 12 (by decide) (hw _ tw_1198) (fun _ h9 => h9) rfl dX11_fallDue_41 ?_
    refine lv_isub hx hb dX11_fallDue_44 ?_
    refine tqc_put hx hb hw tq_inX5 tyX5 tyX5_ok nmX5 hown hK hW hS (by decide) (tq_mk_2 (by decide)) rfl 1 (by decide) (hw _ tw_255) (fun _ h9 => h9) rfl rfl rfl rfl (tq_mk_2 (by decide)) dX11_fallDue_45 (fun H locs hW hS => ?_)
    generalize eS6 : tq_up S3 2 0 1 ((S3 2 0 1) - (S3 7 p0 12)) = S6 at hW
    have h := h S6 eS6.symm
    exact bX11_fallDue_48 C  _  _ _ _ h hW hS (lv_sub hl [] rfl)
  · have h := h.2 c5
    refine lv_aload_n hx hb dX11_fallDue_27 rfl (lv_at hl 2 rfl) ?_
    refine lv_iconst (v := 3) hx hb dX11_fallDue_28 (by decide) ?_
    refine tqc_putB hx hb hw tq_inX1 hown hK hW hS b1 b4 10 (by decide) (hw _ tw_1194) (fun _ h9 => h9) dX11_fallDue_29 (fun H locs hW hS => ?_)
    generalize eS7 : tq_up S3 7 p0 10 3 = S7 at hW
    have h := h S7 eS7.symm
    refine lv_goto (tgt := 48) hx hb dX11_fallDue_32 (by decide) ?_
    exact bX11_fallDue_48 C  _  _ _ _ h hW hS (lv_sub hl [] rfl)
-- X11 fieldValue
def wpX11_fieldValue (N : tq_Nn) (post : tq_St → Int32 → Prop) (S : tq_St) (p0 : Nat) (p1 : Nat) : Prop :=
  N 11 p0 = 1 ∧ (((S 11 p0 2) = 0 → (p1 < 5 ∧ wpX5_priceOf N (fun S4 r5 => post S4 r5) S p1 (S 11 p0 3))) ∧ (¬ (S 11 p0 2) = 0 → (((S 11 p0 2) = 1 → (p1 < 5 ∧ (vp_in (S 11 p0 3) 4 ∧ (post S (S 30 p1 ((S 11 p0 3).toNatClampNeg)))))) ∧ (¬ (S 11 p0 2) = 1 → (((S 11 p0 2) = 2 → (p1 < 5 ∧ (post S (S 2 p1 1)))) ∧ (¬ (S 11 p0 2) = 2 → (((S 11 p0 2) = 3 → (p1 < 5 ∧ (wpX11_shipsAt N (fun S13 r14 => post S13 r14) S (S 2 p1 0)))) ∧ (¬ (S 11 p0 2) = 3 → (post S ((S 1 0 0) - (S 1 0 0) / 360 * 360))))))))))
set_option maxHeartbeats 4000000 in
set_option maxRecDepth 100000 in
theorem kX11_fieldValue {post : tq_St → Int32 → Prop} {S : tq_St} {p0 : Nat} {p1 : Nat} (h : wpX11_fieldValue N post S p0 p1) : tq_sI l yX11_fieldValue (tq_ws yX11_fieldValue cX11_fieldValue 3 (some .int)) 4 87 D cy z H0 ad N M S [.ref (ad 1 0), .ref (ad 11 p0), .ref (ad 2 p1)] post := by
  unfold wpX11_fieldValue at h
  refine Met.ofW (cc := cX11_fieldValue) (maxL := 3) (ret := (some .int)) (by decide) rfl ?_
  intro p e s m args below meth c s₁ B hml hv
  obtain ⟨rfl, hW, hK, hG⟩ := hv
  have hx := B.exec
  have hb := B.bytes
  have hr := B.returns
  have hts := atoms_spec (ws := (tq_ws yX11_fieldValue cX11_fieldValue 3 (some .int))) B.pre
  have hw : ∀ w ∈ tq_W, w.before _ s = true := fun w h => hts w (List.mem_cons_of_mem _ h)
  have hown : s.vm.findClass RX11 = some m.cls := findClass_of_methodNamed B.named
  have hlocks := B.notSynchronized
  have C : tq_At p s m meth c [.ref (ad 1 0), .ref (ad 11 p0), .ref (ad 2 p1)].toArray cX11_fieldValue 3 ((some .int)) ((tq_ws yX11_fieldValue cX11_fieldValue 3 (some .int))) RX11 D cy z ad := ⟨hx, hb, hr, hml, hown, hts, hlocks, hK, hG⟩
  have hS : va_S (fun q => z ≤ q) s.heap s.heap [] := va_S.rf
  have hl := lv_entry ([.ref (ad 1 0), .ref (ad 11 p0), .ref (ad 2 p1)]) (n := 3) (Nat.le_of_ble_eq_true rfl)
  rw [lg_entry_eq]
  generalize (lg_sl ([.ref (ad 1 0), .ref (ad 11 p0), .ref (ad 2 p1)]) ++ List.replicate (3 - (lg_sl ([.ref (ad 1 0), .ref (ad 11 p0), .ref (ad 2 p1)])).length) Slot.unset).toArray = ls at hl ⊢
  have hl : lv_has ls 3 [(0, .ref (ad 1 0)), (1, .ref (ad 11 p0)), (2, .ref (ad 2 p1))] := hl
  have hW : tq_wd D cy z H0 ad N (tq_mix S M) s.heap := hW
  refine lv_aload_n hx hb dX11_fieldValue_0 rfl (lv_at hl 1 rfl) ?_
  obtain ⟨b1, h⟩ := h
  refine tqc_get (v := .int (S 11 p0 2)) hx hb hw tq_inX9 hown hK hW (by decide) (tq_mk_11 b1) rfl 2 (by decide) (hw _ tw_727) (fun _ h9 => h9) rfl dX11_fieldValue_1 ?_
  by_cases c2 : (S 11 p0 2) = 0
  · have h := h.1 c2
    refine W.eq (g2 := F0 m 4 ls (.int 0 :: [])) (by rw [c2]) ?_
    refine lv_tableIn (tgt := 36) hx hb dX11_fieldValue_4 (by decide) (by decide) rfl (by decide) ?_
    refine lv_aload_n hx hb dX11_fieldValue_36 rfl (lv_at hl 2 rfl) ?_
    refine lv_aload_n hx hb dX11_fieldValue_37 rfl (lv_at hl 1 rfl) ?_
    refine tqc_get (v := .int (S 11 p0 3)) hx hb hw tq_inX9 hown hK hW (by decide) (tq_mk_11 b1) rfl 3 (by decide) (hw _ tw_729) (fun _ h9 => h9) rfl dX11_fieldValue_38 ?_
    obtain ⟨b3, h⟩ := h
    refine tqc_callVi (As := [.int (S 11 p0 3)]) (rest := []) (kX5_priceOf h) ⟨hx, hb, hml, hown, hts⟩ (cwV 1 hts (tq_goodV tw_419 tw_420 tw_421 tw_122 tw_422) rfl rfl rfl (by decide +kernel) ⟨(Nat.le_of_ble_eq_true rfl), (Nat.le_of_ble_eq_true rfl)⟩) (tq_recvC hK hW (by decide) (tq_mk_2 b3) rfl) hK hG hW hS rfl hl.1 rfl (Nat.le_of_ble_eq_true rfl) dX11_fieldValue_41 ⟨(Nat.le_of_ble_eq_true rfl), (Nat.le_of_ble_eq_true rfl)⟩ (fun r5 S4 H locs h hW hS => ?_)
    exact W.iret (v := r5) hx hb hr (fun t ht hWm => ⟨⟨_, S4, rfl, h, tq_pe ht hW⟩, hS.F ht⟩) hS.2.2 dX11_fieldValue_44
  · have h := h.2 c2
    by_cases c6 : (S 11 p0 2) = 1
    · have h := h.1 c6
      refine W.eq (g2 := F0 m 4 ls (.int 1 :: [])) (by rw [c6]) ?_
      refine lv_tableIn (tgt := 45) hx hb dX11_fieldValue_4 (by decide) (by decide) rfl (by decide) ?_
      refine lv_aload_n hx hb dX11_fieldValue_45 rfl (lv_at hl 2 rfl) ?_
      obtain ⟨b7, h⟩ := h
      refine tqc_get (v := .ref (ad 30 p1)) hx hb hw tq_inX5 hown hK hW (by decide) (tq_mk_2 b7) rfl 2 (by decide) (hw _ tw_258) (fun _ h9 => h9) rfl dX11_fieldValue_46 ?_
      refine lv_aload_n hx hb dX11_fieldValue_49 rfl (lv_at hl 1 rfl) ?_
      refine tqc_get (v := .int (S 11 p0 3)) hx hb hw tq_inX9 hown hK hW (by decide) (tq_mk_11 b1) rfl 3 (by decide) (hw _ tw_729) (fun _ h9 => h9) rfl dX11_fieldValue_50 ?_
      obtain ⟨b8, h⟩ := h
      refine tqc_iald (jn := (S 11 p0 3).toNatClampNeg) hx hb hK hW (by decide) (tq_mk_30 b7) b8 rfl dX11_fieldValue_53 ?_
      exact W.iret (v := S 30 p1 ((S 11 p0 3).toNatClampNeg)) hx hb hr (fun t ht hWm => ⟨⟨_, S, rfl, h, tq_pe ht hW⟩, hS.F ht⟩) hS.2.2 dX11_fieldValue_54
    · have h := h.2 c6
      by_cases c9 : (S 11 p0 2) = 2
      · have h := h.1 c9
        refine W.eq (g2 := F0 m 4 ls (.int 2 :: [])) (by rw [c9]) ?_
        refine lv_tableIn (tgt := 55) hx hb dX11_fieldValue_4 (by decide) (by decide) rfl (by decide) ?_
        refine lv_aload_n hx hb dX11_fieldValue_55 rfl (lv_at hl 2 rfl) ?_
        obtain ⟨b10, h⟩ := h
        refine tqc_get (v := .int (S 2 p1 1)) hx hb hw tq_inX5 hown hK hW (by decide) (tq_mk_2 b10) rfl 1 (by decide) (hw _ tw_255) (fun _ h9 => h9) rfl dX11_fieldValue_56 ?_
        exact W.iret (v := S 2 p1 1) hx hb hr (fun t ht hWm => ⟨⟨_, S, rfl, h, tq_pe ht hW⟩, hS.F ht⟩) hS.2.2 dX11_fieldValue_59
      · have h := h.2 c9
        by_cases c11 : (S 11 p0 2) = 3
        · have h := h.1 c11
          refine W.eq (g2 := F0 m 4 ls (.int 3 :: [])) (by rw [c11]) ?_
          refine lv_tableIn (tgt := 60) hx hb dX11_fieldValue_4 (by decide) (by decide) rfl (by decide) ?_
          refine lv_aload_n hx hb dX11_fieldValue_60 rfl (lv_at hl 0 rfl) ?_
          refine lv_aload_n hx hb dX11_fieldValue_61 rfl (lv_at hl 2 rfl) ?_
          obtain ⟨b12, h⟩ := h
          refine tqc_get (v := .int (S 2 p1 0)) hx hb hw tq_inX5 hown hK hW (by decide) (tq_mk_2 b12) rfl 0 (by decide) (hw _ tw_253) (fun _ h9 => h9) rfl dX11_fieldValue_62 ?_
          refine tqc_callVi (As := [.int (S 2 p1 0)]) (rest := []) (kX11_shipsAt h) ⟨hx, hb, hml, hown, hts⟩ (cwV 1 hts (tq_goodV tw_880 tw_882 tw_23 tw_115 tw_883) rfl rfl rfl (by decide +kernel) ⟨(Nat.le_of_ble_eq_true rfl), (Nat.le_of_ble_eq_true rfl)⟩) (tq_recvC hK hW (by decide) (tq_mk_1 (by decide)) rfl) hK hG hW hS rfl hl.1 rfl (Nat.le_of_ble_eq_true rfl) dX11_fieldValue_65 ⟨(Nat.le_of_ble_eq_true rfl), (Nat.le_of_ble_eq_true rfl)⟩ (fun r14 S13 H locs h hW hS => ?_)
          exact W.iret (v := r14) hx hb hr (fun t ht hWm => ⟨⟨_, S13, rfl, h, tq_pe ht hW⟩, hS.F ht⟩) hS.2.2 dX11_fieldValue_68
        · have h := h.2 c11
          refine lv_tableOut (tgt := 69) hx hb dX11_fieldValue_4 (tq_out4 c2 c6 c9 c11) (by decide) ?_
          refine lv_aload_n hx hb dX11_fieldValue_69 rfl (lv_at hl 0 rfl) ?_
          refine tqc_get (v := .int (S 1 0 0)) hx hb hw tq_inX11 hown hK hW (by decide) (tq_mk_1 (by decide)) rfl 0 (by decide) (hw _ tw_337) (fun _ h9 => h9) rfl dX11_fieldValue_70 ?_
          refine lv_sipush (v := 360) hx hb dX11_fieldValue_73 (by decide) ?_
          refine lv_irem hx hb dX11_fieldValue_76 (by decide) ?_
          exact W.iret (v := (S 1 0 0) - (S 1 0 0) / 360 * 360) hx hb hr (fun t ht hWm => ⟨⟨_, S, rfl, h, tq_pe ht hW⟩, hS.F ht⟩) hS.2.2 dX11_fieldValue_77
-- X11 enter
def wbX11_enter_106 (N : tq_Nn) (post : tq_St → Prop)  (S : tq_St) : Prop :=
  (∀ S18, S18 = tq_up S 1 0 10 ((S 1 0 10) + 1) → (post S18))
def wpX11_enter (N : tq_Nn) (post : tq_St → Prop) (S : tq_St) (p0 : Int32) (p1 : Int32) (p2 : Int32) (p3 : Int32) (p4 : Int32) (p5 : Int32) (p6 : Int32) : Prop :=
  (500 ≤ (S 1 0 10) → (wbX11_enter_106 N post S )) ∧ (¬ 500 ≤ (S 1 0 10) → (vp_in ((S 1 0 10) * 8) 4000 ∧ (∀ S3, S3 = tq_up S 24 0 (((S 1 0 10) * 8).toNatClampNeg) (S 1 0 0) → (vp_in (((S 1 0 10) * 8) + 1) 4000 ∧ (∀ S5, S5 = tq_up S3 24 0 ((((S 1 0 10) * 8) + 1).toNatClampNeg) p0 → (vp_in (((S 1 0 10) * 8) + 2) 4000 ∧ (∀ S7, S7 = tq_up S5 24 0 ((((S 1 0 10) * 8) + 2).toNatClampNeg) p1 → (vp_in (((S 1 0 10) * 8) + 3) 4000 ∧ (∀ S9, S9 = tq_up S7 24 0 ((((S 1 0 10) * 8) + 3).toNatClampNeg) p2 → (vp_in (((S 1 0 10) * 8) + 4) 4000 ∧ (∀ S11, S11 = tq_up S9 24 0 ((((S 1 0 10) * 8) + 4).toNatClampNeg) p3 → (vp_in (((S 1 0 10) * 8) + 5) 4000 ∧ (∀ S13, S13 = tq_up S11 24 0 ((((S 1 0 10) * 8) + 5).toNatClampNeg) p4 → (vp_in (((S 1 0 10) * 8) + 6) 4000 ∧ (∀ S15, S15 = tq_up S13 24 0 ((((S 1 0 10) * 8) + 6).toNatClampNeg) p5 → (vp_in (((S 1 0 10) * 8) + 7) 4000 ∧ (∀ S17, S17 = tq_up S15 24 0 ((((S 1 0 10) * 8) + 7).toNatClampNeg) p6 → (wbX11_enter_106 N post S17 ))))))))))))))))))
set_option maxHeartbeats 4000000 in
set_option maxRecDepth 100000 in
theorem bX11_enter_106 {p : Program} {e : Env} {s : State} {m : MethodId} {args : Array Value} {below : List Frame} {meth : Method} {c : Code} {post : tq_St → Prop} (C : tq_At p s m meth c args cX11_enter 9 (none) ((tq_ws yX11_enter cX11_enter 9 none)) RX11 D cy z ad)  : ∀ (S : tq_St)  (H : Heap) (locs : List Loc) (ls : Array Slot), wbX11_enter_106 N post   S  → tq_wd D cy z H0 ad N (tq_mix S M) H → va_S (fun q => z ≤ q) s.heap H locs → lv_has ls 9 [(0, .ref (ad 1 0))] → W p l e (tq_rm 0 0) s m args below meth c H locs 0 0 (MQ below (va_Qv (fun u => post u) (fun u => tq_P D cy z H0 ad N u M) (fun q => z ≤ q)) args s 0 0 (fun q => z ≤ q)) (F0 m 106 ls []) := by
  obtain ⟨hx, hb, hr, hml, hown, hts, hlocks, hK, hG⟩ := id C
  have hw : ∀ w ∈ tq_W, w.before args s = true := fun w h => hts w (List.mem_cons_of_mem _ h)
  intro S  H locs ls h hW hS hl
  unfold wbX11_enter_106 at h
  refine lv_aload_n hx hb dX11_enter_106 rfl (lv_at hl 0 rfl) ?_
  refine lv_dup hx hb dX11_enter_107 rfl ?_
  refine tqc_get (v := .int (S 1 0 10)) hx hb hw tq_inX11 hown hK hW (by decide) (tq_mk_1 (by decide)) rfl 10 (by decide) (hw _ tw_347) (fun _ h9 => h9) rfl dX11_enter_108 ?_
  refine lv_iconst (v := 1) hx hb dX11_enter_111 (by decide) ?_
  refine lv_iadd hx hb dX11_enter_112 ?_
  refine tqc_put hx hb hw tq_inX11 tyX11 tyX11_ok nmX11 hown hK hW hS (by decide) (tq_mk_1 (by decide)) rfl 10 (by decide) (hw _ tw_347) (fun _ h9 => h9) rfl rfl rfl rfl (tq_mk_1 (by decide)) dX11_enter_113 (fun H locs hW hS => ?_)
  generalize eS18 : tq_up S 1 0 10 ((S 1 0 10) + 1) = S18 at hW
  have h := h S18 eS18.symm
  exact W.vret hx hb hr (fun t ht hWm => ⟨⟨S18, rfl, h, tq_pe ht hW⟩, hS.F ht⟩) hS.2.2 dX11_enter_116
set_option maxHeartbeats 4000000 in
set_option maxRecDepth 100000 in
theorem kX11_enter {post : tq_St → Prop} {S : tq_St} {p0 : Int32} {p1 : Int32} {p2 : Int32} {p3 : Int32} {p4 : Int32} {p5 : Int32} {p6 : Int32} (h : wpX11_enter N post S p0 p1 p2 p3 p4 p5 p6) : tq_sV l yX11_enter (tq_ws yX11_enter cX11_enter 9 none) 0 0 D cy z H0 ad N M S [.ref (ad 1 0), .int p0, .int p1, .int p2, .int p3, .int p4, .int p5, .int p6] post := by
  unfold wpX11_enter at h
  refine Met.ofW (cc := cX11_enter) (maxL := 9) (ret := none) (by decide) rfl ?_
  intro p e s m args below meth c s₁ B hml hv
  obtain ⟨rfl, hW, hK, hG⟩ := hv
  have hx := B.exec
  have hb := B.bytes
  have hr := B.returns
  have hts := atoms_spec (ws := (tq_ws yX11_enter cX11_enter 9 none)) B.pre
  have hw : ∀ w ∈ tq_W, w.before _ s = true := fun w h => hts w (List.mem_cons_of_mem _ h)
  have hown : s.vm.findClass RX11 = some m.cls := findClass_of_methodNamed B.named
  have hlocks := B.notSynchronized
  have C : tq_At p s m meth c [.ref (ad 1 0), .int p0, .int p1, .int p2, .int p3, .int p4, .int p5, .int p6].toArray cX11_enter 9 (none) ((tq_ws yX11_enter cX11_enter 9 none)) RX11 D cy z ad := ⟨hx, hb, hr, hml, hown, hts, hlocks, hK, hG⟩
  have hS : va_S (fun q => z ≤ q) s.heap s.heap [] := va_S.rf
  have hl := lv_entry ([.ref (ad 1 0), .int p0, .int p1, .int p2, .int p3, .int p4, .int p5, .int p6]) (n := 9) (Nat.le_of_ble_eq_true rfl)
  rw [lg_entry_eq]
  generalize (lg_sl ([.ref (ad 1 0), .int p0, .int p1, .int p2, .int p3, .int p4, .int p5, .int p6]) ++ List.replicate (9 - (lg_sl ([.ref (ad 1 0), .int p0, .int p1, .int p2, .int p3, .int p4, .int p5, .int p6])).length) Slot.unset).toArray = ls at hl ⊢
  have hl : lv_has ls 9 [(0, .ref (ad 1 0)), (1, .int p0), (2, .int p1), (3, .int p2), (4, .int p3), (5, .int p4), (6, .int p5), (7, .int p6)] := hl
  have hW : tq_wd D cy z H0 ad N (tq_mix S M) s.heap := hW
  refine lv_aload_n hx hb dX11_enter_0 rfl (lv_at hl 0 rfl) ?_
  refine tqc_get (v := .int (S 1 0 10)) hx hb hw tq_inX11 hown hK hW (by decide) (tq_mk_1 (by decide)) rfl 10 (by decide) (hw _ tw_347) (fun _ h9 => h9) rfl dX11_enter_1 ?_
  refine lv_sipush (v := 500) hx hb dX11_enter_4 (by decide) ?_
  refine lv_icmp_ge (tgt := 106) hx hb dX11_enter_7 (by decide) (fun c1 => ?_) (fun c1 => ?_)
  · have h := h.1 c1
    exact bX11_enter_106 C  _  _ _ _ h hW hS (lv_sub hl [0] rfl)
  · have h := h.2 c1
    refine lv_aload_n hx hb dX11_enter_10 rfl (lv_at hl 0 rfl) ?_
    refine tqc_get (v := .int (S 1 0 10)) hx hb hw tq_inX11 hown hK hW (by decide) (tq_mk_1 (by decide)) rfl 10 (by decide) (hw _ tw_347) (fun _ h9 => h9) rfl dX11_enter_11 ?_
    refine lv_bipush (v := 8) hx hb dX11_enter_14 (by decide) ?_
    refine lv_imul hx hb dX11_enter_16 ?_
    refine lv_istore (lv' := [(8, .int ((S 1 0 10) * 8)), (0, .ref (ad 1 0)), (1, .int p0), (2, .int p1), (3, .int p2), (4, .int p3), (5, .int p4), (6, .int p5), (7, .int p6)]) hx hb dX11_enter_17 hl (by decide) rfl (fun ls hl => ?_)
    refine lv_aload_n hx hb dX11_enter_19 rfl (lv_at hl 1 rfl) ?_
    refine tqc_get (v := .ref (ad 24 0)) hx hb hw tq_inX11 hown hK hW (by decide) (tq_mk_1 (by decide)) rfl 11 (by decide) (hw _ tw_348) (fun _ h9 => h9) rfl dX11_enter_20 ?_
    refine lv_iload hx hb dX11_enter_23 (lv_at hl 0 rfl) ?_
    refine lv_aload_n hx hb dX11_enter_25 rfl (lv_at hl 1 rfl) ?_
    refine tqc_get (v := .int (S 1 0 0)) hx hb hw tq_inX11 hown hK hW (by decide) (tq_mk_1 (by decide)) rfl 0 (by decide) (hw _ tw_337) (fun _ h9 => h9) rfl dX11_enter_26 ?_
    obtain ⟨b2, h⟩ := h
    refine tqc_iast (jn := ((S 1 0 10) * 8).toNatClampNeg) hx hb hK hW hS (by decide) (tq_mk_24 (by decide)) b2 rfl (tq_mk_24 (by decide)) dX11_enter_29 (fun H locs hW hS => ?_)
    generalize eS3 : tq_up S 24 0 (((S 1 0 10) * 8).toNatClampNeg) (S 1 0 0) = S3 at hW
    have h := h S3 eS3.symm
    refine lv_aload_n hx hb dX11_enter_30 rfl (lv_at hl 1 rfl) ?_
    refine tqc_get (v := .ref (ad 24 0)) hx hb hw tq_inX11 hown hK hW (by decide) (tq_mk_1 (by decide)) rfl 11 (by decide) (hw _ tw_348) (fun _ h9 => h9) rfl dX11_enter_31 ?_
    refine lv_iload hx hb dX11_enter_34 (lv_at hl 0 rfl) ?_
    refine lv_iconst (v := 1) hx hb dX11_enter_36 (by decide) ?_
    refine lv_iadd hx hb dX11_enter_37 ?_
    refine lv_iload_n hx hb dX11_enter_38 rfl (lv_at hl 2 rfl) ?_
    obtain ⟨b4, h⟩ := h
    refine tqc_iast (jn := (((S 1 0 10) * 8) + 1).toNatClampNeg) hx hb hK hW hS (by decide) (tq_mk_24 (by decide)) b4 rfl (tq_mk_24 (by decide)) dX11_enter_39 (fun H locs hW hS => ?_)
    generalize eS5 : tq_up S3 24 0 ((((S 1 0 10) * 8) + 1).toNatClampNeg) p0 = S5 at hW
    have h := h S5 eS5.symm
    refine lv_aload_n hx hb dX11_enter_40 rfl (lv_at hl 1 rfl) ?_
    refine tqc_get (v := .ref (ad 24 0)) hx hb hw tq_inX11 hown hK hW (by decide) (tq_mk_1 (by decide)) rfl 11 (by decide) (hw _ tw_348) (fun _ h9 => h9) rfl dX11_enter_41 ?_
    refine lv_iload hx hb dX11_enter_44 (lv_at hl 0 rfl) ?_
    refine lv_iconst (v := 2) hx hb dX11_enter_46 (by decide) ?_
    refine lv_iadd hx hb dX11_enter_47 ?_
    refine lv_iload_n hx hb dX11_enter_48 rfl (lv_at hl 3 rfl) ?_
    obtain ⟨b6, h⟩ := h
    refine tqc_iast (jn := (((S 1 0 10) * 8) + 2).toNatClampNeg) hx hb hK hW hS (by decide) (tq_mk_24 (by decide)) b6 rfl (tq_mk_24 (by decide)) dX11_enter_49 (fun H locs hW hS => ?_)
    generalize eS7 : tq_up S5 24 0 ((((S 1 0 10) * 8) + 2).toNatClampNeg) p1 = S7 at hW
    have h := h S7 eS7.symm
    refine lv_aload_n hx hb dX11_enter_50 rfl (lv_at hl 1 rfl) ?_
    refine tqc_get (v := .ref (ad 24 0)) hx hb hw tq_inX11 hown hK hW (by decide) (tq_mk_1 (by decide)) rfl 11 (by decide) (hw _ tw_348) (fun _ h9 => h9) rfl dX11_enter_51 ?_
    refine lv_iload hx hb dX11_enter_54 (lv_at hl 0 rfl) ?_
    refine lv_iconst (v := 3) hx hb dX11_enter_56 (by decide) ?_
    refine lv_iadd hx hb dX11_enter_57 ?_
    refine lv_iload_n hx hb dX11_enter_58 rfl (lv_at hl 4 rfl) ?_
    obtain ⟨b8, h⟩ := h
    refine tqc_iast (jn := (((S 1 0 10) * 8) + 3).toNatClampNeg) hx hb hK hW hS (by decide) (tq_mk_24 (by decide)) b8 rfl (tq_mk_24 (by decide)) dX11_enter_59 (fun H locs hW hS => ?_)
    generalize eS9 : tq_up S7 24 0 ((((S 1 0 10) * 8) + 3).toNatClampNeg) p2 = S9 at hW
    have h := h S9 eS9.symm
    refine lv_aload_n hx hb dX11_enter_60 rfl (lv_at hl 1 rfl) ?_
    refine tqc_get (v := .ref (ad 24 0)) hx hb hw tq_inX11 hown hK hW (by decide) (tq_mk_1 (by decide)) rfl 11 (by decide) (hw _ tw_348) (fun _ h9 => h9) rfl dX11_enter_61 ?_
    refine lv_iload hx hb dX11_enter_64 (lv_at hl 0 rfl) ?_
    refine lv_iconst (v := 4) hx hb dX11_enter_66 (by decide) ?_
    refine lv_iadd hx hb dX11_enter_67 ?_
    refine lv_iload hx hb dX11_enter_68 (lv_at hl 5 rfl) ?_
    obtain ⟨b10, h⟩ := h
    refine tqc_iast (jn := (((S 1 0 10) * 8) + 4).toNatClampNeg) hx hb hK hW hS (by decide) (tq_mk_24 (by decide)) b10 rfl (tq_mk_24 (by decide)) dX11_enter_70 (fun H locs hW hS => ?_)
    generalize eS11 : tq_up S9 24 0 ((((S 1 0 10) * 8) + 4).toNatClampNeg) p3 = S11 at hW
    have h := h S11 eS11.symm
    refine lv_aload_n hx hb dX11_enter_71 rfl (lv_at hl 1 rfl) ?_
    refine tqc_get (v := .ref (ad 24 0)) hx hb hw tq_inX11 hown hK hW (by decide) (tq_mk_1 (by decide)) rfl 11 (by decide) (hw _ tw_348) (fun _ h9 => h9) rfl dX11_enter_72 ?_
    refine lv_iload hx hb dX11_enter_75 (lv_at hl 0 rfl) ?_
    refine lv_iconst (v := 5) hx hb dX11_enter_77 (by decide) ?_
    refine lv_iadd hx hb dX11_enter_78 ?_
    refine lv_iload hx hb dX11_enter_79 (lv_at hl 6 rfl) ?_
    obtain ⟨b12, h⟩ := h
    refine tqc_iast (jn := (((S 1 0 10) * 8) + 5).toNatClampNeg) hx hb hK hW hS (by decide) (tq_mk_24 (by decide)) b12 rfl (tq_mk_24 (by decide)) dX11_enter_81 (fun H locs hW hS => ?_)
    generalize eS13 : tq_up S11 24 0 ((((S 1 0 10) * 8) + 5).toNatClampNeg) p4 = S13 at hW
    have h := h S13 eS13.symm
    refine lv_aload_n hx hb dX11_enter_82 rfl (lv_at hl 1 rfl) ?_
    refine tqc_get (v := .ref (ad 24 0)) hx hb hw tq_inX11 hown hK hW (by decide) (tq_mk_1 (by decide)) rfl 11 (by decide) (hw _ tw_348) (fun _ h9 => h9) rfl dX11_enter_83 ?_
    refine lv_iload hx hb dX11_enter_86 (lv_at hl 0 rfl) ?_
    refine lv_bipush (v := 6) hx hb dX11_enter_88 (by decide) ?_
    refine lv_iadd hx hb dX11_enter_90 ?_
    refine lv_iload hx hb dX11_enter_91 (lv_at hl 7 rfl) ?_
    obtain ⟨b14, h⟩ := h
    refine tqc_iast (jn := (((S 1 0 10) * 8) + 6).toNatClampNeg) hx hb hK hW hS (by decide) (tq_mk_24 (by decide)) b14 rfl (tq_mk_24 (by decide)) dX11_enter_93 (fun H locs hW hS => ?_)
    generalize eS15 : tq_up S13 24 0 ((((S 1 0 10) * 8) + 6).toNatClampNeg) p5 = S15 at hW
    have h := h S15 eS15.symm
    refine lv_aload_n hx hb dX11_enter_94 rfl (lv_at hl 1 rfl) ?_
    refine tqc_get (v := .ref (ad 24 0)) hx hb hw tq_inX11 hown hK hW (by decide) (tq_mk_1 (by decide)) rfl 11 (by decide) (hw _ tw_348) (fun _ h9 => h9) rfl dX11_enter_95 ?_
    refine lv_iload hx hb dX11_enter_98 (lv_at hl 0 rfl) ?_
    refine lv_bipush (v := 7) hx hb dX11_enter_100 (by decide) ?_
    refine lv_iadd hx hb dX11_enter_102 ?_
    refine lv_iload hx hb dX11_enter_103 (lv_at hl 8 rfl) ?_
    obtain ⟨b16, h⟩ := h
    refine tqc_iast (jn := (((S 1 0 10) * 8) + 7).toNatClampNeg) hx hb hK hW hS (by decide) (tq_mk_24 (by decide)) b16 rfl (tq_mk_24 (by decide)) dX11_enter_105 (fun H locs hW hS => ?_)
    generalize eS17 : tq_up S15 24 0 ((((S 1 0 10) * 8) + 7).toNatClampNeg) p6 = S17 at hW
    have h := h S17 eS17.symm
    exact bX11_enter_106 C  _  _ _ _ h hW hS (lv_sub hl [1] rfl)
-- X11 personsAt
def wbX11_personsAt_28 (N : tq_Nn) (post : tq_St → Int32 → Prop) (L4 : tq_St → Int32 → Int32 → Int32 → Prop) (S : tq_St) (x1 : Int32) (x2 : Int32) (x3 : Int32) : Prop :=
  L4 S x1 x2 (x3 + 1)
def wbX11_personsAt_4 (N : tq_Nn) (post : tq_St → Int32 → Prop) : Nat → tq_St → Int32 → Int32 → Int32 → Prop
  | 0, _, _, _, _ => False
  | n + 1, S, x1, x2, x3 =>
    ((S 1 0 2) ≤ x3 → (post S x2)) ∧ (¬ (S 1 0 2) ≤ x3 → (vp_in x3 20 ∧ ((¬ (S 13 0 x3.toNatClampNeg) = x1 → (wbX11_personsAt_28 N post  (wbX11_personsAt_4 N post n) S x1 x2 x3)) ∧ ((S 13 0 x3.toNatClampNeg) = x1 → (wbX11_personsAt_28 N post  (wbX11_personsAt_4 N post n) S x1 (x2 ||| (1 <<< (x3 &&& 31))) x3)))))
def wpX11_personsAt (N : tq_Nn) (post : tq_St → Int32 → Prop) (S : tq_St) (p0 : Int32) : Prop :=
  ∃ nq, wbX11_personsAt_4 N post nq S p0 0 0
set_option maxHeartbeats 4000000 in
set_option maxRecDepth 100000 in
theorem bX11_personsAt_28 {p : Program} {e : Env} {s : State} {m : MethodId} {args : Array Value} {below : List Frame} {meth : Method} {c : Code} {post : tq_St → Int32 → Prop} (C : tq_At p s m meth c args cX11_personsAt 4 ((some .int)) ((tq_ws yX11_personsAt cX11_personsAt 4 (some .int))) RX11 D cy z ad) {L4 : tq_St → Int32 → Int32 → Int32 → Prop} (hL4 : ∀ (S : tq_St) (x1 : Int32) (x2 : Int32) (x3 : Int32) (H : Heap) (locs : List Loc) (ls : Array Slot), L4 S x1 x2 x3 → tq_wd D cy z H0 ad N (tq_mix S M) H → va_S (fun q => z ≤ q) s.heap H locs → lv_has ls 4 [(0, .ref (ad 1 0)), (1, .int x1), (2, .int x2), (3, .int x3)] → W p l e (tq_rm 0 0) s m args below meth c H locs 0 0 (MQ below (va_Qi (fun r u => post u r) (fun u => tq_P D cy z H0 ad N u M) (fun q => z ≤ q)) args s 0 0 (fun q => z ≤ q)) (F0 m 4 ls [])) : ∀ (S : tq_St) (x1 : Int32) (x2 : Int32) (x3 : Int32) (H : Heap) (locs : List Loc) (ls : Array Slot), wbX11_personsAt_28 N post  L4 S x1 x2 x3 → tq_wd D cy z H0 ad N (tq_mix S M) H → va_S (fun q => z ≤ q) s.heap H locs → lv_has ls 4 [(0, .ref (ad 1 0)), (1, .int x1), (2, .int x2), (3, .int x3)] → W p l e (tq_rm 0 0) s m args below meth c H locs 0 0 (MQ below (va_Qi (fun r u => post u r) (fun u => tq_P D cy z H0 ad N u M) (fun q => z ≤ q)) args s 0 0 (fun q => z ≤ q)) (F0 m 28 ls []) := by
  obtain ⟨hx, hb, hr, hml, hown, hts, hlocks, hK, hG⟩ := id C
  have hw : ∀ w ∈ tq_W, w.before args s = true := fun w h => hts w (List.mem_cons_of_mem _ h)
  intro S x1 x2 x3 H locs ls h hW hS hl
  unfold wbX11_personsAt_28 at h
  refine lv_iinc (v := x3 + 1) (lv' := [(3, .int (x3 + 1)), (0, .ref (ad 1 0)), (1, .int x1), (2, .int x2)]) hx hb dX11_personsAt_28 hl (k := 3) rfl rfl (by decide) rfl (fun ls hl => ?_)
  refine lv_goto (tgt := 4) hx hb dX11_personsAt_31 (by decide) ?_
  exact hL4 _ _ _ _ _ _ _ h hW hS (lv_sub hl [1, 2, 3, 0] rfl)
set_option maxHeartbeats 4000000 in
set_option maxRecDepth 100000 in
theorem bX11_personsAt_4 {p : Program} {e : Env} {s : State} {m : MethodId} {args : Array Value} {below : List Frame} {meth : Method} {c : Code} {post : tq_St → Int32 → Prop} (C : tq_At p s m meth c args cX11_personsAt 4 ((some .int)) ((tq_ws yX11_personsAt cX11_personsAt 4 (some .int))) RX11 D cy z ad)  : ∀ n : Nat, ∀ (S : tq_St) (x1 : Int32) (x2 : Int32) (x3 : Int32) (H : Heap) (locs : List Loc) (ls : Array Slot), wbX11_personsAt_4 N post   n S x1 x2 x3 → tq_wd D cy z H0 ad N (tq_mix S M) H → va_S (fun q => z ≤ q) s.heap H locs → lv_has ls 4 [(0, .ref (ad 1 0)), (1, .int x1), (2, .int x2), (3, .int x3)] → W p l e (tq_rm 0 0) s m args below meth c H locs 0 0 (MQ below (va_Qi (fun r u => post u r) (fun u => tq_P D cy z H0 ad N u M) (fun q => z ≤ q)) args s 0 0 (fun q => z ≤ q)) (F0 m 4 ls []) := by
  obtain ⟨hx, hb, hr, hml, hown, hts, hlocks, hK, hG⟩ := id C
  have hw : ∀ w ∈ tq_W, w.before args s = true := fun w h => hts w (List.mem_cons_of_mem _ h)
  intro n
  induction n with
  | zero =>
    intro S x1 x2 x3 H locs ls h
    exact absurd h (by unfold wbX11_personsAt_4; exact id)
  | succ n ih =>
    intro S x1 x2 x3 H locs ls h hW hS hl
    unfold wbX11_personsAt_4 at h
    refine lv_iload_n hx hb dX11_personsAt_4 rfl (lv_at hl 3 rfl) ?_
    refine lv_aload_n hx hb dX11_personsAt_5 rfl (lv_at hl 0 rfl) ?_
    refine tqc_get (v := .int (S 1 0 2)) hx hb hw tq_inX11 hown hK hW (by decide) (tq_mk_1 (by decide)) rfl 2 (by decide) (hw _ tw_339) (fun _ h9 => h9) rfl dX11_personsAt_6 ?_
    refine lv_icmp_ge (tgt := 34) hx hb dX11_personsAt_9 (by decide) (fun c1 => ?_) (fun c1 => ?_)
    · have h := h.1 c1
      refine lv_iload_n hx hb dX11_personsAt_34 rfl (lv_at hl 2 rfl) ?_
      exact W.iret (v := x2) hx hb hr (fun t ht hWm => ⟨⟨_, S, rfl, h, tq_pe ht hW⟩, hS.F ht⟩) hS.2.2 dX11_personsAt_35
    · have h := h.2 c1
      refine lv_aload_n hx hb dX11_personsAt_12 rfl (lv_at hl 0 rfl) ?_
      refine tqc_get (v := .ref (ad 13 0)) hx hb hw tq_inX11 hown hK hW (by decide) (tq_mk_1 (by decide)) rfl 3 (by decide) (hw _ tw_340) (fun _ h9 => h9) rfl dX11_personsAt_13 ?_
      refine lv_iload_n hx hb dX11_personsAt_16 rfl (lv_at hl 3 rfl) ?_
      obtain ⟨b2, h⟩ := h
      refine tqc_iald (jn := x3.toNatClampNeg) hx hb hK hW (by decide) (tq_mk_13 (by decide)) b2 rfl dX11_personsAt_17 ?_
      refine lv_iload_n hx hb dX11_personsAt_18 rfl (lv_at hl 1 rfl) ?_
      refine lv_icmp_ne (tgt := 28) hx hb dX11_personsAt_19 (by decide) (fun c3 => ?_) (fun c3 => ?_)
      · have h := h.1 c3
        exact bX11_personsAt_28 C (fun M9 a09 a19 a29 H9 q9 ls9 h9 hW9 hS9 hl9 => ih M9 a09 a19 a29 H9 q9 ls9 h9 hW9 hS9 hl9) _ _ _ _ _ _ _ h hW hS (lv_sub hl [0, 1, 2, 3] rfl)
      · have h := h.2 c3
        refine lv_iload_n hx hb dX11_personsAt_22 rfl (lv_at hl 2 rfl) ?_
        refine lv_iconst (v := 1) hx hb dX11_personsAt_23 (by decide) ?_
        refine lv_iload_n hx hb dX11_personsAt_24 rfl (lv_at hl 3 rfl) ?_
        refine lv_ishl hx hb dX11_personsAt_25 ?_
        refine lv_ior hx hb dX11_personsAt_26 ?_
        refine lv_istore_n (lv' := [(2, .int (x2 ||| (1 <<< (x3 &&& 31)))), (0, .ref (ad 1 0)), (1, .int x1), (3, .int x3)]) hx hb dX11_personsAt_27 rfl hl (by decide) rfl (fun ls hl => ?_)
        exact bX11_personsAt_28 C (fun M9 a09 a19 a29 H9 q9 ls9 h9 hW9 hS9 hl9 => ih M9 a09 a19 a29 H9 q9 ls9 h9 hW9 hS9 hl9) _ _ _ _ _ _ _ h hW hS (lv_sub hl [1, 2, 0, 3] rfl)
set_option maxHeartbeats 4000000 in
set_option maxRecDepth 100000 in
theorem kX11_personsAt {post : tq_St → Int32 → Prop} {S : tq_St} {p0 : Int32} (h : wpX11_personsAt N post S p0) : tq_sI l yX11_personsAt (tq_ws yX11_personsAt cX11_personsAt 4 (some .int)) 0 0 D cy z H0 ad N M S [.ref (ad 1 0), .int p0] post := by
  unfold wpX11_personsAt at h
  refine Met.ofW (cc := cX11_personsAt) (maxL := 4) (ret := (some .int)) (by decide) rfl ?_
  intro p e s m args below meth c s₁ B hml hv
  obtain ⟨rfl, hW, hK, hG⟩ := hv
  have hx := B.exec
  have hb := B.bytes
  have hr := B.returns
  have hts := atoms_spec (ws := (tq_ws yX11_personsAt cX11_personsAt 4 (some .int))) B.pre
  have hw : ∀ w ∈ tq_W, w.before _ s = true := fun w h => hts w (List.mem_cons_of_mem _ h)
  have hown : s.vm.findClass RX11 = some m.cls := findClass_of_methodNamed B.named
  have hlocks := B.notSynchronized
  have C : tq_At p s m meth c [.ref (ad 1 0), .int p0].toArray cX11_personsAt 4 ((some .int)) ((tq_ws yX11_personsAt cX11_personsAt 4 (some .int))) RX11 D cy z ad := ⟨hx, hb, hr, hml, hown, hts, hlocks, hK, hG⟩
  have hS : va_S (fun q => z ≤ q) s.heap s.heap [] := va_S.rf
  have hl := lv_entry ([.ref (ad 1 0), .int p0]) (n := 4) (Nat.le_of_ble_eq_true rfl)
  rw [lg_entry_eq]
  generalize (lg_sl ([.ref (ad 1 0), .int p0]) ++ List.replicate (4 - (lg_sl ([.ref (ad 1 0), .int p0])).length) Slot.unset).toArray = ls at hl ⊢
  have hl : lv_has ls 4 [(0, .ref (ad 1 0)), (1, .int p0)] := hl
  have hW : tq_wd D cy z H0 ad N (tq_mix S M) s.heap := hW
  refine lv_iconst (v := 0) hx hb dX11_personsAt_0 (by decide) ?_
  refine lv_istore_n (lv' := [(2, .int 0), (0, .ref (ad 1 0)), (1, .int p0)]) hx hb dX11_personsAt_1 rfl hl (by decide) rfl (fun ls hl => ?_)
  refine lv_iconst (v := 0) hx hb dX11_personsAt_2 (by decide) ?_
  refine lv_istore_n (lv' := [(3, .int 0), (2, .int 0), (0, .ref (ad 1 0)), (1, .int p0)]) hx hb dX11_personsAt_3 rfl hl (by decide) rfl (fun ls hl => ?_)
  obtain ⟨nq, h⟩ := h
  exact bX11_personsAt_4 C  nq _ _ _ _ _ _ _ h hW hS (lv_sub hl [2, 3, 1, 0] rfl)
-- X11 weightOf
def wbX11_weightOf_31 (N : tq_Nn) (post : tq_St → Int32 → Prop) (L4 : tq_St → Int32 → Int32 → Int32 → Prop) (S : tq_St) (x1 : Int32) (x2 : Int32) (x3 : Int32) : Prop :=
  L4 S x1 x2 (x3 + 1)
def wbX11_weightOf_4 (N : tq_Nn) (post : tq_St → Int32 → Prop) : Nat → tq_St → Int32 → Int32 → Int32 → Prop
  | 0, _, _, _, _ => False
  | n + 1, S, x1, x2, x3 =>
    ((S 1 0 2) ≤ x3 → (post S x2)) ∧ (¬ (S 1 0 2) ≤ x3 → ((((x1 >>> (x3 &&& 31)) &&& 1) = 0 → (wbX11_weightOf_31 N post  (wbX11_weightOf_4 N post n) S x1 x2 x3)) ∧ (¬ ((x1 >>> (x3 &&& 31)) &&& 1) = 0 → (vp_in x3 20 ∧ (wbX11_weightOf_31 N post  (wbX11_weightOf_4 N post n) S x1 (x2 + ((S 14 0 x3.toNatClampNeg) + 1)) x3)))))
def wpX11_weightOf (N : tq_Nn) (post : tq_St → Int32 → Prop) (S : tq_St) (p0 : Int32) : Prop :=
  ∃ nq, wbX11_weightOf_4 N post nq S p0 0 0
set_option maxHeartbeats 4000000 in
set_option maxRecDepth 100000 in
theorem bX11_weightOf_31 {p : Program} {e : Env} {s : State} {m : MethodId} {args : Array Value} {below : List Frame} {meth : Method} {c : Code} {post : tq_St → Int32 → Prop} (C : tq_At p s m meth c args cX11_weightOf 4 ((some .int)) ((tq_ws yX11_weightOf cX11_weightOf 4 (some .int))) RX11 D cy z ad) {L4 : tq_St → Int32 → Int32 → Int32 → Prop} (hL4 : ∀ (S : tq_St) (x1 : Int32) (x2 : Int32) (x3 : Int32) (H : Heap) (locs : List Loc) (ls : Array Slot), L4 S x1 x2 x3 → tq_wd D cy z H0 ad N (tq_mix S M) H → va_S (fun q => z ≤ q) s.heap H locs → lv_has ls 4 [(0, .ref (ad 1 0)), (1, .int x1), (2, .int x2), (3, .int x3)] → W p l e (tq_rm 0 0) s m args below meth c H locs 0 0 (MQ below (va_Qi (fun r u => post u r) (fun u => tq_P D cy z H0 ad N u M) (fun q => z ≤ q)) args s 0 0 (fun q => z ≤ q)) (F0 m 4 ls [])) : ∀ (S : tq_St) (x1 : Int32) (x2 : Int32) (x3 : Int32) (H : Heap) (locs : List Loc) (ls : Array Slot), wbX11_weightOf_31 N post  L4 S x1 x2 x3 → tq_wd D cy z H0 ad N (tq_mix S M) H → va_S (fun q => z ≤ q) s.heap H locs → lv_has ls 4 [(0, .ref (ad 1 0)), (1, .int x1), (2, .int x2), (3, .int x3)] → W p l e (tq_rm 0 0) s m args below meth c H locs 0 0 (MQ below (va_Qi (fun r u => post u r) (fun u => tq_P D cy z H0 ad N u M) (fun q => z ≤ q)) args s 0 0 (fun q => z ≤ q)) (F0 m 31 ls []) := by
  obtain ⟨hx, hb, hr, hml, hown, hts, hlocks, hK, hG⟩ := id C
  have hw : ∀ w ∈ tq_W, w.before args s = true := fun w h => hts w (List.mem_cons_of_mem _ h)
  intro S x1 x2 x3 H locs ls h hW hS hl
  unfold wbX11_weightOf_31 at h
  refine lv_iinc (v := x3 + 1) (lv' := [(3, .int (x3 + 1)), (0, .ref (ad 1 0)), (1, .int x1), (2, .int x2)]) hx hb dX11_weightOf_31 hl (k := 3) rfl rfl (by decide) rfl (fun ls hl => ?_)
  refine lv_goto (tgt := 4) hx hb dX11_weightOf_34 (by decide) ?_
  exact hL4 _ _ _ _ _ _ _ h hW hS (lv_sub hl [1, 2, 3, 0] rfl)
set_option maxHeartbeats 4000000 in
set_option maxRecDepth 100000 in
theorem bX11_weightOf_4 {p : Program} {e : Env} {s : State} {m : MethodId} {args : Array Value} {below : List Frame} {meth : Method} {c : Code} {post : tq_St → Int32 → Prop} (C : tq_At p s m meth c args cX11_weightOf 4 ((some .int)) ((tq_ws yX11_weightOf cX11_weightOf 4 (some .int))) RX11 D cy z ad)  : ∀ n : Nat, ∀ (S : tq_St) (x1 : Int32) (x2 : Int32) (x3 : Int32) (H : Heap) (locs : List Loc) (ls : Array Slot), wbX11_weightOf_4 N post   n S x1 x2 x3 → tq_wd D cy z H0 ad N (tq_mix S M) H → va_S (fun q => z ≤ q) s.heap H locs → lv_has ls 4 [(0, .ref (ad 1 0)), (1, .int x1), (2, .int x2), (3, .int x3)] → W p l e (tq_rm 0 0) s m args below meth c H locs 0 0 (MQ below (va_Qi (fun r u => post u r) (fun u => tq_P D cy z H0 ad N u M) (fun q => z ≤ q)) args s 0 0 (fun q => z ≤ q)) (F0 m 4 ls []) := by
  obtain ⟨hx, hb, hr, hml, hown, hts, hlocks, hK, hG⟩ := id C
  have hw : ∀ w ∈ tq_W, w.before args s = true := fun w h => hts w (List.mem_cons_of_mem _ h)
  intro n
  induction n with
  | zero =>
    intro S x1 x2 x3 H locs ls h
    exact absurd h (by unfold wbX11_weightOf_4; exact id)
  | succ n ih =>
    intro S x1 x2 x3 H locs ls h hW hS hl
    unfold wbX11_weightOf_4 at h
    refine lv_iload_n hx hb dX11_weightOf_4 rfl (lv_at hl 3 rfl) ?_
    refine lv_aload_n hx hb dX11_weightOf_5 rfl (lv_at hl 0 rfl) ?_
    refine tqc_get (v := .int (S 1 0 2)) hx hb hw tq_inX11 hown hK hW (by decide) (tq_mk_1 (by decide)) rfl 2 (by decide) (hw _ tw_339) (fun _ h9 => h9) rfl dX11_weightOf_6 ?_
    refine lv_icmp_ge (tgt := 37) hx hb dX11_weightOf_9 (by decide) (fun c1 => ?_) (fun c1 => ?_)
    · have h := h.1 c1
      refine lv_iload_n hx hb dX11_weightOf_37 rfl (lv_at hl 2 rfl) ?_
      exact W.iret (v := x2) hx hb hr (fun t ht hWm => ⟨⟨_, S, rfl, h, tq_pe ht hW⟩, hS.F ht⟩) hS.2.2 dX11_weightOf_38
    · have h := h.2 c1
      refine lv_iload_n hx hb dX11_weightOf_12 rfl (lv_at hl 1 rfl) ?_
      refine lv_iload_n hx hb dX11_weightOf_13 rfl (lv_at hl 3 rfl) ?_
      refine lv_ishr hx hb dX11_weightOf_14 ?_
      refine lv_iconst (v := 1) hx hb dX11_weightOf_15 (by decide) ?_
      refine lv_iand hx hb dX11_weightOf_16 ?_
      refine lv_if_eq (tgt := 31) hx hb dX11_weightOf_17 (by decide) (fun c2 => ?_) (fun c2 => ?_)
      · have h := h.1 c2
        exact bX11_weightOf_31 C (fun M9 a09 a19 a29 H9 q9 ls9 h9 hW9 hS9 hl9 => ih M9 a09 a19 a29 H9 q9 ls9 h9 hW9 hS9 hl9) _ _ _ _ _ _ _ h hW hS (lv_sub hl [0, 1, 2, 3] rfl)
      · have h := h.2 c2
        refine lv_iload_n hx hb dX11_weightOf_20 rfl (lv_at hl 2 rfl) ?_
        refine lv_aload_n hx hb dX11_weightOf_21 rfl (lv_at hl 0 rfl) ?_
        refine tqc_get (v := .ref (ad 14 0)) hx hb hw tq_inX11 hown hK hW (by decide) (tq_mk_1 (by decide)) rfl 4 (by decide) (hw _ tw_341) (fun _ h9 => h9) rfl dX11_weightOf_22 ?_
        refine lv_iload_n hx hb dX11_weightOf_25 rfl (lv_at hl 3 rfl) ?_
        obtain ⟨b3, h⟩ := h
        refine tqc_iald (jn := x3.toNatClampNeg) hx hb hK hW (by decide) (tq_mk_14 (by decide)) b3 rfl dX11_weightOf_26 ?_
        refine lv_iconst (v := 1) hx hb dX11_weightOf_27 (by decide) ?_
        refine lv_iadd hx hb dX11_weightOf_28 ?_
        refine lv_iadd hx hb dX11_weightOf_29 ?_
        refine lv_istore_n (lv' := [(2, .int (x2 + ((S 14 0 x3.toNatClampNeg) + 1))), (0, .ref (ad 1 0)), (1, .int x1), (3, .int x3)]) hx hb dX11_weightOf_30 rfl hl (by decide) rfl (fun ls hl => ?_)
        exact bX11_weightOf_31 C (fun M9 a09 a19 a29 H9 q9 ls9 h9 hW9 hS9 hl9 => ih M9 a09 a19 a29 H9 q9 ls9 h9 hW9 hS9 hl9) _ _ _ _ _ _ _ h hW hS (lv_sub hl [1, 2, 0, 3] rfl)
set_option maxHeartbeats 4000000 in
set_option maxRecDepth 100000 in
theorem kX11_weightOf {post : tq_St → Int32 → Prop} {S : tq_St} {p0 : Int32} (h : wpX11_weightOf N post S p0) : tq_sI l yX11_weightOf (tq_ws yX11_weightOf cX11_weightOf 4 (some .int)) 0 0 D cy z H0 ad N M S [.ref (ad 1 0), .int p0] post := by
  unfold wpX11_weightOf at h
  refine Met.ofW (cc := cX11_weightOf) (maxL := 4) (ret := (some .int)) (by decide) rfl ?_
  intro p e s m args below meth c s₁ B hml hv
  obtain ⟨rfl, hW, hK, hG⟩ := hv
  have hx := B.exec
  have hb := B.bytes
  have hr := B.returns
  have hts := atoms_spec (ws := (tq_ws yX11_weightOf cX11_weightOf 4 (some .int))) B.pre
  have hw : ∀ w ∈ tq_W, w.before _ s = true := fun w h => hts w (List.mem_cons_of_mem _ h)
  have hown : s.vm.findClass RX11 = some m.cls := findClass_of_methodNamed B.named
  have hlocks := B.notSynchronized
  have C : tq_At p s m meth c [.ref (ad 1 0), .int p0].toArray cX11_weightOf 4 ((some .int)) ((tq_ws yX11_weightOf cX11_weightOf 4 (some .int))) RX11 D cy z ad := ⟨hx, hb, hr, hml, hown, hts, hlocks, hK, hG⟩
  have hS : va_S (fun q => z ≤ q) s.heap s.heap [] := va_S.rf
  have hl := lv_entry ([.ref (ad 1 0), .int p0]) (n := 4) (Nat.le_of_ble_eq_true rfl)
  rw [lg_entry_eq]
  generalize (lg_sl ([.ref (ad 1 0), .int p0]) ++ List.replicate (4 - (lg_sl ([.ref (ad 1 0), .int p0])).length) Slot.unset).toArray = ls at hl ⊢
  have hl : lv_has ls 4 [(0, .ref (ad 1 0)), (1, .int p0)] := hl
  have hW : tq_wd D cy z H0 ad N (tq_mix S M) s.heap := hW
  refine lv_iconst (v := 0) hx hb dX11_weightOf_0 (by decide) ?_
  refine lv_istore_n (lv' := [(2, .int 0), (0, .ref (ad 1 0)), (1, .int p0)]) hx hb dX11_weightOf_1 rfl hl (by decide) rfl (fun ls hl => ?_)
  refine lv_iconst (v := 0) hx hb dX11_weightOf_2 (by decide) ?_
  refine lv_istore_n (lv' := [(3, .int 0), (2, .int 0), (0, .ref (ad 1 0)), (1, .int p0)]) hx hb dX11_weightOf_3 rfl hl (by decide) rfl (fun ls hl => ?_)
  obtain ⟨nq, h⟩ := h
  exact bX11_weightOf_4 C  nq _ _ _ _ _ _ _ h hW hS (lv_sub hl [2, 3, 1, 0] rfl)
