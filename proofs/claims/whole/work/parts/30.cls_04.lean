variable {l : Launch} {D : va_G} {cy : Nat → ClassId} {z : Nat} {H0 : Heap} {ad : Nat → Nat → Nat} {N : tq_Nn} {M : tq_St}
-- X11 isInForce
def wbX11_isInForce_32 (N : tq_Nn) (post : tq_St → Int32 → Prop)  (S : tq_St) (y0 : Int32) : Prop :=
  narrow .boolean (.int y0) = .int y0 ∧ post S y0
def wbX11_isInForce_31 (N : tq_Nn) (post : tq_St → Int32 → Prop)  (S : tq_St) : Prop :=
  wbX11_isInForce_32 N post S 0
def wpX11_isInForce (N : tq_Nn) (post : tq_St → Int32 → Prop) (S : tq_St) (p0 : Int32) (p1 : Int32) : Prop :=
  wpX11_isFactory N (fun S1 r2 => (r2 = 0 → (wbX11_isInForce_31 N post S1 )) ∧ (¬ r2 = 0 → ((p1 < 0 → (wbX11_isInForce_31 N post S1 )) ∧ (¬ p1 < 0 → (vp_in p0 5 ∧ (((S1 38 p0.toNatClampNeg 2) ≤ p1 → (wbX11_isInForce_31 N post S1 )) ∧ (¬ (S1 38 p0.toNatClampNeg 2) ≤ p1 → (wbX11_isInForce_32 N post S1 1)))))))) S p0
set_option maxHeartbeats 4000000 in
set_option maxRecDepth 100000 in
theorem bX11_isInForce_32 {p : Program} {e : Env} {s : State} {m : MethodId} {args : Array Value} {below : List Frame} {meth : Method} {c : Code} {post : tq_St → Int32 → Prop} (C : tq_At p s m meth c args cX11_isInForce 3 ((some .boolean)) ((tq_ws yX11_isInForce cX11_isInForce 3 (some .boolean))) RX11 D cy z ad)  : ∀ (S : tq_St) (y0 : Int32) (H : Heap) (locs : List Loc) (ls : Array Slot), wbX11_isInForce_32 N post   S y0 → tq_wd D cy z H0 ad N (tq_mix S M) H → va_S (fun q => z ≤ q) s.heap H locs → lv_has ls 3 [] → W p l e (tq_rm 1 20) s m args below meth c H locs 0 0 (MQ below (va_Qi (fun r u => post u r) (fun u => tq_P D cy z H0 ad N u M) (fun q => z ≤ q)) args s 0 0 (fun q => z ≤ q)) (F0 m 32 ls [.int y0]) := by
  obtain ⟨hx, hb, hr, hml, hown, hts, hlocks, hK, hG⟩ := id C
  have hw : ∀ w ∈ tq_W, w.before args s = true := fun w h => hts w (List.mem_cons_of_mem _ h)
  intro S y0 H locs ls h hW hS hl
  unfold wbX11_isInForce_32 at h
  obtain ⟨b9, h⟩ := h
  exact W.zret (v := y0) hx hb hr b9 (fun t ht hWm => ⟨⟨_, S, rfl, h, tq_pe ht hW⟩, hS.F ht⟩) hS.2.2 dX11_isInForce_32
set_option maxHeartbeats 4000000 in
set_option maxRecDepth 100000 in
theorem bX11_isInForce_31 {p : Program} {e : Env} {s : State} {m : MethodId} {args : Array Value} {below : List Frame} {meth : Method} {c : Code} {post : tq_St → Int32 → Prop} (C : tq_At p s m meth c args cX11_isInForce 3 ((some .boolean)) ((tq_ws yX11_isInForce cX11_isInForce 3 (some .boolean))) RX11 D cy z ad)  : ∀ (S : tq_St)  (H : Heap) (locs : List Loc) (ls : Array Slot), wbX11_isInForce_31 N post   S  → tq_wd D cy z H0 ad N (tq_mix S M) H → va_S (fun q => z ≤ q) s.heap H locs → lv_has ls 3 [] → W p l e (tq_rm 1 20) s m args below meth c H locs 0 0 (MQ below (va_Qi (fun r u => post u r) (fun u => tq_P D cy z H0 ad N u M) (fun q => z ≤ q)) args s 0 0 (fun q => z ≤ q)) (F0 m 31 ls []) := by
  obtain ⟨hx, hb, hr, hml, hown, hts, hlocks, hK, hG⟩ := id C
  have hw : ∀ w ∈ tq_W, w.before args s = true := fun w h => hts w (List.mem_cons_of_mem _ h)
  intro S  H locs ls h hW hS hl
  unfold wbX11_isInForce_31 at h
  refine lv_iconst (v := 0) hx hb dX11_isInForce_31 (by decide) ?_
  exact bX11_isInForce_32 C  _ _ _ _ _ h hW hS (lv_sub hl [] rfl)
set_option maxHeartbeats 4000000 in
set_option maxRecDepth 100000 in
theorem kX11_isInForce {post : tq_St → Int32 → Prop} {S : tq_St} {p0 : Int32} {p1 : Int32} (h : wpX11_isInForce N post S p0 p1) : tq_sI l yX11_isInForce (tq_ws yX11_isInForce cX11_isInForce 3 (some .boolean)) 1 20 D cy z H0 ad N M S [.ref (ad 1 0), .int p0, .int p1] post := by
  unfold wpX11_isInForce at h
  refine Met.ofW (cc := cX11_isInForce) (maxL := 3) (ret := (some .boolean)) (by decide) rfl ?_
  intro p e s m args below meth c s₁ B hml hv
  obtain ⟨rfl, hW, hK, hG⟩ := hv
  have hx := B.exec
  have hb := B.bytes
  have hr := B.returns
  have hts := atoms_spec (ws := (tq_ws yX11_isInForce cX11_isInForce 3 (some .boolean))) B.pre
  have hw : ∀ w ∈ tq_W, w.before _ s = true := fun w h => hts w (List.mem_cons_of_mem _ h)
  have hown : s.vm.findClass RX11 = some m.cls := findClass_of_methodNamed B.named
  have hlocks := B.notSynchronized
  have C : tq_At p s m meth c [.ref (ad 1 0), .int p0, .int p1].toArray cX11_isInForce 3 ((some .boolean)) ((tq_ws yX11_isInForce cX11_isInForce 3 (some .boolean))) RX11 D cy z ad := ⟨hx, hb, hr, hml, hown, hts, hlocks, hK, hG⟩
  have hS : va_S (fun q => z ≤ q) s.heap s.heap [] := va_S.rf
  have hl := lv_entry ([.ref (ad 1 0), .int p0, .int p1]) (n := 3) (Nat.le_of_ble_eq_true rfl)
  rw [lg_entry_eq]
  generalize (lg_sl ([.ref (ad 1 0), .int p0, .int p1]) ++ List.replicate (3 - (lg_sl ([.ref (ad 1 0), .int p0, .int p1])).length) Slot.unset).toArray = ls at hl ⊢
  have hl : lv_has ls 3 [(0, .ref (ad 1 0)), (1, .int p0), (2, .int p1)] := hl
  have hW : tq_wd D cy z H0 ad N (tq_mix S M) s.heap := hW
  refine lv_iload_n hx hb dX11_isInForce_0 rfl (lv_at hl 1 rfl) ?_
  refine tqc_callSi (As := [.int p0]) (rest := []) (kX11_isFactory h) ⟨hx, hb, hml, hown, hts⟩ (va_cwS 1 hts (tq_goodS tw_402 tw_403 tw_115 tw_404) rfl rfl rfl (by decide +kernel) ⟨(Nat.le_of_ble_eq_true rfl), (Nat.le_of_ble_eq_true rfl)⟩) hK hG hW hS rfl hl.1 rfl (Nat.le_of_ble_eq_true rfl) dX11_isInForce_1 ⟨(Nat.le_of_ble_eq_true rfl), (Nat.le_of_ble_eq_true rfl)⟩ (fun r2 S1 H locs h hW hS => ?_)
  refine lv_if_eq (tgt := 31) hx hb dX11_isInForce_4 (by decide) (fun c3 => ?_) (fun c3 => ?_)
  · have h := h.1 c3
    exact bX11_isInForce_31 C  _  _ _ _ h hW hS (lv_sub hl [] rfl)
  · have h := h.2 c3
    refine lv_iload_n hx hb dX11_isInForce_7 rfl (lv_at hl 2 rfl) ?_
    refine lv_if_lt (tgt := 31) hx hb dX11_isInForce_8 (by decide) (fun c4 => ?_) (fun c4 => ?_)
    · have h := h.1 c4
      exact bX11_isInForce_31 C  _  _ _ _ h hW hS (lv_sub hl [] rfl)
    · have h := h.2 c4
      refine lv_iload_n hx hb dX11_isInForce_11 rfl (lv_at hl 2 rfl) ?_
      refine lv_aload_n hx hb dX11_isInForce_12 rfl (lv_at hl 0 rfl) ?_
      refine tqc_get (v := .ref (ad 12 0)) hx hb hw tq_inX11 hown hK hW (by decide) (tq_mk_1 (by decide)) rfl 1 (by decide) (hw _ tw_338) (fun _ h9 => h9) rfl dX11_isInForce_13 ?_
      refine lv_iload_n hx hb dX11_isInForce_16 rfl (lv_at hl 1 rfl) ?_
      obtain ⟨b5, h⟩ := h
      refine tqc_aald (jn := p0.toNatClampNeg) (v := .ref (ad 2 p0.toNatClampNeg)) hx hb hK hW (by decide) (tq_mk_12 (by decide)) 3 rfl rfl b5 rfl rfl dX11_isInForce_17 ?_
      refine tqc_get (v := .ref (ad 38 p0.toNatClampNeg)) hx hb hw tq_inX5 hown hK hW (by decide) (tq_mk_2 (tq_lt b5)) rfl 13 (by decide) (hw _ tw_277) (fun _ h9 => h9) rfl dX11_isInForce_18 ?_
      refine tqc_callVi (As := []) (rest := [.int p1]) (kJl_size (post := fun u r => u = S1 ∧ r = S1 38 p0.toNatClampNeg 2) (by decide) (tq_mk_38 (tq_lt b5)) ⟨rfl, rfl⟩) ⟨hx, hb, hml, hown, hts⟩ (cwV 0 hts (tq_goodV tw_484 tw_485 tw_486 tw_118 tw_487) rfl rfl rfl (by decide +kernel) ⟨(Nat.le_of_ble_eq_true rfl), (Nat.le_of_ble_eq_true rfl)⟩) (tq_recvL hK hW (by decide) (tq_mk_38 (tq_lt b5))) hK hG hW hS rfl hl.1 rfl (Nat.le_of_ble_eq_true rfl) dX11_isInForce_21 ⟨(Nat.le_of_ble_eq_true rfl), (Nat.le_of_ble_eq_true rfl)⟩ (fun r7 S6 H locs q9 hW hS => ?_)
      rw [q9.1] at hW
      rw [q9.2]
      refine lv_icmp_ge (tgt := 31) hx hb dX11_isInForce_24 (by decide) (fun c8 => ?_) (fun c8 => ?_)
      · have h := h.1 c8
        exact bX11_isInForce_31 C  _  _ _ _ h hW hS (lv_sub hl [] rfl)
      · have h := h.2 c8
        refine lv_iconst (v := 1) hx hb dX11_isInForce_27 (by decide) ?_
        refine lv_goto (tgt := 32) hx hb dX11_isInForce_28 (by decide) ?_
        exact bX11_isInForce_32 C  _ _ _ _ _ h hW hS (lv_sub hl [] rfl)
-- X11 billAt
def wbX11_billAt_31 (N : tq_Nn) (post0 : tq_St → Prop) (post : tq_St → Nat → Prop)  (S : tq_St) : Prop :=
  post0 S
def wpX11_billAt (N : tq_Nn) (post0 : tq_St → Prop) (post : tq_St → Nat → Prop) (S : tq_St) (p0 : Int32) : Prop :=
  wpX11_isPaper N (fun S1 r2 => (r2 = 0 → (wbX11_billAt_31 N post0 post S1 )) ∧ (¬ r2 = 0 → (tq_gok N S1 15 16 0 p0 ∧ (N 7 (tq_el S1 15 16 0 p0) = 1 ∧ ((S1 7 (tq_el S1 15 16 0 p0) 13 = 0 → ((((0 : Int32)) = 0 → (wbX11_billAt_31 N post0 post S1 )) ∧ (¬ ((0 : Int32)) = 0 → (¬ S1 7 (tq_el S1 15 16 0 p0) 13 = 0 ∧ (post S1 (tq_el S1 15 16 0 p0)))))) ∧ (¬ S1 7 (tq_el S1 15 16 0 p0) 13 = 0 → ((((1 : Int32)) = 0 → (wbX11_billAt_31 N post0 post S1 )) ∧ (¬ ((1 : Int32)) = 0 → (post S1 (tq_el S1 15 16 0 p0)))))))))) S p0
set_option maxHeartbeats 4000000 in
set_option maxRecDepth 100000 in
theorem bX11_billAt_31 {p : Program} {e : Env} {s : State} {m : MethodId} {args : Array Value} {below : List Frame} {meth : Method} {c : Code} {post0 : tq_St → Prop} {post : tq_St → Nat → Prop} (C : tq_At p s m meth c args cX11_billAt 4 ((some (.object "TwoSeas$Bill"))) ((tq_ws yX11_billAt cX11_billAt 4 (some (.object "TwoSeas$Bill")))) RX11 D cy z ad)  : ∀ (S : tq_St)  (H : Heap) (locs : List Loc) (ls : Array Slot), wbX11_billAt_31 N post0 post   S  → tq_wd D cy z H0 ad N (tq_mix S M) H → va_S (fun q => z ≤ q) s.heap H locs → lv_has ls 4 [] → W p l e (tq_rm 3 64) s m args below meth c H locs 0 0 (MQ below (va_Qq (fun r (u : tq_St) => (r = none ∧ post0 u) ∨ ∃ i : Nat, r = some (ad 7 i) ∧ post u i) (fun u => tq_P D cy z H0 ad N u M) (fun q => z ≤ q)) args s 0 0 (fun q => z ≤ q)) (F0 m 31 ls []) := by
  obtain ⟨hx, hb, hr, hml, hown, hts, hlocks, hK, hG⟩ := id C
  have hw : ∀ w ∈ tq_W, w.before args s = true := fun w h => hts w (List.mem_cons_of_mem _ h)
  intro S  H locs ls h hW hS hl
  unfold wbX11_billAt_31 at h
  refine lv_null hx hb dX11_billAt_31 ?_
  exact W.aret (v := .null) hx hb hr (Or.inl ⟨_, rfl⟩) (Or.inl rfl) (fun t ht hWm => ⟨⟨none, S, rfl, Or.inl ⟨rfl, h⟩, tq_pe ht hW⟩, hS.F ht⟩) hS.2.2 dX11_billAt_32
set_option maxHeartbeats 4000000 in
set_option maxRecDepth 100000 in
theorem kX11_billAt {post0 : tq_St → Prop} {post : tq_St → Nat → Prop} {S : tq_St} {p0 : Int32} (h : wpX11_billAt N post0 post S p0) : tq_sN 7 l yX11_billAt (tq_ws yX11_billAt cX11_billAt 4 (some (.object "TwoSeas$Bill"))) 3 64 D cy z H0 ad N M S [.ref (ad 1 0), .int p0] post0 post := by
  unfold wpX11_billAt at h
  refine Met.ofW (cc := cX11_billAt) (maxL := 4) (ret := (some (.object "TwoSeas$Bill"))) (by decide) rfl ?_
  intro p e s m args below meth c s₁ B hml hv
  obtain ⟨rfl, hW, hK, hG⟩ := hv
  have hx := B.exec
  have hb := B.bytes
  have hr := B.returns
  have hts := atoms_spec (ws := (tq_ws yX11_billAt cX11_billAt 4 (some (.object "TwoSeas$Bill")))) B.pre
  have hw : ∀ w ∈ tq_W, w.before _ s = true := fun w h => hts w (List.mem_cons_of_mem _ h)
  have hown : s.vm.findClass RX11 = some m.cls := findClass_of_methodNamed B.named
  have hlocks := B.notSynchronized
  have C : tq_At p s m meth c [.ref (ad 1 0), .int p0].toArray cX11_billAt 4 ((some (.object "TwoSeas$Bill"))) ((tq_ws yX11_billAt cX11_billAt 4 (some (.object "TwoSeas$Bill")))) RX11 D cy z ad := ⟨hx, hb, hr, hml, hown, hts, hlocks, hK, hG⟩
  have hS : va_S (fun q => z ≤ q) s.heap s.heap [] := va_S.rf
  have hl := lv_entry ([.ref (ad 1 0), .int p0]) (n := 4) (Nat.le_of_ble_eq_true rfl)
  rw [lg_entry_eq]
  generalize (lg_sl ([.ref (ad 1 0), .int p0]) ++ List.replicate (4 - (lg_sl ([.ref (ad 1 0), .int p0])).length) Slot.unset).toArray = ls at hl ⊢
  have hl : lv_has ls 4 [(0, .ref (ad 1 0)), (1, .int p0)] := hl
  have hW : tq_wd D cy z H0 ad N (tq_mix S M) s.heap := hW
  refine lv_aload_n hx hb dX11_billAt_0 rfl (lv_at hl 0 rfl) ?_
  refine lv_iload_n hx hb dX11_billAt_1 rfl (lv_at hl 1 rfl) ?_
  refine tqc_callVi (As := [.int p0]) (rest := []) (kX11_isPaper h) ⟨hx, hb, hml, hown, hts⟩ (cwV 1 hts (tq_goodV tw_819 tw_821 tw_18 tw_115 tw_822) rfl rfl rfl (by decide +kernel) ⟨(Nat.le_of_ble_eq_true rfl), (Nat.le_of_ble_eq_true rfl)⟩) (tq_recvC hK hW (by decide) (tq_mk_1 (by decide)) rfl) hK hG hW hS rfl hl.1 rfl (Nat.le_of_ble_eq_true rfl) dX11_billAt_2 ⟨(Nat.le_of_ble_eq_true rfl), (Nat.le_of_ble_eq_true rfl)⟩ (fun r2 S1 H locs h hW hS => ?_)
  refine lv_if_eq (tgt := 31) hx hb dX11_billAt_5 (by decide) (fun c3 => ?_) (fun c3 => ?_)
  · have h := h.1 c3
    exact bX11_billAt_31 C  _  _ _ _ h hW hS (lv_sub hl [] rfl)
  · have h := h.2 c3
    refine lv_aload_n hx hb dX11_billAt_8 rfl (lv_at hl 0 rfl) ?_
    refine tqc_get (v := .ref (ad 15 0)) hx hb hw tq_inX11 hown hK hW (by decide) (tq_mk_1 (by decide)) rfl 5 (by decide) (hw _ tw_342) (fun _ h9 => h9) rfl dX11_billAt_9 ?_
    refine lv_iload_n hx hb dX11_billAt_12 rfl (lv_at hl 1 rfl) ?_
    obtain ⟨b6, h⟩ := h
    refine tqc_callVr (kr := 7) (As := [.int p0]) (rest := []) (kJl_get (kd := 16) (post := fun u i => u = S1 ∧ i = tq_el S1 15 16 0 p0) (by decide) (by decide) (tq_mk_15 (by decide)) (fun q9 => tq_mk_16 q9) b6 ⟨rfl, rfl⟩) ⟨hx, hb, hml, hown, hts⟩ (cwV 1 hts (tq_goodV tw_827 tw_828 tw_829 tw_118 tw_830) rfl rfl rfl (by decide +kernel) ⟨(Nat.le_of_ble_eq_true rfl), (Nat.le_of_ble_eq_true rfl)⟩) (tq_recvL hK hW (by decide) (tq_mk_15 (by decide))) hK hG hW hS rfl hl.1 rfl (Nat.le_of_ble_eq_true rfl) dX11_billAt_13 ⟨(Nat.le_of_ble_eq_true rfl), (Nat.le_of_ble_eq_true rfl)⟩ (fun i5 S4 H locs q9 hW hS => ?_)
    rw [q9.1] at hW
    rw [q9.2]
    refine lv_astore_n (lv' := [(3, .ref (ad 7 (tq_el S1 15 16 0 p0))), (0, .ref (ad 1 0)), (1, .int p0)]) hx hb dX11_billAt_16 rfl hl (by decide) rfl (fun ls hl => ?_)
    refine lv_aload_n hx hb dX11_billAt_17 rfl (lv_at hl 0 rfl) ?_
    obtain ⟨b7, h⟩ := h
    by_cases c8 : S1 7 (tq_el S1 15 16 0 p0) 13 = 0
    · have h := h.1 c8
      refine va_instNo hx hb hown (hw _ tw_1114) hG.2.2.2.2.2.2.2.2.2.2.2.2.2.1 (tq_recvC hK hW (by decide) (tq_mk_7 b7 c8) rfl) dX11_billAt_18 ?_
      refine lv_if_eq (tgt := 31) hx hb dX11_billAt_21 (by decide) (fun c9 => ?_) (fun c9 => ?_)
      · have h := h.1 c9
        exact bX11_billAt_31 C  _  _ _ _ h hW hS (lv_sub hl [] rfl)
      · have h := h.2 c9
        refine lv_aload_n hx hb dX11_billAt_24 rfl (lv_at hl 0 rfl) ?_
        obtain ⟨b10, h⟩ := h
        refine va_castS hx hb hown (hw _ tw_1114) (hK.1 2 _ rfl).2 (tq_recvC hK hW (by decide) (tq_mk_7b b7 b10) rfl) dX11_billAt_25 ?_
        refine lv_astore_n (lv' := [(2, .ref (ad 7 (tq_el S1 15 16 0 p0))), (3, .ref (ad 7 (tq_el S1 15 16 0 p0))), (0, .ref (ad 1 0)), (1, .int p0)]) hx hb dX11_billAt_28 rfl hl (by decide) rfl (fun ls hl => ?_)
        refine lv_aload_n hx hb dX11_billAt_29 rfl (lv_at hl 0 rfl) ?_
        exact W.aret (v := .ref (ad 7 (tq_el S1 15 16 0 p0))) hx hb hr (Or.inl ⟨_, rfl⟩) (Or.inr ⟨_, rfl⟩) (fun t ht hWm => ⟨⟨some (ad 7 (tq_el S1 15 16 0 p0)), S1, rfl, Or.inr ⟨_, rfl, h⟩, tq_pe ht hW⟩, hS.F ht⟩) hS.2.2 dX11_billAt_30
    · have h := h.2 c8
      refine va_instS hx hb hown (hw _ tw_1114) (hK.1 2 _ rfl).2 (tq_recvC hK hW (by decide) (tq_mk_7b b7 c8) rfl) dX11_billAt_18 ?_
      refine lv_if_eq (tgt := 31) hx hb dX11_billAt_21 (by decide) (fun c11 => ?_) (fun c11 => ?_)
      · have h := h.1 c11
        exact bX11_billAt_31 C  _  _ _ _ h hW hS (lv_sub hl [] rfl)
      · have h := h.2 c11
        refine lv_aload_n hx hb dX11_billAt_24 rfl (lv_at hl 0 rfl) ?_
        refine va_castS hx hb hown (hw _ tw_1114) (hK.1 2 _ rfl).2 (tq_recvC hK hW (by decide) (tq_mk_7b b7 c8) rfl) dX11_billAt_25 ?_
        refine lv_astore_n (lv' := [(2, .ref (ad 7 (tq_el S1 15 16 0 p0))), (3, .ref (ad 7 (tq_el S1 15 16 0 p0))), (0, .ref (ad 1 0)), (1, .int p0)]) hx hb dX11_billAt_28 rfl hl (by decide) rfl (fun ls hl => ?_)
        refine lv_aload_n hx hb dX11_billAt_29 rfl (lv_at hl 0 rfl) ?_
        exact W.aret (v := .ref (ad 7 (tq_el S1 15 16 0 p0))) hx hb hr (Or.inl ⟨_, rfl⟩) (Or.inr ⟨_, rfl⟩) (fun t ht hWm => ⟨⟨some (ad 7 (tq_el S1 15 16 0 p0)), S1, rfl, Or.inr ⟨_, rfl, h⟩, tq_pe ht hW⟩, hS.F ht⟩) hS.2.2 dX11_billAt_30
-- X11 entriesKept
def wpX11_entriesKept (N : tq_Nn) (post : tq_St → Int32 → Prop) (S : tq_St)  : Prop :=
  post S (if 500 < (S 1 0 10) then 500 else (S 1 0 10))
set_option maxHeartbeats 4000000 in
set_option maxRecDepth 100000 in
theorem kX11_entriesKept {post : tq_St → Int32 → Prop} {S : tq_St}  (h : wpX11_entriesKept N post S ) : tq_sI l yX11_entriesKept (tq_ws yX11_entriesKept cX11_entriesKept 1 (some .int)) 1 21 D cy z H0 ad N M S [.ref (ad 1 0)] post := by
  unfold wpX11_entriesKept at h
  refine Met.ofW (cc := cX11_entriesKept) (maxL := 1) (ret := (some .int)) (by decide) rfl ?_
  intro p e s m args below meth c s₁ B hml hv
  obtain ⟨rfl, hW, hK, hG⟩ := hv
  have hx := B.exec
  have hb := B.bytes
  have hr := B.returns
  have hts := atoms_spec (ws := (tq_ws yX11_entriesKept cX11_entriesKept 1 (some .int))) B.pre
  have hw : ∀ w ∈ tq_W, w.before _ s = true := fun w h => hts w (List.mem_cons_of_mem _ h)
  have hown : s.vm.findClass RX11 = some m.cls := findClass_of_methodNamed B.named
  have hlocks := B.notSynchronized
  have C : tq_At p s m meth c [.ref (ad 1 0)].toArray cX11_entriesKept 1 ((some .int)) ((tq_ws yX11_entriesKept cX11_entriesKept 1 (some .int))) RX11 D cy z ad := ⟨hx, hb, hr, hml, hown, hts, hlocks, hK, hG⟩
  have hS : va_S (fun q => z ≤ q) s.heap s.heap [] := va_S.rf
  have hl := lv_entry ([.ref (ad 1 0)]) (n := 1) (Nat.le_of_ble_eq_true rfl)
  rw [lg_entry_eq]
  generalize (lg_sl ([.ref (ad 1 0)]) ++ List.replicate (1 - (lg_sl ([.ref (ad 1 0)])).length) Slot.unset).toArray = ls at hl ⊢
  have hl : lv_has ls 1 [(0, .ref (ad 1 0))] := hl
  have hW : tq_wd D cy z H0 ad N (tq_mix S M) s.heap := hW
  refine lv_aload_n hx hb dX11_entriesKept_0 rfl (lv_at hl 0 rfl) ?_
  refine tqc_get (v := .int (S 1 0 10)) hx hb hw tq_inX11 hown hK hW (by decide) (tq_mk_1 (by decide)) rfl 10 (by decide) (hw _ tw_347) (fun _ h9 => h9) rfl dX11_entriesKept_1 ?_
  refine lv_sipush (v := 500) hx hb dX11_entriesKept_4 (by decide) ?_
  refine va_mmin hx hb (hml.trans hl.1.symm) hown (hw _ tw_1167) (hw _ tw_797) (hw _ tw_132) (hw _ tw_798) (Nat.le_of_ble_eq_true rfl) (Nat.le_of_ble_eq_true rfl) (Nat.zero_le _) (Nat.zero_le _) dX11_entriesKept_7 ?_
  exact W.iret (v := if 500 < (S 1 0 10) then 500 else (S 1 0 10)) hx hb hr (fun t ht hWm => ⟨⟨_, S, rfl, h, tq_pe ht hW⟩, hS.F ht⟩) hS.2.2 dX11_entriesKept_10
-- X11 hasRoomForPapers
def wbX11_hasRoomForPapers_20 (N : tq_Nn) (post : tq_St → Int32 → Prop)  (S : tq_St) (y0 : Int32) : Prop :=
  narrow .boolean (.int y0) = .int y0 ∧ post S y0
def wpX11_hasRoomForPapers (N : tq_Nn) (post : tq_St → Int32 → Prop) (S : tq_St) (p0 : Int32) : Prop :=
  (150 < ((S 15 0 2) + p0) → (wbX11_hasRoomForPapers_20 N post S 0)) ∧ (¬ 150 < ((S 15 0 2) + p0) → (wbX11_hasRoomForPapers_20 N post S 1))
set_option maxHeartbeats 4000000 in
set_option maxRecDepth 100000 in
theorem bX11_hasRoomForPapers_20 {p : Program} {e : Env} {s : State} {m : MethodId} {args : Array Value} {below : List Frame} {meth : Method} {c : Code} {post : tq_St → Int32 → Prop} (C : tq_At p s m meth c args cX11_hasRoomForPapers 2 ((some .boolean)) ((tq_ws yX11_hasRoomForPapers cX11_hasRoomForPapers 2 (some .boolean))) RX11 D cy z ad)  : ∀ (S : tq_St) (y0 : Int32) (H : Heap) (locs : List Loc) (ls : Array Slot), wbX11_hasRoomForPapers_20 N post   S y0 → tq_wd D cy z H0 ad N (tq_mix S M) H → va_S (fun q => z ≤ q) s.heap H locs → lv_has ls 2 [] → W p l e (tq_rm 1 20) s m args below meth c H locs 0 0 (MQ below (va_Qi (fun r u => post u r) (fun u => tq_P D cy z H0 ad N u M) (fun q => z ≤ q)) args s 0 0 (fun q => z ≤ q)) (F0 m 20 ls [.int y0]) := by
  obtain ⟨hx, hb, hr, hml, hown, hts, hlocks, hK, hG⟩ := id C
  have hw : ∀ w ∈ tq_W, w.before args s = true := fun w h => hts w (List.mem_cons_of_mem _ h)
  intro S y0 H locs ls h hW hS hl
  unfold wbX11_hasRoomForPapers_20 at h
  obtain ⟨b4, h⟩ := h
  exact W.zret (v := y0) hx hb hr b4 (fun t ht hWm => ⟨⟨_, S, rfl, h, tq_pe ht hW⟩, hS.F ht⟩) hS.2.2 dX11_hasRoomForPapers_20
set_option maxHeartbeats 4000000 in
set_option maxRecDepth 100000 in
theorem kX11_hasRoomForPapers {post : tq_St → Int32 → Prop} {S : tq_St} {p0 : Int32} (h : wpX11_hasRoomForPapers N post S p0) : tq_sI l yX11_hasRoomForPapers (tq_ws yX11_hasRoomForPapers cX11_hasRoomForPapers 2 (some .boolean)) 1 20 D cy z H0 ad N M S [.ref (ad 1 0), .int p0] post := by
  unfold wpX11_hasRoomForPapers at h
  refine Met.ofW (cc := cX11_hasRoomForPapers) (maxL := 2) (ret := (some .boolean)) (by decide) rfl ?_
  intro p e s m args below meth c s₁ B hml hv
  obtain ⟨rfl, hW, hK, hG⟩ := hv
  have hx := B.exec
  have hb := B.bytes
  have hr := B.returns
  have hts := atoms_spec (ws := (tq_ws yX11_hasRoomForPapers cX11_hasRoomForPapers 2 (some .boolean))) B.pre
  have hw : ∀ w ∈ tq_W, w.before _ s = true := fun w h => hts w (List.mem_cons_of_mem _ h)
  have hown : s.vm.findClass RX11 = some m.cls := findClass_of_methodNamed B.named
  have hlocks := B.notSynchronized
  have C : tq_At p s m meth c [.ref (ad 1 0), .int p0].toArray cX11_hasRoomForPapers 2 ((some .boolean)) ((tq_ws yX11_hasRoomForPapers cX11_hasRoomForPapers 2 (some .boolean))) RX11 D cy z ad := ⟨hx, hb, hr, hml, hown, hts, hlocks, hK, hG⟩
  have hS : va_S (fun q => z ≤ q) s.heap s.heap [] := va_S.rf
  have hl := lv_entry ([.ref (ad 1 0), .int p0]) (n := 2) (Nat.le_of_ble_eq_true rfl)
  rw [lg_entry_eq]
  generalize (lg_sl ([.ref (ad 1 0), .int p0]) ++ List.replicate (2 - (lg_sl ([.ref (ad 1 0), .int p0])).length) Slot.unset).toArray = ls at hl ⊢
  have hl : lv_has ls 2 [(0, .ref (ad 1 0)), (1, .int p0)] := hl
  have hW : tq_wd D cy z H0 ad N (tq_mix S M) s.heap := hW
  refine lv_aload_n hx hb dX11_hasRoomForPapers_0 rfl (lv_at hl 0 rfl) ?_
  refine tqc_get (v := .ref (ad 15 0)) hx hb hw tq_inX11 hown hK hW (by decide) (tq_mk_1 (by decide)) rfl 5 (by decide) (hw _ tw_342) (fun _ h9 => h9) rfl dX11_hasRoomForPapers_1 ?_
  refine tqc_callVi (As := []) (rest := []) (kJl_size (post := fun u r => u = S ∧ r = S 15 0 2) (by decide) (tq_mk_15 (by decide)) ⟨rfl, rfl⟩) ⟨hx, hb, hml, hown, hts⟩ (cwV 0 hts (tq_goodV tw_484 tw_485 tw_486 tw_118 tw_487) rfl rfl rfl (by decide +kernel) ⟨(Nat.le_of_ble_eq_true rfl), (Nat.le_of_ble_eq_true rfl)⟩) (tq_recvL hK hW (by decide) (tq_mk_15 (by decide))) hK hG hW hS rfl hl.1 rfl (Nat.le_of_ble_eq_true rfl) dX11_hasRoomForPapers_4 ⟨(Nat.le_of_ble_eq_true rfl), (Nat.le_of_ble_eq_true rfl)⟩ (fun r2 S1 H locs q9 hW hS => ?_)
  rw [q9.1] at hW
  rw [q9.2]
  refine lv_iload_n hx hb dX11_hasRoomForPapers_7 rfl (lv_at hl 1 rfl) ?_
  refine lv_iadd hx hb dX11_hasRoomForPapers_8 ?_
  refine lv_sipush (v := 150) hx hb dX11_hasRoomForPapers_9 (by decide) ?_
  refine lv_icmp_gt (tgt := 19) hx hb dX11_hasRoomForPapers_12 (by decide) (fun c3 => ?_) (fun c3 => ?_)
  · have h := h.1 c3
    refine lv_iconst (v := 0) hx hb dX11_hasRoomForPapers_19 (by decide) ?_
    exact bX11_hasRoomForPapers_20 C  _ _ _ _ _ h hW hS (lv_sub hl [] rfl)
  · have h := h.2 c3
    refine lv_iconst (v := 1) hx hb dX11_hasRoomForPapers_15 (by decide) ?_
    refine lv_goto (tgt := 20) hx hb dX11_hasRoomForPapers_16 (by decide) ?_
    exact bX11_hasRoomForPapers_20 C  _ _ _ _ _ h hW hS (lv_sub hl [] rfl)
-- X11 shipsAt
def wbX11_shipsAt_36 (N : tq_Nn) (post : tq_St → Int32 → Prop) (L4 : tq_St → Int32 → Int32 → Int32 → Prop) (S : tq_St) (x1 : Int32) (x2 : Int32) (x3 : Int32) : Prop :=
  L4 S x1 x2 (x3 + 1)
def wbX11_shipsAt_4 (N : tq_Nn) (post : tq_St → Int32 → Prop) : Nat → tq_St → Int32 → Int32 → Int32 → Prop
  | 0, _, _, _, _ => False
  | n + 1, S, x1, x2, x3 =>
    ((S 19 0 2) ≤ x3 → (post S x2)) ∧ (¬ (S 19 0 2) ≤ x3 → (tq_gok N S 19 20 0 x3 ∧ (N 8 (tq_el S 19 20 0 x3) = 1 ∧ ((¬ (S 8 (tq_el S 19 20 0 x3) 3) = x1 → (wbX11_shipsAt_36 N post  (wbX11_shipsAt_4 N post n) S x1 x2 x3)) ∧ ((S 8 (tq_el S 19 20 0 x3) 3) = x1 → (wbX11_shipsAt_36 N post  (wbX11_shipsAt_4 N post n) S x1 (x2 + 1) x3))))))
def wpX11_shipsAt (N : tq_Nn) (post : tq_St → Int32 → Prop) (S : tq_St) (p0 : Int32) : Prop :=
  ∃ nq, wbX11_shipsAt_4 N post nq S p0 0 0
set_option maxHeartbeats 4000000 in
set_option maxRecDepth 100000 in
theorem bX11_shipsAt_36 {p : Program} {e : Env} {s : State} {m : MethodId} {args : Array Value} {below : List Frame} {meth : Method} {c : Code} {post : tq_St → Int32 → Prop} (C : tq_At p s m meth c args cX11_shipsAt 4 ((some .int)) ((tq_ws yX11_shipsAt cX11_shipsAt 4 (some .int))) RX11 D cy z ad) {L4 : tq_St → Int32 → Int32 → Int32 → Prop} (hL4 : ∀ (S : tq_St) (x1 : Int32) (x2 : Int32) (x3 : Int32) (H : Heap) (locs : List Loc) (ls : Array Slot), L4 S x1 x2 x3 → tq_wd D cy z H0 ad N (tq_mix S M) H → va_S (fun q => z ≤ q) s.heap H locs → lv_has ls 4 [(0, .ref (ad 1 0)), (1, .int x1), (2, .int x2), (3, .int x3)] → W p l e (tq_rm 3 64) s m args below meth c H locs 0 0 (MQ below (va_Qi (fun r u => post u r) (fun u => tq_P D cy z H0 ad N u M) (fun q => z ≤ q)) args s 0 0 (fun q => z ≤ q)) (F0 m 4 ls [])) : ∀ (S : tq_St) (x1 : Int32) (x2 : Int32) (x3 : Int32) (H : Heap) (locs : List Loc) (ls : Array Slot), wbX11_shipsAt_36 N post  L4 S x1 x2 x3 → tq_wd D cy z H0 ad N (tq_mix S M) H → va_S (fun q => z ≤ q) s.heap H locs → lv_has ls 4 [(0, .ref (ad 1 0)), (1, .int x1), (2, .int x2), (3, .int x3)] → W p l e (tq_rm 3 64) s m args below meth c H locs 0 0 (MQ below (va_Qi (fun r u => post u r) (fun u => tq_P D cy z H0 ad N u M) (fun q => z ≤ q)) args s 0 0 (fun q => z ≤ q)) (F0 m 36 ls []) := by
  obtain ⟨hx, hb, hr, hml, hown, hts, hlocks, hK, hG⟩ := id C
  have hw : ∀ w ∈ tq_W, w.before args s = true := fun w h => hts w (List.mem_cons_of_mem _ h)
  intro S x1 x2 x3 H locs ls h hW hS hl
  unfold wbX11_shipsAt_36 at h
  refine lv_iinc (v := x3 + 1) (lv' := [(3, .int (x3 + 1)), (0, .ref (ad 1 0)), (1, .int x1), (2, .int x2)]) hx hb dX11_shipsAt_36 hl (k := 3) rfl rfl (by decide) rfl (fun ls hl => ?_)
  refine lv_goto (tgt := 4) hx hb dX11_shipsAt_39 (by decide) ?_
  exact hL4 _ _ _ _ _ _ _ h hW hS (lv_sub hl [1, 2, 3, 0] rfl)
set_option maxHeartbeats 4000000 in
set_option maxRecDepth 100000 in
theorem bX11_shipsAt_4 {p : Program} {e : Env} {s : State} {m : MethodId} {args : Array Value} {below : List Frame} {meth : Method} {c : Code} {post : tq_St → Int32 → Prop} (C : tq_At p s m meth c args cX11_shipsAt 4 ((some .int)) ((tq_ws yX11_shipsAt cX11_shipsAt 4 (some .int))) RX11 D cy z ad)  : ∀ n : Nat, ∀ (S : tq_St) (x1 : Int32) (x2 : Int32) (x3 : Int32) (H : Heap) (locs : List Loc) (ls : Array Slot), wbX11_shipsAt_4 N post   n S x1 x2 x3 → tq_wd D cy z H0 ad N (tq_mix S M) H → va_S (fun q => z ≤ q) s.heap H locs → lv_has ls 4 [(0, .ref (ad 1 0)), (1, .int x1), (2, .int x2), (3, .int x3)] → W p l e (tq_rm 3 64) s m args below meth c H locs 0 0 (MQ below (va_Qi (fun r u => post u r) (fun u => tq_P D cy z H0 ad N u M) (fun q => z ≤ q)) args s 0 0 (fun q => z ≤ q)) (F0 m 4 ls []) := by
  obtain ⟨hx, hb, hr, hml, hown, hts, hlocks, hK, hG⟩ := id C
  have hw : ∀ w ∈ tq_W, w.before args s = true := fun w h => hts w (List.mem_cons_of_mem _ h)
  intro n
  induction n with
  | zero =>
    intro S x1 x2 x3 H locs ls h
    exact absurd h (by unfold wbX11_shipsAt_4; exact id)
  | succ n ih =>
    intro S x1 x2 x3 H locs ls h hW hS hl
    unfold wbX11_shipsAt_4 at h
    refine lv_iload_n hx hb dX11_shipsAt_4 rfl (lv_at hl 3 rfl) ?_
    refine lv_aload_n hx hb dX11_shipsAt_5 rfl (lv_at hl 0 rfl) ?_
    refine tqc_get (v := .ref (ad 19 0)) hx hb hw tq_inX11 hown hK hW (by decide) (tq_mk_1 (by decide)) rfl 7 (by decide) (hw _ tw_344) (fun _ h9 => h9) rfl dX11_shipsAt_6 ?_
    refine tqc_callVi (As := []) (rest := [.int x3]) (kJl_size (post := fun u r => u = S ∧ r = S 19 0 2) (by decide) (tq_mk_19 (by decide)) ⟨rfl, rfl⟩) ⟨hx, hb, hml, hown, hts⟩ (cwV 0 hts (tq_goodV tw_484 tw_485 tw_486 tw_118 tw_487) rfl rfl rfl (by decide +kernel) ⟨(Nat.le_of_ble_eq_true rfl), (Nat.le_of_ble_eq_true rfl)⟩) (tq_recvL hK hW (by decide) (tq_mk_19 (by decide))) hK hG hW hS rfl hl.1 rfl (Nat.le_of_ble_eq_true rfl) dX11_shipsAt_9 ⟨(Nat.le_of_ble_eq_true rfl), (Nat.le_of_ble_eq_true rfl)⟩ (fun r2 S1 H locs q9 hW hS => ?_)
    rw [q9.1] at hW
    rw [q9.2]
    refine lv_icmp_ge (tgt := 42) hx hb dX11_shipsAt_12 (by decide) (fun c3 => ?_) (fun c3 => ?_)
    · have h := h.1 c3
      refine lv_iload_n hx hb dX11_shipsAt_42 rfl (lv_at hl 2 rfl) ?_
      exact W.iret (v := x2) hx hb hr (fun t ht hWm => ⟨⟨_, S, rfl, h, tq_pe ht hW⟩, hS.F ht⟩) hS.2.2 dX11_shipsAt_43
    · have h := h.2 c3
      refine lv_aload_n hx hb dX11_shipsAt_15 rfl (lv_at hl 0 rfl) ?_
      refine tqc_get (v := .ref (ad 19 0)) hx hb hw tq_inX11 hown hK hW (by decide) (tq_mk_1 (by decide)) rfl 7 (by decide) (hw _ tw_344) (fun _ h9 => h9) rfl dX11_shipsAt_16 ?_
      refine lv_iload_n hx hb dX11_shipsAt_19 rfl (lv_at hl 3 rfl) ?_
      obtain ⟨b6, h⟩ := h
      refine tqc_callVr (kr := 8) (As := [.int x3]) (rest := []) (kJl_get (kd := 20) (post := fun u i => u = S ∧ i = tq_el S 19 20 0 x3) (by decide) (by decide) (tq_mk_19 (by decide)) (fun q9 => tq_mk_20 q9) b6 ⟨rfl, rfl⟩) ⟨hx, hb, hml, hown, hts⟩ (cwV 1 hts (tq_goodV tw_827 tw_828 tw_829 tw_118 tw_830) rfl rfl rfl (by decide +kernel) ⟨(Nat.le_of_ble_eq_true rfl), (Nat.le_of_ble_eq_true rfl)⟩) (tq_recvL hK hW (by decide) (tq_mk_19 (by decide))) hK hG hW hS rfl hl.1 rfl (Nat.le_of_ble_eq_true rfl) dX11_shipsAt_20 ⟨(Nat.le_of_ble_eq_true rfl), (Nat.le_of_ble_eq_true rfl)⟩ (fun i5 S4 H locs q9 hW hS => ?_)
      rw [q9.1] at hW
      rw [q9.2]
      obtain ⟨b7, h⟩ := h
      refine va_castS hx hb hown (hw _ tw_839) (hK.1 9 _ rfl).2 (tq_recvC hK hW (by decide) (tq_mk_8 b7) rfl) dX11_shipsAt_23 ?_
      refine tqc_get (v := .int (S 8 (tq_el S 19 20 0 x3) 3)) hx hb hw tq_inX8 hown hK hW (by decide) (tq_mk_8 b7) rfl 3 (by decide) (hw _ tw_904) (fun _ h9 => h9) rfl dX11_shipsAt_26 ?_
      refine lv_iload_n hx hb dX11_shipsAt_29 rfl (lv_at hl 1 rfl) ?_
      refine lv_icmp_ne (tgt := 36) hx hb dX11_shipsAt_30 (by decide) (fun c8 => ?_) (fun c8 => ?_)
      · have h := h.1 c8
        exact bX11_shipsAt_36 C (fun M9 a09 a19 a29 H9 q9 ls9 h9 hW9 hS9 hl9 => ih M9 a09 a19 a29 H9 q9 ls9 h9 hW9 hS9 hl9) _ _ _ _ _ _ _ h hW hS (lv_sub hl [0, 1, 2, 3] rfl)
      · have h := h.2 c8
        refine lv_iinc (v := x2 + 1) (lv' := [(2, .int (x2 + 1)), (0, .ref (ad 1 0)), (1, .int x1), (3, .int x3)]) hx hb dX11_shipsAt_33 hl (k := 2) rfl rfl (by decide) rfl (fun ls hl => ?_)
        exact bX11_shipsAt_36 C (fun M9 a09 a19 a29 H9 q9 ls9 h9 hW9 hS9 hl9 => ih M9 a09 a19 a29 H9 q9 ls9 h9 hW9 hS9 hl9) _ _ _ _ _ _ _ h hW hS (lv_sub hl [1, 2, 0, 3] rfl)
set_option maxHeartbeats 4000000 in
set_option maxRecDepth 100000 in
theorem kX11_shipsAt {post : tq_St → Int32 → Prop} {S : tq_St} {p0 : Int32} (h : wpX11_shipsAt N post S p0) : tq_sI l yX11_shipsAt (tq_ws yX11_shipsAt cX11_shipsAt 4 (some .int)) 3 64 D cy z H0 ad N M S [.ref (ad 1 0), .int p0] post := by
  unfold wpX11_shipsAt at h
  refine Met.ofW (cc := cX11_shipsAt) (maxL := 4) (ret := (some .int)) (by decide) rfl ?_
  intro p e s m args below meth c s₁ B hml hv
  obtain ⟨rfl, hW, hK, hG⟩ := hv
  have hx := B.exec
  have hb := B.bytes
  have hr := B.returns
  have hts := atoms_spec (ws := (tq_ws yX11_shipsAt cX11_shipsAt 4 (some .int))) B.pre
  have hw : ∀ w ∈ tq_W, w.before _ s = true := fun w h => hts w (List.mem_cons_of_mem _ h)
  have hown : s.vm.findClass RX11 = some m.cls := findClass_of_methodNamed B.named
  have hlocks := B.notSynchronized
  have C : tq_At p s m meth c [.ref (ad 1 0), .int p0].toArray cX11_shipsAt 4 ((some .int)) ((tq_ws yX11_shipsAt cX11_shipsAt 4 (some .int))) RX11 D cy z ad := ⟨hx, hb, hr, hml, hown, hts, hlocks, hK, hG⟩
  have hS : va_S (fun q => z ≤ q) s.heap s.heap [] := va_S.rf
  have hl := lv_entry ([.ref (ad 1 0), .int p0]) (n := 4) (Nat.le_of_ble_eq_true rfl)
  rw [lg_entry_eq]
  generalize (lg_sl ([.ref (ad 1 0), .int p0]) ++ List.replicate (4 - (lg_sl ([.ref (ad 1 0), .int p0])).length) Slot.unset).toArray = ls at hl ⊢
  have hl : lv_has ls 4 [(0, .ref (ad 1 0)), (1, .int p0)] := hl
  have hW : tq_wd D cy z H0 ad N (tq_mix S M) s.heap := hW
  refine lv_iconst (v := 0) hx hb dX11_shipsAt_0 (by decide) ?_
  refine lv_istore_n (lv' := [(2, .int 0), (0, .ref (ad 1 0)), (1, .int p0)]) hx hb dX11_shipsAt_1 rfl hl (by decide) rfl (fun ls hl => ?_)
  refine lv_iconst (v := 0) hx hb dX11_shipsAt_2 (by decide) ?_
  refine lv_istore_n (lv' := [(3, .int 0), (2, .int 0), (0, .ref (ad 1 0)), (1, .int p0)]) hx hb dX11_shipsAt_3 rfl hl (by decide) rfl (fun ls hl => ?_)
  obtain ⟨nq, h⟩ := h
  exact bX11_shipsAt_4 C  nq _ _ _ _ _ _ _ h hW hS (lv_sub hl [2, 3, 1, 0] rfl)
-- X11 isTurnBefore
def wbX11_isTurnBefore_40 (N : tq_Nn) (post : tq_St → Int32 → Prop)  (S : tq_St) (y0 : Int32) : Prop :=
  narrow .boolean (.int y0) = .int y0 ∧ post S y0
def wbX11_isTurnBefore_35 (N : tq_Nn) (post : tq_St → Int32 → Prop)  (S : tq_St) : Prop :=
  wbX11_isTurnBefore_40 N post S 1
def wbX11_isTurnBefore_39 (N : tq_Nn) (post : tq_St → Int32 → Prop)  (S : tq_St) : Prop :=
  wbX11_isTurnBefore_40 N post S 0
def wpX11_isTurnBefore (N : tq_Nn) (post : tq_St → Int32 → Prop) (S : tq_St) (p0 : Int32) (p1 : Int32) : Prop :=
  vp_in p0 4 ∧ (vp_in p1 4 ∧ (((S 21 0 p0.toNatClampNeg) < (S 21 0 p1.toNatClampNeg) → (wbX11_isTurnBefore_35 N post S )) ∧ (¬ (S 21 0 p0.toNatClampNeg) < (S 21 0 p1.toNatClampNeg) → ((¬ (S 21 0 p0.toNatClampNeg) = (S 21 0 p1.toNatClampNeg) → (wbX11_isTurnBefore_39 N post S )) ∧ ((S 21 0 p0.toNatClampNeg) = (S 21 0 p1.toNatClampNeg) → ((p1 ≤ p0 → (wbX11_isTurnBefore_39 N post S )) ∧ (¬ p1 ≤ p0 → (wbX11_isTurnBefore_35 N post S ))))))))
set_option maxHeartbeats 4000000 in
set_option maxRecDepth 100000 in
theorem bX11_isTurnBefore_40 {p : Program} {e : Env} {s : State} {m : MethodId} {args : Array Value} {below : List Frame} {meth : Method} {c : Code} {post : tq_St → Int32 → Prop} (C : tq_At p s m meth c args cX11_isTurnBefore 3 ((some .boolean)) ((tq_ws yX11_isTurnBefore cX11_isTurnBefore 3 (some .boolean))) RX11 D cy z ad)  : ∀ (S : tq_St) (y0 : Int32) (H : Heap) (locs : List Loc) (ls : Array Slot), wbX11_isTurnBefore_40 N post   S y0 → tq_wd D cy z H0 ad N (tq_mix S M) H → va_S (fun q => z ≤ q) s.heap H locs → lv_has ls 3 [] → W p l e (tq_rm 0 0) s m args below meth c H locs 0 0 (MQ below (va_Qi (fun r u => post u r) (fun u => tq_P D cy z H0 ad N u M) (fun q => z ≤ q)) args s 0 0 (fun q => z ≤ q)) (F0 m 40 ls [.int y0]) := by
  obtain ⟨hx, hb, hr, hml, hown, hts, hlocks, hK, hG⟩ := id C
  have hw : ∀ w ∈ tq_W, w.before args s = true := fun w h => hts w (List.mem_cons_of_mem _ h)
  intro S y0 H locs ls h hW hS hl
  unfold wbX11_isTurnBefore_40 at h
  obtain ⟨b6, h⟩ := h
  exact W.zret (v := y0) hx hb hr b6 (fun t ht hWm => ⟨⟨_, S, rfl, h, tq_pe ht hW⟩, hS.F ht⟩) hS.2.2 dX11_isTurnBefore_40
set_option maxHeartbeats 4000000 in
set_option maxRecDepth 100000 in
theorem bX11_isTurnBefore_35 {p : Program} {e : Env} {s : State} {m : MethodId} {args : Array Value} {below : List Frame} {meth : Method} {c : Code} {post : tq_St → Int32 → Prop} (C : tq_At p s m meth c args cX11_isTurnBefore 3 ((some .boolean)) ((tq_ws yX11_isTurnBefore cX11_isTurnBefore 3 (some .boolean))) RX11 D cy z ad)  : ∀ (S : tq_St)  (H : Heap) (locs : List Loc) (ls : Array Slot), wbX11_isTurnBefore_35 N post   S  → tq_wd D cy z H0 ad N (tq_mix S M) H → va_S (fun q => z ≤ q) s.heap H locs → lv_has ls 3 [] → W p l e (tq_rm 0 0) s m args below meth c H locs 0 0 (MQ below (va_Qi (fun r u => post u r) (fun u => tq_P D cy z H0 ad N u M) (fun q => z ≤ q)) args s 0 0 (fun q => z ≤ q)) (F0 m 35 ls []) := by
  obtain ⟨hx, hb, hr, hml, hown, hts, hlocks, hK, hG⟩ := id C
  have hw : ∀ w ∈ tq_W, w.before args s = true := fun w h => hts w (List.mem_cons_of_mem _ h)
  intro S  H locs ls h hW hS hl
  unfold wbX11_isTurnBefore_35 at h
  refine lv_iconst (v := 1) hx hb dX11_isTurnBefore_35 (by decide) ?_
  refine lv_goto (tgt := 40) hx hb dX11_isTurnBefore_36 (by decide) ?_
  exact bX11_isTurnBefore_40 C  _ _ _ _ _ h hW hS (lv_sub hl [] rfl)
set_option maxHeartbeats 4000000 in
set_option maxRecDepth 100000 in
theorem bX11_isTurnBefore_39 {p : Program} {e : Env} {s : State} {m : MethodId} {args : Array Value} {below : List Frame} {meth : Method} {c : Code} {post : tq_St → Int32 → Prop} (C : tq_At p s m meth c args cX11_isTurnBefore 3 ((some .boolean)) ((tq_ws yX11_isTurnBefore cX11_isTurnBefore 3 (some .boolean))) RX11 D cy z ad)  : ∀ (S : tq_St)  (H : Heap) (locs : List Loc) (ls : Array Slot), wbX11_isTurnBefore_39 N post   S  → tq_wd D cy z H0 ad N (tq_mix S M) H → va_S (fun q => z ≤ q) s.heap H locs → lv_has ls 3 [] → W p l e (tq_rm 0 0) s m args below meth c H locs 0 0 (MQ below (va_Qi (fun r u => post u r) (fun u => tq_P D cy z H0 ad N u M) (fun q => z ≤ q)) args s 0 0 (fun q => z ≤ q)) (F0 m 39 ls []) := by
  obtain ⟨hx, hb, hr, hml, hown, hts, hlocks, hK, hG⟩ := id C
  have hw : ∀ w ∈ tq_W, w.before args s = true := fun w h => hts w (List.mem_cons_of_mem _ h)
  intro S  H locs ls h hW hS hl
  unfold wbX11_isTurnBefore_39 at h
  refine lv_iconst (v := 0) hx hb dX11_isTurnBefore_39 (by decide) ?_
  exact bX11_isTurnBefore_40 C  _ _ _ _ _ h hW hS (lv_sub hl [] rfl)
set_option maxHeartbeats 4000000 in
set_option maxRecDepth 100000 in
theorem kX11_isTurnBefore {post : tq_St → Int32 → Prop} {S : tq_St} {p0 : Int32} {p1 : Int32} (h : wpX11_isTurnBefore N post S p0 p1) : tq_sI l yX11_isTurnBefore (tq_ws yX11_isTurnBefore cX11_isTurnBefore 3 (some .boolean)) 0 0 D cy z H0 ad N M S [.ref (ad 1 0), .int p0, .int p1] post := by
  unfold wpX11_isTurnBefore at h
  refine Met.ofW (cc := cX11_isTurnBefore) (maxL := 3) (ret := (some .boolean)) (by decide) rfl ?_
  intro p e s m args below meth c s₁ B hml hv
  obtain ⟨rfl, hW, hK, hG⟩ := hv
  have hx := B.exec
  have hb := B.bytes
  have hr := B.returns
  have hts := atoms_spec (ws := (tq_ws yX11_isTurnBefore cX11_isTurnBefore 3 (some .boolean))) B.pre
  have hw : ∀ w ∈ tq_W, w.before _ s = true := fun w h => hts w (List.mem_cons_of_mem _ h)
  have hown : s.vm.findClass RX11 = some m.cls := findClass_of_methodNamed B.named
  have hlocks := B.notSynchronized
  have C : tq_At p s m meth c [.ref (ad 1 0), .int p0, .int p1].toArray cX11_isTurnBefore 3 ((some .boolean)) ((tq_ws yX11_isTurnBefore cX11_isTurnBefore 3 (some .boolean))) RX11 D cy z ad := ⟨hx, hb, hr, hml, hown, hts, hlocks, hK, hG⟩
  have hS : va_S (fun q => z ≤ q) s.heap s.heap [] := va_S.rf
  have hl := lv_entry ([.ref (ad 1 0), .int p0, .int p1]) (n := 3) (Nat.le_of_ble_eq_true rfl)
  rw [lg_entry_eq]
  generalize (lg_sl ([.ref (ad 1 0), .int p0, .int p1]) ++ List.replicate (3 - (lg_sl ([.ref (ad 1 0), .int p0, .int p1])).length) Slot.unset).toArray = ls at hl ⊢
  have hl : lv_has ls 3 [(0, .ref (ad 1 0)), (1, .int p0), (2, .int p1)] := hl
  have hW : tq_wd D cy z H0 ad N (tq_mix S M) s.heap := hW
  refine lv_aload_n hx hb dX11_isTurnBefore_0 rfl (lv_at hl 0 rfl) ?_
  refine tqc_get (v := .ref (ad 21 0)) hx hb hw tq_inX11 hown hK hW (by decide) (tq_mk_1 (by decide)) rfl 8 (by decide) (hw _ tw_345) (fun _ h9 => h9) rfl dX11_isTurnBefore_1 ?_
  refine lv_iload_n hx hb dX11_isTurnBefore_4 rfl (lv_at hl 1 rfl) ?_
  obtain ⟨b1, h⟩ := h
  refine tqc_iald (jn := p0.toNatClampNeg) hx hb hK hW (by decide) (tq_mk_21 (by decide)) b1 rfl dX11_isTurnBefore_5 ?_
  refine lv_aload_n hx hb dX11_isTurnBefore_6 rfl (lv_at hl 0 rfl) ?_
  refine tqc_get (v := .ref (ad 21 0)) hx hb hw tq_inX11 hown hK hW (by decide) (tq_mk_1 (by decide)) rfl 8 (by decide) (hw _ tw_345) (fun _ h9 => h9) rfl dX11_isTurnBefore_7 ?_
  refine lv_iload_n hx hb dX11_isTurnBefore_10 rfl (lv_at hl 2 rfl) ?_
  obtain ⟨b2, h⟩ := h
  refine tqc_iald (jn := p1.toNatClampNeg) hx hb hK hW (by decide) (tq_mk_21 (by decide)) b2 rfl dX11_isTurnBefore_11 ?_
  refine lv_icmp_lt (tgt := 35) hx hb dX11_isTurnBefore_12 (by decide) (fun c3 => ?_) (fun c3 => ?_)
  · have h := h.1 c3
    exact bX11_isTurnBefore_35 C  _  _ _ _ h hW hS (lv_sub hl [] rfl)
  · have h := h.2 c3
    refine lv_aload_n hx hb dX11_isTurnBefore_15 rfl (lv_at hl 0 rfl) ?_
    refine tqc_get (v := .ref (ad 21 0)) hx hb hw tq_inX11 hown hK hW (by decide) (tq_mk_1 (by decide)) rfl 8 (by decide) (hw _ tw_345) (fun _ h9 => h9) rfl dX11_isTurnBefore_16 ?_
    refine lv_iload_n hx hb dX11_isTurnBefore_19 rfl (lv_at hl 1 rfl) ?_
    refine tqc_iald (jn := p0.toNatClampNeg) hx hb hK hW (by decide) (tq_mk_21 (by decide)) b1 rfl dX11_isTurnBefore_20 ?_
    refine lv_aload_n hx hb dX11_isTurnBefore_21 rfl (lv_at hl 0 rfl) ?_
    refine tqc_get (v := .ref (ad 21 0)) hx hb hw tq_inX11 hown hK hW (by decide) (tq_mk_1 (by decide)) rfl 8 (by decide) (hw _ tw_345) (fun _ h9 => h9) rfl dX11_isTurnBefore_22 ?_
    refine lv_iload_n hx hb dX11_isTurnBefore_25 rfl (lv_at hl 2 rfl) ?_
    refine tqc_iald (jn := p1.toNatClampNeg) hx hb hK hW (by decide) (tq_mk_21 (by decide)) b2 rfl dX11_isTurnBefore_26 ?_
    refine lv_icmp_ne (tgt := 39) hx hb dX11_isTurnBefore_27 (by decide) (fun c4 => ?_) (fun c4 => ?_)
    · have h := h.1 c4
      exact bX11_isTurnBefore_39 C  _  _ _ _ h hW hS (lv_sub hl [] rfl)
    · have h := h.2 c4
      refine lv_iload_n hx hb dX11_isTurnBefore_30 rfl (lv_at hl 1 rfl) ?_
      refine lv_iload_n hx hb dX11_isTurnBefore_31 rfl (lv_at hl 2 rfl) ?_
      refine lv_icmp_ge (tgt := 39) hx hb dX11_isTurnBefore_32 (by decide) (fun c5 => ?_) (fun c5 => ?_)
      · have h := h.1 c5
        exact bX11_isTurnBefore_39 C  _  _ _ _ h hW hS (lv_sub hl [] rfl)
      · have h := h.2 c5
        exact bX11_isTurnBefore_35 C  _  _ _ _ h hW hS (lv_sub hl [] rfl)
-- X11 canMove
def wbX11_canMove_17 (N : tq_Nn) (post : tq_St → Int32 → Prop)  (S : tq_St) (y0 : Int32) : Prop :=
  narrow .boolean (.int y0) = .int y0 ∧ post S y0
def wbX11_canMove_51 (N : tq_Nn) (post : tq_St → Int32 → Prop)  (S : tq_St) (y0 : Int32) : Prop :=
  narrow .boolean (.int y0) = .int y0 ∧ post S y0
def wbX11_canMove_50 (N : tq_Nn) (post : tq_St → Int32 → Prop)  (S : tq_St) : Prop :=
  wbX11_canMove_51 N post S 0
def wpX11_canMove (N : tq_Nn) (post : tq_St → Int32 → Prop) (S : tq_St) (p0 : Nat) (p1 : Nat) (p2 : Int32) : Prop :=
  (p2 < 0 → (N 8 p0 = 1 ∧ ((0 < (lg_cmp (-p2.toInt64) ((S 8 p0 7).toInt64)) → (wbX11_canMove_50 N post S )) ∧ (¬ 0 < (lg_cmp (-p2.toInt64) ((S 8 p0 7).toInt64)) → (p1 < 5 ∧ ((0 < (lg_cmp (((S 2 p1 1).toInt64) + (-p2.toInt64)) ((100000000))) → (wbX11_canMove_50 N post S )) ∧ (¬ 0 < (lg_cmp (((S 2 p1 1).toInt64) + (-p2.toInt64)) ((100000000))) → (wbX11_canMove_51 N post S 1)))))))) ∧ (¬ p2 < 0 → (p1 < 5 ∧ (((S 2 p1 1) < p2 → (wbX11_canMove_17 N post S 0)) ∧ (¬ (S 2 p1 1) < p2 → (wbX11_canMove_17 N post S 1)))))
set_option maxHeartbeats 4000000 in
set_option maxRecDepth 100000 in
theorem bX11_canMove_17 {p : Program} {e : Env} {s : State} {m : MethodId} {args : Array Value} {below : List Frame} {meth : Method} {c : Code} {post : tq_St → Int32 → Prop} (C : tq_At p s m meth c args cX11_canMove 5 ((some .boolean)) ((tq_ws yX11_canMove cX11_canMove 5 (some .boolean))) RX11 D cy z ad)  : ∀ (S : tq_St) (y0 : Int32) (H : Heap) (locs : List Loc) (ls : Array Slot), wbX11_canMove_17 N post   S y0 → tq_wd D cy z H0 ad N (tq_mix S M) H → va_S (fun q => z ≤ q) s.heap H locs → lv_has ls 5 [] → W p l e (tq_rm 0 0) s m args below meth c H locs 0 0 (MQ below (va_Qi (fun r u => post u r) (fun u => tq_P D cy z H0 ad N u M) (fun q => z ≤ q)) args s 0 0 (fun q => z ≤ q)) (F0 m 17 ls [.int y0]) := by
  obtain ⟨hx, hb, hr, hml, hown, hts, hlocks, hK, hG⟩ := id C
  have hw : ∀ w ∈ tq_W, w.before args s = true := fun w h => hts w (List.mem_cons_of_mem _ h)
  intro S y0 H locs ls h hW hS hl
  unfold wbX11_canMove_17 at h
  obtain ⟨b9, h⟩ := h
  exact W.zret (v := y0) hx hb hr b9 (fun t ht hWm => ⟨⟨_, S, rfl, h, tq_pe ht hW⟩, hS.F ht⟩) hS.2.2 dX11_canMove_17
set_option maxHeartbeats 4000000 in
set_option maxRecDepth 100000 in
theorem bX11_canMove_51 {p : Program} {e : Env} {s : State} {m : MethodId} {args : Array Value} {below : List Frame} {meth : Method} {c : Code} {post : tq_St → Int32 → Prop} (C : tq_At p s m meth c args cX11_canMove 5 ((some .boolean)) ((tq_ws yX11_canMove cX11_canMove 5 (some .boolean))) RX11 D cy z ad)  : ∀ (S : tq_St) (y0 : Int32) (H : Heap) (locs : List Loc) (ls : Array Slot), wbX11_canMove_51 N post   S y0 → tq_wd D cy z H0 ad N (tq_mix S M) H → va_S (fun q => z ≤ q) s.heap H locs → lv_has ls 5 [] → W p l e (tq_rm 0 0) s m args below meth c H locs 0 0 (MQ below (va_Qi (fun r u => post u r) (fun u => tq_P D cy z H0 ad N u M) (fun q => z ≤ q)) args s 0 0 (fun q => z ≤ q)) (F0 m 51 ls [.int y0]) := by
  obtain ⟨hx, hb, hr, hml, hown, hts, hlocks, hK, hG⟩ := id C
  have hw : ∀ w ∈ tq_W, w.before args s = true := fun w h => hts w (List.mem_cons_of_mem _ h)
  intro S y0 H locs ls h hW hS hl
  unfold wbX11_canMove_51 at h
  obtain ⟨b8, h⟩ := h
  exact W.zret (v := y0) hx hb hr b8 (fun t ht hWm => ⟨⟨_, S, rfl, h, tq_pe ht hW⟩, hS.F ht⟩) hS.2.2 dX11_canMove_51
set_option maxHeartbeats 4000000 in
set_option maxRecDepth 100000 in
theorem bX11_canMove_50 {p : Program} {e : Env} {s : State} {m : MethodId} {args : Array Value} {below : List Frame} {meth : Method} {c : Code} {post : tq_St → Int32 → Prop} (C : tq_At p s m meth c args cX11_canMove 5 ((some .boolean)) ((tq_ws yX11_canMove cX11_canMove 5 (some .boolean))) RX11 D cy z ad)  : ∀ (S : tq_St)  (H : Heap) (locs : List Loc) (ls : Array Slot), wbX11_canMove_50 N post   S  → tq_wd D cy z H0 ad N (tq_mix S M) H → va_S (fun q => z ≤ q) s.heap H locs → lv_has ls 5 [] → W p l e (tq_rm 0 0) s m args below meth c H locs 0 0 (MQ below (va_Qi (fun r u => post u r) (fun u => tq_P D cy z H0 ad N u M) (fun q => z ≤ q)) args s 0 0 (fun q => z ≤ q)) (F0 m 50 ls []) := by
  obtain ⟨hx, hb, hr, hml, hown, hts, hlocks, hK, hG⟩ := id C
  have hw : ∀ w ∈ tq_W, w.before args s = true := fun w h => hts w (List.mem_cons_of_mem _ h)
  intro S  H locs ls h hW hS hl
  unfold wbX11_canMove_50 at h
  refine lv_iconst (v := 0) hx hb dX11_canMove_50 (by decide) ?_
  exact bX11_canMove_51 C  _ _ _ _ _ h hW hS (lv_sub hl [] rfl)
set_option maxHeartbeats 4000000 in
set_option maxRecDepth 100000 in
theorem kX11_canMove {post : tq_St → Int32 → Prop} {S : tq_St} {p0 : Nat} {p1 : Nat} {p2 : Int32} (h : wpX11_canMove N post S p0 p1 p2) : tq_sI l yX11_canMove (tq_ws yX11_canMove cX11_canMove 5 (some .boolean)) 0 0 D cy z H0 ad N M S [.ref (ad 8 p0), .ref (ad 2 p1), .int p2] post := by
  unfold wpX11_canMove at h
  refine Met.ofW (cc := cX11_canMove) (maxL := 5) (ret := (some .boolean)) (by decide) rfl ?_
  intro p e s m args below meth c s₁ B hml hv
  obtain ⟨rfl, hW, hK, hG⟩ := hv
  have hx := B.exec
  have hb := B.bytes
  have hr := B.returns
  have hts := atoms_spec (ws := (tq_ws yX11_canMove cX11_canMove 5 (some .boolean))) B.pre
  have hw : ∀ w ∈ tq_W, w.before _ s = true := fun w h => hts w (List.mem_cons_of_mem _ h)
  have hown : s.vm.findClass RX11 = some m.cls := findClass_of_methodNamed B.named
  have hlocks := B.notSynchronized
  have C : tq_At p s m meth c [.ref (ad 8 p0), .ref (ad 2 p1), .int p2].toArray cX11_canMove 5 ((some .boolean)) ((tq_ws yX11_canMove cX11_canMove 5 (some .boolean))) RX11 D cy z ad := ⟨hx, hb, hr, hml, hown, hts, hlocks, hK, hG⟩
  have hS : va_S (fun q => z ≤ q) s.heap s.heap [] := va_S.rf
  have hl := lv_entry ([.ref (ad 8 p0), .ref (ad 2 p1), .int p2]) (n := 5) (Nat.le_of_ble_eq_true rfl)
  rw [lg_entry_eq]
  generalize (lg_sl ([.ref (ad 8 p0), .ref (ad 2 p1), .int p2]) ++ List.replicate (5 - (lg_sl ([.ref (ad 8 p0), .ref (ad 2 p1), .int p2])).length) Slot.unset).toArray = ls at hl ⊢
  have hl : lv_has ls 5 [(0, .ref (ad 8 p0)), (1, .ref (ad 2 p1)), (2, .int p2)] := hl
  have hW : tq_wd D cy z H0 ad N (tq_mix S M) s.heap := hW
  refine lv_iload_n hx hb dX11_canMove_0 rfl (lv_at hl 2 rfl) ?_
  refine lv_if_lt (tgt := 18) hx hb dX11_canMove_1 (by decide) (fun c1 => ?_) (fun c1 => ?_)
  · have h := h.1 c1
    refine lv_iload_n hx hb dX11_canMove_18 rfl (lv_at hl 2 rfl) ?_
    refine lv_i2l (v := p2.toInt64) hx hb dX11_canMove_19 rfl ?_
    refine lv_lneg hx hb dX11_canMove_20 ?_
    refine lv_lstore_n (lv' := [(3, .long (-p2.toInt64)), (0, .ref (ad 8 p0)), (1, .ref (ad 2 p1)), (2, .int p2)]) hx hb dX11_canMove_21 rfl hl (by decide) rfl (fun ls hl => ?_)
    refine lv_lload_n hx hb dX11_canMove_22 rfl (lv_at hl 0 rfl) ?_
    refine lv_aload_n hx hb dX11_canMove_23 rfl (lv_at hl 1 rfl) ?_
    obtain ⟨b2, h⟩ := h
    refine tqc_get (v := .int (S 8 p0 7)) hx hb hw tq_inX8 hown hK hW (by decide) (tq_mk_8 b2) rfl 7 (by decide) (hw _ tw_911) (fun _ h9 => h9) rfl dX11_canMove_24 ?_
    refine lv_i2l (v := (S 8 p0 7).toInt64) hx hb dX11_canMove_27 rfl ?_
    refine W.lcmp hx hb dX11_canMove_28 ?_
    refine lv_if_gt (tgt := 50) hx hb dX11_canMove_29 (by decide) (fun c3 => ?_) (fun c3 => ?_)
    · have h := h.1 c3
      exact bX11_canMove_50 C  _  _ _ _ h hW hS (lv_sub hl [] rfl)
    · have h := h.2 c3
      refine lv_aload_n hx hb dX11_canMove_32 rfl (lv_at hl 2 rfl) ?_
      obtain ⟨b4, h⟩ := h
      refine tqc_get (v := .int (S 2 p1 1)) hx hb hw tq_inX5 hown hK hW (by decide) (tq_mk_2 b4) rfl 1 (by decide) (hw _ tw_255) (fun _ h9 => h9) rfl dX11_canMove_33 ?_
      refine lv_i2l (v := (S 2 p1 1).toInt64) hx hb dX11_canMove_36 rfl ?_
      refine lv_lload_n hx hb dX11_canMove_37 rfl (lv_at hl 0 rfl) ?_
      refine lv_ladd hx hb dX11_canMove_38 ?_
      refine lv_ldc2 hx hb hown (hw _ tw_958) dX11_canMove_39 ?_
      refine W.lcmp hx hb dX11_canMove_42 ?_
      refine lv_if_gt (tgt := 50) hx hb dX11_canMove_43 (by decide) (fun c5 => ?_) (fun c5 => ?_)
      · have h := h.1 c5
        exact bX11_canMove_50 C  _  _ _ _ h hW hS (lv_sub hl [] rfl)
      · have h := h.2 c5
        refine lv_iconst (v := 1) hx hb dX11_canMove_46 (by decide) ?_
        refine lv_goto (tgt := 51) hx hb dX11_canMove_47 (by decide) ?_
        exact bX11_canMove_51 C  _ _ _ _ _ h hW hS (lv_sub hl [] rfl)
  · have h := h.2 c1
    refine lv_iload_n hx hb dX11_canMove_4 rfl (lv_at hl 2 rfl) ?_
    refine lv_aload_n hx hb dX11_canMove_5 rfl (lv_at hl 1 rfl) ?_
    obtain ⟨b6, h⟩ := h
    refine tqc_get (v := .int (S 2 p1 1)) hx hb hw tq_inX5 hown hK hW (by decide) (tq_mk_2 b6) rfl 1 (by decide) (hw _ tw_255) (fun _ h9 => h9) rfl dX11_canMove_6 ?_
    refine lv_icmp_gt (tgt := 16) hx hb dX11_canMove_9 (by decide) (fun c7 => ?_) (fun c7 => ?_)
    · have h := h.1 c7
      refine lv_iconst (v := 0) hx hb dX11_canMove_16 (by decide) ?_
      exact bX11_canMove_17 C  _ _ _ _ _ h hW hS (lv_sub hl [] rfl)
    · have h := h.2 c7
      refine lv_iconst (v := 1) hx hb dX11_canMove_12 (by decide) ?_
      refine lv_goto (tgt := 17) hx hb dX11_canMove_13 (by decide) ?_
      exact bX11_canMove_17 C  _ _ _ _ _ h hW hS (lv_sub hl [] rfl)
