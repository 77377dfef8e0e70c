variable {l : Launch} {D : va_G} {cy : Nat → ClassId} {z : Nat} {H0 : Heap} {ad : Nat → Nat → Nat} {N : tq_Nn} {M : tq_St}
-- X11 greatestRank
def wbX11_greatestRank_31 (N : tq_Nn) (post : tq_St → Int32 → Prop) (L4 : tq_St → Int32 → Int32 → Int32 → Prop) (S : tq_St) (x1 : Int32) (x2 : Int32) (x3 : Int32) : Prop :=
  L4 S x1 x2 (x3 + 1)
def wbX11_greatestRank_4 (N : tq_Nn) (post : tq_St → Int32 → Prop) : Nat → tq_St → Int32 → Int32 → Int32 → Prop
  | 0, _, _, _, _ => False
  | n + 1, S, x1, x2, x3 =>
    ((S 1 0 2) ≤ x3 → (post S x2)) ∧ (¬ (S 1 0 2) ≤ x3 → ((((x1 >>> (x3 &&& 31)) &&& 1) = 0 → (wbX11_greatestRank_31 N post  (wbX11_greatestRank_4 N post n) S x1 x2 x3)) ∧ (¬ ((x1 >>> (x3 &&& 31)) &&& 1) = 0 → (vp_in x3 20 ∧ (wbX11_greatestRank_31 N post  (wbX11_greatestRank_4 N post n) S x1 (if x2 < (S 14 0 x3.toNatClampNeg) then (S 14 0 x3.toNatClampNeg) else x2) x3)))))
def wpX11_greatestRank (N : tq_Nn) (post : tq_St → Int32 → Prop) (S : tq_St) (p0 : Int32) : Prop :=
  ∃ nq, wbX11_greatestRank_4 N post nq S p0 ((-1)) 0
set_option maxHeartbeats 4000000 in
set_option maxRecDepth 100000 in
theorem bX11_greatestRank_31 {p : Program} {e : Env} {s : State} {m : MethodId} {args : Array Value} {below : List Frame} {meth : Method} {c : Code} {post : tq_St → Int32 → Prop} (C : tq_At p s m meth c args cX11_greatestRank 4 ((some .int)) ((tq_ws yX11_greatestRank cX11_greatestRank 4 (some .int))) RX11 D cy z ad) {L4 : tq_St → Int32 → Int32 → Int32 → Prop} (hL4 : ∀ (S : tq_St) (x1 : Int32) (x2 : Int32) (x3 : Int32) (H : Heap) (locs : List Loc) (ls : Array Slot), L4 S x1 x2 x3 → tq_wd D cy z H0 ad N (tq_mix S M) H → va_S (fun q => z ≤ q) s.heap H locs → lv_has ls 4 [(0, .ref (ad 1 0)), (1, .int x1), (2, .int x2), (3, .int x3)] → W p l e (tq_rm 1 21) s m args below meth c H locs 0 0 (MQ below (va_Qi (fun r u => post u r) (fun u => tq_P D cy z H0 ad N u M) (fun q => z ≤ q)) args s 0 0 (fun q => z ≤ q)) (F0 m 4 ls [])) : ∀ (S : tq_St) (x1 : Int32) (x2 : Int32) (x3 : Int32) (H : Heap) (locs : List Loc) (ls : Array Slot), wbX11_greatestRank_31 N post  L4 S x1 x2 x3 → tq_wd D cy z H0 ad N (tq_mix S M) H → va_S (fun q => z ≤ q) s.heap H locs → lv_has ls 4 [(0, .ref (ad 1 0)), (1, .int x1), (2, .int x2), (3, .int x3)] → W p l e (tq_rm 1 21) s m args below meth c H locs 0 0 (MQ below (va_Qi (fun r u => post u r) (fun u => tq_P D cy z H0 ad N u M) (fun q => z ≤ q)) args s 0 0 (fun q => z ≤ q)) (F0 m 31 ls []) := by
  obtain ⟨hx, hb, hr, hml, hown, hts, hlocks, hK, hG⟩ := id C
  have hw : ∀ w ∈ tq_W, w.before args s = true := fun w h => hts w (List.mem_cons_of_mem _ h)
  intro S x1 x2 x3 H locs ls h hW hS hl
  unfold wbX11_greatestRank_31 at h
  refine lv_iinc (v := x3 + 1) (lv' := [(3, .int (x3 + 1)), (0, .ref (ad 1 0)), (1, .int x1), (2, .int x2)]) hx hb dX11_greatestRank_31 hl (k := 3) rfl rfl (by decide) rfl (fun ls hl => ?_)
  refine lv_goto (tgt := 4) hx hb dX11_greatestRank_34 (by decide) ?_
  exact hL4 _ _ _ _ _ _ _ h hW hS (lv_sub hl [1, 2, 3, 0] rfl)
set_option maxHeartbeats 4000000 in
set_option maxRecDepth 100000 in
theorem bX11_greatestRank_4 {p : Program} {e : Env} {s : State} {m : MethodId} {args : Array Value} {below : List Frame} {meth : Method} {c : Code} {post : tq_St → Int32 → Prop} (C : tq_At p s m meth c args cX11_greatestRank 4 ((some .int)) ((tq_ws yX11_greatestRank cX11_greatestRank 4 (some .int))) RX11 D cy z ad)  : ∀ n : Nat, ∀ (S : tq_St) (x1 : Int32) (x2 : Int32) (x3 : Int32) (H : Heap) (locs : List Loc) (ls : Array Slot), wbX11_greatestRank_4 N post   n S x1 x2 x3 → tq_wd D cy z H0 ad N (tq_mix S M) H → va_S (fun q => z ≤ q) s.heap H locs → lv_has ls 4 [(0, .ref (ad 1 0)), (1, .int x1), (2, .int x2), (3, .int x3)] → W p l e (tq_rm 1 21) s m args below meth c H locs 0 0 (MQ below (va_Qi (fun r u => post u r) (fun u => tq_P D cy z H0 ad N u M) (fun q => z ≤ q)) args s 0 0 (fun q => z ≤ q)) (F0 m 4 ls []) := by
  obtain ⟨hx, hb, hr, hml, hown, hts, hlocks, hK, hG⟩ := id C
  have hw : ∀ w ∈ tq_W, w.before args s = true := fun w h => hts w (List.mem_cons_of_mem _ h)
  intro n
  induction n with
  | zero =>
    intro S x1 x2 x3 H locs ls h
    exact absurd h (by unfold wbX11_greatestRank_4; exact id)
  | succ n ih =>
    intro S x1 x2 x3 H locs ls h hW hS hl
    unfold wbX11_greatestRank_4 at h
    refine lv_iload_n hx hb dX11_greatestRank_4 rfl (lv_at hl 3 rfl) ?_
    refine lv_aload_n hx hb dX11_greatestRank_5 rfl (lv_at hl 0 rfl) ?_
    refine tqc_get (v := .int (S 1 0 2)) hx hb hw tq_inX11 hown hK hW (by decide) (tq_mk_1 (by decide)) rfl 2 (by decide) (hw _ tw_339) (fun _ h9 => h9) rfl dX11_greatestRank_6 ?_
    refine lv_icmp_ge (tgt := 37) hx hb dX11_greatestRank_9 (by decide) (fun c1 => ?_) (fun c1 => ?_)
    · have h := h.1 c1
      refine lv_iload_n hx hb dX11_greatestRank_37 rfl (lv_at hl 2 rfl) ?_
      exact W.iret (v := x2) hx hb hr (fun t ht hWm => ⟨⟨_, S, rfl, h, tq_pe ht hW⟩, hS.F ht⟩) hS.2.2 dX11_greatestRank_38
    · have h := h.2 c1
      refine lv_iload_n hx hb dX11_greatestRank_12 rfl (lv_at hl 1 rfl) ?_
      refine lv_iload_n hx hb dX11_greatestRank_13 rfl (lv_at hl 3 rfl) ?_
      refine lv_ishr hx hb dX11_greatestRank_14 ?_
      refine lv_iconst (v := 1) hx hb dX11_greatestRank_15 (by decide) ?_
      refine lv_iand hx hb dX11_greatestRank_16 ?_
      refine lv_if_eq (tgt := 31) hx hb dX11_greatestRank_17 (by decide) (fun c2 => ?_) (fun c2 => ?_)
      · have h := h.1 c2
        exact bX11_greatestRank_31 C (fun M9 a09 a19 a29 H9 q9 ls9 h9 hW9 hS9 hl9 => ih M9 a09 a19 a29 H9 q9 ls9 h9 hW9 hS9 hl9) _ _ _ _ _ _ _ h hW hS (lv_sub hl [0, 1, 2, 3] rfl)
      · have h := h.2 c2
        refine lv_iload_n hx hb dX11_greatestRank_20 rfl (lv_at hl 2 rfl) ?_
        refine lv_aload_n hx hb dX11_greatestRank_21 rfl (lv_at hl 0 rfl) ?_
        refine tqc_get (v := .ref (ad 14 0)) hx hb hw tq_inX11 hown hK hW (by decide) (tq_mk_1 (by decide)) rfl 4 (by decide) (hw _ tw_341) (fun _ h9 => h9) rfl dX11_greatestRank_22 ?_
        refine lv_iload_n hx hb dX11_greatestRank_25 rfl (lv_at hl 3 rfl) ?_
        obtain ⟨b3, h⟩ := h
        refine tqc_iald (jn := x3.toNatClampNeg) hx hb hK hW (by decide) (tq_mk_14 (by decide)) b3 rfl dX11_greatestRank_26 ?_
        refine va_mmax hx hb (hml.trans hl.1.symm) hown (hw _ tw_1108) (hw _ tw_660) (hw _ tw_132) (hw _ tw_661) (Nat.le_of_ble_eq_true rfl) (Nat.le_of_ble_eq_true rfl) (Nat.zero_le _) (Nat.zero_le _) dX11_greatestRank_27 ?_
        refine lv_istore_n (lv' := [(2, .int (if x2 < (S 14 0 x3.toNatClampNeg) then (S 14 0 x3.toNatClampNeg) else x2)), (0, .ref (ad 1 0)), (1, .int x1), (3, .int x3)]) hx hb dX11_greatestRank_30 rfl hl (by decide) rfl (fun ls hl => ?_)
        exact bX11_greatestRank_31 C (fun M9 a09 a19 a29 H9 q9 ls9 h9 hW9 hS9 hl9 => ih M9 a09 a19 a29 H9 q9 ls9 h9 hW9 hS9 hl9) _ _ _ _ _ _ _ h hW hS (lv_sub hl [1, 2, 0, 3] rfl)
set_option maxHeartbeats 4000000 in
set_option maxRecDepth 100000 in
theorem kX11_greatestRank {post : tq_St → Int32 → Prop} {S : tq_St} {p0 : Int32} (h : wpX11_greatestRank N post S p0) : tq_sI l yX11_greatestRank (tq_ws yX11_greatestRank cX11_greatestRank 4 (some .int)) 1 21 D cy z H0 ad N M S [.ref (ad 1 0), .int p0] post := by
  unfold wpX11_greatestRank at h
  refine Met.ofW (cc := cX11_greatestRank) (maxL := 4) (ret := (some .int)) (by decide) rfl ?_
  intro p e s m args below meth c s₁ B hml hv
  obtain ⟨rfl, hW, hK, hG⟩ := hv
  have hx := B.exec
  have hb := B.bytes
  have hr := B.returns
  have hts := atoms_spec (ws := (tq_ws yX11_greatestRank cX11_greatestRank 4 (some .int))) B.pre
  have hw : ∀ w ∈ tq_W, w.before _ s = true := fun w h => hts w (List.mem_cons_of_mem _ h)
  have hown : s.vm.findClass RX11 = some m.cls := findClass_of_methodNamed B.named
  have hlocks := B.notSynchronized
  have C : tq_At p s m meth c [.ref (ad 1 0), .int p0].toArray cX11_greatestRank 4 ((some .int)) ((tq_ws yX11_greatestRank cX11_greatestRank 4 (some .int))) RX11 D cy z ad := ⟨hx, hb, hr, hml, hown, hts, hlocks, hK, hG⟩
  have hS : va_S (fun q => z ≤ q) s.heap s.heap [] := va_S.rf
  have hl := lv_entry ([.ref (ad 1 0), .int p0]) (n := 4) (Nat.le_of_ble_eq_true rfl)
  rw [lg_entry_eq]
  generalize (lg_sl ([.ref (ad 1 0), .int p0]) ++ List.replicate (4 - (lg_sl ([.ref (ad 1 0), .int p0])).length) Slot.unset).toArray = ls at hl ⊢
  have hl : lv_has ls 4 [(0, .ref (ad 1 0)), (1, .int p0)] := hl
  have hW : tq_wd D cy z H0 ad N (tq_mix S M) s.heap := hW
  refine lv_iconst (v := (-1)) hx hb dX11_greatestRank_0 (by decide) ?_
  refine lv_istore_n (lv' := [(2, .int ((-1))), (0, .ref (ad 1 0)), (1, .int p0)]) hx hb dX11_greatestRank_1 rfl hl (by decide) rfl (fun ls hl => ?_)
  refine lv_iconst (v := 0) hx hb dX11_greatestRank_2 (by decide) ?_
  refine lv_istore_n (lv' := [(3, .int 0), (2, .int ((-1))), (0, .ref (ad 1 0)), (1, .int p0)]) hx hb dX11_greatestRank_3 rfl hl (by decide) rfl (fun ls hl => ?_)
  obtain ⟨nq, h⟩ := h
  exact bX11_greatestRank_4 C  nq _ _ _ _ _ _ _ h hW hS (lv_sub hl [2, 3, 1, 0] rfl)
-- X11 invoicedTo
def wbX11_invoicedTo_20 (N : tq_Nn) (post : tq_St → Int32 → Prop)  (S : tq_St) (y0 : Int32) : Prop :=
  post S y0
def wpX11_invoicedTo (N : tq_Nn) (post : tq_St → Int32 → Prop) (S : tq_St) (p0 : Int32) : Prop :=
  wpX11_isFactory N (fun S1 r2 => (r2 = 0 → (wbX11_invoicedTo_20 N post S1 ((-1)))) ∧ (¬ r2 = 0 → (vp_in p0 5 ∧ (wbX11_invoicedTo_20 N post S1 (S1 2 p0.toNatClampNeg 16))))) S p0
set_option maxHeartbeats 4000000 in
set_option maxRecDepth 100000 in
theorem bX11_invoicedTo_20 {p : Program} {e : Env} {s : State} {m : MethodId} {args : Array Value} {below : List Frame} {meth : Method} {c : Code} {post : tq_St → Int32 → Prop} (C : tq_At p s m meth c args cX11_invoicedTo 2 ((some .int)) ((tq_ws yX11_invoicedTo cX11_invoicedTo 2 (some .int))) RX11 D cy z ad)  : ∀ (S : tq_St) (y0 : Int32) (H : Heap) (locs : List Loc) (ls : Array Slot), wbX11_invoicedTo_20 N post   S y0 → tq_wd D cy z H0 ad N (tq_mix S M) H → va_S (fun q => z ≤ q) s.heap H locs → lv_has ls 2 [] → W p l e (tq_rm 1 20) s m args below meth c H locs 0 0 (MQ below (va_Qi (fun r u => post u r) (fun u => tq_P D cy z H0 ad N u M) (fun q => z ≤ q)) args s 0 0 (fun q => z ≤ q)) (F0 m 20 ls [.int y0]) := by
  obtain ⟨hx, hb, hr, hml, hown, hts, hlocks, hK, hG⟩ := id C
  have hw : ∀ w ∈ tq_W, w.before args s = true := fun w h => hts w (List.mem_cons_of_mem _ h)
  intro S y0 H locs ls h hW hS hl
  unfold wbX11_invoicedTo_20 at h
  exact W.iret (v := y0) hx hb hr (fun t ht hWm => ⟨⟨_, S, rfl, h, tq_pe ht hW⟩, hS.F ht⟩) hS.2.2 dX11_invoicedTo_20
set_option maxHeartbeats 4000000 in
set_option maxRecDepth 100000 in
theorem kX11_invoicedTo {post : tq_St → Int32 → Prop} {S : tq_St} {p0 : Int32} (h : wpX11_invoicedTo N post S p0) : tq_sI l yX11_invoicedTo (tq_ws yX11_invoicedTo cX11_invoicedTo 2 (some .int)) 1 20 D cy z H0 ad N M S [.ref (ad 1 0), .int p0] post := by
  unfold wpX11_invoicedTo at h
  refine Met.ofW (cc := cX11_invoicedTo) (maxL := 2) (ret := (some .int)) (by decide) rfl ?_
  intro p e s m args below meth c s₁ B hml hv
  obtain ⟨rfl, hW, hK, hG⟩ := hv
  have hx := B.exec
  have hb := B.bytes
  have hr := B.returns
  have hts := atoms_spec (ws := (tq_ws yX11_invoicedTo cX11_invoicedTo 2 (some .int))) B.pre
  have hw : ∀ w ∈ tq_W, w.before _ s = true := fun w h => hts w (List.mem_cons_of_mem _ h)
  have hown : s.vm.findClass RX11 = some m.cls := findClass_of_methodNamed B.named
  have hlocks := B.notSynchronized
  have C : tq_At p s m meth c [.ref (ad 1 0), .int p0].toArray cX11_invoicedTo 2 ((some .int)) ((tq_ws yX11_invoicedTo cX11_invoicedTo 2 (some .int))) RX11 D cy z ad := ⟨hx, hb, hr, hml, hown, hts, hlocks, hK, hG⟩
  have hS : va_S (fun q => z ≤ q) s.heap s.heap [] := va_S.rf
  have hl := lv_entry ([.ref (ad 1 0), .int p0]) (n := 2) (Nat.le_of_ble_eq_true rfl)
  rw [lg_entry_eq]
  generalize (lg_sl ([.ref (ad 1 0), .int p0]) ++ List.replicate (2 - (lg_sl ([.ref (ad 1 0), .int p0])).length) Slot.unset).toArray = ls at hl ⊢
  have hl : lv_has ls 2 [(0, .ref (ad 1 0)), (1, .int p0)] := hl
  have hW : tq_wd D cy z H0 ad N (tq_mix S M) s.heap := hW
  refine lv_iload_n hx hb dX11_invoicedTo_0 rfl (lv_at hl 1 rfl) ?_
  refine tqc_callSi (As := [.int p0]) (rest := []) (kX11_isFactory h) ⟨hx, hb, hml, hown, hts⟩ (va_cwS 1 hts (tq_goodS tw_402 tw_403 tw_115 tw_404) rfl rfl rfl (by decide +kernel) ⟨(Nat.le_of_ble_eq_true rfl), (Nat.le_of_ble_eq_true rfl)⟩) hK hG hW hS rfl hl.1 rfl (Nat.le_of_ble_eq_true rfl) dX11_invoicedTo_1 ⟨(Nat.le_of_ble_eq_true rfl), (Nat.le_of_ble_eq_true rfl)⟩ (fun r2 S1 H locs h hW hS => ?_)
  refine lv_if_eq (tgt := 19) hx hb dX11_invoicedTo_4 (by decide) (fun c3 => ?_) (fun c3 => ?_)
  · have h := h.1 c3
    refine lv_iconst (v := (-1)) hx hb dX11_invoicedTo_19 (by decide) ?_
    exact bX11_invoicedTo_20 C  _ _ _ _ _ h hW hS (lv_sub hl [] rfl)
  · have h := h.2 c3
    refine lv_aload_n hx hb dX11_invoicedTo_7 rfl (lv_at hl 0 rfl) ?_
    refine tqc_get (v := .ref (ad 12 0)) hx hb hw tq_inX11 hown hK hW (by decide) (tq_mk_1 (by decide)) rfl 1 (by decide) (hw _ tw_338) (fun _ h9 => h9) rfl dX11_invoicedTo_8 ?_
    refine lv_iload_n hx hb dX11_invoicedTo_11 rfl (lv_at hl 1 rfl) ?_
    obtain ⟨b4, h⟩ := h
    refine tqc_aald (jn := p0.toNatClampNeg) (v := .ref (ad 2 p0.toNatClampNeg)) hx hb hK hW (by decide) (tq_mk_12 (by decide)) 3 rfl rfl b4 rfl rfl dX11_invoicedTo_12 ?_
    refine tqc_get (v := .int (S1 2 p0.toNatClampNeg 16)) hx hb hw tq_inX5 hown hK hW (by decide) (tq_mk_2 (tq_lt b4)) rfl 16 (by decide) (hw _ tw_281) (fun _ h9 => h9) rfl dX11_invoicedTo_13 ?_
    refine lv_goto (tgt := 20) hx hb dX11_invoicedTo_16 (by decide) ?_
    exact bX11_invoicedTo_20 C  _ _ _ _ _ h hW hS (lv_sub hl [] rfl)
-- X11 lotsBring
def wpX11_lotsBring (N : tq_Nn) (post : tq_St → Int32 → Prop) (S : tq_St) (p0 : Nat) (p1 : Int32) (p2 : Int32) (p3 : Int32) (p4 : Int32) : Prop :=
  p0 < 4 ∧ (post S ((((p1 * (S 28 p0 0)) + (p2 * (S 28 p0 1))) + (p3 * (S 28 p0 2))) + (p4 * (S 28 p0 3))))
set_option maxHeartbeats 4000000 in
set_option maxRecDepth 100000 in
theorem kX11_lotsBring {post : tq_St → Int32 → Prop} {S : tq_St} {p0 : Nat} {p1 : Int32} {p2 : Int32} {p3 : Int32} {p4 : Int32} (h : wpX11_lotsBring N post S p0 p1 p2 p3 p4) : tq_sI l yX11_lotsBring (tq_ws yX11_lotsBring cX11_lotsBring 5 (some .int)) 0 0 D cy z H0 ad N M S [.ref (ad 28 p0), .int p1, .int p2, .int p3, .int p4] post := by
  unfold wpX11_lotsBring at h
  refine Met.ofW (cc := cX11_lotsBring) (maxL := 5) (ret := (some .int)) (by decide) rfl ?_
  intro p e s m args below meth c s₁ B hml hv
  obtain ⟨rfl, hW, hK, hG⟩ := hv
  have hx := B.exec
  have hb := B.bytes
  have hr := B.returns
  have hts := atoms_spec (ws := (tq_ws yX11_lotsBring cX11_lotsBring 5 (some .int))) B.pre
  have hw : ∀ w ∈ tq_W, w.before _ s = true := fun w h => hts w (List.mem_cons_of_mem _ h)
  have hown : s.vm.findClass RX11 = some m.cls := findClass_of_methodNamed B.named
  have hlocks := B.notSynchronized
  have C : tq_At p s m meth c [.ref (ad 28 p0), .int p1, .int p2, .int p3, .int p4].toArray cX11_lotsBring 5 ((some .int)) ((tq_ws yX11_lotsBring cX11_lotsBring 5 (some .int))) RX11 D cy z ad := ⟨hx, hb, hr, hml, hown, hts, hlocks, hK, hG⟩
  have hS : va_S (fun q => z ≤ q) s.heap s.heap [] := va_S.rf
  have hl := lv_entry ([.ref (ad 28 p0), .int p1, .int p2, .int p3, .int p4]) (n := 5) (Nat.le_of_ble_eq_true rfl)
  rw [lg_entry_eq]
  generalize (lg_sl ([.ref (ad 28 p0), .int p1, .int p2, .int p3, .int p4]) ++ List.replicate (5 - (lg_sl ([.ref (ad 28 p0), .int p1, .int p2, .int p3, .int p4])).length) Slot.unset).toArray = ls at hl ⊢
  have hl : lv_has ls 5 [(0, .ref (ad 28 p0)), (1, .int p1), (2, .int p2), (3, .int p3), (4, .int p4)] := hl
  have hW : tq_wd D cy z H0 ad N (tq_mix S M) s.heap := hW
  refine lv_iload_n hx hb dX11_lotsBring_0 rfl (lv_at hl 1 rfl) ?_
  refine lv_aload_n hx hb dX11_lotsBring_1 rfl (lv_at hl 0 rfl) ?_
  refine lv_iconst (v := 0) hx hb dX11_lotsBring_2 (by decide) ?_
  obtain ⟨b1, h⟩ := h
  refine tqc_iald (jn := 0) hx hb hK hW (by decide) (tq_mk_28 b1) (by unfold vp_in; decide) (by decide) dX11_lotsBring_3 ?_
  refine lv_imul hx hb dX11_lotsBring_4 ?_
  refine lv_iload_n hx hb dX11_lotsBring_5 rfl (lv_at hl 2 rfl) ?_
  refine lv_aload_n hx hb dX11_lotsBring_6 rfl (lv_at hl 0 rfl) ?_
  refine lv_iconst (v := 1) hx hb dX11_lotsBring_7 (by decide) ?_
  refine tqc_iald (jn := 1) hx hb hK hW (by decide) (tq_mk_28 b1) (by unfold vp_in; decide) (by decide) dX11_lotsBring_8 ?_
  refine lv_imul hx hb dX11_lotsBring_9 ?_
  refine lv_iadd hx hb dX11_lotsBring_10 ?_
  refine lv_iload_n hx hb dX11_lotsBring_11 rfl (lv_at hl 3 rfl) ?_
  refine lv_aload_n hx hb dX11_lotsBring_12 rfl (lv_at hl 0 rfl) ?_
  refine lv_iconst (v := 2) hx hb dX11_lotsBring_13 (by decide) ?_
  refine tqc_iald (jn := 2) hx hb hK hW (by decide) (tq_mk_28 b1) (by unfold vp_in; decide) (by decide) dX11_lotsBring_14 ?_
  refine lv_imul hx hb dX11_lotsBring_15 ?_
  refine lv_iadd hx hb dX11_lotsBring_16 ?_
  refine lv_iload hx hb dX11_lotsBring_17 (lv_at hl 4 rfl) ?_
  refine lv_aload_n hx hb dX11_lotsBring_19 rfl (lv_at hl 0 rfl) ?_
  refine lv_iconst (v := 3) hx hb dX11_lotsBring_20 (by decide) ?_
  refine tqc_iald (jn := 3) hx hb hK hW (by decide) (tq_mk_28 b1) (by unfold vp_in; decide) (by decide) dX11_lotsBring_21 ?_
  refine lv_imul hx hb dX11_lotsBring_22 ?_
  refine lv_iadd hx hb dX11_lotsBring_23 ?_
  exact W.iret (v := (((p1 * (S 28 p0 0)) + (p2 * (S 28 p0 1))) + (p3 * (S 28 p0 2))) + (p4 * (S 28 p0 3))) hx hb hr (fun t ht hWm => ⟨⟨_, S, rfl, h, tq_pe ht hW⟩, hS.F ht⟩) hS.2.2 dX11_lotsBring_24
-- X11 isUnder
def wbX11_isUnder_39 (N : tq_Nn) (post : tq_St → Int32 → Prop)  (S : tq_St) : Prop :=
  post S 0
def wbX11_isUnder_4 (N : tq_Nn) (post : tq_St → Int32 → Prop) : Nat → tq_St → Int32 → Int32 → Int32 → Prop
  | 0, _, _, _, _ => False
  | n + 1, S, x1, x2, x3 =>
    (7 ≤ x3 → (wbX11_isUnder_39 N post S )) ∧ (¬ 7 ≤ x3 → ((x2 < 0 → (wbX11_isUnder_39 N post S )) ∧ (¬ x2 < 0 → ((7 ≤ x2 → (wbX11_isUnder_39 N post S )) ∧ (¬ 7 ≤ x2 → ((¬ x2 = x1 → (vp_in x2 7 ∧ ((wbX11_isUnder_4 N post n) S x1 (tq_above.getD x2.toNatClampNeg 0) (x3 + 1)))) ∧ (x2 = x1 → (post S 1))))))))
def wpX11_isUnder (N : tq_Nn) (post : tq_St → Int32 → Prop) (S : tq_St) (p0 : Int32) (p1 : Int32) : Prop :=
  ∃ nq, wbX11_isUnder_4 N post nq S p1 p0 0
set_option maxHeartbeats 4000000 in
set_option maxRecDepth 100000 in
theorem bX11_isUnder_39 {p : Program} {e : Env} {s : State} {m : MethodId} {args : Array Value} {below : List Frame} {meth : Method} {c : Code} {post : tq_St → Int32 → Prop} (C : tq_At p s m meth c args cX11_isUnder 4 ((some .boolean)) ((tq_ws yX11_isUnder cX11_isUnder 4 (some .boolean))) RX11 D cy z ad)  : ∀ (S : tq_St)  (H : Heap) (locs : List Loc) (ls : Array Slot), wbX11_isUnder_39 N post   S  → tq_wd D cy z H0 ad N (tq_mix S M) H → va_S (fun q => z ≤ q) s.heap H locs → lv_has ls 4 [] → W p l e (tq_rm 0 0) s m args below meth c H locs 0 0 (MQ below (va_Qi (fun r u => post u r) (fun u => tq_P D cy z H0 ad N u M) (fun q => z ≤ q)) args s 0 0 (fun q => z ≤ q)) (F0 m 39 ls []) := by
  obtain ⟨hx, hb, hr, hml, hown, hts, hlocks, hK, hG⟩ := id C
  have hw : ∀ w ∈ tq_W, w.before args s = true := fun w h => hts w (List.mem_cons_of_mem _ h)
  intro S  H locs ls h hW hS hl
  unfold wbX11_isUnder_39 at h
  refine lv_iconst (v := 0) hx hb dX11_isUnder_39 (by decide) ?_
  exact W.zret (v := 0) hx hb hr rfl (fun t ht hWm => ⟨⟨_, S, rfl, h, tq_pe ht hW⟩, hS.F ht⟩) hS.2.2 dX11_isUnder_40
set_option maxHeartbeats 4000000 in
set_option maxRecDepth 100000 in
theorem bX11_isUnder_4 {p : Program} {e : Env} {s : State} {m : MethodId} {args : Array Value} {below : List Frame} {meth : Method} {c : Code} {post : tq_St → Int32 → Prop} (C : tq_At p s m meth c args cX11_isUnder 4 ((some .boolean)) ((tq_ws yX11_isUnder cX11_isUnder 4 (some .boolean))) RX11 D cy z ad)  : ∀ n : Nat, ∀ (S : tq_St) (x1 : Int32) (x2 : Int32) (x3 : Int32) (H : Heap) (locs : List Loc) (ls : Array Slot), wbX11_isUnder_4 N post   n S x1 x2 x3 → tq_wd D cy z H0 ad N (tq_mix S M) H → va_S (fun q => z ≤ q) s.heap H locs → lv_has ls 4 [(1, .int x1), (2, .int x2), (3, .int x3)] → W p l e (tq_rm 0 0) s m args below meth c H locs 0 0 (MQ below (va_Qi (fun r u => post u r) (fun u => tq_P D cy z H0 ad N u M) (fun q => z ≤ q)) args s 0 0 (fun q => z ≤ q)) (F0 m 4 ls []) := by
  obtain ⟨hx, hb, hr, hml, hown, hts, hlocks, hK, hG⟩ := id C
  have hw : ∀ w ∈ tq_W, w.before args s = true := fun w h => hts w (List.mem_cons_of_mem _ h)
  intro n
  induction n with
  | zero =>
    intro S x1 x2 x3 H locs ls h
    exact absurd h (by unfold wbX11_isUnder_4; exact id)
  | succ n ih =>
    intro S x1 x2 x3 H locs ls h hW hS hl
    unfold wbX11_isUnder_4 at h
    refine lv_iload_n hx hb dX11_isUnder_4 rfl (lv_at hl 2 rfl) ?_
    refine lv_bipush (v := 7) hx hb dX11_isUnder_5 (by decide) ?_
    refine lv_icmp_ge (tgt := 39) hx hb dX11_isUnder_7 (by decide) (fun c1 => ?_) (fun c1 => ?_)
    · have h := h.1 c1
      exact bX11_isUnder_39 C  _  _ _ _ h hW hS (lv_sub hl [] rfl)
    · have h := h.2 c1
      refine lv_iload_n hx hb dX11_isUnder_10 rfl (lv_at hl 1 rfl) ?_
      refine lv_if_lt (tgt := 39) hx hb dX11_isUnder_11 (by decide) (fun c2 => ?_) (fun c2 => ?_)
      · have h := h.1 c2
        exact bX11_isUnder_39 C  _  _ _ _ h hW hS (lv_sub hl [] rfl)
      · have h := h.2 c2
        refine lv_iload_n hx hb dX11_isUnder_14 rfl (lv_at hl 1 rfl) ?_
        refine lv_bipush (v := 7) hx hb dX11_isUnder_15 (by decide) ?_
        refine lv_icmp_ge (tgt := 39) hx hb dX11_isUnder_17 (by decide) (fun c3 => ?_) (fun c3 => ?_)
        · have h := h.1 c3
          exact bX11_isUnder_39 C  _  _ _ _ h hW hS (lv_sub hl [] rfl)
        · have h := h.2 c3
          refine lv_iload_n hx hb dX11_isUnder_20 rfl (lv_at hl 1 rfl) ?_
          refine lv_iload_n hx hb dX11_isUnder_21 rfl (lv_at hl 0 rfl) ?_
          refine lv_icmp_ne (tgt := 27) hx hb dX11_isUnder_22 (by decide) (fun c4 => ?_) (fun c4 => ?_)
          · have h := h.1 c4
            refine va_gets hx hb hG.2.2.2.1.1 hS hown (hw _ tw_1374) (fun _ h9 => h9) dX11_isUnder_27 ?_
            refine lv_iload_n hx hb dX11_isUnder_30 rfl (lv_at hl 1 rfl) ?_
            obtain ⟨b5, h⟩ := h
            refine va_ti (v := .int (tq_above.getD x2.toNatClampNeg 0)) hx hb hG.2.2.2.1.2 hS b5 rfl dX11_isUnder_31 ?_
            refine lv_istore_n (lv' := [(2, .int (tq_above.getD x2.toNatClampNeg 0)), (1, .int x1), (3, .int x3)]) hx hb dX11_isUnder_32 rfl hl (by decide) rfl (fun ls hl => ?_)
            refine lv_iinc (v := x3 + 1) (lv' := [(3, .int (x3 + 1)), (2, .int (tq_above.getD x2.toNatClampNeg 0)), (1, .int x1)]) hx hb dX11_isUnder_33 hl (k := 2) rfl rfl (by decide) rfl (fun ls hl => ?_)
            refine lv_goto (tgt := 4) hx hb dX11_isUnder_36 (by decide) ?_
            exact ih _ _ _ _ _ _ _ h hW hS (lv_sub hl [2, 1, 0] rfl)
          · have h := h.2 c4
            refine lv_iconst (v := 1) hx hb dX11_isUnder_25 (by decide) ?_
            exact W.zret (v := 1) hx hb hr rfl (fun t ht hWm => ⟨⟨_, S, rfl, h, tq_pe ht hW⟩, hS.F ht⟩) hS.2.2 dX11_isUnder_26
set_option maxHeartbeats 4000000 in
set_option maxRecDepth 100000 in
theorem kX11_isUnder {post : tq_St → Int32 → Prop} {S : tq_St} {p0 : Int32} {p1 : Int32} (h : wpX11_isUnder N post S p0 p1) : tq_sI l yX11_isUnder (tq_ws yX11_isUnder cX11_isUnder 4 (some .boolean)) 0 0 D cy z H0 ad N M S [.int p0, .int p1] post := by
  unfold wpX11_isUnder at h
  refine Met.ofW (cc := cX11_isUnder) (maxL := 4) (ret := (some .boolean)) (by decide) rfl ?_
  intro p e s m args below meth c s₁ B hml hv
  obtain ⟨rfl, hW, hK, hG⟩ := hv
  have hx := B.exec
  have hb := B.bytes
  have hr := B.returns
  have hts := atoms_spec (ws := (tq_ws yX11_isUnder cX11_isUnder 4 (some .boolean))) B.pre
  have hw : ∀ w ∈ tq_W, w.before _ s = true := fun w h => hts w (List.mem_cons_of_mem _ h)
  have hown : s.vm.findClass RX11 = some m.cls := findClass_of_methodNamed B.named
  have hlocks := B.notSynchronized
  have C : tq_At p s m meth c [.int p0, .int p1].toArray cX11_isUnder 4 ((some .boolean)) ((tq_ws yX11_isUnder cX11_isUnder 4 (some .boolean))) RX11 D cy z ad := ⟨hx, hb, hr, hml, hown, hts, hlocks, hK, hG⟩
  have hS : va_S (fun q => z ≤ q) s.heap s.heap [] := va_S.rf
  have hl := lv_entry ([.int p0, .int p1]) (n := 4) (Nat.le_of_ble_eq_true rfl)
  rw [lg_entry_eq]
  generalize (lg_sl ([.int p0, .int p1]) ++ List.replicate (4 - (lg_sl ([.int p0, .int p1])).length) Slot.unset).toArray = ls at hl ⊢
  have hl : lv_has ls 4 [(0, .int p0), (1, .int p1)] := hl
  have hW : tq_wd D cy z H0 ad N (tq_mix S M) s.heap := hW
  refine lv_iload_n hx hb dX11_isUnder_0 rfl (lv_at hl 0 rfl) ?_
  refine lv_istore_n (lv' := [(2, .int p0), (0, .int p0), (1, .int p1)]) hx hb dX11_isUnder_1 rfl hl (by decide) rfl (fun ls hl => ?_)
  refine lv_iconst (v := 0) hx hb dX11_isUnder_2 (by decide) ?_
  refine lv_istore_n (lv' := [(3, .int 0), (2, .int p0), (0, .int p0), (1, .int p1)]) hx hb dX11_isUnder_3 rfl hl (by decide) rfl (fun ls hl => ?_)
  obtain ⟨nq, h⟩ := h
  exact bX11_isUnder_4 C  nq _ _ _ _ _ _ _ h hW hS (lv_sub hl [3, 1, 0] rfl)
-- X6 readSort
def wbX6_readSort_2 (N : tq_Nn) (post : tq_St → Int32 → Prop) : Nat → tq_St → Int32 → Prop
  | 0, _, _ => False
  | n + 1, S, x1 =>
    (4 ≤ x1 → (wpX6_fail N (fun S2 => post S2 0) S )) ∧ (¬ 4 ≤ x1 → (wpX6_takes N (fun S3 r4 => (r4 = 0 → ((wbX6_readSort_2 N post n) S3 (x1 + 1))) ∧ (¬ r4 = 0 → (post S3 x1))) S (48 + x1)))
def wpX6_readSort (N : tq_Nn) (post : tq_St → Int32 → Prop) (S : tq_St)  : Prop :=
  ∃ nq, wbX6_readSort_2 N post nq S 0
set_option maxHeartbeats 4000000 in
set_option maxRecDepth 100000 in
theorem bX6_readSort_2 {p : Program} {e : Env} {s : State} {m : MethodId} {args : Array Value} {below : List Frame} {meth : Method} {c : Code} {post : tq_St → Int32 → Prop} (C : tq_At p s m meth c args cX6_readSort 2 ((some .int)) ((tq_ws yX6_readSort cX6_readSort 2 (some .int))) RX6 D cy z ad)  : ∀ n : Nat, ∀ (S : tq_St) (x1 : Int32) (H : Heap) (locs : List Loc) (ls : Array Slot), wbX6_readSort_2 N post   n S x1 → tq_wd D cy z H0 ad N (tq_mix S M) H → va_S (fun q => z ≤ q) s.heap H locs → lv_has ls 2 [(0, .ref (ad 3 0)), (1, .int x1)] → W p l e (tq_rm 1 22) s m args below meth c H locs 0 0 (MQ below (va_Qi (fun r u => post u r) (fun u => tq_P D cy z H0 ad N u M) (fun q => z ≤ q)) args s 0 0 (fun q => z ≤ q)) (F0 m 2 ls []) := by
  obtain ⟨hx, hb, hr, hml, hown, hts, hlocks, hK, hG⟩ := id C
  have hw : ∀ w ∈ tq_W, w.before args s = true := fun w h => hts w (List.mem_cons_of_mem _ h)
  intro n
  induction n with
  | zero =>
    intro S x1 H locs ls h
    exact absurd h (by unfold wbX6_readSort_2; exact id)
  | succ n ih =>
    intro S x1 H locs ls h hW hS hl
    unfold wbX6_readSort_2 at h
    refine lv_iload_n hx hb dX6_readSort_2 rfl (lv_at hl 1 rfl) ?_
    refine lv_iconst (v := 4) hx hb dX6_readSort_3 (by decide) ?_
    refine lv_icmp_ge (tgt := 26) hx hb dX6_readSort_4 (by decide) (fun c1 => ?_) (fun c1 => ?_)
    · have h := h.1 c1
      refine lv_aload_n hx hb dX6_readSort_26 rfl (lv_at hl 0 rfl) ?_
      refine tqc_callVv (As := []) (rest := []) (kX6_fail h) ⟨hx, hb, hml, hown, hts⟩ (cwV 0 hts (tq_goodV tw_629 tw_631 tw_6 tw_119 tw_632) rfl rfl rfl (by decide +kernel) ⟨(Nat.le_of_ble_eq_true rfl), (Nat.le_of_ble_eq_true rfl)⟩) (tq_recvC hK hW (by decide) (tq_mk_3 (by decide)) rfl) hK hG hW hS rfl hl.1 rfl (Nat.le_of_ble_eq_true rfl) dX6_readSort_27 ⟨(Nat.le_of_ble_eq_true rfl), (Nat.le_of_ble_eq_true rfl)⟩ (fun S2 H locs h hW hS => ?_)
      refine lv_iconst (v := 0) hx hb dX6_readSort_30 (by decide) ?_
      exact W.iret (v := 0) hx hb hr (fun t ht hWm => ⟨⟨_, S2, rfl, h, tq_pe ht hW⟩, hS.F ht⟩) hS.2.2 dX6_readSort_31
    · have h := h.2 c1
      refine lv_aload_n hx hb dX6_readSort_7 rfl (lv_at hl 0 rfl) ?_
      refine lv_bipush (v := 48) hx hb dX6_readSort_8 (by decide) ?_
      refine lv_iload_n hx hb dX6_readSort_10 rfl (lv_at hl 1 rfl) ?_
      refine lv_iadd hx hb dX6_readSort_11 ?_
      refine tqc_callVi (As := [.int (48 + x1)]) (rest := []) (kX6_takes h) ⟨hx, hb, hml, hown, hts⟩ (cwV 1 hts (tq_goodV tw_572 tw_574 tw_4 tw_119 tw_575) rfl rfl rfl (by decide +kernel) ⟨(Nat.le_of_ble_eq_true rfl), (Nat.le_of_ble_eq_true rfl)⟩) (tq_recvC hK hW (by decide) (tq_mk_3 (by decide)) rfl) hK hG hW hS rfl hl.1 rfl (Nat.le_of_ble_eq_true rfl) dX6_readSort_12 ⟨(Nat.le_of_ble_eq_true rfl), (Nat.le_of_ble_eq_true rfl)⟩ (fun r4 S3 H locs h hW hS => ?_)
      refine lv_if_eq (tgt := 20) hx hb dX6_readSort_15 (by decide) (fun c5 => ?_) (fun c5 => ?_)
      · have h := h.1 c5
        refine lv_iinc (v := x1 + 1) (lv' := [(1, .int (x1 + 1)), (0, .ref (ad 3 0))]) hx hb dX6_readSort_20 hl (k := 1) rfl rfl (by decide) rfl (fun ls hl => ?_)
        refine lv_goto (tgt := 2) hx hb dX6_readSort_23 (by decide) ?_
        exact ih _ _ _ _ _ h hW hS (lv_sub hl [1, 0] rfl)
      · have h := h.2 c5
        refine lv_iload_n hx hb dX6_readSort_18 rfl (lv_at hl 1 rfl) ?_
        exact W.iret (v := x1) hx hb hr (fun t ht hWm => ⟨⟨_, S3, rfl, h, tq_pe ht hW⟩, hS.F ht⟩) hS.2.2 dX6_readSort_19
set_option maxHeartbeats 4000000 in
set_option maxRecDepth 100000 in
theorem kX6_readSort {post : tq_St → Int32 → Prop} {S : tq_St}  (h : wpX6_readSort N post S ) : tq_sI l yX6_readSort (tq_ws yX6_readSort cX6_readSort 2 (some .int)) 1 22 D cy z H0 ad N M S [.ref (ad 3 0)] post := by
  unfold wpX6_readSort at h
  refine Met.ofW (cc := cX6_readSort) (maxL := 2) (ret := (some .int)) (by decide) rfl ?_
  intro p e s m args below meth c s₁ B hml hv
  obtain ⟨rfl, hW, hK, hG⟩ := hv
  have hx := B.exec
  have hb := B.bytes
  have hr := B.returns
  have hts := atoms_spec (ws := (tq_ws yX6_readSort cX6_readSort 2 (some .int))) B.pre
  have hw : ∀ w ∈ tq_W, w.before _ s = true := fun w h => hts w (List.mem_cons_of_mem _ h)
  have hown : s.vm.findClass RX6 = some m.cls := findClass_of_methodNamed B.named
  have hlocks := B.notSynchronized
  have C : tq_At p s m meth c [.ref (ad 3 0)].toArray cX6_readSort 2 ((some .int)) ((tq_ws yX6_readSort cX6_readSort 2 (some .int))) RX6 D cy z ad := ⟨hx, hb, hr, hml, hown, hts, hlocks, hK, hG⟩
  have hS : va_S (fun q => z ≤ q) s.heap s.heap [] := va_S.rf
  have hl := lv_entry ([.ref (ad 3 0)]) (n := 2) (Nat.le_of_ble_eq_true rfl)
  rw [lg_entry_eq]
  generalize (lg_sl ([.ref (ad 3 0)]) ++ List.replicate (2 - (lg_sl ([.ref (ad 3 0)])).length) Slot.unset).toArray = ls at hl ⊢
  have hl : lv_has ls 2 [(0, .ref (ad 3 0))] := hl
  have hW : tq_wd D cy z H0 ad N (tq_mix S M) s.heap := hW
  refine lv_iconst (v := 0) hx hb dX6_readSort_0 (by decide) ?_
  refine lv_istore_n (lv' := [(1, .int 0), (0, .ref (ad 3 0))]) hx hb dX6_readSort_1 rfl hl (by decide) rfl (fun ls hl => ?_)
  obtain ⟨nq, h⟩ := h
  exact bX6_readSort_2 C  nq _ _ _ _ _ h hW hS (lv_sub hl [1, 0] rfl)
-- X6 readNumber
def wbX6_readNumber_58 (N : tq_Nn) (post : tq_St → Int32 → Prop)  (S : tq_St) (x1 : Int32) : Prop :=
  post S x1
def wbX6_readNumber_50 (N : tq_Nn) (post : tq_St → Int32 → Prop)  (S : tq_St) (x1 : Int32) (x2 : Int32) : Prop :=
  (¬ x2 = 0 → (wbX6_readNumber_58 N post S x1)) ∧ (x2 = 0 → (wpX6_fail N (fun S8 => wbX6_readNumber_58 N post S8 x1) S ))
def wbX6_readNumber_4 (N : tq_Nn) (post : tq_St → Int32 → Prop) : Nat → tq_St → Int32 → Int32 → Prop
  | 0, _, _, _ => False
  | n + 1, S, x1, x2 =>
    (4 ≤ x2 → (wbX6_readNumber_50 N post S x1 x2)) ∧ (¬ 4 ≤ x2 → (wpX6_isDigitNext N (fun S2 r3 => (r3 = 0 → (wbX6_readNumber_50 N post S2 x1 x2)) ∧ (¬ r3 = 0 → (vp_in (S2 3 0 2) 120 ∧ ((∀ S6, S6 = tq_up S2 3 0 2 ((S2 3 0 2) + 1) → ((wbX6_readNumber_4 N post n) S6 (((10 * x1) + (S2 41 0 ((S2 3 0 2).toNatClampNeg))) - 48) (x2 + 1))))))) S ))
def wpX6_readNumber (N : tq_Nn) (post : tq_St → Int32 → Prop) (S : tq_St)  : Prop :=
  ∃ nq, wbX6_readNumber_4 N post nq S 0 0
set_option maxHeartbeats 4000000 in
set_option maxRecDepth 100000 in
theorem bX6_readNumber_58 {p : Program} {e : Env} {s : State} {m : MethodId} {args : Array Value} {below : List Frame} {meth : Method} {c : Code} {post : tq_St → Int32 → Prop} (C : tq_At p s m meth c args cX6_readNumber 3 ((some .int)) ((tq_ws yX6_readNumber cX6_readNumber 3 (some .int))) RX6 D cy z ad)  : ∀ (S : tq_St) (x1 : Int32) (H : Heap) (locs : List Loc) (ls : Array Slot), wbX6_readNumber_58 N post   S x1 → tq_wd D cy z H0 ad N (tq_mix S M) H → va_S (fun q => z ≤ q) s.heap H locs → lv_has ls 3 [(1, .int x1)] → W p l e (tq_rm 1 20) s m args below meth c H locs 0 0 (MQ below (va_Qi (fun r u => post u r) (fun u => tq_P D cy z H0 ad N u M) (fun q => z ≤ q)) args s 0 0 (fun q => z ≤ q)) (F0 m 58 ls []) := by
  obtain ⟨hx, hb, hr, hml, hown, hts, hlocks, hK, hG⟩ := id C
  have hw : ∀ w ∈ tq_W, w.before args s = true := fun w h => hts w (List.mem_cons_of_mem _ h)
  intro S x1 H locs ls h hW hS hl
  unfold wbX6_readNumber_58 at h
  refine lv_iload_n hx hb dX6_readNumber_58 rfl (lv_at hl 0 rfl) ?_
  exact W.iret (v := x1) hx hb hr (fun t ht hWm => ⟨⟨_, S, rfl, h, tq_pe ht hW⟩, hS.F ht⟩) hS.2.2 dX6_readNumber_59
set_option maxHeartbeats 4000000 in
set_option maxRecDepth 100000 in
theorem bX6_readNumber_50 {p : Program} {e : Env} {s : State} {m : MethodId} {args : Array Value} {below : List Frame} {meth : Method} {c : Code} {post : tq_St → Int32 → Prop} (C : tq_At p s m meth c args cX6_readNumber 3 ((some .int)) ((tq_ws yX6_readNumber cX6_readNumber 3 (some .int))) RX6 D cy z ad)  : ∀ (S : tq_St) (x1 : Int32) (x2 : Int32) (H : Heap) (locs : List Loc) (ls : Array Slot), wbX6_readNumber_50 N post   S x1 x2 → tq_wd D cy z H0 ad N (tq_mix S M) H → va_S (fun q => z ≤ q) s.heap H locs → lv_has ls 3 [(0, .ref (ad 3 0)), (1, .int x1), (2, .int x2)] → W p l e (tq_rm 1 20) s m args below meth c H locs 0 0 (MQ below (va_Qi (fun r u => post u r) (fun u => tq_P D cy z H0 ad N u M) (fun q => z ≤ q)) args s 0 0 (fun q => z ≤ q)) (F0 m 50 ls []) := by
  obtain ⟨hx, hb, hr, hml, hown, hts, hlocks, hK, hG⟩ := id C
  have hw : ∀ w ∈ tq_W, w.before args s = true := fun w h => hts w (List.mem_cons_of_mem _ h)
  intro S x1 x2 H locs ls h hW hS hl
  unfold wbX6_readNumber_50 at h
  refine lv_iload_n hx hb dX6_readNumber_50 rfl (lv_at hl 2 rfl) ?_
  refine lv_if_ne (tgt := 58) hx hb dX6_readNumber_51 (by decide) (fun c7 => ?_) (fun c7 => ?_)
  · have h := h.1 c7
    exact bX6_readNumber_58 C  _ _ _ _ _ h hW hS (lv_sub hl [1] rfl)
  · have h := h.2 c7
    refine lv_aload_n hx hb dX6_readNumber_54 rfl (lv_at hl 0 rfl) ?_
    refine tqc_callVv (As := []) (rest := []) (kX6_fail h) ⟨hx, hb, hml, hown, hts⟩ (cwV 0 hts (tq_goodV tw_629 tw_631 tw_6 tw_119 tw_632) rfl rfl rfl (by decide +kernel) ⟨(Nat.le_of_ble_eq_true rfl), (Nat.le_of_ble_eq_true rfl)⟩) (tq_recvC hK hW (by decide) (tq_mk_3 (by decide)) rfl) hK hG hW hS rfl hl.1 rfl (Nat.le_of_ble_eq_true rfl) dX6_readNumber_55 ⟨(Nat.le_of_ble_eq_true rfl), (Nat.le_of_ble_eq_true rfl)⟩ (fun S8 H locs h hW hS => ?_)
    exact bX6_readNumber_58 C  _ _ _ _ _ h hW hS (lv_sub hl [1] rfl)
set_option maxHeartbeats 4000000 in
set_option maxRecDepth 100000 in
theorem bX6_readNumber_4 {p : Program} {e : Env} {s : State} {m : MethodId} {args : Array Value} {below : List Frame} {meth : Method} {c : Code} {post : tq_St → Int32 → Prop} (C : tq_At p s m meth c args cX6_readNumber 3 ((some .int)) ((tq_ws yX6_readNumber cX6_readNumber 3 (some .int))) RX6 D cy z ad)  : ∀ n : Nat, ∀ (S : tq_St) (x1 : Int32) (x2 : Int32) (H : Heap) (locs : List Loc) (ls : Array Slot), wbX6_readNumber_4 N post   n S x1 x2 → tq_wd D cy z H0 ad N (tq_mix S M) H → va_S (fun q => z ≤ q) s.heap H locs → lv_has ls 3 [(0, .ref (ad 3 0)), (1, .int x1), (2, .int x2)] → W p l e (tq_rm 1 20) s m args below meth c H locs 0 0 (MQ below (va_Qi (fun r u => post u r) (fun u => tq_P D cy z H0 ad N u M) (fun q => z ≤ q)) args s 0 0 (fun q => z ≤ q)) (F0 m 4 ls []) := by
  obtain ⟨hx, hb, hr, hml, hown, hts, hlocks, hK, hG⟩ := id C
  have hw : ∀ w ∈ tq_W, w.before args s = true := fun w h => hts w (List.mem_cons_of_mem _ h)
  intro n
  induction n with
  | zero =>
    intro S x1 x2 H locs ls h
    exact absurd h (by unfold wbX6_readNumber_4; exact id)
  | succ n ih =>
    intro S x1 x2 H locs ls h hW hS hl
    unfold wbX6_readNumber_4 at h
    refine lv_iload_n hx hb dX6_readNumber_4 rfl (lv_at hl 2 rfl) ?_
    refine lv_iconst (v := 4) hx hb dX6_readNumber_5 (by decide) ?_
    refine lv_icmp_ge (tgt := 50) hx hb dX6_readNumber_6 (by decide) (fun c1 => ?_) (fun c1 => ?_)
    · have h := h.1 c1
      exact bX6_readNumber_50 C  _ _ _ _ _ _ h hW hS (lv_sub hl [0, 1, 2] rfl)
    · have h := h.2 c1
      refine lv_aload_n hx hb dX6_readNumber_9 rfl (lv_at hl 0 rfl) ?_
      refine tqc_callVi (As := []) (rest := []) (kX6_isDigitNext h) ⟨hx, hb, hml, hown, hts⟩ (cwV 0 hts (tq_goodV tw_649 tw_651 tw_9 tw_119 tw_652) rfl rfl rfl (by decide +kernel) ⟨(Nat.le_of_ble_eq_true rfl), (Nat.le_of_ble_eq_true rfl)⟩) (tq_recvC hK hW (by decide) (tq_mk_3 (by decide)) rfl) hK hG hW hS rfl hl.1 rfl (Nat.le_of_ble_eq_true rfl) dX6_readNumber_10 ⟨(Nat.le_of_ble_eq_true rfl), (Nat.le_of_ble_eq_true rfl)⟩ (fun r3 S2 H locs h hW hS => ?_)
      refine lv_if_eq (tgt := 50) hx hb dX6_readNumber_13 (by decide) (fun c4 => ?_) (fun c4 => ?_)
      · have h := h.1 c4
        exact bX6_readNumber_50 C  _ _ _ _ _ _ h hW hS (lv_sub hl [0, 1, 2] rfl)
      · have h := h.2 c4
        refine lv_bipush (v := 10) hx hb dX6_readNumber_16 (by decide) ?_
        refine lv_iload_n hx hb dX6_readNumber_18 rfl (lv_at hl 1 rfl) ?_
        refine lv_imul hx hb dX6_readNumber_19 ?_
        refine lv_aload_n hx hb dX6_readNumber_20 rfl (lv_at hl 0 rfl) ?_
        refine tqc_get (v := .ref (ad 41 0)) hx hb hw tq_inX6 hown hK hW (by decide) (tq_mk_3 (by decide)) rfl 0 (by decide) (hw _ tw_184) (fun _ h9 => h9) rfl dX6_readNumber_21 ?_
        refine lv_aload_n hx hb dX6_readNumber_24 rfl (lv_at hl 0 rfl) ?_
        refine tqc_get (v := .int (S2 3 0 2)) hx hb hw tq_inX6 hown hK hW (by decide) (tq_mk_3 (by decide)) rfl 2 (by decide) (hw _ tw_187) (fun _ h9 => h9) rfl dX6_readNumber_25 ?_
        obtain ⟨b5, h⟩ := h
        refine tqc_iald (jn := (S2 3 0 2).toNatClampNeg) hx hb hK hW (by decide) (tq_mk_41 (by decide)) b5 rfl dX6_readNumber_28 ?_
        refine lv_iadd hx hb dX6_readNumber_29 ?_
        refine lv_bipush (v := 48) hx hb dX6_readNumber_30 (by decide) ?_
        refine lv_isub hx hb dX6_readNumber_32 ?_
        refine lv_istore_n (lv' := [(1, .int (((10 * x1) + (S2 41 0 ((S2 3 0 2).toNatClampNeg))) - 48)), (0, .ref (ad 3 0)), (2, .int x2)]) hx hb dX6_readNumber_33 rfl hl (by decide) rfl (fun ls hl => ?_)
        refine lv_aload_n hx hb dX6_readNumber_34 rfl (lv_at hl 1 rfl) ?_
        refine lv_dup hx hb dX6_readNumber_35 rfl ?_
        refine tqc_get (v := .int (S2 3 0 2)) hx hb hw tq_inX6 hown hK hW (by decide) (tq_mk_3 (by decide)) rfl 2 (by decide) (hw _ tw_187) (fun _ h9 => h9) rfl dX6_readNumber_36 ?_
        refine lv_iconst (v := 1) hx hb dX6_readNumber_39 (by decide) ?_
        refine lv_iadd hx hb dX6_readNumber_40 ?_
        refine tqc_put hx hb hw tq_inX6 tyX6 tyX6_ok nmX6 hown hK hW hS (by decide) (tq_mk_3 (by decide)) rfl 2 (by decide) (hw _ tw_187) (fun _ h9 => h9) rfl rfl rfl rfl (tq_mk_3 (by decide)) dX6_readNumber_41 (fun H locs hW hS => ?_)
        generalize eS6 : tq_up S2 3 0 2 ((S2 3 0 2) + 1) = S6 at hW
        have h := h S6 eS6.symm
        refine lv_iinc (v := x2 + 1) (lv' := [(2, .int (x2 + 1)), (1, .int (((10 * x1) + (S2 41 0 ((S2 3 0 2).toNatClampNeg))) - 48)), (0, .ref (ad 3 0))]) hx hb dX6_readNumber_44 hl (k := 2) rfl rfl (by decide) rfl (fun ls hl => ?_)
        refine lv_goto (tgt := 4) hx hb dX6_readNumber_47 (by decide) ?_
        exact ih _ _ _ _ _ _ h hW hS (lv_sub hl [2, 1, 0] rfl)
set_option maxHeartbeats 4000000 in
set_option maxRecDepth 100000 in
theorem kX6_readNumber {post : tq_St → Int32 → Prop} {S : tq_St}  (h : wpX6_readNumber N post S ) : tq_sI l yX6_readNumber (tq_ws yX6_readNumber cX6_readNumber 3 (some .int)) 1 20 D cy z H0 ad N M S [.ref (ad 3 0)] post := by
  unfold wpX6_readNumber at h
  refine Met.ofW (cc := cX6_readNumber) (maxL := 3) (ret := (some .int)) (by decide) rfl ?_
  intro p e s m args below meth c s₁ B hml hv
  obtain ⟨rfl, hW, hK, hG⟩ := hv
  have hx := B.exec
  have hb := B.bytes
  have hr := B.returns
  have hts := atoms_spec (ws := (tq_ws yX6_readNumber cX6_readNumber 3 (some .int))) B.pre
  have hw : ∀ w ∈ tq_W, w.before _ s = true := fun w h => hts w (List.mem_cons_of_mem _ h)
  have hown : s.vm.findClass RX6 = some m.cls := findClass_of_methodNamed B.named
  have hlocks := B.notSynchronized
  have C : tq_At p s m meth c [.ref (ad 3 0)].toArray cX6_readNumber 3 ((some .int)) ((tq_ws yX6_readNumber cX6_readNumber 3 (some .int))) RX6 D cy z ad := ⟨hx, hb, hr, hml, hown, hts, hlocks, hK, hG⟩
  have hS : va_S (fun q => z ≤ q) s.heap s.heap [] := va_S.rf
  have hl := lv_entry ([.ref (ad 3 0)]) (n := 3) (Nat.le_of_ble_eq_true rfl)
  rw [lg_entry_eq]
  generalize (lg_sl ([.ref (ad 3 0)]) ++ List.replicate (3 - (lg_sl ([.ref (ad 3 0)])).length) Slot.unset).toArray = ls at hl ⊢
  have hl : lv_has ls 3 [(0, .ref (ad 3 0))] := hl
  have hW : tq_wd D cy z H0 ad N (tq_mix S M) s.heap := hW
  refine lv_iconst (v := 0) hx hb dX6_readNumber_0 (by decide) ?_
  refine lv_istore_n (lv' := [(1, .int 0), (0, .ref (ad 3 0))]) hx hb dX6_readNumber_1 rfl hl (by decide) rfl (fun ls hl => ?_)
  refine lv_iconst (v := 0) hx hb dX6_readNumber_2 (by decide) ?_
  refine lv_istore_n (lv' := [(2, .int 0), (1, .int 0), (0, .ref (ad 3 0))]) hx hb dX6_readNumber_3 rfl hl (by decide) rfl (fun ls hl => ?_)
  obtain ⟨nq, h⟩ := h
  exact bX6_readNumber_4 C  nq _ _ _ _ _ _ h hW hS (lv_sub hl [2, 1, 0] rfl)
-- X6 expect
def wbX6_expect_26 (N : tq_Nn) (post : tq_St → Prop) (L2 : tq_St → Nat → Int32 → Prop) (S : tq_St) (x1 : Nat) (x2 : Int32) : Prop :=
  L2 S x1 (x2 + 1)
def wbX6_expect_2 (N : tq_Nn) (post : tq_St → Prop) : Nat → tq_St → Nat → Int32 → Prop
  | 0, _, _, _ => False
  | n + 1, S, x1, x2 =>
    x1 < tq_nS ∧ (((nI (tq_len.getD x1 0)) ≤ x2 → (post S)) ∧ (¬ (nI (tq_len.getD x1 0)) ≤ x2 → (x1 < tq_nS ∧ vp_in x2 (tq_len.getD x1 0) ∧ (wpX6_takes N (fun S9 r10 => (¬ r10 = 0 → (wbX6_expect_26 N post  (wbX6_expect_2 N post n) S9 x1 x2)) ∧ (r10 = 0 → (wpX6_fail N (fun S12 => wbX6_expect_26 N post  (wbX6_expect_2 N post n) S12 x1 x2) S9 ))) S (tq_ch x1 x2)))))
def wpX6_expect (N : tq_Nn) (post : tq_St → Prop) (S : tq_St) (p0 : Nat) : Prop :=
  ∃ nq, wbX6_expect_2 N post nq S p0 0
set_option maxHeartbeats 4000000 in
set_option maxRecDepth 100000 in
theorem bX6_expect_26 {p : Program} {e : Env} {s : State} {m : MethodId} {args : Array Value} {below : List Frame} {meth : Method} {c : Code} {post : tq_St → Prop} (C : tq_At p s m meth c args cX6_expect 3 (none) ((tq_ws yX6_expect cX6_expect 3 none)) RX6 D cy z ad) {L2 : tq_St → Nat → Int32 → Prop} (hL2 : ∀ (S : tq_St) (x1 : Nat) (x2 : Int32) (H : Heap) (locs : List Loc) (ls : Array Slot), L2 S x1 x2 → tq_wd D cy z H0 ad N (tq_mix S M) H → va_S (fun q => z ≤ q) s.heap H locs → lv_has ls 3 [(0, .ref (ad 3 0)), (1, .ref (ad 61 x1)), (2, .int x2)] → W p l e (tq_rm 4 85) s m args below meth c H locs 0 0 (MQ below (va_Qv (fun u => post u) (fun u => tq_P D cy z H0 ad N u M) (fun q => z ≤ q)) args s 0 0 (fun q => z ≤ q)) (F0 m 2 ls [])) : ∀ (S : tq_St) (x1 : Nat) (x2 : Int32) (H : Heap) (locs : List Loc) (ls : Array Slot), wbX6_expect_26 N post  L2 S x1 x2 → tq_wd D cy z H0 ad N (tq_mix S M) H → va_S (fun q => z ≤ q) s.heap H locs → lv_has ls 3 [(0, .ref (ad 3 0)), (1, .ref (ad 61 x1)), (2, .int x2)] → W p l e (tq_rm 4 85) s m args below meth c H locs 0 0 (MQ below (va_Qv (fun u => post u) (fun u => tq_P D cy z H0 ad N u M) (fun q => z ≤ q)) args s 0 0 (fun q => z ≤ q)) (F0 m 26 ls []) := by
  obtain ⟨hx, hb, hr, hml, hown, hts, hlocks, hK, hG⟩ := id C
  have hw : ∀ w ∈ tq_W, w.before args s = true := fun w h => hts w (List.mem_cons_of_mem _ h)
  intro S x1 x2 H locs ls h hW hS hl
  unfold wbX6_expect_26 at h
  refine lv_iinc (v := x2 + 1) (lv' := [(2, .int (x2 + 1)), (0, .ref (ad 3 0)), (1, .ref (ad 61 x1))]) hx hb dX6_expect_26 hl (k := 2) rfl rfl (by decide) rfl (fun ls hl => ?_)
  refine lv_goto (tgt := 2) hx hb dX6_expect_29 (by decide) ?_
  exact hL2 _ _ _ _ _ _ h hW hS (lv_sub hl [1, 2, 0] rfl)
set_option maxHeartbeats 4000000 in
set_option maxRecDepth 100000 in
theorem bX6_expect_2 {p : Program} {e : Env} {s : State} {m : MethodId} {args : Array Value} {below : List Frame} {meth : Method} {c : Code} {post : tq_St → Prop} (C : tq_At p s m meth c args cX6_expect 3 (none) ((tq_ws yX6_expect cX6_expect 3 none)) RX6 D cy z ad)  : ∀ n : Nat, ∀ (S : tq_St) (x1 : Nat) (x2 : Int32) (H : Heap) (locs : List Loc) (ls : Array Slot), wbX6_expect_2 N post   n S x1 x2 → tq_wd D cy z H0 ad N (tq_mix S M) H → va_S (fun q => z ≤ q) s.heap H locs → lv_has ls 3 [(0, .ref (ad 3 0)), (1, .ref (ad 61 x1)), (2, .int x2)] → W p l e (tq_rm 4 85) s m args below meth c H locs 0 0 (MQ below (va_Qv (fun u => post u) (fun u => tq_P D cy z H0 ad N u M) (fun q => z ≤ q)) args s 0 0 (fun q => z ≤ q)) (F0 m 2 ls []) := by
  obtain ⟨hx, hb, hr, hml, hown, hts, hlocks, hK, hG⟩ := id C
  have hw : ∀ w ∈ tq_W, w.before args s = true := fun w h => hts w (List.mem_cons_of_mem _ h)
  intro n
  induction n with
  | zero =>
    intro S x1 x2 H locs ls h
    exact absurd h (by unfold wbX6_expect_2; exact id)
  | succ n ih =>
    intro S x1 x2 H locs ls h hW hS hl
    unfold wbX6_expect_2 at h
    refine lv_iload_n hx hb dX6_expect_2 rfl (lv_at hl 2 rfl) ?_
    refine lv_aload_n hx hb dX6_expect_3 rfl (lv_at hl 1 rfl) ?_
    obtain ⟨b1, h⟩ := h
    refine tqc_callVi (As := []) (rest := [.int x2]) (tq_mI.toS (kJ0_length_8abf5 (post := fun u r => u = M ∧ r = nI (tq_len.getD x1 0)) ⟨b1, rfl, rfl⟩) (post := fun u r => u = S ∧ r = nI (tq_len.getD x1 0)) ⟨rfl, rfl⟩) ⟨hx, hb, hml, hown, hts⟩ (cwV 0 hts (tq_goodV tw_581 tw_582 tw_583 tw_127 tw_584) rfl rfl rfl (by decide +kernel) ⟨(Nat.le_of_ble_eq_true rfl), (Nat.le_of_ble_eq_true rfl)⟩) (vk_recv hG.1 b1 hS) hK hG hW hS rfl hl.1 rfl (Nat.le_of_ble_eq_true rfl) dX6_expect_4 ⟨(Nat.le_of_ble_eq_true rfl), (Nat.le_of_ble_eq_true rfl)⟩ (fun r3 S2 H locs q9 hW hS => ?_)
    rw [q9.1] at hW
    rw [q9.2]
    refine lv_icmp_ge (tgt := 32) hx hb dX6_expect_7 (by decide) (fun c4 => ?_) (fun c4 => ?_)
    · have h := h.1 c4
      exact W.vret hx hb hr (fun t ht hWm => ⟨⟨S, rfl, h, tq_pe ht hW⟩, hS.F ht⟩) hS.2.2 dX6_expect_32
    · have h := h.2 c4
      refine lv_aload_n hx hb dX6_expect_10 rfl (lv_at hl 0 rfl) ?_
      refine lv_aload_n hx hb dX6_expect_11 rfl (lv_at hl 1 rfl) ?_
      refine lv_iload_n hx hb dX6_expect_12 rfl (lv_at hl 2 rfl) ?_
      obtain ⟨b5, h⟩ := h
      obtain ⟨b8, h⟩ := h
      refine tqc_callVi (As := [.int x2]) (rest := [.ref (ad 3 0)]) (tq_mI.toS (kJ0_charAt_5068e (post := fun u r => u = M ∧ r = tq_ch x1 x2) ⟨b5, b8, rfl, rfl⟩) (post := fun u r => u = S ∧ r = tq_ch x1 x2) ⟨rfl, rfl⟩) ⟨hx, hb, hml, hown, hts⟩ (cwV 1 hts (tq_goodV tw_591 tw_592 tw_593 tw_127 tw_594) rfl rfl rfl (by decide +kernel) ⟨(Nat.le_of_ble_eq_true rfl), (Nat.le_of_ble_eq_true rfl)⟩) (vk_recv hG.1 b5 hS) hK hG hW hS rfl hl.1 rfl (Nat.le_of_ble_eq_true rfl) dX6_expect_13 ⟨(Nat.le_of_ble_eq_true rfl), (Nat.le_of_ble_eq_true rfl)⟩ (fun r7 S6 H locs q9 hW hS => ?_)
      rw [q9.1] at hW
      rw [q9.2]
      refine tqc_callVi (As := [.int (tq_ch x1 x2)]) (rest := []) (kX6_takes h) ⟨hx, hb, hml, hown, hts⟩ (cwV 1 hts (tq_goodV tw_572 tw_574 tw_4 tw_119 tw_575) rfl rfl rfl (by decide +kernel) ⟨(Nat.le_of_ble_eq_true rfl), (Nat.le_of_ble_eq_true rfl)⟩) (tq_recvC hK hW (by decide) (tq_mk_3 (by decide)) rfl) hK hG hW hS rfl hl.1 rfl (Nat.le_of_ble_eq_true rfl) dX6_expect_16 ⟨(Nat.le_of_ble_eq_true rfl), (Nat.le_of_ble_eq_true rfl)⟩ (fun r10 S9 H locs h hW hS => ?_)
      refine lv_if_ne (tgt := 26) hx hb dX6_expect_19 (by decide) (fun c11 => ?_) (fun c11 => ?_)
      · have h := h.1 c11
        exact bX6_expect_26 C (fun M9 a09 a19 H9 q9 ls9 h9 hW9 hS9 hl9 => ih M9 a09 a19 H9 q9 ls9 h9 hW9 hS9 hl9) _ _ _ _ _ _ h hW hS (lv_sub hl [0, 1, 2] rfl)
      · have h := h.2 c11
        refine lv_aload_n hx hb dX6_expect_22 rfl (lv_at hl 0 rfl) ?_
        refine tqc_callVv (As := []) (rest := []) (kX6_fail h) ⟨hx, hb, hml, hown, hts⟩ (cwV 0 hts (tq_goodV tw_629 tw_631 tw_6 tw_119 tw_632) rfl rfl rfl (by decide +kernel) ⟨(Nat.le_of_ble_eq_true rfl), (Nat.le_of_ble_eq_true rfl)⟩) (tq_recvC hK hW (by decide) (tq_mk_3 (by decide)) rfl) hK hG hW hS rfl hl.1 rfl (Nat.le_of_ble_eq_true rfl) dX6_expect_23 ⟨(Nat.le_of_ble_eq_true rfl), (Nat.le_of_ble_eq_true rfl)⟩ (fun S12 H locs h hW hS => ?_)
        exact bX6_expect_26 C (fun M9 a09 a19 H9 q9 ls9 h9 hW9 hS9 hl9 => ih M9 a09 a19 H9 q9 ls9 h9 hW9 hS9 hl9) _ _ _ _ _ _ h hW hS (lv_sub hl [0, 1, 2] rfl)
set_option maxHeartbeats 4000000 in
set_option maxRecDepth 100000 in
theorem kX6_expect {post : tq_St → Prop} {S : tq_St} {p0 : Nat} (h : wpX6_expect N post S p0) : tq_sV l yX6_expect (tq_ws yX6_expect cX6_expect 3 none) 4 85 D cy z H0 ad N M S [.ref (ad 3 0), .ref (ad 61 p0)] post := by
  unfold wpX6_expect at h
  refine Met.ofW (cc := cX6_expect) (maxL := 3) (ret := none) (by decide) rfl ?_
  intro p e s m args below meth c s₁ B hml hv
  obtain ⟨rfl, hW, hK, hG⟩ := hv
  have hx := B.exec
  have hb := B.bytes
  have hr := B.returns
  have hts := atoms_spec (ws := (tq_ws yX6_expect cX6_expect 3 none)) B.pre
  have hw : ∀ w ∈ tq_W, w.before _ s = true := fun w h => hts w (List.mem_cons_of_mem _ h)
  have hown : s.vm.findClass RX6 = some m.cls := findClass_of_methodNamed B.named
  have hlocks := B.notSynchronized
  have C : tq_At p s m meth c [.ref (ad 3 0), .ref (ad 61 p0)].toArray cX6_expect 3 (none) ((tq_ws yX6_expect cX6_expect 3 none)) RX6 D cy z ad := ⟨hx, hb, hr, hml, hown, hts, hlocks, hK, hG⟩
  have hS : va_S (fun q => z ≤ q) s.heap s.heap [] := va_S.rf
  have hl := lv_entry ([.ref (ad 3 0), .ref (ad 61 p0)]) (n := 3) (Nat.le_of_ble_eq_true rfl)
  rw [lg_entry_eq]
  generalize (lg_sl ([.ref (ad 3 0), .ref (ad 61 p0)]) ++ List.replicate (3 - (lg_sl ([.ref (ad 3 0), .ref (ad 61 p0)])).length) Slot.unset).toArray = ls at hl ⊢
  have hl : lv_has ls 3 [(0, .ref (ad 3 0)), (1, .ref (ad 61 p0))] := hl
  have hW : tq_wd D cy z H0 ad N (tq_mix S M) s.heap := hW
  refine lv_iconst (v := 0) hx hb dX6_expect_0 (by decide) ?_
  refine lv_istore_n (lv' := [(2, .int 0), (0, .ref (ad 3 0)), (1, .ref (ad 61 p0))]) hx hb dX6_expect_1 rfl hl (by decide) rfl (fun ls hl => ?_)
  obtain ⟨nq, h⟩ := h
  exact bX6_expect_2 C  nq _ _ _ _ _ _ h hW hS (lv_sub hl [1, 2, 0] rfl)
