variable {l : Launch} {D : va_G} {cy : Nat → ClassId} {z : Nat} {H0 : Heap} {ad : Nat → Nat → Nat} {N : tq_Nn} {M : tq_St}
-- X11 shipOf
def wbX11_shipOf_121 (N : tq_Nn) (post : tq_St → Int32 → Prop)  (S : tq_St) (y0 : Int32) : Prop :=
  post S y0
def wbX11_shipOf_139 (N : tq_Nn) (post : tq_St → Int32 → Prop)  (S : tq_St) (y0 : Int32) : Prop :=
  post S y0
def wbX11_shipOf_158 (N : tq_Nn) (post : tq_St → Int32 → Prop)  (S : tq_St) : Prop :=
  post S ((-5))
def wpX11_shipOf (N : tq_Nn) (post : tq_St → Int32 → Prop) (S : tq_St) (p0 : Int32) (p1 : Int32) : Prop :=
  wpX11_isShip N (fun S1 r2 => (¬ r2 = 0 → (tq_gok N S1 19 20 0 p0 ∧ (N 8 (tq_el S1 19 20 0 p0) = 1 ∧ (wpX11_within N (fun S8 r9 => (r9 = 0 → ((p1 = 0 → (post S8 (S8 8 (tq_el S1 19 20 0 p0) 3))) ∧ (¬ p1 = 0 → ((p1 = 1 → ((¬ (S8 8 (tq_el S1 19 20 0 p0) 3) = ((-1)) → (wbX11_shipOf_121 N post S8 ((-1)))) ∧ ((S8 8 (tq_el S1 19 20 0 p0) 3) = ((-1)) → (wbX11_shipOf_121 N post S8 (S8 8 (tq_el S1 19 20 0 p0) 4))))) ∧ (¬ p1 = 1 → ((p1 = 2 → (wpX8_freeTons N (fun S15 r16 => post S15 r16) S8 (tq_el S1 19 20 0 p0))) ∧ (¬ p1 = 2 → ((p1 = 3 → (((S8 8 (tq_el S1 19 20 0 p0) 5) = 0 → (wbX11_shipOf_139 N post S8 0)) ∧ (¬ (S8 8 (tq_el S1 19 20 0 p0) 5) = 0 → (wbX11_shipOf_139 N post S8 1)))) ∧ (¬ p1 = 3 → ((p1 = 4 → (post S8 (S8 8 (tq_el S1 19 20 0 p0) 7))) ∧ (¬ p1 = 4 → ((p1 = 5 → (wbX11_shipOf_158 N post S8 )) ∧ (¬ p1 = 5 → ((p1 = 6 → (wbX11_shipOf_158 N post S8 )) ∧ (¬ p1 = 6 → ((p1 = 7 → (wbX11_shipOf_158 N post S8 )) ∧ (¬ p1 = 7 → ((p1 = 8 → (wbX11_shipOf_158 N post S8 )) ∧ (¬ p1 = 8 → ((p1 = 9 → (N 56 (tq_el S1 19 20 0 p0) = 1 ∧ (post S8 (bx_sum (S8 56 (tq_el S1 19 20 0 p0)) 150)))) ∧ (¬ p1 = 9 → ((p1 = 10 → (post S8 (S8 8 (tq_el S1 19 20 0 p0) 6))) ∧ (¬ p1 = 10 → (wbX11_shipOf_158 N post S8 )))))))))))))))))))))))) ∧ (¬ r9 = 0 → (vp_in (p1 - 5) 4 ∧ N 54 (tq_el S1 19 20 0 p0) = 1 ∧ (post S8 (S8 54 (tq_el S1 19 20 0 p0) ((p1 - 5).toNatClampNeg)))))) S1 p1 5 8)))) ∧ (r2 = 0 → (post S1 ((-5))))) S p0
set_option maxHeartbeats 4000000 in
set_option maxRecDepth 100000 in
theorem bX11_shipOf_121 {p : Program} {e : Env} {s : State} {m : MethodId} {args : Array Value} {below : List Frame} {meth : Method} {c : Code} {post : tq_St → Int32 → Prop} (C : tq_At p s m meth c args cX11_shipOf 4 ((some .int)) ((tq_ws yX11_shipOf cX11_shipOf 4 (some .int))) RX11 D cy z ad)  : ∀ (S : tq_St) (y0 : Int32) (H : Heap) (locs : List Loc) (ls : Array Slot), wbX11_shipOf_121 N post   S y0 → tq_wd D cy z H0 ad N (tq_mix S M) H → va_S (fun q => z ≤ q) s.heap H locs → lv_has ls 4 [] → W p l e (tq_rm 3 64) s m args below meth c H locs 0 0 (MQ below (va_Qi (fun r u => post u r) (fun u => tq_P D cy z H0 ad N u M) (fun q => z ≤ q)) args s 0 0 (fun q => z ≤ q)) (F0 m 121 ls [.int y0]) := by
  obtain ⟨hx, hb, hr, hml, hown, hts, hlocks, hK, hG⟩ := id C
  have hw : ∀ w ∈ tq_W, w.before args s = true := fun w h => hts w (List.mem_cons_of_mem _ h)
  intro S y0 H locs ls h hW hS hl
  unfold wbX11_shipOf_121 at h
  exact W.iret (v := y0) hx hb hr (fun t ht hWm => ⟨⟨_, S, rfl, h, tq_pe ht hW⟩, hS.F ht⟩) hS.2.2 dX11_shipOf_121
set_option maxHeartbeats 4000000 in
set_option maxRecDepth 100000 in
theorem bX11_shipOf_139 {p : Program} {e : Env} {s : State} {m : MethodId} {args : Array Value} {below : List Frame} {meth : Method} {c : Code} {post : tq_St → Int32 → Prop} (C : tq_At p s m meth c args cX11_shipOf 4 ((some .int)) ((tq_ws yX11_shipOf cX11_shipOf 4 (some .int))) RX11 D cy z ad)  : ∀ (S : tq_St) (y0 : Int32) (H : Heap) (locs : List Loc) (ls : Array Slot), wbX11_shipOf_139 N post   S y0 → tq_wd D cy z H0 ad N (tq_mix S M) H → va_S (fun q => z ≤ q) s.heap H locs → lv_has ls 4 [] → W p l e (tq_rm 3 64) s m args below meth c H locs 0 0 (MQ below (va_Qi (fun r u => post u r) (fun u => tq_P D cy z H0 ad N u M) (fun q => z ≤ q)) args s 0 0 (fun q => z ≤ q)) (F0 m 139 ls [.int y0]) := by
  obtain ⟨hx, hb, hr, hml, hown, hts, hlocks, hK, hG⟩ := id C
  have hw : ∀ w ∈ tq_W, w.before args s = true := fun w h => hts w (List.mem_cons_of_mem _ h)
  intro S y0 H locs ls h hW hS hl
  unfold wbX11_shipOf_139 at h
  exact W.iret (v := y0) hx hb hr (fun t ht hWm => ⟨⟨_, S, rfl, h, tq_pe ht hW⟩, hS.F ht⟩) hS.2.2 dX11_shipOf_139
set_option maxHeartbeats 4000000 in
set_option maxRecDepth 100000 in
theorem bX11_shipOf_158 {p : Program} {e : Env} {s : State} {m : MethodId} {args : Array Value} {below : List Frame} {meth : Method} {c : Code} {post : tq_St → Int32 → Prop} (C : tq_At p s m meth c args cX11_shipOf 4 ((some .int)) ((tq_ws yX11_shipOf cX11_shipOf 4 (some .int))) RX11 D cy z ad)  : ∀ (S : tq_St)  (H : Heap) (locs : List Loc) (ls : Array Slot), wbX11_shipOf_158 N post   S  → tq_wd D cy z H0 ad N (tq_mix S M) H → va_S (fun q => z ≤ q) s.heap H locs → lv_has ls 4 [] → W p l e (tq_rm 3 64) s m args below meth c H locs 0 0 (MQ below (va_Qi (fun r u => post u r) (fun u => tq_P D cy z H0 ad N u M) (fun q => z ≤ q)) args s 0 0 (fun q => z ≤ q)) (F0 m 158 ls []) := by
  obtain ⟨hx, hb, hr, hml, hown, hts, hlocks, hK, hG⟩ := id C
  have hw : ∀ w ∈ tq_W, w.before args s = true := fun w h => hts w (List.mem_cons_of_mem _ h)
  intro S  H locs ls h hW hS hl
  unfold wbX11_shipOf_158 at h
  refine lv_bipush (v := (-5)) hx hb dX11_shipOf_158 (by decide) ?_
  exact W.iret (v := (-5)) hx hb hr (fun t ht hWm => ⟨⟨_, S, rfl, h, tq_pe ht hW⟩, hS.F ht⟩) hS.2.2 dX11_shipOf_160
set_option maxHeartbeats 4000000 in
set_option maxRecDepth 100000 in
theorem kX11_shipOf {post : tq_St → Int32 → Prop} {S : tq_St} {p0 : Int32} {p1 : Int32} (h : wpX11_shipOf N post S p0 p1) : tq_sI l yX11_shipOf (tq_ws yX11_shipOf cX11_shipOf 4 (some .int)) 3 64 D cy z H0 ad N M S [.ref (ad 1 0), .int p0, .int p1] post := by
  unfold wpX11_shipOf at h
  refine Met.ofW (cc := cX11_shipOf) (maxL := 4) (ret := (some .int)) (by decide) rfl ?_
  intro p e s m args below meth c s₁ B hml hv
  obtain ⟨rfl, hW, hK, hG⟩ := hv
  have hx := B.exec
  have hb := B.bytes
  have hr := B.returns
  have hts := atoms_spec (ws := (tq_ws yX11_shipOf cX11_shipOf 4 (some .int))) B.pre
  have hw : ∀ w ∈ tq_W, w.before _ s = true := fun w h => hts w (List.mem_cons_of_mem _ h)
  have hown : s.vm.findClass RX11 = some m.cls := findClass_of_methodNamed B.named
  have hlocks := B.notSynchronized
  have C : tq_At p s m meth c [.ref (ad 1 0), .int p0, .int p1].toArray cX11_shipOf 4 ((some .int)) ((tq_ws yX11_shipOf cX11_shipOf 4 (some .int))) RX11 D cy z ad := ⟨hx, hb, hr, hml, hown, hts, hlocks, hK, hG⟩
  have hS : va_S (fun q => z ≤ q) s.heap s.heap [] := va_S.rf
  have hl := lv_entry ([.ref (ad 1 0), .int p0, .int p1]) (n := 4) (Nat.le_of_ble_eq_true rfl)
  rw [lg_entry_eq]
  generalize (lg_sl ([.ref (ad 1 0), .int p0, .int p1]) ++ List.replicate (4 - (lg_sl ([.ref (ad 1 0), .int p0, .int p1])).length) Slot.unset).toArray = ls at hl ⊢
  have hl : lv_has ls 4 [(0, .ref (ad 1 0)), (1, .int p0), (2, .int p1)] := hl
  have hW : tq_wd D cy z H0 ad N (tq_mix S M) s.heap := hW
  refine lv_aload_n hx hb dX11_shipOf_0 rfl (lv_at hl 0 rfl) ?_
  refine lv_iload_n hx hb dX11_shipOf_1 rfl (lv_at hl 1 rfl) ?_
  refine tqc_callVi (As := [.int p0]) (rest := []) (kX11_isShip h) ⟨hx, hb, hml, hown, hts⟩ (cwV 1 hts (tq_goodV tw_823 tw_825 tw_19 tw_115 tw_826) rfl rfl rfl (by decide +kernel) ⟨(Nat.le_of_ble_eq_true rfl), (Nat.le_of_ble_eq_true rfl)⟩) (tq_recvC hK hW (by decide) (tq_mk_1 (by decide)) rfl) hK hG hW hS rfl hl.1 rfl (Nat.le_of_ble_eq_true rfl) dX11_shipOf_2 ⟨(Nat.le_of_ble_eq_true rfl), (Nat.le_of_ble_eq_true rfl)⟩ (fun r2 S1 H locs h hW hS => ?_)
  refine lv_if_ne (tgt := 11) hx hb dX11_shipOf_5 (by decide) (fun c3 => ?_) (fun c3 => ?_)
  · have h := h.1 c3
    refine lv_aload_n hx hb dX11_shipOf_11 rfl (lv_at hl 0 rfl) ?_
    refine tqc_get (v := .ref (ad 19 0)) hx hb hw tq_inX11 hown hK hW (by decide) (tq_mk_1 (by decide)) rfl 7 (by decide) (hw _ tw_344) (fun _ h9 => h9) rfl dX11_shipOf_12 ?_
    refine lv_iload_n hx hb dX11_shipOf_15 rfl (lv_at hl 1 rfl) ?_
    obtain ⟨b6, h⟩ := h
    refine tqc_callVr (kr := 8) (As := [.int p0]) (rest := []) (kJl_get (kd := 20) (post := fun u i => u = S1 ∧ i = tq_el S1 19 20 0 p0) (by decide) (by decide) (tq_mk_19 (by decide)) (fun q9 => tq_mk_20 q9) b6 ⟨rfl, rfl⟩) ⟨hx, hb, hml, hown, hts⟩ (cwV 1 hts (tq_goodV tw_827 tw_828 tw_829 tw_118 tw_830) rfl rfl rfl (by decide +kernel) ⟨(Nat.le_of_ble_eq_true rfl), (Nat.le_of_ble_eq_true rfl)⟩) (tq_recvL hK hW (by decide) (tq_mk_19 (by decide))) hK hG hW hS rfl hl.1 rfl (Nat.le_of_ble_eq_true rfl) dX11_shipOf_16 ⟨(Nat.le_of_ble_eq_true rfl), (Nat.le_of_ble_eq_true rfl)⟩ (fun i5 S4 H locs q9 hW hS => ?_)
    rw [q9.1] at hW
    rw [q9.2]
    obtain ⟨b7, h⟩ := h
    refine va_castS hx hb hown (hw _ tw_839) (hK.1 9 _ rfl).2 (tq_recvC hK hW (by decide) (tq_mk_8 b7) rfl) dX11_shipOf_19 ?_
    refine lv_astore_n (lv' := [(3, .ref (ad 8 (tq_el S1 19 20 0 p0))), (0, .ref (ad 1 0)), (1, .int p0), (2, .int p1)]) hx hb dX11_shipOf_22 rfl hl (by decide) rfl (fun ls hl => ?_)
    refine lv_iload_n hx hb dX11_shipOf_23 rfl (lv_at hl 3 rfl) ?_
    refine lv_iconst (v := 5) hx hb dX11_shipOf_24 (by decide) ?_
    refine lv_bipush (v := 8) hx hb dX11_shipOf_25 (by decide) ?_
    refine tqc_callSi (As := [.int p1, .int 5, .int 8]) (rest := []) (kX11_within h) ⟨hx, hb, hml, hown, hts⟩ (va_cwS 3 hts (tq_goodS tw_405 tw_406 tw_115 tw_407) rfl rfl rfl (by decide +kernel) ⟨(Nat.le_of_ble_eq_true rfl), (Nat.le_of_ble_eq_true rfl)⟩) hK hG hW hS rfl hl.1 rfl (Nat.le_of_ble_eq_true rfl) dX11_shipOf_27 ⟨(Nat.le_of_ble_eq_true rfl), (Nat.le_of_ble_eq_true rfl)⟩ (fun r9 S8 H locs h hW hS => ?_)
    refine lv_if_eq (tgt := 42) hx hb dX11_shipOf_30 (by decide) (fun c10 => ?_) (fun c10 => ?_)
    · have h := h.1 c10
      refine lv_iload_n hx hb dX11_shipOf_42 rfl (lv_at hl 3 rfl) ?_
      by_cases c11 : p1 = 0
      · have h := h.1 c11
        refine W.eq (g2 := F0 m 43 ls (.int 0 :: [])) (by rw [c11]) ?_
        refine lv_tableIn (tgt := 100) hx hb dX11_shipOf_43 (by decide) (by decide) rfl (by decide) ?_
        refine lv_aload_n hx hb dX11_shipOf_100 rfl (lv_at hl 0 rfl) ?_
        refine tqc_get (v := .int (S8 8 (tq_el S1 19 20 0 p0) 3)) hx hb hw tq_inX8 hown hK hW (by decide) (tq_mk_8 b7) rfl 3 (by decide) (hw _ tw_904) (fun _ h9 => h9) rfl dX11_shipOf_101 ?_
        exact W.iret (v := S8 8 (tq_el S1 19 20 0 p0) 3) hx hb hr (fun t ht hWm => ⟨⟨_, S8, rfl, h, tq_pe ht hW⟩, hS.F ht⟩) hS.2.2 dX11_shipOf_104
      · have h := h.2 c11
        by_cases c12 : p1 = 1
        · have h := h.1 c12
          refine W.eq (g2 := F0 m 43 ls (.int 1 :: [])) (by rw [c12]) ?_
          refine lv_tableIn (tgt := 105) hx hb dX11_shipOf_43 (by decide) (by decide) rfl (by decide) ?_
          refine lv_aload_n hx hb dX11_shipOf_105 rfl (lv_at hl 0 rfl) ?_
          refine tqc_get (v := .int (S8 8 (tq_el S1 19 20 0 p0) 3)) hx hb hw tq_inX8 hown hK hW (by decide) (tq_mk_8 b7) rfl 3 (by decide) (hw _ tw_904) (fun _ h9 => h9) rfl dX11_shipOf_106 ?_
          refine lv_iconst (v := (-1)) hx hb dX11_shipOf_109 (by decide) ?_
          refine lv_icmp_ne (tgt := 120) hx hb dX11_shipOf_110 (by decide) (fun c13 => ?_) (fun c13 => ?_)
          · have h := h.1 c13
            refine lv_iconst (v := (-1)) hx hb dX11_shipOf_120 (by decide) ?_
            exact bX11_shipOf_121 C  _ _ _ _ _ h hW hS (lv_sub hl [] rfl)
          · have h := h.2 c13
            refine lv_aload_n hx hb dX11_shipOf_113 rfl (lv_at hl 0 rfl) ?_
            refine tqc_get (v := .int (S8 8 (tq_el S1 19 20 0 p0) 4)) hx hb hw tq_inX8 hown hK hW (by decide) (tq_mk_8 b7) rfl 4 (by decide) (hw _ tw_906) (fun _ h9 => h9) rfl dX11_shipOf_114 ?_
            refine lv_goto (tgt := 121) hx hb dX11_shipOf_117 (by decide) ?_
            exact bX11_shipOf_121 C  _ _ _ _ _ h hW hS (lv_sub hl [] rfl)
        · have h := h.2 c12
          by_cases c14 : p1 = 2
          · have h := h.1 c14
            refine W.eq (g2 := F0 m 43 ls (.int 2 :: [])) (by rw [c14]) ?_
            refine lv_tableIn (tgt := 122) hx hb dX11_shipOf_43 (by decide) (by decide) rfl (by decide) ?_
            refine lv_aload_n hx hb dX11_shipOf_122 rfl (lv_at hl 0 rfl) ?_
            refine tqc_callVi (As := []) (rest := []) (kX8_freeTons h) ⟨hx, hb, hml, hown, hts⟩ (cwV 0 hts (tq_goodV tw_963 tw_964 tw_965 tw_137 tw_966) rfl rfl rfl (by decide +kernel) ⟨(Nat.le_of_ble_eq_true rfl), (Nat.le_of_ble_eq_true rfl)⟩) (tq_recvC hK hW (by decide) (tq_mk_8 b7) rfl) hK hG hW hS rfl hl.1 rfl (Nat.le_of_ble_eq_true rfl) dX11_shipOf_123 ⟨(Nat.le_of_ble_eq_true rfl), (Nat.le_of_ble_eq_true rfl)⟩ (fun r16 S15 H locs h hW hS => ?_)
            exact W.iret (v := r16) hx hb hr (fun t ht hWm => ⟨⟨_, S15, rfl, h, tq_pe ht hW⟩, hS.F ht⟩) hS.2.2 dX11_shipOf_126
          · have h := h.2 c14
            by_cases c17 : p1 = 3
            · have h := h.1 c17
              refine W.eq (g2 := F0 m 43 ls (.int 3 :: [])) (by rw [c17]) ?_
              refine lv_tableIn (tgt := 127) hx hb dX11_shipOf_43 (by decide) (by decide) rfl (by decide) ?_
              refine lv_aload_n hx hb dX11_shipOf_127 rfl (lv_at hl 0 rfl) ?_
              refine tqc_get (v := .int (S8 8 (tq_el S1 19 20 0 p0) 5)) hx hb hw tq_inX8 hown hK hW (by decide) (tq_mk_8 b7) rfl 5 (by decide) (hw _ tw_907) (fun _ h9 => h9) rfl dX11_shipOf_128 ?_
              refine lv_if_eq (tgt := 138) hx hb dX11_shipOf_131 (by decide) (fun c18 => ?_) (fun c18 => ?_)
              · have h := h.1 c18
                refine lv_iconst (v := 0) hx hb dX11_shipOf_138 (by decide) ?_
                exact bX11_shipOf_139 C  _ _ _ _ _ h hW hS (lv_sub hl [] rfl)
              · have h := h.2 c18
                refine lv_iconst (v := 1) hx hb dX11_shipOf_134 (by decide) ?_
                refine lv_goto (tgt := 139) hx hb dX11_shipOf_135 (by decide) ?_
                exact bX11_shipOf_139 C  _ _ _ _ _ h hW hS (lv_sub hl [] rfl)
            · have h := h.2 c17
              by_cases c19 : p1 = 4
              · have h := h.1 c19
                refine W.eq (g2 := F0 m 43 ls (.int 4 :: [])) (by rw [c19]) ?_
                refine lv_tableIn (tgt := 140) hx hb dX11_shipOf_43 (by decide) (by decide) rfl (by decide) ?_
                refine lv_aload_n hx hb dX11_shipOf_140 rfl (lv_at hl 0 rfl) ?_
                refine tqc_get (v := .int (S8 8 (tq_el S1 19 20 0 p0) 7)) hx hb hw tq_inX8 hown hK hW (by decide) (tq_mk_8 b7) rfl 7 (by decide) (hw _ tw_911) (fun _ h9 => h9) rfl dX11_shipOf_141 ?_
                exact W.iret (v := S8 8 (tq_el S1 19 20 0 p0) 7) hx hb hr (fun t ht hWm => ⟨⟨_, S8, rfl, h, tq_pe ht hW⟩, hS.F ht⟩) hS.2.2 dX11_shipOf_144
              · have h := h.2 c19
                by_cases c20 : p1 = 5
                · have h := h.1 c20
                  refine W.eq (g2 := F0 m 43 ls (.int 5 :: [])) (by rw [c20]) ?_
                  refine lv_tableIn (tgt := 158) hx hb dX11_shipOf_43 (by decide) (by decide) rfl (by decide) ?_
                  exact bX11_shipOf_158 C  _  _ _ _ h hW hS (lv_sub hl [] rfl)
                · have h := h.2 c20
                  by_cases c21 : p1 = 6
                  · have h := h.1 c21
                    refine W.eq (g2 := F0 m 43 ls (.int 6 :: [])) (by rw [c21]) ?_
                    refine lv_tableIn (tgt := 158) hx hb dX11_shipOf_43 (by decide) (by decide) rfl (by decide) ?_
                    exact bX11_shipOf_158 C  _  _ _ _ h hW hS (lv_sub hl [] rfl)
                  · have h := h.2 c21
                    by_cases c22 : p1 = 7
                    · have h := h.1 c22
                      refine W.eq (g2 := F0 m 43 ls (.int 7 :: [])) (by rw [c22]) ?_
                      refine lv_tableIn (tgt := 158) hx hb dX11_shipOf_43 (by decide) (by decide) rfl (by decide) ?_
                      exact bX11_shipOf_158 C  _  _ _ _ h hW hS (lv_sub hl [] rfl)
                    · have h := h.2 c22
                      by_cases c23 : p1 = 8
                      · have h := h.1 c23
                        refine W.eq (g2 := F0 m 43 ls (.int 8 :: [])) (by rw [c23]) ?_
                        refine lv_tableIn (tgt := 158) hx hb dX11_shipOf_43 (by decide) (by decide) rfl (by decide) ?_
                        exact bX11_shipOf_158 C  _  _ _ _ h hW hS (lv_sub hl [] rfl)
                      · have h := h.2 c23
                        by_cases c24 : p1 = 9
                        · have h := h.1 c24
                          refine W.eq (g2 := F0 m 43 ls (.int 9 :: [])) (by rw [c24]) ?_
                          refine lv_tableIn (tgt := 145) hx hb dX11_shipOf_43 (by decide) (by decide) rfl (by decide) ?_
                          refine lv_aload_n hx hb dX11_shipOf_145 rfl (lv_at hl 0 rfl) ?_
                          refine tqc_get (v := .ref (ad 56 (tq_el S1 19 20 0 p0))) hx hb hw tq_inX8 hown hK hW (by decide) (tq_mk_8 b7) rfl 10 (by decide) (hw _ tw_919) (fun _ h9 => h9) rfl dX11_shipOf_146 ?_
                          obtain ⟨b25, h⟩ := h
                          refine tqc_callSi (As := [.ref (ad 56 (tq_el S1 19 20 0 p0))]) (rest := []) (kX11_sumOf (n := 150) (post := fun u r => u = S8 ∧ r = bx_sum (S8 56 (tq_el S1 19 20 0 p0)) 150) (by decide) (by decide) (fun f => tq_mk_56 b25) ⟨rfl, rfl⟩) ⟨hx, hb, hml, hown, hts⟩ (va_cwS 1 hts (tq_goodS tw_1045 tw_968 tw_115 tw_969) rfl rfl rfl (by decide +kernel) ⟨(Nat.le_of_ble_eq_true rfl), (Nat.le_of_ble_eq_true rfl)⟩) hK hG hW hS rfl hl.1 rfl (Nat.le_of_ble_eq_true rfl) dX11_shipOf_149 ⟨(Nat.le_of_ble_eq_true rfl), (Nat.le_of_ble_eq_true rfl)⟩ (fun r27 S26 H locs q9 hW hS => ?_)
                          rw [q9.1] at hW
                          rw [q9.2]
                          exact W.iret (v := bx_sum (S8 56 (tq_el S1 19 20 0 p0)) 150) hx hb hr (fun t ht hWm => ⟨⟨_, S8, rfl, h, tq_pe ht hW⟩, hS.F ht⟩) hS.2.2 dX11_shipOf_152
                        · have h := h.2 c24
                          by_cases c28 : p1 = 10
                          · have h := h.1 c28
                            refine W.eq (g2 := F0 m 43 ls (.int 10 :: [])) (by rw [c28]) ?_
                            refine lv_tableIn (tgt := 153) hx hb dX11_shipOf_43 (by decide) (by decide) rfl (by decide) ?_
                            refine lv_aload_n hx hb dX11_shipOf_153 rfl (lv_at hl 0 rfl) ?_
                            refine tqc_get (v := .int (S8 8 (tq_el S1 19 20 0 p0) 6)) hx hb hw tq_inX8 hown hK hW (by decide) (tq_mk_8 b7) rfl 6 (by decide) (hw _ tw_909) (fun _ h9 => h9) rfl dX11_shipOf_154 ?_
                            exact W.iret (v := S8 8 (tq_el S1 19 20 0 p0) 6) hx hb hr (fun t ht hWm => ⟨⟨_, S8, rfl, h, tq_pe ht hW⟩, hS.F ht⟩) hS.2.2 dX11_shipOf_157
                          · have h := h.2 c28
                            refine lv_tableOut (tgt := 158) hx hb dX11_shipOf_43 (tq_out11 c11 c12 c14 c17 c19 c20 c21 c22 c23 c24 c28) (by decide) ?_
                            exact bX11_shipOf_158 C  _  _ _ _ h hW hS (lv_sub hl [] rfl)
    · have h := h.2 c10
      refine lv_aload_n hx hb dX11_shipOf_33 rfl (lv_at hl 0 rfl) ?_
      refine tqc_get (v := .ref (ad 54 (tq_el S1 19 20 0 p0))) hx hb hw tq_inX8 hown hK hW (by decide) (tq_mk_8 b7) rfl 8 (by decide) (hw _ tw_914) (fun _ h9 => h9) rfl dX11_shipOf_34 ?_
      refine lv_iload_n hx hb dX11_shipOf_37 rfl (lv_at hl 3 rfl) ?_
      refine lv_iconst (v := 5) hx hb dX11_shipOf_38 (by decide) ?_
      refine lv_isub hx hb dX11_shipOf_39 ?_
      obtain ⟨b29, h⟩ := h
      obtain ⟨b30, h⟩ := h
      refine tqc_iald (jn := (p1 - 5).toNatClampNeg) hx hb hK hW (by decide) (tq_mk_54 b30) b29 rfl dX11_shipOf_40 ?_
      exact W.iret (v := S8 54 (tq_el S1 19 20 0 p0) ((p1 - 5).toNatClampNeg)) hx hb hr (fun t ht hWm => ⟨⟨_, S8, rfl, h, tq_pe ht hW⟩, hS.F ht⟩) hS.2.2 dX11_shipOf_41
  · have h := h.2 c3
    refine lv_bipush (v := (-5)) hx hb dX11_shipOf_8 (by decide) ?_
    exact W.iret (v := (-5)) hx hb hr (fun t ht hWm => ⟨⟨_, S1, rfl, h, tq_pe ht hW⟩, hS.F ht⟩) hS.2.2 dX11_shipOf_10
-- X11 voyage
def wbX11_voyage_149 (N : tq_Nn) (post : tq_St → Int32 → Prop)  (S : tq_St) (y0 : Int32) : Prop :=
  post S y0
def wbX11_voyage_165 (N : tq_Nn) (post : tq_St → Int32 → Prop)  (S : tq_St) : Prop :=
  post S ((-5))
def wpX11_voyage (N : tq_Nn) (post : tq_St → Int32 → Prop) (S : tq_St) (p0 : Int32) (p1 : Int32) : Prop :=
  wpX11_isVoyage N (fun S1 r2 => (¬ r2 = 0 → (tq_gok N S1 22 23 0 p0 ∧ (N 9 (tq_el S1 22 23 0 p0) = 1 ∧ (wpX11_within N (fun S8 r9 => (r9 = 0 → ((p1 = 0 → (post S8 (S8 9 (tq_el S1 22 23 0 p0) 1))) ∧ (¬ p1 = 0 → ((p1 = 1 → (post S8 (S8 9 (tq_el S1 22 23 0 p0) 2))) ∧ (¬ p1 = 1 → ((p1 = 2 → (post S8 (S8 9 (tq_el S1 22 23 0 p0) 3))) ∧ (¬ p1 = 2 → ((p1 = 3 → (post S8 (S8 9 (tq_el S1 22 23 0 p0) 4))) ∧ (¬ p1 = 3 → ((p1 = 4 → (post S8 (S8 9 (tq_el S1 22 23 0 p0) 5))) ∧ (¬ p1 = 4 → ((p1 = 5 → (((S8 9 (tq_el S1 22 23 0 p0) 8) = 0 → (wbX11_voyage_149 N post S8 0)) ∧ (¬ (S8 9 (tq_el S1 22 23 0 p0) 8) = 0 → (wbX11_voyage_149 N post S8 1)))) ∧ (¬ p1 = 5 → ((p1 = 6 → (wbX11_voyage_165 N post S8 )) ∧ (¬ p1 = 6 → ((p1 = 7 → (wbX11_voyage_165 N post S8 )) ∧ (¬ p1 = 7 → ((p1 = 8 → (wbX11_voyage_165 N post S8 )) ∧ (¬ p1 = 8 → ((p1 = 9 → (wbX11_voyage_165 N post S8 )) ∧ (¬ p1 = 9 → ((p1 = 10 → (post S8 (S8 9 (tq_el S1 22 23 0 p0) 10))) ∧ (¬ p1 = 10 → ((p1 = 11 → (wpX10_joined N (fun S24 r25 => post S24 r25) S8 (tq_el S1 22 23 0 p0))) ∧ (¬ p1 = 11 → ((p1 = 12 → (post S8 (S8 9 (tq_el S1 22 23 0 p0) 11))) ∧ (¬ p1 = 12 → (wbX11_voyage_165 N post S8 )))))))))))))))))))))))))))) ∧ (¬ r9 = 0 → (vp_in (p1 - 6) 4 ∧ N 57 (tq_el S1 22 23 0 p0) = 1 ∧ (post S8 (S8 57 (tq_el S1 22 23 0 p0) ((p1 - 6).toNatClampNeg)))))) S1 p1 6 9)))) ∧ (r2 = 0 → (post S1 ((-5))))) S p0
set_option maxHeartbeats 4000000 in
set_option maxRecDepth 100000 in
theorem bX11_voyage_149 {p : Program} {e : Env} {s : State} {m : MethodId} {args : Array Value} {below : List Frame} {meth : Method} {c : Code} {post : tq_St → Int32 → Prop} (C : tq_At p s m meth c args cX11_voyage 4 ((some .int)) ((tq_ws yX11_voyage cX11_voyage 4 (some .int))) RX11 D cy z ad)  : ∀ (S : tq_St) (y0 : Int32) (H : Heap) (locs : List Loc) (ls : Array Slot), wbX11_voyage_149 N post   S y0 → tq_wd D cy z H0 ad N (tq_mix S M) H → va_S (fun q => z ≤ q) s.heap H locs → lv_has ls 4 [] → W p l e (tq_rm 3 64) s m args below meth c H locs 0 0 (MQ below (va_Qi (fun r u => post u r) (fun u => tq_P D cy z H0 ad N u M) (fun q => z ≤ q)) args s 0 0 (fun q => z ≤ q)) (F0 m 149 ls [.int y0]) := by
  obtain ⟨hx, hb, hr, hml, hown, hts, hlocks, hK, hG⟩ := id C
  have hw : ∀ w ∈ tq_W, w.before args s = true := fun w h => hts w (List.mem_cons_of_mem _ h)
  intro S y0 H locs ls h hW hS hl
  unfold wbX11_voyage_149 at h
  exact W.iret (v := y0) hx hb hr (fun t ht hWm => ⟨⟨_, S, rfl, h, tq_pe ht hW⟩, hS.F ht⟩) hS.2.2 dX11_voyage_149
set_option maxHeartbeats 4000000 in
set_option maxRecDepth 100000 in
theorem bX11_voyage_165 {p : Program} {e : Env} {s : State} {m : MethodId} {args : Array Value} {below : List Frame} {meth : Method} {c : Code} {post : tq_St → Int32 → Prop} (C : tq_At p s m meth c args cX11_voyage 4 ((some .int)) ((tq_ws yX11_voyage cX11_voyage 4 (some .int))) RX11 D cy z ad)  : ∀ (S : tq_St)  (H : Heap) (locs : List Loc) (ls : Array Slot), wbX11_voyage_165 N post   S  → tq_wd D cy z H0 ad N (tq_mix S M) H → va_S (fun q => z ≤ q) s.heap H locs → lv_has ls 4 [] → W p l e (tq_rm 3 64) s m args below meth c H locs 0 0 (MQ below (va_Qi (fun r u => post u r) (fun u => tq_P D cy z H0 ad N u M) (fun q => z ≤ q)) args s 0 0 (fun q => z ≤ q)) (F0 m 165 ls []) := by
  obtain ⟨hx, hb, hr, hml, hown, hts, hlocks, hK, hG⟩ := id C
  have hw : ∀ w ∈ tq_W, w.before args s = true := fun w h => hts w (List.mem_cons_of_mem _ h)
  intro S  H locs ls h hW hS hl
  unfold wbX11_voyage_165 at h
  refine lv_bipush (v := (-5)) hx hb dX11_voyage_165 (by decide) ?_
  exact W.iret (v := (-5)) hx hb hr (fun t ht hWm => ⟨⟨_, S, rfl, h, tq_pe ht hW⟩, hS.F ht⟩) hS.2.2 dX11_voyage_167
set_option maxHeartbeats 4000000 in
set_option maxRecDepth 100000 in
theorem kX11_voyage {post : tq_St → Int32 → Prop} {S : tq_St} {p0 : Int32} {p1 : Int32} (h : wpX11_voyage N post S p0 p1) : tq_sI l yX11_voyage (tq_ws yX11_voyage cX11_voyage 4 (some .int)) 3 64 D cy z H0 ad N M S [.ref (ad 1 0), .int p0, .int p1] post := by
  unfold wpX11_voyage at h
  refine Met.ofW (cc := cX11_voyage) (maxL := 4) (ret := (some .int)) (by decide) rfl ?_
  intro p e s m args below meth c s₁ B hml hv
  obtain ⟨rfl, hW, hK, hG⟩ := hv
  have hx := B.exec
  have hb := B.bytes
  have hr := B.returns
  have hts := atoms_spec (ws := (tq_ws yX11_voyage cX11_voyage 4 (some .int))) B.pre
  have hw : ∀ w ∈ tq_W, w.before _ s = true := fun w h => hts w (List.mem_cons_of_mem _ h)
  have hown : s.vm.findClass RX11 = some m.cls := findClass_of_methodNamed B.named
  have hlocks := B.notSynchronized
  have C : tq_At p s m meth c [.ref (ad 1 0), .int p0, .int p1].toArray cX11_voyage 4 ((some .int)) ((tq_ws yX11_voyage cX11_voyage 4 (some .int))) RX11 D cy z ad := ⟨hx, hb, hr, hml, hown, hts, hlocks, hK, hG⟩
  have hS : va_S (fun q => z ≤ q) s.heap s.heap [] := va_S.rf
  have hl := lv_entry ([.ref (ad 1 0), .int p0, .int p1]) (n := 4) (Nat.le_of_ble_eq_true rfl)
  rw [lg_entry_eq]
  generalize (lg_sl ([.ref (ad 1 0), .int p0, .int p1]) ++ List.replicate (4 - (lg_sl ([.ref (ad 1 0), .int p0, .int p1])).length) Slot.unset).toArray = ls at hl ⊢
  have hl : lv_has ls 4 [(0, .ref (ad 1 0)), (1, .int p0), (2, .int p1)] := hl
  have hW : tq_wd D cy z H0 ad N (tq_mix S M) s.heap := hW
  refine lv_aload_n hx hb dX11_voyage_0 rfl (lv_at hl 0 rfl) ?_
  refine lv_iload_n hx hb dX11_voyage_1 rfl (lv_at hl 1 rfl) ?_
  refine tqc_callVi (As := [.int p0]) (rest := []) (kX11_isVoyage h) ⟨hx, hb, hml, hown, hts⟩ (cwV 1 hts (tq_goodV tw_1037 tw_1039 tw_26 tw_115 tw_1040) rfl rfl rfl (by decide +kernel) ⟨(Nat.le_of_ble_eq_true rfl), (Nat.le_of_ble_eq_true rfl)⟩) (tq_recvC hK hW (by decide) (tq_mk_1 (by decide)) rfl) hK hG hW hS rfl hl.1 rfl (Nat.le_of_ble_eq_true rfl) dX11_voyage_2 ⟨(Nat.le_of_ble_eq_true rfl), (Nat.le_of_ble_eq_true rfl)⟩ (fun r2 S1 H locs h hW hS => ?_)
  refine lv_if_ne (tgt := 11) hx hb dX11_voyage_5 (by decide) (fun c3 => ?_) (fun c3 => ?_)
  · have h := h.1 c3
    refine lv_aload_n hx hb dX11_voyage_11 rfl (lv_at hl 0 rfl) ?_
    refine tqc_get (v := .ref (ad 22 0)) hx hb hw tq_inX11 hown hK hW (by decide) (tq_mk_1 (by decide)) rfl 9 (by decide) (hw _ tw_346) (fun _ h9 => h9) rfl dX11_voyage_12 ?_
    refine lv_iload_n hx hb dX11_voyage_15 rfl (lv_at hl 1 rfl) ?_
    obtain ⟨b6, h⟩ := h
    refine tqc_callVr (kr := 9) (As := [.int p0]) (rest := []) (kJl_get (kd := 23) (post := fun u i => u = S1 ∧ i = tq_el S1 22 23 0 p0) (by decide) (by decide) (tq_mk_22 (by decide)) (fun q9 => tq_mk_23 q9) b6 ⟨rfl, rfl⟩) ⟨hx, hb, hml, hown, hts⟩ (cwV 1 hts (tq_goodV tw_827 tw_828 tw_829 tw_118 tw_830) rfl rfl rfl (by decide +kernel) ⟨(Nat.le_of_ble_eq_true rfl), (Nat.le_of_ble_eq_true rfl)⟩) (tq_recvL hK hW (by decide) (tq_mk_22 (by decide))) hK hG hW hS rfl hl.1 rfl (Nat.le_of_ble_eq_true rfl) dX11_voyage_16 ⟨(Nat.le_of_ble_eq_true rfl), (Nat.le_of_ble_eq_true rfl)⟩ (fun i5 S4 H locs q9 hW hS => ?_)
    rw [q9.1] at hW
    rw [q9.2]
    obtain ⟨b7, h⟩ := h
    refine va_castS hx hb hown (hw _ tw_978) (hK.1 11 _ rfl).2 (tq_recvC hK hW (by decide) (tq_mk_9 b7) rfl) dX11_voyage_19 ?_
    refine lv_astore_n (lv' := [(3, .ref (ad 9 (tq_el S1 22 23 0 p0))), (0, .ref (ad 1 0)), (1, .int p0), (2, .int p1)]) hx hb dX11_voyage_22 rfl hl (by decide) rfl (fun ls hl => ?_)
    refine lv_iload_n hx hb dX11_voyage_23 rfl (lv_at hl 3 rfl) ?_
    refine lv_bipush (v := 6) hx hb dX11_voyage_24 (by decide) ?_
    refine lv_bipush (v := 9) hx hb dX11_voyage_26 (by decide) ?_
    refine tqc_callSi (As := [.int p1, .int 6, .int 9]) (rest := []) (kX11_within h) ⟨hx, hb, hml, hown, hts⟩ (va_cwS 3 hts (tq_goodS tw_405 tw_406 tw_115 tw_407) rfl rfl rfl (by decide +kernel) ⟨(Nat.le_of_ble_eq_true rfl), (Nat.le_of_ble_eq_true rfl)⟩) hK hG hW hS rfl hl.1 rfl (Nat.le_of_ble_eq_true rfl) dX11_voyage_28 ⟨(Nat.le_of_ble_eq_true rfl), (Nat.le_of_ble_eq_true rfl)⟩ (fun r9 S8 H locs h hW hS => ?_)
    refine lv_if_eq (tgt := 44) hx hb dX11_voyage_31 (by decide) (fun c10 => ?_) (fun c10 => ?_)
    · have h := h.1 c10
      refine lv_iload_n hx hb dX11_voyage_44 rfl (lv_at hl 3 rfl) ?_
      by_cases c11 : p1 = 0
      · have h := h.1 c11
        refine W.eq (g2 := F0 m 45 ls (.int 0 :: [])) (by rw [c11]) ?_
        refine lv_tableIn (tgt := 112) hx hb dX11_voyage_45 (by decide) (by decide) rfl (by decide) ?_
        refine lv_aload_n hx hb dX11_voyage_112 rfl (lv_at hl 0 rfl) ?_
        refine tqc_get (v := .int (S8 9 (tq_el S1 22 23 0 p0) 1)) hx hb hw tq_inX10 hown hK hW (by decide) (tq_mk_9 b7) rfl 1 (by decide) (hw _ tw_989) (fun _ h9 => h9) rfl dX11_voyage_113 ?_
        exact W.iret (v := S8 9 (tq_el S1 22 23 0 p0) 1) hx hb hr (fun t ht hWm => ⟨⟨_, S8, rfl, h, tq_pe ht hW⟩, hS.F ht⟩) hS.2.2 dX11_voyage_116
      · have h := h.2 c11
        by_cases c12 : p1 = 1
        · have h := h.1 c12
          refine W.eq (g2 := F0 m 45 ls (.int 1 :: [])) (by rw [c12]) ?_
          refine lv_tableIn (tgt := 117) hx hb dX11_voyage_45 (by decide) (by decide) rfl (by decide) ?_
          refine lv_aload_n hx hb dX11_voyage_117 rfl (lv_at hl 0 rfl) ?_
          refine tqc_get (v := .int (S8 9 (tq_el S1 22 23 0 p0) 2)) hx hb hw tq_inX10 hown hK hW (by decide) (tq_mk_9 b7) rfl 2 (by decide) (hw _ tw_991) (fun _ h9 => h9) rfl dX11_voyage_118 ?_
          exact W.iret (v := S8 9 (tq_el S1 22 23 0 p0) 2) hx hb hr (fun t ht hWm => ⟨⟨_, S8, rfl, h, tq_pe ht hW⟩, hS.F ht⟩) hS.2.2 dX11_voyage_121
        · have h := h.2 c12
          by_cases c13 : p1 = 2
          · have h := h.1 c13
            refine W.eq (g2 := F0 m 45 ls (.int 2 :: [])) (by rw [c13]) ?_
            refine lv_tableIn (tgt := 122) hx hb dX11_voyage_45 (by decide) (by decide) rfl (by decide) ?_
            refine lv_aload_n hx hb dX11_voyage_122 rfl (lv_at hl 0 rfl) ?_
            refine tqc_get (v := .int (S8 9 (tq_el S1 22 23 0 p0) 3)) hx hb hw tq_inX10 hown hK hW (by decide) (tq_mk_9 b7) rfl 3 (by decide) (hw _ tw_993) (fun _ h9 => h9) rfl dX11_voyage_123 ?_
            exact W.iret (v := S8 9 (tq_el S1 22 23 0 p0) 3) hx hb hr (fun t ht hWm => ⟨⟨_, S8, rfl, h, tq_pe ht hW⟩, hS.F ht⟩) hS.2.2 dX11_voyage_126
          · have h := h.2 c13
            by_cases c14 : p1 = 3
            · have h := h.1 c14
              refine W.eq (g2 := F0 m 45 ls (.int 3 :: [])) (by rw [c14]) ?_
              refine lv_tableIn (tgt := 127) hx hb dX11_voyage_45 (by decide) (by decide) rfl (by decide) ?_
              refine lv_aload_n hx hb dX11_voyage_127 rfl (lv_at hl 0 rfl) ?_
              refine tqc_get (v := .int (S8 9 (tq_el S1 22 23 0 p0) 4)) hx hb hw tq_inX10 hown hK hW (by decide) (tq_mk_9 b7) rfl 4 (by decide) (hw _ tw_995) (fun _ h9 => h9) rfl dX11_voyage_128 ?_
              exact W.iret (v := S8 9 (tq_el S1 22 23 0 p0) 4) hx hb hr (fun t ht hWm => ⟨⟨_, S8, rfl, h, tq_pe ht hW⟩, hS.F ht⟩) hS.2.2 dX11_voyage_131
            · have h := h.2 c14
              by_cases c15 : p1 = 4
              · have h := h.1 c15
                refine W.eq (g2 := F0 m 45 ls (.int 4 :: [])) (by rw [c15]) ?_
                refine lv_tableIn (tgt := 132) hx hb dX11_voyage_45 (by decide) (by decide) rfl (by decide) ?_
                refine lv_aload_n hx hb dX11_voyage_132 rfl (lv_at hl 0 rfl) ?_
                refine tqc_get (v := .int (S8 9 (tq_el S1 22 23 0 p0) 5)) hx hb hw tq_inX10 hown hK hW (by decide) (tq_mk_9 b7) rfl 5 (by decide) (hw _ tw_997) (fun _ h9 => h9) rfl dX11_voyage_133 ?_
                exact W.iret (v := S8 9 (tq_el S1 22 23 0 p0) 5) hx hb hr (fun t ht hWm => ⟨⟨_, S8, rfl, h, tq_pe ht hW⟩, hS.F ht⟩) hS.2.2 dX11_voyage_136
              · have h := h.2 c15
                by_cases c16 : p1 = 5
                · have h := h.1 c16
                  refine W.eq (g2 := F0 m 45 ls (.int 5 :: [])) (by rw [c16]) ?_
                  refine lv_tableIn (tgt := 137) hx hb dX11_voyage_45 (by decide) (by decide) rfl (by decide) ?_
                  refine lv_aload_n hx hb dX11_voyage_137 rfl (lv_at hl 0 rfl) ?_
                  refine tqc_get (v := .int (S8 9 (tq_el S1 22 23 0 p0) 8)) hx hb hw tq_inX10 hown hK hW (by decide) (tq_mk_9 b7) rfl 8 (by decide) (hw _ tw_1002) (fun _ h9 => h9) rfl dX11_voyage_138 ?_
                  refine lv_if_eq (tgt := 148) hx hb dX11_voyage_141 (by decide) (fun c17 => ?_) (fun c17 => ?_)
                  · have h := h.1 c17
                    refine lv_iconst (v := 0) hx hb dX11_voyage_148 (by decide) ?_
                    exact bX11_voyage_149 C  _ _ _ _ _ h hW hS (lv_sub hl [] rfl)
                  · have h := h.2 c17
                    refine lv_iconst (v := 1) hx hb dX11_voyage_144 (by decide) ?_
                    refine lv_goto (tgt := 149) hx hb dX11_voyage_145 (by decide) ?_
                    exact bX11_voyage_149 C  _ _ _ _ _ h hW hS (lv_sub hl [] rfl)
                · have h := h.2 c16
                  by_cases c18 : p1 = 6
                  · have h := h.1 c18
                    refine W.eq (g2 := F0 m 45 ls (.int 6 :: [])) (by rw [c18]) ?_
                    refine lv_tableIn (tgt := 165) hx hb dX11_voyage_45 (by decide) (by decide) rfl (by decide) ?_
                    exact bX11_voyage_165 C  _  _ _ _ h hW hS (lv_sub hl [] rfl)
                  · have h := h.2 c18
                    by_cases c19 : p1 = 7
                    · have h := h.1 c19
                      refine W.eq (g2 := F0 m 45 ls (.int 7 :: [])) (by rw [c19]) ?_
                      refine lv_tableIn (tgt := 165) hx hb dX11_voyage_45 (by decide) (by decide) rfl (by decide) ?_
                      exact bX11_voyage_165 C  _  _ _ _ h hW hS (lv_sub hl [] rfl)
                    · have h := h.2 c19
                      by_cases c20 : p1 = 8
                      · have h := h.1 c20
                        refine W.eq (g2 := F0 m 45 ls (.int 8 :: [])) (by rw [c20]) ?_
                        refine lv_tableIn (tgt := 165) hx hb dX11_voyage_45 (by decide) (by decide) rfl (by decide) ?_
                        exact bX11_voyage_165 C  _  _ _ _ h hW hS (lv_sub hl [] rfl)
                      · have h := h.2 c20
                        by_cases c21 : p1 = 9
                        · have h := h.1 c21
                          refine W.eq (g2 := F0 m 45 ls (.int 9 :: [])) (by rw [c21]) ?_
                          refine lv_tableIn (tgt := 165) hx hb dX11_voyage_45 (by decide) (by decide) rfl (by decide) ?_
                          exact bX11_voyage_165 C  _  _ _ _ h hW hS (lv_sub hl [] rfl)
                        · have h := h.2 c21
                          by_cases c22 : p1 = 10
                          · have h := h.1 c22
                            refine W.eq (g2 := F0 m 45 ls (.int 10 :: [])) (by rw [c22]) ?_
                            refine lv_tableIn (tgt := 150) hx hb dX11_voyage_45 (by decide) (by decide) rfl (by decide) ?_
                            refine lv_aload_n hx hb dX11_voyage_150 rfl (lv_at hl 0 rfl) ?_
                            refine tqc_get (v := .int (S8 9 (tq_el S1 22 23 0 p0) 10)) hx hb hw tq_inX10 hown hK hW (by decide) (tq_mk_9 b7) rfl 10 (by decide) (hw _ tw_1006) (fun _ h9 => h9) rfl dX11_voyage_151 ?_
                            exact W.iret (v := S8 9 (tq_el S1 22 23 0 p0) 10) hx hb hr (fun t ht hWm => ⟨⟨_, S8, rfl, h, tq_pe ht hW⟩, hS.F ht⟩) hS.2.2 dX11_voyage_154
                          · have h := h.2 c22
                            by_cases c23 : p1 = 11
                            · have h := h.1 c23
                              refine W.eq (g2 := F0 m 45 ls (.int 11 :: [])) (by rw [c23]) ?_
                              refine lv_tableIn (tgt := 155) hx hb dX11_voyage_45 (by decide) (by decide) rfl (by decide) ?_
                              refine lv_aload_n hx hb dX11_voyage_155 rfl (lv_at hl 0 rfl) ?_
                              refine tqc_callVi (As := []) (rest := []) (kX10_joined h) ⟨hx, hb, hml, hown, hts⟩ (cwV 0 hts (tq_goodV tw_1050 tw_1051 tw_1052 tw_138 tw_1053) rfl rfl rfl (by decide +kernel) ⟨(Nat.le_of_ble_eq_true rfl), (Nat.le_of_ble_eq_true rfl)⟩) (tq_recvC hK hW (by decide) (tq_mk_9 b7) rfl) hK hG hW hS rfl hl.1 rfl (Nat.le_of_ble_eq_true rfl) dX11_voyage_156 ⟨(Nat.le_of_ble_eq_true rfl), (Nat.le_of_ble_eq_true rfl)⟩ (fun r25 S24 H locs h hW hS => ?_)
                              exact W.iret (v := r25) hx hb hr (fun t ht hWm => ⟨⟨_, S24, rfl, h, tq_pe ht hW⟩, hS.F ht⟩) hS.2.2 dX11_voyage_159
                            · have h := h.2 c23
                              by_cases c26 : p1 = 12
                              · have h := h.1 c26
                                refine W.eq (g2 := F0 m 45 ls (.int 12 :: [])) (by rw [c26]) ?_
                                refine lv_tableIn (tgt := 160) hx hb dX11_voyage_45 (by decide) (by decide) rfl (by decide) ?_
                                refine lv_aload_n hx hb dX11_voyage_160 rfl (lv_at hl 0 rfl) ?_
                                refine tqc_get (v := .int (S8 9 (tq_el S1 22 23 0 p0) 11)) hx hb hw tq_inX10 hown hK hW (by decide) (tq_mk_9 b7) rfl 11 (by decide) (hw _ tw_1007) (fun _ h9 => h9) rfl dX11_voyage_161 ?_
                                exact W.iret (v := S8 9 (tq_el S1 22 23 0 p0) 11) hx hb hr (fun t ht hWm => ⟨⟨_, S8, rfl, h, tq_pe ht hW⟩, hS.F ht⟩) hS.2.2 dX11_voyage_164
                              · have h := h.2 c26
                                refine lv_tableOut (tgt := 165) hx hb dX11_voyage_45 (tq_out13 c11 c12 c13 c14 c15 c16 c18 c19 c20 c21 c22 c23 c26) (by decide) ?_
                                exact bX11_voyage_165 C  _  _ _ _ h hW hS (lv_sub hl [] rfl)
    · have h := h.2 c10
      refine lv_aload_n hx hb dX11_voyage_34 rfl (lv_at hl 0 rfl) ?_
      refine tqc_get (v := .ref (ad 57 (tq_el S1 22 23 0 p0))) hx hb hw tq_inX10 hown hK hW (by decide) (tq_mk_9 b7) rfl 6 (by decide) (hw _ tw_999) (fun _ h9 => h9) rfl dX11_voyage_35 ?_
      refine lv_iload_n hx hb dX11_voyage_38 rfl (lv_at hl 3 rfl) ?_
      refine lv_bipush (v := 6) hx hb dX11_voyage_39 (by decide) ?_
      refine lv_isub hx hb dX11_voyage_41 ?_
      obtain ⟨b27, h⟩ := h
      obtain ⟨b28, h⟩ := h
      refine tqc_iald (jn := (p1 - 6).toNatClampNeg) hx hb hK hW (by decide) (tq_mk_57 b28) b27 rfl dX11_voyage_42 ?_
      exact W.iret (v := S8 57 (tq_el S1 22 23 0 p0) ((p1 - 6).toNatClampNeg)) hx hb hr (fun t ht hWm => ⟨⟨_, S8, rfl, h, tq_pe ht hW⟩, hS.F ht⟩) hS.2.2 dX11_voyage_43
  · have h := h.2 c3
    refine lv_bipush (v := (-5)) hx hb dX11_voyage_8 (by decide) ?_
    exact W.iret (v := (-5)) hx hb hr (fun t ht hWm => ⟨⟨_, S1, rfl, h, tq_pe ht hW⟩, hS.F ht⟩) hS.2.2 dX11_voyage_10
-- X11 recount
def wbX11_recount_15 (N : tq_Nn) (post : tq_St → Int32 → Prop)  (S : tq_St) : Prop :=
  post S ((-1))
def wbX11_recount_47 (N : tq_Nn) (post : tq_St → Int32 → Prop)  (S : tq_St) : Prop :=
  post S ((-3))
def wpX11_recount (N : tq_Nn) (post : tq_St → Int32 → Prop) (S : tq_St) (p0 : Int32) (p1 : Int32) (p2 : Int32) : Prop :=
  wpX11_isVoyage N (fun S1 r2 => (r2 = 0 → (wbX11_recount_15 N post S1 )) ∧ (¬ r2 = 0 → (wpX11_isSort N (fun S4 r5 => (¬ r5 = 0 → (tq_gok N S4 22 23 0 p0 ∧ (N 9 (tq_el S4 22 23 0 p0) = 1 ∧ (((S4 9 (tq_el S4 22 23 0 p0) 2) = 0 → (wbX11_recount_47 N post S4 )) ∧ (¬ (S4 9 (tq_el S4 22 23 0 p0) 2) = 0 → (((S4 9 (tq_el S4 22 23 0 p0) 9) = 1 → (wpX11_within N (fun S13 r14 => (¬ r14 = 0 → (vp_in p1 4 ∧ N 58 (tq_el S4 22 23 0 p0) = 1 ∧ (∀ S18, S18 = tq_up S13 58 (tq_el S4 22 23 0 p0) p1.toNatClampNeg p2 → (post S18 (S13 58 (tq_el S4 22 23 0 p0) p1.toNatClampNeg))))) ∧ (r14 = 0 → (post S13 ((-2))))) S4 p2 0 99)) ∧ (¬ (S4 9 (tq_el S4 22 23 0 p0) 9) = 1 → (wbX11_recount_47 N post S4 )))))))) ∧ (r5 = 0 → (wbX11_recount_15 N post S4 ))) S1 p1))) S p0
set_option maxHeartbeats 4000000 in
set_option maxRecDepth 100000 in
theorem bX11_recount_15 {p : Program} {e : Env} {s : State} {m : MethodId} {args : Array Value} {below : List Frame} {meth : Method} {c : Code} {post : tq_St → Int32 → Prop} (C : tq_At p s m meth c args cX11_recount 6 ((some .int)) ((tq_ws yX11_recount cX11_recount 6 (some .int))) RX11 D cy z ad)  : ∀ (S : tq_St)  (H : Heap) (locs : List Loc) (ls : Array Slot), wbX11_recount_15 N post   S  → tq_wd D cy z H0 ad N (tq_mix S M) H → va_S (fun q => z ≤ q) s.heap H locs → lv_has ls 6 [] → W p l e (tq_rm 3 64) s m args below meth c H locs 0 0 (MQ below (va_Qi (fun r u => post u r) (fun u => tq_P D cy z H0 ad N u M) (fun q => z ≤ q)) args s 0 0 (fun q => z ≤ q)) (F0 m 15 ls []) := by
  obtain ⟨hx, hb, hr, hml, hown, hts, hlocks, hK, hG⟩ := id C
  have hw : ∀ w ∈ tq_W, w.before args s = true := fun w h => hts w (List.mem_cons_of_mem _ h)
  intro S  H locs ls h hW hS hl
  unfold wbX11_recount_15 at h
  refine lv_iconst (v := (-1)) hx hb dX11_recount_15 (by decide) ?_
  exact W.iret (v := (-1)) hx hb hr (fun t ht hWm => ⟨⟨_, S, rfl, h, tq_pe ht hW⟩, hS.F ht⟩) hS.2.2 dX11_recount_16
set_option maxHeartbeats 4000000 in
set_option maxRecDepth 100000 in
theorem bX11_recount_47 {p : Program} {e : Env} {s : State} {m : MethodId} {args : Array Value} {below : List Frame} {meth : Method} {c : Code} {post : tq_St → Int32 → Prop} (C : tq_At p s m meth c args cX11_recount 6 ((some .int)) ((tq_ws yX11_recount cX11_recount 6 (some .int))) RX11 D cy z ad)  : ∀ (S : tq_St)  (H : Heap) (locs : List Loc) (ls : Array Slot), wbX11_recount_47 N post   S  → tq_wd D cy z H0 ad N (tq_mix S M) H → va_S (fun q => z ≤ q) s.heap H locs → lv_has ls 6 [] → W p l e (tq_rm 3 64) s m args below meth c H locs 0 0 (MQ below (va_Qi (fun r u => post u r) (fun u => tq_P D cy z H0 ad N u M) (fun q => z ≤ q)) args s 0 0 (fun q => z ≤ q)) (F0 m 47 ls []) := by
  obtain ⟨hx, hb, hr, hml, hown, hts, hlocks, hK, hG⟩ := id C
  have hw : ∀ w ∈ tq_W, w.before args s = true := fun w h => hts w (List.mem_cons_of_mem _ h)
  intro S  H locs ls h hW hS hl
  unfold wbX11_recount_47 at h
  refine lv_bipush (v := (-3)) hx hb dX11_recount_47 (by decide) ?_
  exact W.iret (v := (-3)) hx hb hr (fun t ht hWm => ⟨⟨_, S, rfl, h, tq_pe ht hW⟩, hS.F ht⟩) hS.2.2 dX11_recount_49
set_option maxHeartbeats 4000000 in
set_option maxRecDepth 100000 in
theorem kX11_recount {post : tq_St → Int32 → Prop} {S : tq_St} {p0 : Int32} {p1 : Int32} {p2 : Int32} (h : wpX11_recount N post S p0 p1 p2) : tq_sI l yX11_recount (tq_ws yX11_recount cX11_recount 6 (some .int)) 3 64 D cy z H0 ad N M S [.ref (ad 1 0), .int p0, .int p1, .int p2] post := by
  unfold wpX11_recount at h
  refine Met.ofW (cc := cX11_recount) (maxL := 6) (ret := (some .int)) (by decide) rfl ?_
  intro p e s m args below meth c s₁ B hml hv
  obtain ⟨rfl, hW, hK, hG⟩ := hv
  have hx := B.exec
  have hb := B.bytes
  have hr := B.returns
  have hts := atoms_spec (ws := (tq_ws yX11_recount cX11_recount 6 (some .int))) B.pre
  have hw : ∀ w ∈ tq_W, w.before _ s = true := fun w h => hts w (List.mem_cons_of_mem _ h)
  have hown : s.vm.findClass RX11 = some m.cls := findClass_of_methodNamed B.named
  have hlocks := B.notSynchronized
  have C : tq_At p s m meth c [.ref (ad 1 0), .int p0, .int p1, .int p2].toArray cX11_recount 6 ((some .int)) ((tq_ws yX11_recount cX11_recount 6 (some .int))) RX11 D cy z ad := ⟨hx, hb, hr, hml, hown, hts, hlocks, hK, hG⟩
  have hS : va_S (fun q => z ≤ q) s.heap s.heap [] := va_S.rf
  have hl := lv_entry ([.ref (ad 1 0), .int p0, .int p1, .int p2]) (n := 6) (Nat.le_of_ble_eq_true rfl)
  rw [lg_entry_eq]
  generalize (lg_sl ([.ref (ad 1 0), .int p0, .int p1, .int p2]) ++ List.replicate (6 - (lg_sl ([.ref (ad 1 0), .int p0, .int p1, .int p2])).length) Slot.unset).toArray = ls at hl ⊢
  have hl : lv_has ls 6 [(0, .ref (ad 1 0)), (1, .int p0), (2, .int p1), (3, .int p2)] := hl
  have hW : tq_wd D cy z H0 ad N (tq_mix S M) s.heap := hW
  refine lv_aload_n hx hb dX11_recount_0 rfl (lv_at hl 0 rfl) ?_
  refine lv_iload_n hx hb dX11_recount_1 rfl (lv_at hl 1 rfl) ?_
  refine tqc_callVi (As := [.int p0]) (rest := []) (kX11_isVoyage h) ⟨hx, hb, hml, hown, hts⟩ (cwV 1 hts (tq_goodV tw_1037 tw_1039 tw_26 tw_115 tw_1040) rfl rfl rfl (by decide +kernel) ⟨(Nat.le_of_ble_eq_true rfl), (Nat.le_of_ble_eq_true rfl)⟩) (tq_recvC hK hW (by decide) (tq_mk_1 (by decide)) rfl) hK hG hW hS rfl hl.1 rfl (Nat.le_of_ble_eq_true rfl) dX11_recount_2 ⟨(Nat.le_of_ble_eq_true rfl), (Nat.le_of_ble_eq_true rfl)⟩ (fun r2 S1 H locs h hW hS => ?_)
  refine lv_if_eq (tgt := 15) hx hb dX11_recount_5 (by decide) (fun c3 => ?_) (fun c3 => ?_)
  · have h := h.1 c3
    exact bX11_recount_15 C  _  _ _ _ h hW hS (lv_sub hl [] rfl)
  · have h := h.2 c3
    refine lv_iload_n hx hb dX11_recount_8 rfl (lv_at hl 2 rfl) ?_
    refine tqc_callSi (As := [.int p1]) (rest := []) (kX11_isSort h) ⟨hx, hb, hml, hown, hts⟩ (va_cwS 1 hts (tq_goodS tw_412 tw_413 tw_115 tw_414) rfl rfl rfl (by decide +kernel) ⟨(Nat.le_of_ble_eq_true rfl), (Nat.le_of_ble_eq_true rfl)⟩) hK hG hW hS rfl hl.1 rfl (Nat.le_of_ble_eq_true rfl) dX11_recount_9 ⟨(Nat.le_of_ble_eq_true rfl), (Nat.le_of_ble_eq_true rfl)⟩ (fun r5 S4 H locs h hW hS => ?_)
    refine lv_if_ne (tgt := 17) hx hb dX11_recount_12 (by decide) (fun c6 => ?_) (fun c6 => ?_)
    · have h := h.1 c6
      refine lv_aload_n hx hb dX11_recount_17 rfl (lv_at hl 0 rfl) ?_
      refine tqc_get (v := .ref (ad 22 0)) hx hb hw tq_inX11 hown hK hW (by decide) (tq_mk_1 (by decide)) rfl 9 (by decide) (hw _ tw_346) (fun _ h9 => h9) rfl dX11_recount_18 ?_
      refine lv_iload_n hx hb dX11_recount_21 rfl (lv_at hl 1 rfl) ?_
      obtain ⟨b9, h⟩ := h
      refine tqc_callVr (kr := 9) (As := [.int p0]) (rest := []) (kJl_get (kd := 23) (post := fun u i => u = S4 ∧ i = tq_el S4 22 23 0 p0) (by decide) (by decide) (tq_mk_22 (by decide)) (fun q9 => tq_mk_23 q9) b9 ⟨rfl, rfl⟩) ⟨hx, hb, hml, hown, hts⟩ (cwV 1 hts (tq_goodV tw_827 tw_828 tw_829 tw_118 tw_830) rfl rfl rfl (by decide +kernel) ⟨(Nat.le_of_ble_eq_true rfl), (Nat.le_of_ble_eq_true rfl)⟩) (tq_recvL hK hW (by decide) (tq_mk_22 (by decide))) hK hG hW hS rfl hl.1 rfl (Nat.le_of_ble_eq_true rfl) dX11_recount_22 ⟨(Nat.le_of_ble_eq_true rfl), (Nat.le_of_ble_eq_true rfl)⟩ (fun i8 S7 H locs q9 hW hS => ?_)
      rw [q9.1] at hW
      rw [q9.2]
      obtain ⟨b10, h⟩ := h
      refine va_castS hx hb hown (hw _ tw_978) (hK.1 11 _ rfl).2 (tq_recvC hK hW (by decide) (tq_mk_9 b10) rfl) dX11_recount_25 ?_
      refine lv_astore (lv' := [(4, .ref (ad 9 (tq_el S4 22 23 0 p0))), (0, .ref (ad 1 0)), (1, .int p0), (2, .int p1), (3, .int p2)]) hx hb dX11_recount_28 hl (by decide) rfl (fun ls hl => ?_)
      refine lv_aload hx hb dX11_recount_30 (lv_at hl 0 rfl) ?_
      refine tqc_get (v := .int (S4 9 (tq_el S4 22 23 0 p0) 2)) hx hb hw tq_inX10 hown hK hW (by decide) (tq_mk_9 b10) rfl 2 (by decide) (hw _ tw_991) (fun _ h9 => h9) rfl dX11_recount_32 ?_
      refine lv_if_eq (tgt := 47) hx hb dX11_recount_35 (by decide) (fun c11 => ?_) (fun c11 => ?_)
      · have h := h.1 c11
        exact bX11_recount_47 C  _  _ _ _ h hW hS (lv_sub hl [] rfl)
      · have h := h.2 c11
        refine lv_aload hx hb dX11_recount_38 (lv_at hl 0 rfl) ?_
        refine tqc_get (v := .int (S4 9 (tq_el S4 22 23 0 p0) 9)) hx hb hw tq_inX10 hown hK hW (by decide) (tq_mk_9 b10) rfl 9 (by decide) (hw _ tw_1004) (fun _ h9 => h9) rfl dX11_recount_40 ?_
        refine lv_iconst (v := 1) hx hb dX11_recount_43 (by decide) ?_
        refine lv_icmp_eq (tgt := 50) hx hb dX11_recount_44 (by decide) (fun c12 => ?_) (fun c12 => ?_)
        · have h := h.1 c12
          refine lv_iload_n hx hb dX11_recount_50 rfl (lv_at hl 4 rfl) ?_
          refine lv_iconst (v := 0) hx hb dX11_recount_51 (by decide) ?_
          refine lv_bipush (v := 99) hx hb dX11_recount_52 (by decide) ?_
          refine tqc_callSi (As := [.int p2, .int 0, .int 99]) (rest := []) (kX11_within h) ⟨hx, hb, hml, hown, hts⟩ (va_cwS 3 hts (tq_goodS tw_405 tw_406 tw_115 tw_407) rfl rfl rfl (by decide +kernel) ⟨(Nat.le_of_ble_eq_true rfl), (Nat.le_of_ble_eq_true rfl)⟩) hK hG hW hS rfl hl.1 rfl (Nat.le_of_ble_eq_true rfl) dX11_recount_54 ⟨(Nat.le_of_ble_eq_true rfl), (Nat.le_of_ble_eq_true rfl)⟩ (fun r14 S13 H locs h hW hS => ?_)
          refine lv_if_ne (tgt := 63) hx hb dX11_recount_57 (by decide) (fun c15 => ?_) (fun c15 => ?_)
          · have h := h.1 c15
            refine lv_aload hx hb dX11_recount_63 (lv_at hl 0 rfl) ?_
            refine tqc_get (v := .ref (ad 58 (tq_el S4 22 23 0 p0))) hx hb hw tq_inX10 hown hK hW (by decide) (tq_mk_9 b10) rfl 7 (by decide) (hw _ tw_1001) (fun _ h9 => h9) rfl dX11_recount_65 ?_
            refine lv_iload_n hx hb dX11_recount_68 rfl (lv_at hl 3 rfl) ?_
            obtain ⟨b16, h⟩ := h
            obtain ⟨b17, h⟩ := h
            refine tqc_iald (jn := p1.toNatClampNeg) hx hb hK hW (by decide) (tq_mk_58 b17) b16 rfl dX11_recount_69 ?_
            refine lv_istore (lv' := [(5, .int (S13 58 (tq_el S4 22 23 0 p0) p1.toNatClampNeg)), (4, .ref (ad 9 (tq_el S4 22 23 0 p0))), (0, .ref (ad 1 0)), (1, .int p0), (2, .int p1), (3, .int p2)]) hx hb dX11_recount_70 hl (by decide) rfl (fun ls hl => ?_)
            refine lv_aload hx hb dX11_recount_72 (lv_at hl 1 rfl) ?_
            refine tqc_get (v := .ref (ad 58 (tq_el S4 22 23 0 p0))) hx hb hw tq_inX10 hown hK hW (by decide) (tq_mk_9 b10) rfl 7 (by decide) (hw _ tw_1001) (fun _ h9 => h9) rfl dX11_recount_74 ?_
            refine lv_iload_n hx hb dX11_recount_77 rfl (lv_at hl 4 rfl) ?_
            refine lv_iload_n hx hb dX11_recount_78 rfl (lv_at hl 5 rfl) ?_
            refine tqc_iast (jn := p1.toNatClampNeg) hx hb hK hW hS (by decide) (tq_mk_58 b17) b16 rfl (tq_mk_58 b17) dX11_recount_79 (fun H locs hW hS => ?_)
            generalize eS18 : tq_up S13 58 (tq_el S4 22 23 0 p0) p1.toNatClampNeg p2 = S18 at hW
            have h := h S18 eS18.symm
            refine lv_iload hx hb dX11_recount_80 (lv_at hl 0 rfl) ?_
            exact W.iret (v := S13 58 (tq_el S4 22 23 0 p0) p1.toNatClampNeg) hx hb hr (fun t ht hWm => ⟨⟨_, S18, rfl, h, tq_pe ht hW⟩, hS.F ht⟩) hS.2.2 dX11_recount_82
          · have h := h.2 c15
            refine lv_bipush (v := (-2)) hx hb dX11_recount_60 (by decide) ?_
            exact W.iret (v := (-2)) hx hb hr (fun t ht hWm => ⟨⟨_, S13, rfl, h, tq_pe ht hW⟩, hS.F ht⟩) hS.2.2 dX11_recount_62
        · have h := h.2 c12
          exact bX11_recount_47 C  _  _ _ _ h hW hS (lv_sub hl [] rfl)
    · have h := h.2 c6
      exact bX11_recount_15 C  _  _ _ _ h hW hS (lv_sub hl [] rfl)
