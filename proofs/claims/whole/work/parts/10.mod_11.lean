variable {l : Launch} {D : va_G} {cy : Nat → ClassId} {z : Nat} {H0 : Heap} {ad : Nat → Nat → Nat} {N : tq_Nn} {S : tq_St}
-- shipOf
def wbX12_shipOf_104 (post : tq_St → Int32 → Prop)  (M : tq_St) (y0 : Int32) : Prop :=
  post M y0
def wbX12_shipOf_125 (post : tq_St → Int32 → Prop)  (M : tq_St) (y0 : Int32) : Prop :=
  post M y0
def wbX12_shipOf_133 (post : tq_St → Int32 → Prop)  (M : tq_St) (x1 : Int32) (x2 : Int32) : Prop :=
  vp_in x1 8 ∧ (vp_in (x2 - 5) 4 ∧ (post M (M 127 x1.toNatClampNeg ((x2 - 5).toNatClampNeg))))
def wbX12_shipOf_149 (post : tq_St → Int32 → Prop) : Nat → tq_St → Int32 → Int32 → Int32 → Prop
  | 0, _, _, _, _ => False
  | n + 1, M, x1, x3, x4 =>
    ((M 64 0 9) ≤ x4 → (post M x3)) ∧ (¬ (M 64 0 9) ≤ x4 → (vp_in x4 150 ∧ (vp_in x1 8 ∧ ((wbX12_shipOf_149 post n) M x1 (x3 + (M 120 x4.toNatClampNeg x1.toNatClampNeg)) (x4 + 1)))))
def wpX12_shipOf (post : tq_St → Int32 → Prop) (M : tq_St) (p0 : Int32) (p1 : Int32) : Prop :=
  wpX12_isShip (fun M1 r2 => (¬ r2 = 0 → ((p1 = 0 → (vp_in p0 8 ∧ (post M1 (M1 124 0 p0.toNatClampNeg)))) ∧ (¬ p1 = 0 → ((p1 = 1 → (vp_in p0 8 ∧ ((¬ (M1 124 0 p0.toNatClampNeg) = ((-1)) → (wbX12_shipOf_104 post M1 ((-1)))) ∧ ((M1 124 0 p0.toNatClampNeg) = ((-1)) → (vp_in (M1 130 0 p0.toNatClampNeg) 99 ∧ (wbX12_shipOf_104 post M1 (M1 136 0 ((M1 130 0 p0.toNatClampNeg).toNatClampNeg)))))))) ∧ (¬ p1 = 1 → ((p1 = 2 → (wpX12_free (fun M11 r12 => post M11 r12) M1 p0)) ∧ (¬ p1 = 2 → ((p1 = 3 → (vp_in p0 8 ∧ (((M1 125 0 p0.toNatClampNeg) = 0 → (wbX12_shipOf_125 post M1 0)) ∧ (¬ (M1 125 0 p0.toNatClampNeg) = 0 → (wbX12_shipOf_125 post M1 1))))) ∧ (¬ p1 = 3 → ((p1 = 4 → (vp_in p0 8 ∧ (post M1 (M1 128 0 p0.toNatClampNeg)))) ∧ (¬ p1 = 4 → ((p1 = 5 → (wbX12_shipOf_133 post M1 p0 p1)) ∧ (¬ p1 = 5 → ((p1 = 6 → (wbX12_shipOf_133 post M1 p0 p1)) ∧ (¬ p1 = 6 → ((p1 = 7 → (wbX12_shipOf_133 post M1 p0 p1)) ∧ (¬ p1 = 7 → ((p1 = 8 → (wbX12_shipOf_133 post M1 p0 p1)) ∧ (¬ p1 = 8 → ((p1 = 9 → (∃ nq, wbX12_shipOf_149 post nq M1 p0 0 0)) ∧ (¬ p1 = 9 → ((p1 = 10 → (vp_in p0 8 ∧ (post M1 (M1 130 0 p0.toNatClampNeg)))) ∧ (¬ p1 = 10 → (post M1 ((-5)))))))))))))))))))))))))) ∧ (r2 = 0 → (post M1 ((-5))))) M p0
set_option maxHeartbeats 4000000 in
set_option maxRecDepth 100000 in
theorem bX12_shipOf_104 {p : Program} {e : Env} {s : State} {m : MethodId} {args : Array Value} {below : List Frame} {meth : Method} {c : Code} {post : tq_St → Int32 → Prop} (C : tq_At p s m meth c args cX12_shipOf 5 ((some .int)) ((tq_ws yX12_shipOf cX12_shipOf 5 (some .int))) RX12 D cy z ad)  : ∀ (M : tq_St) (y0 : Int32) (H : Heap) (locs : List Loc) (ls : Array Slot), wbX12_shipOf_104 post   M y0 → tq_wd D cy z H0 ad N (tq_mix S M) H → va_S (fun q => z ≤ q) s.heap H locs → lv_has ls 5 [] → W p l e (tq_rm 2 44) s m args below meth c H locs 0 0 (MQ below (va_Qi (fun r u => post u r) (tq_P D cy z H0 ad N S) (fun q => z ≤ q)) args s 0 0 (fun q => z ≤ q)) (F0 m 104 ls [.int y0]) := by
  obtain ⟨hx, hb, hr, hml, hown, hts, hlocks, hK, hG⟩ := id C
  have hw : ∀ w ∈ tq_W, w.before args s = true := fun w h => hts w (List.mem_cons_of_mem _ h)
  intro M y0 H locs ls h hW hS hl
  unfold wbX12_shipOf_104 at h
  exact W.iret (v := y0) hx hb hr (fun t ht hWm => ⟨⟨_, M, rfl, h, tq_pe ht hW⟩, hS.F ht⟩) hS.2.2 dX12_shipOf_104
set_option maxHeartbeats 4000000 in
set_option maxRecDepth 100000 in
theorem bX12_shipOf_125 {p : Program} {e : Env} {s : State} {m : MethodId} {args : Array Value} {below : List Frame} {meth : Method} {c : Code} {post : tq_St → Int32 → Prop} (C : tq_At p s m meth c args cX12_shipOf 5 ((some .int)) ((tq_ws yX12_shipOf cX12_shipOf 5 (some .int))) RX12 D cy z ad)  : ∀ (M : tq_St) (y0 : Int32) (H : Heap) (locs : List Loc) (ls : Array Slot), wbX12_shipOf_125 post   M y0 → tq_wd D cy z H0 ad N (tq_mix S M) H → va_S (fun q => z ≤ q) s.heap H locs → lv_has ls 5 [] → W p l e (tq_rm 2 44) s m args below meth c H locs 0 0 (MQ below (va_Qi (fun r u => post u r) (tq_P D cy z H0 ad N S) (fun q => z ≤ q)) args s 0 0 (fun q => z ≤ q)) (F0 m 125 ls [.int y0]) := by
  obtain ⟨hx, hb, hr, hml, hown, hts, hlocks, hK, hG⟩ := id C
  have hw : ∀ w ∈ tq_W, w.before args s = true := fun w h => hts w (List.mem_cons_of_mem _ h)
  intro M y0 H locs ls h hW hS hl
  unfold wbX12_shipOf_125 at h
  exact W.iret (v := y0) hx hb hr (fun t ht hWm => ⟨⟨_, M, rfl, h, tq_pe ht hW⟩, hS.F ht⟩) hS.2.2 dX12_shipOf_125
set_option maxHeartbeats 4000000 in
set_option maxRecDepth 100000 in
theorem bX12_shipOf_133 {p : Program} {e : Env} {s : State} {m : MethodId} {args : Array Value} {below : List Frame} {meth : Method} {c : Code} {post : tq_St → Int32 → Prop} (C : tq_At p s m meth c args cX12_shipOf 5 ((some .int)) ((tq_ws yX12_shipOf cX12_shipOf 5 (some .int))) RX12 D cy z ad)  : ∀ (M : tq_St) (x1 : Int32) (x2 : Int32) (H : Heap) (locs : List Loc) (ls : Array Slot), wbX12_shipOf_133 post   M x1 x2 → tq_wd D cy z H0 ad N (tq_mix S M) H → va_S (fun q => z ≤ q) s.heap H locs → lv_has ls 5 [(0, .ref (ad 64 0)), (1, .int x1), (2, .int x2)] → W p l e (tq_rm 2 44) s m args below meth c H locs 0 0 (MQ below (va_Qi (fun r u => post u r) (tq_P D cy z H0 ad N S) (fun q => z ≤ q)) args s 0 0 (fun q => z ≤ q)) (F0 m 133 ls []) := by
  obtain ⟨hx, hb, hr, hml, hown, hts, hlocks, hK, hG⟩ := id C
  have hw : ∀ w ∈ tq_W, w.before args s = true := fun w h => hts w (List.mem_cons_of_mem _ h)
  intro M x1 x2 H locs ls h hW hS hl
  unfold wbX12_shipOf_133 at h
  refine lv_aload_n hx hb dX12_shipOf_133 rfl (lv_at hl 0 rfl) ?_
  refine tqm_get (v := .ref (ad 227 0)) hx hb hw tq_inX12 hown hK hW (by decide) (tq_mk_64 (by decide)) rfl 27 (by decide) (hw _ tw_1435) (fun _ h9 => h9) rfl dX12_shipOf_134 ?_
  refine lv_iload_n hx hb dX12_shipOf_137 rfl (lv_at hl 1 rfl) ?_
  obtain ⟨b25, h⟩ := h
  refine tqm_aald (jn := x1.toNatClampNeg) (v := .ref (ad 127 x1.toNatClampNeg)) hx hb hK hW (by decide) (tq_mk_227 (by decide)) 2 rfl rfl b25 rfl rfl dX12_shipOf_138 ?_
  refine lv_iload_n hx hb dX12_shipOf_139 rfl (lv_at hl 2 rfl) ?_
  refine lv_iconst (v := 5) hx hb dX12_shipOf_140 (by decide) ?_
  refine lv_isub hx hb dX12_shipOf_141 ?_
  obtain ⟨b26, h⟩ := h
  refine tqm_iald (jn := (x2 - 5).toNatClampNeg) hx hb hK hW (by decide) (tq_mk_127 (tq_lt b25)) b26 rfl dX12_shipOf_142 ?_
  exact W.iret (v := M 127 x1.toNatClampNeg ((x2 - 5).toNatClampNeg)) hx hb hr (fun t ht hWm => ⟨⟨_, M, rfl, h, tq_pe ht hW⟩, hS.F ht⟩) hS.2.2 dX12_shipOf_143
set_option maxHeartbeats 4000000 in
set_option maxRecDepth 100000 in
theorem bX12_shipOf_149 {p : Program} {e : Env} {s : State} {m : MethodId} {args : Array Value} {below : List Frame} {meth : Method} {c : Code} {post : tq_St → Int32 → Prop} (C : tq_At p s m meth c args cX12_shipOf 5 ((some .int)) ((tq_ws yX12_shipOf cX12_shipOf 5 (some .int))) RX12 D cy z ad)  : ∀ n : Nat, ∀ (M : tq_St) (x1 : Int32) (x3 : Int32) (x4 : Int32) (H : Heap) (locs : List Loc) (ls : Array Slot), wbX12_shipOf_149 post   n M x1 x3 x4 → tq_wd D cy z H0 ad N (tq_mix S M) H → va_S (fun q => z ≤ q) s.heap H locs → lv_has ls 5 [(0, .ref (ad 64 0)), (1, .int x1), (3, .int x3), (4, .int x4)] → W p l e (tq_rm 2 44) s m args below meth c H locs 0 0 (MQ below (va_Qi (fun r u => post u r) (tq_P D cy z H0 ad N S) (fun q => z ≤ q)) args s 0 0 (fun q => z ≤ q)) (F0 m 149 ls []) := by
  obtain ⟨hx, hb, hr, hml, hown, hts, hlocks, hK, hG⟩ := id C
  have hw : ∀ w ∈ tq_W, w.before args s = true := fun w h => hts w (List.mem_cons_of_mem _ h)
  intro n
  induction n with
  | zero =>
    intro M x1 x3 x4 H locs ls h
    exact absurd h (by unfold wbX12_shipOf_149; exact id)
  | succ n ih =>
    intro M x1 x3 x4 H locs ls h hW hS hl
    unfold wbX12_shipOf_149 at h
    refine lv_iload hx hb dX12_shipOf_149 (lv_at hl 3 rfl) ?_
    refine lv_aload_n hx hb dX12_shipOf_151 rfl (lv_at hl 0 rfl) ?_
    refine tqm_get (v := .int (M 64 0 9)) hx hb hw tq_inX12 hown hK hW (by decide) (tq_mk_64 (by decide)) rfl 9 (by decide) (hw _ tw_1417) (fun _ h9 => h9) rfl dX12_shipOf_152 ?_
    refine lv_icmp_ge (tgt := 176) hx hb dX12_shipOf_155 (by decide) (fun c27 => ?_) (fun c27 => ?_)
    · have h := h.1 c27
      refine lv_iload_n hx hb dX12_shipOf_176 rfl (lv_at hl 2 rfl) ?_
      exact W.iret (v := x3) hx hb hr (fun t ht hWm => ⟨⟨_, M, rfl, h, tq_pe ht hW⟩, hS.F ht⟩) hS.2.2 dX12_shipOf_177
    · have h := h.2 c27
      refine lv_iload_n hx hb dX12_shipOf_158 rfl (lv_at hl 2 rfl) ?_
      refine lv_aload_n hx hb dX12_shipOf_159 rfl (lv_at hl 0 rfl) ?_
      refine tqm_get (v := .ref (ad 220 0)) hx hb hw tq_inX12 hown hK hW (by decide) (tq_mk_64 (by decide)) rfl 20 (by decide) (hw _ tw_1428) (fun _ h9 => h9) rfl dX12_shipOf_160 ?_
      refine lv_iload hx hb dX12_shipOf_163 (lv_at hl 3 rfl) ?_
      obtain ⟨b28, h⟩ := h
      refine tqm_aald (jn := x4.toNatClampNeg) (v := .ref (ad 120 x4.toNatClampNeg)) hx hb hK hW (by decide) (tq_mk_220 (by decide)) 2 rfl rfl b28 rfl rfl dX12_shipOf_165 ?_
      refine lv_iload_n hx hb dX12_shipOf_166 rfl (lv_at hl 1 rfl) ?_
      obtain ⟨b29, h⟩ := h
      refine tqm_iald (jn := x1.toNatClampNeg) hx hb hK hW (by decide) (tq_mk_120 (tq_lt b28)) b29 rfl dX12_shipOf_167 ?_
      refine lv_iadd hx hb dX12_shipOf_168 ?_
      refine lv_istore_n (lv' := [(3, .int (x3 + (M 120 x4.toNatClampNeg x1.toNatClampNeg))), (0, .ref (ad 64 0)), (1, .int x1), (4, .int x4)]) hx hb dX12_shipOf_169 rfl hl (by decide) rfl (fun ls hl => ?_)
      refine lv_iinc (v := x4 + 1) (lv' := [(4, .int (x4 + 1)), (3, .int (x3 + (M 120 x4.toNatClampNeg x1.toNatClampNeg))), (0, .ref (ad 64 0)), (1, .int x1)]) hx hb dX12_shipOf_170 hl (k := 3) rfl rfl (by decide) rfl (fun ls hl => ?_)
      refine lv_goto (tgt := 149) hx hb dX12_shipOf_173 (by decide) ?_
      exact ih _ _ _ _ _ _ _ h hW hS (lv_sub hl [2, 3, 1, 0] rfl)
set_option maxHeartbeats 4000000 in
set_option maxRecDepth 100000 in
theorem kX12_shipOf {post : tq_St → Int32 → Prop} {M : tq_St} {p0 : Int32} {p1 : Int32} (h : wpX12_shipOf post M p0 p1) : tq_mI l yX12_shipOf (tq_ws yX12_shipOf cX12_shipOf 5 (some .int)) 2 44 D cy z H0 ad N S M [.ref (ad 64 0), .int p0, .int p1] post := by
  unfold wpX12_shipOf at h
  refine Met.ofW (cc := cX12_shipOf) (maxL := 5) (ret := (some .int)) (by decide) rfl ?_
  intro p e s m args below meth c s₁ B hml hv
  obtain ⟨rfl, hW, hK, hG⟩ := hv
  have hx := B.exec
  have hb := B.bytes
  have hr := B.returns
  have hts := atoms_spec (ws := (tq_ws yX12_shipOf cX12_shipOf 5 (some .int))) B.pre
  have hw : ∀ w ∈ tq_W, w.before _ s = true := fun w h => hts w (List.mem_cons_of_mem _ h)
  have hown : s.vm.findClass RX12 = some m.cls := findClass_of_methodNamed B.named
  have hlocks := B.notSynchronized
  have C : tq_At p s m meth c [.ref (ad 64 0), .int p0, .int p1].toArray cX12_shipOf 5 ((some .int)) ((tq_ws yX12_shipOf cX12_shipOf 5 (some .int))) RX12 D cy z ad := ⟨hx, hb, hr, hml, hown, hts, hlocks, hK, hG⟩
  have hS : va_S (fun q => z ≤ q) s.heap s.heap [] := va_S.rf
  have hl := lv_entry ([.ref (ad 64 0), .int p0, .int p1]) (n := 5) (Nat.le_of_ble_eq_true rfl)
  rw [lg_entry_eq]
  generalize (lg_sl ([.ref (ad 64 0), .int p0, .int p1]) ++ List.replicate (5 - (lg_sl ([.ref (ad 64 0), .int p0, .int p1])).length) Slot.unset).toArray = ls at hl ⊢
  have hl : lv_has ls 5 [(0, .ref (ad 64 0)), (1, .int p0), (2, .int p1)] := hl
  have hW : tq_wd D cy z H0 ad N (tq_mix S M) s.heap := hW
  refine lv_aload_n hx hb dX12_shipOf_0 rfl (lv_at hl 0 rfl) ?_
  refine lv_iload_n hx hb dX12_shipOf_1 rfl (lv_at hl 1 rfl) ?_
  refine tq_callVi (As := [.int p0]) (rest := []) (kX12_isShip h) ⟨hx, hb, hml, hown, hts⟩ (cwV 1 hts (tq_goodV tw_1775 tw_1777 tw_69 tw_125 tw_1778) rfl rfl rfl (by decide +kernel) ⟨Nat.le_of_ble_eq_true rfl, Nat.le_of_ble_eq_true rfl⟩) hK hG hW hS rfl hl.1 rfl (Nat.le_of_ble_eq_true rfl) dX12_shipOf_2 ⟨Nat.le_of_ble_eq_true rfl, Nat.le_of_ble_eq_true rfl⟩ (fun r2 M1 H locs h hW hS => ?_)
  refine lv_if_ne (tgt := 11) hx hb dX12_shipOf_5 (by decide) (fun c3 => ?_) (fun c3 => ?_)
  · have h := h.1 c3
    refine lv_iload_n hx hb dX12_shipOf_11 rfl (lv_at hl 2 rfl) ?_
    by_cases c4 : p1 = 0
    · have h := h.1 c4
      refine W.eq (g2 := F0 m 12 ls (.int 0 :: [])) (by rw [c4]) ?_
      refine lv_tableIn (tgt := 72) hx hb dX12_shipOf_12 (by decide) (by decide) rfl (by decide) ?_
      refine lv_aload_n hx hb dX12_shipOf_72 rfl (lv_at hl 0 rfl) ?_
      refine tqm_get (v := .ref (ad 124 0)) hx hb hw tq_inX12 hown hK hW (by decide) (tq_mk_64 (by decide)) rfl 24 (by decide) (hw _ tw_1432) (fun _ h9 => h9) rfl dX12_shipOf_73 ?_
      refine lv_iload_n hx hb dX12_shipOf_76 rfl (lv_at hl 1 rfl) ?_
      obtain ⟨b5, h⟩ := h
      refine tqm_iald (jn := p0.toNatClampNeg) hx hb hK hW (by decide) (tq_mk_124 (by decide)) b5 rfl dX12_shipOf_77 ?_
      exact W.iret (v := M1 124 0 p0.toNatClampNeg) hx hb hr (fun t ht hWm => ⟨⟨_, M1, rfl, h, tq_pe ht hW⟩, hS.F ht⟩) hS.2.2 dX12_shipOf_78
    · have h := h.2 c4
      by_cases c6 : p1 = 1
      · have h := h.1 c6
        refine W.eq (g2 := F0 m 12 ls (.int 1 :: [])) (by rw [c6]) ?_
        refine lv_tableIn (tgt := 79) hx hb dX12_shipOf_12 (by decide) (by decide) rfl (by decide) ?_
        refine lv_aload_n hx hb dX12_shipOf_79 rfl (lv_at hl 0 rfl) ?_
        refine tqm_get (v := .ref (ad 124 0)) hx hb hw tq_inX12 hown hK hW (by decide) (tq_mk_64 (by decide)) rfl 24 (by decide) (hw _ tw_1432) (fun _ h9 => h9) rfl dX12_shipOf_80 ?_
        refine lv_iload_n hx hb dX12_shipOf_83 rfl (lv_at hl 1 rfl) ?_
        obtain ⟨b7, h⟩ := h
        refine tqm_iald (jn := p0.toNatClampNeg) hx hb hK hW (by decide) (tq_mk_124 (by decide)) b7 rfl dX12_shipOf_84 ?_
        refine lv_iconst (v := (-1)) hx hb dX12_shipOf_85 (by decide) ?_
        refine lv_icmp_ne (tgt := 103) hx hb dX12_shipOf_86 (by decide) (fun c8 => ?_) (fun c8 => ?_)
        · have h := h.1 c8
          refine lv_iconst (v := (-1)) hx hb dX12_shipOf_103 (by decide) ?_
          exact bX12_shipOf_104 C  _ _ _ _ _ h hW hS (lv_sub hl [] rfl)
        · have h := h.2 c8
          refine lv_aload_n hx hb dX12_shipOf_89 rfl (lv_at hl 0 rfl) ?_
          refine tqm_get (v := .ref (ad 136 0)) hx hb hw tq_inX12 hown hK hW (by decide) (tq_mk_64 (by decide)) rfl 36 (by decide) (hw _ tw_1444) (fun _ h9 => h9) rfl dX12_shipOf_90 ?_
          refine lv_aload_n hx hb dX12_shipOf_93 rfl (lv_at hl 0 rfl) ?_
          refine tqm_get (v := .ref (ad 130 0)) hx hb hw tq_inX12 hown hK hW (by decide) (tq_mk_64 (by decide)) rfl 30 (by decide) (hw _ tw_1438) (fun _ h9 => h9) rfl dX12_shipOf_94 ?_
          refine lv_iload_n hx hb dX12_shipOf_97 rfl (lv_at hl 1 rfl) ?_
          refine tqm_iald (jn := p0.toNatClampNeg) hx hb hK hW (by decide) (tq_mk_130 (by decide)) b7 rfl dX12_shipOf_98 ?_
          obtain ⟨b9, h⟩ := h
          refine tqm_iald (jn := (M1 130 0 p0.toNatClampNeg).toNatClampNeg) hx hb hK hW (by decide) (tq_mk_136 (by decide)) b9 rfl dX12_shipOf_99 ?_
          refine lv_goto (tgt := 104) hx hb dX12_shipOf_100 (by decide) ?_
          exact bX12_shipOf_104 C  _ _ _ _ _ h hW hS (lv_sub hl [] rfl)
      · have h := h.2 c6
        by_cases c10 : p1 = 2
        · have h := h.1 c10
          refine W.eq (g2 := F0 m 12 ls (.int 2 :: [])) (by rw [c10]) ?_
          refine lv_tableIn (tgt := 105) hx hb dX12_shipOf_12 (by decide) (by decide) rfl (by decide) ?_
          refine lv_aload_n hx hb dX12_shipOf_105 rfl (lv_at hl 0 rfl) ?_
          refine lv_iload_n hx hb dX12_shipOf_106 rfl (lv_at hl 1 rfl) ?_
          refine tq_callVi (As := [.int p0]) (rest := []) (kX12_free h) ⟨hx, hb, hml, hown, hts⟩ (cwV 1 hts (tq_goodV tw_1857 tw_1859 tw_80 tw_125 tw_1860) rfl rfl rfl (by decide +kernel) ⟨Nat.le_of_ble_eq_true rfl, Nat.le_of_ble_eq_true rfl⟩) hK hG hW hS rfl hl.1 rfl (Nat.le_of_ble_eq_true rfl) dX12_shipOf_107 ⟨Nat.le_of_ble_eq_true rfl, Nat.le_of_ble_eq_true rfl⟩ (fun r12 M11 H locs h hW hS => ?_)
          exact W.iret (v := r12) hx hb hr (fun t ht hWm => ⟨⟨_, M11, rfl, h, tq_pe ht hW⟩, hS.F ht⟩) hS.2.2 dX12_shipOf_110
        · have h := h.2 c10
          by_cases c13 : p1 = 3
          · have h := h.1 c13
            refine W.eq (g2 := F0 m 12 ls (.int 3 :: [])) (by rw [c13]) ?_
            refine lv_tableIn (tgt := 111) hx hb dX12_shipOf_12 (by decide) (by decide) rfl (by decide) ?_
            refine lv_aload_n hx hb dX12_shipOf_111 rfl (lv_at hl 0 rfl) ?_
            refine tqm_get (v := .ref (ad 125 0)) hx hb hw tq_inX12 hown hK hW (by decide) (tq_mk_64 (by decide)) rfl 25 (by decide) (hw _ tw_1433) (fun _ h9 => h9) rfl dX12_shipOf_112 ?_
            refine lv_iload_n hx hb dX12_shipOf_115 rfl (lv_at hl 1 rfl) ?_
            obtain ⟨b14, h⟩ := h
            refine tqm_zald (jn := p0.toNatClampNeg) hx hb hK hW (by decide) (tq_mk_125 (by decide)) b14 rfl dX12_shipOf_116 ?_
            refine lv_if_eq (tgt := 124) hx hb dX12_shipOf_117 (by decide) (fun c15 => ?_) (fun c15 => ?_)
            · have h := h.1 c15
              refine lv_iconst (v := 0) hx hb dX12_shipOf_124 (by decide) ?_
              exact bX12_shipOf_125 C  _ _ _ _ _ h hW hS (lv_sub hl [] rfl)
            · have h := h.2 c15
              refine lv_iconst (v := 1) hx hb dX12_shipOf_120 (by decide) ?_
              refine lv_goto (tgt := 125) hx hb dX12_shipOf_121 (by decide) ?_
              exact bX12_shipOf_125 C  _ _ _ _ _ h hW hS (lv_sub hl [] rfl)
          · have h := h.2 c13
            by_cases c16 : p1 = 4
            · have h := h.1 c16
              refine W.eq (g2 := F0 m 12 ls (.int 4 :: [])) (by rw [c16]) ?_
              refine lv_tableIn (tgt := 126) hx hb dX12_shipOf_12 (by decide) (by decide) rfl (by decide) ?_
              refine lv_aload_n hx hb dX12_shipOf_126 rfl (lv_at hl 0 rfl) ?_
              refine tqm_get (v := .ref (ad 128 0)) hx hb hw tq_inX12 hown hK hW (by decide) (tq_mk_64 (by decide)) rfl 28 (by decide) (hw _ tw_1436) (fun _ h9 => h9) rfl dX12_shipOf_127 ?_
              refine lv_iload_n hx hb dX12_shipOf_130 rfl (lv_at hl 1 rfl) ?_
              obtain ⟨b17, h⟩ := h
              refine tqm_iald (jn := p0.toNatClampNeg) hx hb hK hW (by decide) (tq_mk_128 (by decide)) b17 rfl dX12_shipOf_131 ?_
              exact W.iret (v := M1 128 0 p0.toNatClampNeg) hx hb hr (fun t ht hWm => ⟨⟨_, M1, rfl, h, tq_pe ht hW⟩, hS.F ht⟩) hS.2.2 dX12_shipOf_132
            · have h := h.2 c16
              by_cases c18 : p1 = 5
              · have h := h.1 c18
                refine W.eq (g2 := F0 m 12 ls (.int 5 :: [])) (by rw [c18]) ?_
                refine lv_tableIn (tgt := 133) hx hb dX12_shipOf_12 (by decide) (by decide) rfl (by decide) ?_
                exact bX12_shipOf_133 C  _ _ _ _ _ _ h hW hS (lv_sub hl [0, 1, 2] rfl)
              · have h := h.2 c18
                by_cases c19 : p1 = 6
                · have h := h.1 c19
                  refine W.eq (g2 := F0 m 12 ls (.int 6 :: [])) (by rw [c19]) ?_
                  refine lv_tableIn (tgt := 133) hx hb dX12_shipOf_12 (by decide) (by decide) rfl (by decide) ?_
                  exact bX12_shipOf_133 C  _ _ _ _ _ _ h hW hS (lv_sub hl [0, 1, 2] rfl)
                · have h := h.2 c19
                  by_cases c20 : p1 = 7
                  · have h := h.1 c20
                    refine W.eq (g2 := F0 m 12 ls (.int 7 :: [])) (by rw [c20]) ?_
                    refine lv_tableIn (tgt := 133) hx hb dX12_shipOf_12 (by decide) (by decide) rfl (by decide) ?_
                    exact bX12_shipOf_133 C  _ _ _ _ _ _ h hW hS (lv_sub hl [0, 1, 2] rfl)
                  · have h := h.2 c20
                    by_cases c21 : p1 = 8
                    · have h := h.1 c21
                      refine W.eq (g2 := F0 m 12 ls (.int 8 :: [])) (by rw [c21]) ?_
                      refine lv_tableIn (tgt := 133) hx hb dX12_shipOf_12 (by decide) (by decide) rfl (by decide) ?_
                      exact bX12_shipOf_133 C  _ _ _ _ _ _ h hW hS (lv_sub hl [0, 1, 2] rfl)
                    · have h := h.2 c21
                      by_cases c22 : p1 = 9
                      · have h := h.1 c22
                        refine W.eq (g2 := F0 m 12 ls (.int 9 :: [])) (by rw [c22]) ?_
                        refine lv_tableIn (tgt := 144) hx hb dX12_shipOf_12 (by decide) (by decide) rfl (by decide) ?_
                        refine lv_iconst (v := 0) hx hb dX12_shipOf_144 (by decide) ?_
                        refine lv_istore_n (lv' := [(3, .int 0), (0, .ref (ad 64 0)), (1, .int p0), (2, .int p1)]) hx hb dX12_shipOf_145 rfl hl (by decide) rfl (fun ls hl => ?_)
                        refine lv_iconst (v := 0) hx hb dX12_shipOf_146 (by decide) ?_
                        refine lv_istore (lv' := [(4, .int 0), (3, .int 0), (0, .ref (ad 64 0)), (1, .int p0), (2, .int p1)]) hx hb dX12_shipOf_147 hl (by decide) rfl (fun ls hl => ?_)
                        obtain ⟨nq, h⟩ := h
                        exact bX12_shipOf_149 C  nq _ _ _ _ _ _ _ h hW hS (lv_sub hl [2, 3, 1, 0] rfl)
                      · have h := h.2 c22
                        by_cases c23 : p1 = 10
                        · have h := h.1 c23
                          refine W.eq (g2 := F0 m 12 ls (.int 10 :: [])) (by rw [c23]) ?_
                          refine lv_tableIn (tgt := 178) hx hb dX12_shipOf_12 (by decide) (by decide) rfl (by decide) ?_
                          refine lv_aload_n hx hb dX12_shipOf_178 rfl (lv_at hl 0 rfl) ?_
                          refine tqm_get (v := .ref (ad 130 0)) hx hb hw tq_inX12 hown hK hW (by decide) (tq_mk_64 (by decide)) rfl 30 (by decide) (hw _ tw_1438) (fun _ h9 => h9) rfl dX12_shipOf_179 ?_
                          refine lv_iload_n hx hb dX12_shipOf_182 rfl (lv_at hl 1 rfl) ?_
                          obtain ⟨b24, h⟩ := h
                          refine tqm_iald (jn := p0.toNatClampNeg) hx hb hK hW (by decide) (tq_mk_130 (by decide)) b24 rfl dX12_shipOf_183 ?_
                          exact W.iret (v := M1 130 0 p0.toNatClampNeg) hx hb hr (fun t ht hWm => ⟨⟨_, M1, rfl, h, tq_pe ht hW⟩, hS.F ht⟩) hS.2.2 dX12_shipOf_184
                        · have h := h.2 c23
                          refine lv_tableOut (tgt := 185) hx hb dX12_shipOf_12 (tq_out11 c4 c6 c10 c13 c16 c18 c19 c20 c21 c22 c23) (by decide) ?_
                          refine lv_bipush (v := (-5)) hx hb dX12_shipOf_185 (by decide) ?_
                          exact W.iret (v := (-5)) hx hb hr (fun t ht hWm => ⟨⟨_, M1, rfl, h, tq_pe ht hW⟩, hS.F ht⟩) hS.2.2 dX12_shipOf_187
  · have h := h.2 c3
    refine lv_bipush (v := (-5)) hx hb dX12_shipOf_8 (by decide) ?_
    exact W.iret (v := (-5)) hx hb hr (fun t ht hWm => ⟨⟨_, M1, rfl, h, tq_pe ht hW⟩, hS.F ht⟩) hS.2.2 dX12_shipOf_10
-- joins
def wbX12_joins_36 (post : tq_St → Int32 → Prop) : Nat → tq_St → Int32 → Int32 → Prop
  | 0, _, _, _ => False
  | n + 1, M, x1, x2 =>
    (4 ≤ x2 → (post M 0)) ∧ (¬ 4 ≤ x2 → (vp_in x1 99 ∧ (vp_in x2 4 ∧ (((M 140 x1.toNatClampNeg x2.toNatClampNeg) = (M 139 x1.toNatClampNeg x2.toNatClampNeg) → ((wbX12_joins_36 post n) M x1 (x2 + 1))) ∧ (¬ (M 140 x1.toNatClampNeg x2.toNatClampNeg) = (M 139 x1.toNatClampNeg x2.toNatClampNeg) → (post M 3))))))
def wpX12_joins (post : tq_St → Int32 → Prop) (M : tq_St) (p0 : Int32) : Prop :=
  vp_in p0 99 ∧ ((¬ (M 133 0 p0.toNatClampNeg) = 0 → ((¬ (M 138 0 p0.toNatClampNeg) = 0 → ((¬ (M 138 0 p0.toNatClampNeg) = 2 → (∃ nq, wbX12_joins_36 post nq M p0 0)) ∧ ((M 138 0 p0.toNatClampNeg) = 2 → (post M 2)))) ∧ ((M 138 0 p0.toNatClampNeg) = 0 → (post M 1)))) ∧ ((M 133 0 p0.toNatClampNeg) = 0 → (post M ((-1)))))
set_option maxHeartbeats 4000000 in
set_option maxRecDepth 100000 in
theorem bX12_joins_36 {p : Program} {e : Env} {s : State} {m : MethodId} {args : Array Value} {below : List Frame} {meth : Method} {c : Code} {post : tq_St → Int32 → Prop} (C : tq_At p s m meth c args cX12_joins 3 ((some .int)) ((tq_ws yX12_joins cX12_joins 3 (some .int))) RX12 D cy z ad)  : ∀ n : Nat, ∀ (M : tq_St) (x1 : Int32) (x2 : Int32) (H : Heap) (locs : List Loc) (ls : Array Slot), wbX12_joins_36 post   n M x1 x2 → tq_wd D cy z H0 ad N (tq_mix S M) H → va_S (fun q => z ≤ q) s.heap H locs → lv_has ls 3 [(0, .ref (ad 64 0)), (1, .int x1), (2, .int x2)] → W p l e (tq_rm 0 0) s m args below meth c H locs 0 0 (MQ below (va_Qi (fun r u => post u r) (tq_P D cy z H0 ad N S) (fun q => z ≤ q)) args s 0 0 (fun q => z ≤ q)) (F0 m 36 ls []) := by
  obtain ⟨hx, hb, hr, hml, hown, hts, hlocks, hK, hG⟩ := id C
  have hw : ∀ w ∈ tq_W, w.before args s = true := fun w h => hts w (List.mem_cons_of_mem _ h)
  intro n
  induction n with
  | zero =>
    intro M x1 x2 H locs ls h
    exact absurd h (by unfold wbX12_joins_36; exact id)
  | succ n ih =>
    intro M x1 x2 H locs ls h hW hS hl
    unfold wbX12_joins_36 at h
    refine lv_iload_n hx hb dX12_joins_36 rfl (lv_at hl 2 rfl) ?_
    refine lv_iconst (v := 4) hx hb dX12_joins_37 (by decide) ?_
    refine lv_icmp_ge (tgt := 68) hx hb dX12_joins_38 (by decide) (fun c5 => ?_) (fun c5 => ?_)
    · have h := h.1 c5
      refine lv_iconst (v := 0) hx hb dX12_joins_68 (by decide) ?_
      exact W.iret (v := 0) hx hb hr (fun t ht hWm => ⟨⟨_, M, rfl, h, tq_pe ht hW⟩, hS.F ht⟩) hS.2.2 dX12_joins_69
    · have h := h.2 c5
      refine lv_aload_n hx hb dX12_joins_41 rfl (lv_at hl 0 rfl) ?_
      refine tqm_get (v := .ref (ad 240 0)) hx hb hw tq_inX12 hown hK hW (by decide) (tq_mk_64 (by decide)) rfl 40 (by decide) (hw _ tw_1448) (fun _ h9 => h9) rfl dX12_joins_42 ?_
      refine lv_iload_n hx hb dX12_joins_45 rfl (lv_at hl 1 rfl) ?_
      obtain ⟨b6, h⟩ := h
      refine tqm_aald (jn := x1.toNatClampNeg) (v := .ref (ad 140 x1.toNatClampNeg)) hx hb hK hW (by decide) (tq_mk_240 (by decide)) 2 rfl rfl b6 rfl rfl dX12_joins_46 ?_
      refine lv_iload_n hx hb dX12_joins_47 rfl (lv_at hl 2 rfl) ?_
      obtain ⟨b7, h⟩ := h
      refine tqm_iald (jn := x2.toNatClampNeg) hx hb hK hW (by decide) (tq_mk_140 (tq_lt b6)) b7 rfl dX12_joins_48 ?_
      refine lv_aload_n hx hb dX12_joins_49 rfl (lv_at hl 0 rfl) ?_
      refine tqm_get (v := .ref (ad 239 0)) hx hb hw tq_inX12 hown hK hW (by decide) (tq_mk_64 (by decide)) rfl 39 (by decide) (hw _ tw_1447) (fun _ h9 => h9) rfl dX12_joins_50 ?_
      refine lv_iload_n hx hb dX12_joins_53 rfl (lv_at hl 1 rfl) ?_
      refine tqm_aald (jn := x1.toNatClampNeg) (v := .ref (ad 139 x1.toNatClampNeg)) hx hb hK hW (by decide) (tq_mk_239 (by decide)) 2 rfl rfl b6 rfl rfl dX12_joins_54 ?_
      refine lv_iload_n hx hb dX12_joins_55 rfl (lv_at hl 2 rfl) ?_
      refine tqm_iald (jn := x2.toNatClampNeg) hx hb hK hW (by decide) (tq_mk_139 (tq_lt b6)) b7 rfl dX12_joins_56 ?_
      refine lv_icmp_eq (tgt := 62) hx hb dX12_joins_57 (by decide) (fun c8 => ?_) (fun c8 => ?_)
      · have h := h.1 c8
        refine lv_iinc (v := x2 + 1) (lv' := [(2, .int (x2 + 1)), (0, .ref (ad 64 0)), (1, .int x1)]) hx hb dX12_joins_62 hl (k := 2) rfl rfl (by decide) rfl (fun ls hl => ?_)
        refine lv_goto (tgt := 36) hx hb dX12_joins_65 (by decide) ?_
        exact ih _ _ _ _ _ _ h hW hS (lv_sub hl [1, 2, 0] rfl)
      · have h := h.2 c8
        refine lv_iconst (v := 3) hx hb dX12_joins_60 (by decide) ?_
        exact W.iret (v := 3) hx hb hr (fun t ht hWm => ⟨⟨_, M, rfl, h, tq_pe ht hW⟩, hS.F ht⟩) hS.2.2 dX12_joins_61
set_option maxHeartbeats 4000000 in
set_option maxRecDepth 100000 in
theorem kX12_joins {post : tq_St → Int32 → Prop} {M : tq_St} {p0 : Int32} (h : wpX12_joins post M p0) : tq_mI l yX12_joins (tq_ws yX12_joins cX12_joins 3 (some .int)) 0 0 D cy z H0 ad N S M [.ref (ad 64 0), .int p0] post := by
  unfold wpX12_joins at h
  refine Met.ofW (cc := cX12_joins) (maxL := 3) (ret := (some .int)) (by decide) rfl ?_
  intro p e s m args below meth c s₁ B hml hv
  obtain ⟨rfl, hW, hK, hG⟩ := hv
  have hx := B.exec
  have hb := B.bytes
  have hr := B.returns
  have hts := atoms_spec (ws := (tq_ws yX12_joins cX12_joins 3 (some .int))) B.pre
  have hw : ∀ w ∈ tq_W, w.before _ s = true := fun w h => hts w (List.mem_cons_of_mem _ h)
  have hown : s.vm.findClass RX12 = some m.cls := findClass_of_methodNamed B.named
  have hlocks := B.notSynchronized
  have C : tq_At p s m meth c [.ref (ad 64 0), .int p0].toArray cX12_joins 3 ((some .int)) ((tq_ws yX12_joins cX12_joins 3 (some .int))) RX12 D cy z ad := ⟨hx, hb, hr, hml, hown, hts, hlocks, hK, hG⟩
  have hS : va_S (fun q => z ≤ q) s.heap s.heap [] := va_S.rf
  have hl := lv_entry ([.ref (ad 64 0), .int p0]) (n := 3) (Nat.le_of_ble_eq_true rfl)
  rw [lg_entry_eq]
  generalize (lg_sl ([.ref (ad 64 0), .int p0]) ++ List.replicate (3 - (lg_sl ([.ref (ad 64 0), .int p0])).length) Slot.unset).toArray = ls at hl ⊢
  have hl : lv_has ls 3 [(0, .ref (ad 64 0)), (1, .int p0)] := hl
  have hW : tq_wd D cy z H0 ad N (tq_mix S M) s.heap := hW
  refine lv_aload_n hx hb dX12_joins_0 rfl (lv_at hl 0 rfl) ?_
  refine tqm_get (v := .ref (ad 133 0)) hx hb hw tq_inX12 hown hK hW (by decide) (tq_mk_64 (by decide)) rfl 33 (by decide) (hw _ tw_1441) (fun _ h9 => h9) rfl dX12_joins_1 ?_
  refine lv_iload_n hx hb dX12_joins_4 rfl (lv_at hl 1 rfl) ?_
  obtain ⟨b1, h⟩ := h
  refine tqm_iald (jn := p0.toNatClampNeg) hx hb hK hW (by decide) (tq_mk_133 (by decide)) b1 rfl dX12_joins_5 ?_
  refine lv_if_ne (tgt := 11) hx hb dX12_joins_6 (by decide) (fun c2 => ?_) (fun c2 => ?_)
  · have h := h.1 c2
    refine lv_aload_n hx hb dX12_joins_11 rfl (lv_at hl 0 rfl) ?_
    refine tqm_get (v := .ref (ad 138 0)) hx hb hw tq_inX12 hown hK hW (by decide) (tq_mk_64 (by decide)) rfl 38 (by decide) (hw _ tw_1446) (fun _ h9 => h9) rfl dX12_joins_12 ?_
    refine lv_iload_n hx hb dX12_joins_15 rfl (lv_at hl 1 rfl) ?_
    refine tqm_iald (jn := p0.toNatClampNeg) hx hb hK hW (by decide) (tq_mk_138 (by decide)) b1 rfl dX12_joins_16 ?_
    refine lv_if_ne (tgt := 22) hx hb dX12_joins_17 (by decide) (fun c3 => ?_) (fun c3 => ?_)
    · have h := h.1 c3
      refine lv_aload_n hx hb dX12_joins_22 rfl (lv_at hl 0 rfl) ?_
      refine tqm_get (v := .ref (ad 138 0)) hx hb hw tq_inX12 hown hK hW (by decide) (tq_mk_64 (by decide)) rfl 38 (by decide) (hw _ tw_1446) (fun _ h9 => h9) rfl dX12_joins_23 ?_
      refine lv_iload_n hx hb dX12_joins_26 rfl (lv_at hl 1 rfl) ?_
      refine tqm_iald (jn := p0.toNatClampNeg) hx hb hK hW (by decide) (tq_mk_138 (by decide)) b1 rfl dX12_joins_27 ?_
      refine lv_iconst (v := 2) hx hb dX12_joins_28 (by decide) ?_
      refine lv_icmp_ne (tgt := 34) hx hb dX12_joins_29 (by decide) (fun c4 => ?_) (fun c4 => ?_)
      · have h := h.1 c4
        refine lv_iconst (v := 0) hx hb dX12_joins_34 (by decide) ?_
        refine lv_istore_n (lv' := [(2, .int 0), (0, .ref (ad 64 0)), (1, .int p0)]) hx hb dX12_joins_35 rfl hl (by decide) rfl (fun ls hl => ?_)
        obtain ⟨nq, h⟩ := h
        exact bX12_joins_36 C  nq _ _ _ _ _ _ h hW hS (lv_sub hl [1, 2, 0] rfl)
      · have h := h.2 c4
        refine lv_iconst (v := 2) hx hb dX12_joins_32 (by decide) ?_
        exact W.iret (v := 2) hx hb hr (fun t ht hWm => ⟨⟨_, M, rfl, h, tq_pe ht hW⟩, hS.F ht⟩) hS.2.2 dX12_joins_33
    · have h := h.2 c3
      refine lv_iconst (v := 1) hx hb dX12_joins_20 (by decide) ?_
      exact W.iret (v := 1) hx hb hr (fun t ht hWm => ⟨⟨_, M, rfl, h, tq_pe ht hW⟩, hS.F ht⟩) hS.2.2 dX12_joins_21
  · have h := h.2 c2
    refine lv_iconst (v := (-1)) hx hb dX12_joins_9 (by decide) ?_
    exact W.iret (v := (-1)) hx hb hr (fun t ht hWm => ⟨⟨_, M, rfl, h, tq_pe ht hW⟩, hS.F ht⟩) hS.2.2 dX12_joins_10
-- voyage
def wbX12_voyage_129 (post : tq_St → Int32 → Prop)  (M : tq_St) (y0 : Int32) : Prop :=
  post M y0
def wbX12_voyage_130 (post : tq_St → Int32 → Prop)  (M : tq_St) (x1 : Int32) (x2 : Int32) : Prop :=
  vp_in x1 99 ∧ (vp_in (x2 - 6) 4 ∧ (post M (M 139 x1.toNatClampNeg ((x2 - 6).toNatClampNeg))))
def wpX12_voyage (post : tq_St → Int32 → Prop) (M : tq_St) (p0 : Int32) (p1 : Int32) : Prop :=
  wpX12_isVoyage (fun M1 r2 => (¬ r2 = 0 → ((p1 = 0 → (vp_in p0 99 ∧ (post M1 (M1 132 0 p0.toNatClampNeg)))) ∧ (¬ p1 = 0 → ((p1 = 1 → (vp_in p0 99 ∧ (post M1 (M1 133 0 p0.toNatClampNeg)))) ∧ (¬ p1 = 1 → ((p1 = 2 → (vp_in p0 99 ∧ (post M1 (M1 134 0 p0.toNatClampNeg)))) ∧ (¬ p1 = 2 → ((p1 = 3 → (vp_in p0 99 ∧ (post M1 (M1 135 0 p0.toNatClampNeg)))) ∧ (¬ p1 = 3 → ((p1 = 4 → (vp_in p0 99 ∧ (post M1 (M1 136 0 p0.toNatClampNeg)))) ∧ (¬ p1 = 4 → ((p1 = 5 → (vp_in p0 99 ∧ (((M1 137 0 p0.toNatClampNeg) = 0 → (wbX12_voyage_129 post M1 0)) ∧ (¬ (M1 137 0 p0.toNatClampNeg) = 0 → (wbX12_voyage_129 post M1 1))))) ∧ (¬ p1 = 5 → ((p1 = 6 → (wbX12_voyage_130 post M1 p0 p1)) ∧ (¬ p1 = 6 → ((p1 = 7 → (wbX12_voyage_130 post M1 p0 p1)) ∧ (¬ p1 = 7 → ((p1 = 8 → (wbX12_voyage_130 post M1 p0 p1)) ∧ (¬ p1 = 8 → ((p1 = 9 → (wbX12_voyage_130 post M1 p0 p1)) ∧ (¬ p1 = 9 → ((p1 = 10 → (vp_in p0 99 ∧ (post M1 (M1 141 0 p0.toNatClampNeg)))) ∧ (¬ p1 = 10 → ((p1 = 11 → (wpX12_joins (fun M24 r25 => post M24 r25) M1 p0)) ∧ (¬ p1 = 11 → ((p1 = 12 → (vp_in p0 99 ∧ (post M1 (M1 142 0 p0.toNatClampNeg)))) ∧ (¬ p1 = 12 → (post M1 ((-5)))))))))))))))))))))))))))))) ∧ (r2 = 0 → (post M1 ((-5))))) M p0
set_option maxHeartbeats 4000000 in
set_option maxRecDepth 100000 in
theorem bX12_voyage_129 {p : Program} {e : Env} {s : State} {m : MethodId} {args : Array Value} {below : List Frame} {meth : Method} {c : Code} {post : tq_St → Int32 → Prop} (C : tq_At p s m meth c args cX12_voyage 3 ((some .int)) ((tq_ws yX12_voyage cX12_voyage 3 (some .int))) RX12 D cy z ad)  : ∀ (M : tq_St) (y0 : Int32) (H : Heap) (locs : List Loc) (ls : Array Slot), wbX12_voyage_129 post   M y0 → tq_wd D cy z H0 ad N (tq_mix S M) H → va_S (fun q => z ≤ q) s.heap H locs → lv_has ls 3 [] → W p l e (tq_rm 2 43) s m args below meth c H locs 0 0 (MQ below (va_Qi (fun r u => post u r) (tq_P D cy z H0 ad N S) (fun q => z ≤ q)) args s 0 0 (fun q => z ≤ q)) (F0 m 129 ls [.int y0]) := by
  obtain ⟨hx, hb, hr, hml, hown, hts, hlocks, hK, hG⟩ := id C
  have hw : ∀ w ∈ tq_W, w.before args s = true := fun w h => hts w (List.mem_cons_of_mem _ h)
  intro M y0 H locs ls h hW hS hl
  unfold wbX12_voyage_129 at h
  exact W.iret (v := y0) hx hb hr (fun t ht hWm => ⟨⟨_, M, rfl, h, tq_pe ht hW⟩, hS.F ht⟩) hS.2.2 dX12_voyage_129
set_option maxHeartbeats 4000000 in
set_option maxRecDepth 100000 in
theorem bX12_voyage_130 {p : Program} {e : Env} {s : State} {m : MethodId} {args : Array Value} {below : List Frame} {meth : Method} {c : Code} {post : tq_St → Int32 → Prop} (C : tq_At p s m meth c args cX12_voyage 3 ((some .int)) ((tq_ws yX12_voyage cX12_voyage 3 (some .int))) RX12 D cy z ad)  : ∀ (M : tq_St) (x1 : Int32) (x2 : Int32) (H : Heap) (locs : List Loc) (ls : Array Slot), wbX12_voyage_130 post   M x1 x2 → tq_wd D cy z H0 ad N (tq_mix S M) H → va_S (fun q => z ≤ q) s.heap H locs → lv_has ls 3 [(0, .ref (ad 64 0)), (1, .int x1), (2, .int x2)] → W p l e (tq_rm 2 43) s m args below meth c H locs 0 0 (MQ below (va_Qi (fun r u => post u r) (tq_P D cy z H0 ad N S) (fun q => z ≤ q)) args s 0 0 (fun q => z ≤ q)) (F0 m 130 ls []) := by
  obtain ⟨hx, hb, hr, hml, hown, hts, hlocks, hK, hG⟩ := id C
  have hw : ∀ w ∈ tq_W, w.before args s = true := fun w h => hts w (List.mem_cons_of_mem _ h)
  intro M x1 x2 H locs ls h hW hS hl
  unfold wbX12_voyage_130 at h
  refine lv_aload_n hx hb dX12_voyage_130 rfl (lv_at hl 0 rfl) ?_
  refine tqm_get (v := .ref (ad 239 0)) hx hb hw tq_inX12 hown hK hW (by decide) (tq_mk_64 (by decide)) rfl 39 (by decide) (hw _ tw_1447) (fun _ h9 => h9) rfl dX12_voyage_131 ?_
  refine lv_iload_n hx hb dX12_voyage_134 rfl (lv_at hl 1 rfl) ?_
  obtain ⟨b28, h⟩ := h
  refine tqm_aald (jn := x1.toNatClampNeg) (v := .ref (ad 139 x1.toNatClampNeg)) hx hb hK hW (by decide) (tq_mk_239 (by decide)) 2 rfl rfl b28 rfl rfl dX12_voyage_135 ?_
  refine lv_iload_n hx hb dX12_voyage_136 rfl (lv_at hl 2 rfl) ?_
  refine lv_bipush (v := 6) hx hb dX12_voyage_137 (by decide) ?_
  refine lv_isub hx hb dX12_voyage_139 ?_
  obtain ⟨b29, h⟩ := h
  refine tqm_iald (jn := (x2 - 6).toNatClampNeg) hx hb hK hW (by decide) (tq_mk_139 (tq_lt b28)) b29 rfl dX12_voyage_140 ?_
  exact W.iret (v := M 139 x1.toNatClampNeg ((x2 - 6).toNatClampNeg)) hx hb hr (fun t ht hWm => ⟨⟨_, M, rfl, h, tq_pe ht hW⟩, hS.F ht⟩) hS.2.2 dX12_voyage_141
set_option maxHeartbeats 4000000 in
set_option maxRecDepth 100000 in
theorem kX12_voyage {post : tq_St → Int32 → Prop} {M : tq_St} {p0 : Int32} {p1 : Int32} (h : wpX12_voyage post M p0 p1) : tq_mI l yX12_voyage (tq_ws yX12_voyage cX12_voyage 3 (some .int)) 2 43 D cy z H0 ad N S M [.ref (ad 64 0), .int p0, .int p1] post := by
  unfold wpX12_voyage at h
  refine Met.ofW (cc := cX12_voyage) (maxL := 3) (ret := (some .int)) (by decide) rfl ?_
  intro p e s m args below meth c s₁ B hml hv
  obtain ⟨rfl, hW, hK, hG⟩ := hv
  have hx := B.exec
  have hb := B.bytes
  have hr := B.returns
  have hts := atoms_spec (ws := (tq_ws yX12_voyage cX12_voyage 3 (some .int))) B.pre
  have hw : ∀ w ∈ tq_W, w.before _ s = true := fun w h => hts w (List.mem_cons_of_mem _ h)
  have hown : s.vm.findClass RX12 = some m.cls := findClass_of_methodNamed B.named
  have hlocks := B.notSynchronized
  have C : tq_At p s m meth c [.ref (ad 64 0), .int p0, .int p1].toArray cX12_voyage 3 ((some .int)) ((tq_ws yX12_voyage cX12_voyage 3 (some .int))) RX12 D cy z ad := ⟨hx, hb, hr, hml, hown, hts, hlocks, hK, hG⟩
  have hS : va_S (fun q => z ≤ q) s.heap s.heap [] := va_S.rf
  have hl := lv_entry ([.ref (ad 64 0), .int p0, .int p1]) (n := 3) (Nat.le_of_ble_eq_true rfl)
  rw [lg_entry_eq]
  generalize (lg_sl ([.ref (ad 64 0), .int p0, .int p1]) ++ List.replicate (3 - (lg_sl ([.ref (ad 64 0), .int p0, .int p1])).length) Slot.unset).toArray = ls at hl ⊢
  have hl : lv_has ls 3 [(0, .ref (ad 64 0)), (1, .int p0), (2, .int p1)] := hl
  have hW : tq_wd D cy z H0 ad N (tq_mix S M) s.heap := hW
  refine lv_aload_n hx hb dX12_voyage_0 rfl (lv_at hl 0 rfl) ?_
  refine lv_iload_n hx hb dX12_voyage_1 rfl (lv_at hl 1 rfl) ?_
  refine tq_callVi (As := [.int p0]) (rest := []) (kX12_isVoyage h) ⟨hx, hb, hml, hown, hts⟩ (cwV 1 hts (tq_goodV tw_1881 tw_1883 tw_84 tw_125 tw_1884) rfl rfl rfl (by decide +kernel) ⟨Nat.le_of_ble_eq_true rfl, Nat.le_of_ble_eq_true rfl⟩) hK hG hW hS rfl hl.1 rfl (Nat.le_of_ble_eq_true rfl) dX12_voyage_2 ⟨Nat.le_of_ble_eq_true rfl, Nat.le_of_ble_eq_true rfl⟩ (fun r2 M1 H locs h hW hS => ?_)
  refine lv_if_ne (tgt := 11) hx hb dX12_voyage_5 (by decide) (fun c3 => ?_) (fun c3 => ?_)
  · have h := h.1 c3
    refine lv_iload_n hx hb dX12_voyage_11 rfl (lv_at hl 2 rfl) ?_
    by_cases c4 : p1 = 0
    · have h := h.1 c4
      refine W.eq (g2 := F0 m 12 ls (.int 0 :: [])) (by rw [c4]) ?_
      refine lv_tableIn (tgt := 80) hx hb dX12_voyage_12 (by decide) (by decide) rfl (by decide) ?_
      refine lv_aload_n hx hb dX12_voyage_80 rfl (lv_at hl 0 rfl) ?_
      refine tqm_get (v := .ref (ad 132 0)) hx hb hw tq_inX12 hown hK hW (by decide) (tq_mk_64 (by decide)) rfl 32 (by decide) (hw _ tw_1440) (fun _ h9 => h9) rfl dX12_voyage_81 ?_
      refine lv_iload_n hx hb dX12_voyage_84 rfl (lv_at hl 1 rfl) ?_
      obtain ⟨b5, h⟩ := h
      refine tqm_iald (jn := p0.toNatClampNeg) hx hb hK hW (by decide) (tq_mk_132 (by decide)) b5 rfl dX12_voyage_85 ?_
      exact W.iret (v := M1 132 0 p0.toNatClampNeg) hx hb hr (fun t ht hWm => ⟨⟨_, M1, rfl, h, tq_pe ht hW⟩, hS.F ht⟩) hS.2.2 dX12_voyage_86
    · have h := h.2 c4
      by_cases c6 : p1 = 1
      · have h := h.1 c6
        refine W.eq (g2 := F0 m 12 ls (.int 1 :: [])) (by rw [c6]) ?_
        refine lv_tableIn (tgt := 87) hx hb dX12_voyage_12 (by decide) (by decide) rfl (by decide) ?_
        refine lv_aload_n hx hb dX12_voyage_87 rfl (lv_at hl 0 rfl) ?_
        refine tqm_get (v := .ref (ad 133 0)) hx hb hw tq_inX12 hown hK hW (by decide) (tq_mk_64 (by decide)) rfl 33 (by decide) (hw _ tw_1441) (fun _ h9 => h9) rfl dX12_voyage_88 ?_
        refine lv_iload_n hx hb dX12_voyage_91 rfl (lv_at hl 1 rfl) ?_
        obtain ⟨b7, h⟩ := h
        refine tqm_iald (jn := p0.toNatClampNeg) hx hb hK hW (by decide) (tq_mk_133 (by decide)) b7 rfl dX12_voyage_92 ?_
        exact W.iret (v := M1 133 0 p0.toNatClampNeg) hx hb hr (fun t ht hWm => ⟨⟨_, M1, rfl, h, tq_pe ht hW⟩, hS.F ht⟩) hS.2.2 dX12_voyage_93
      · have h := h.2 c6
        by_cases c8 : p1 = 2
        · have h := h.1 c8
          refine W.eq (g2 := F0 m 12 ls (.int 2 :: [])) (by rw [c8]) ?_
          refine lv_tableIn (tgt := 94) hx hb dX12_voyage_12 (by decide) (by decide) rfl (by decide) ?_
          refine lv_aload_n hx hb dX12_voyage_94 rfl (lv_at hl 0 rfl) ?_
          refine tqm_get (v := .ref (ad 134 0)) hx hb hw tq_inX12 hown hK hW (by decide) (tq_mk_64 (by decide)) rfl 34 (by decide) (hw _ tw_1442) (fun _ h9 => h9) rfl dX12_voyage_95 ?_
          refine lv_iload_n hx hb dX12_voyage_98 rfl (lv_at hl 1 rfl) ?_
          obtain ⟨b9, h⟩ := h
          refine tqm_iald (jn := p0.toNatClampNeg) hx hb hK hW (by decide) (tq_mk_134 (by decide)) b9 rfl dX12_voyage_99 ?_
          exact W.iret (v := M1 134 0 p0.toNatClampNeg) hx hb hr (fun t ht hWm => ⟨⟨_, M1, rfl, h, tq_pe ht hW⟩, hS.F ht⟩) hS.2.2 dX12_voyage_100
        · have h := h.2 c8
          by_cases c10 : p1 = 3
          · have h := h.1 c10
            refine W.eq (g2 := F0 m 12 ls (.int 3 :: [])) (by rw [c10]) ?_
            refine lv_tableIn (tgt := 101) hx hb dX12_voyage_12 (by decide) (by decide) rfl (by decide) ?_
            refine lv_aload_n hx hb dX12_voyage_101 rfl (lv_at hl 0 rfl) ?_
            refine tqm_get (v := .ref (ad 135 0)) hx hb hw tq_inX12 hown hK hW (by decide) (tq_mk_64 (by decide)) rfl 35 (by decide) (hw _ tw_1443) (fun _ h9 => h9) rfl dX12_voyage_102 ?_
            refine lv_iload_n hx hb dX12_voyage_105 rfl (lv_at hl 1 rfl) ?_
            obtain ⟨b11, h⟩ := h
            refine tqm_iald (jn := p0.toNatClampNeg) hx hb hK hW (by decide) (tq_mk_135 (by decide)) b11 rfl dX12_voyage_106 ?_
            exact W.iret (v := M1 135 0 p0.toNatClampNeg) hx hb hr (fun t ht hWm => ⟨⟨_, M1, rfl, h, tq_pe ht hW⟩, hS.F ht⟩) hS.2.2 dX12_voyage_107
          · have h := h.2 c10
            by_cases c12 : p1 = 4
            · have h := h.1 c12
              refine W.eq (g2 := F0 m 12 ls (.int 4 :: [])) (by rw [c12]) ?_
              refine lv_tableIn (tgt := 108) hx hb dX12_voyage_12 (by decide) (by decide) rfl (by decide) ?_
              refine lv_aload_n hx hb dX12_voyage_108 rfl (lv_at hl 0 rfl) ?_
              refine tqm_get (v := .ref (ad 136 0)) hx hb hw tq_inX12 hown hK hW (by decide) (tq_mk_64 (by decide)) rfl 36 (by decide) (hw _ tw_1444) (fun _ h9 => h9) rfl dX12_voyage_109 ?_
              refine lv_iload_n hx hb dX12_voyage_112 rfl (lv_at hl 1 rfl) ?_
              obtain ⟨b13, h⟩ := h
              refine tqm_iald (jn := p0.toNatClampNeg) hx hb hK hW (by decide) (tq_mk_136 (by decide)) b13 rfl dX12_voyage_113 ?_
              exact W.iret (v := M1 136 0 p0.toNatClampNeg) hx hb hr (fun t ht hWm => ⟨⟨_, M1, rfl, h, tq_pe ht hW⟩, hS.F ht⟩) hS.2.2 dX12_voyage_114
            · have h := h.2 c12
              by_cases c14 : p1 = 5
              · have h := h.1 c14
                refine W.eq (g2 := F0 m 12 ls (.int 5 :: [])) (by rw [c14]) ?_
                refine lv_tableIn (tgt := 115) hx hb dX12_voyage_12 (by decide) (by decide) rfl (by decide) ?_
                refine lv_aload_n hx hb dX12_voyage_115 rfl (lv_at hl 0 rfl) ?_
                refine tqm_get (v := .ref (ad 137 0)) hx hb hw tq_inX12 hown hK hW (by decide) (tq_mk_64 (by decide)) rfl 37 (by decide) (hw _ tw_1445) (fun _ h9 => h9) rfl dX12_voyage_116 ?_
                refine lv_iload_n hx hb dX12_voyage_119 rfl (lv_at hl 1 rfl) ?_
                obtain ⟨b15, h⟩ := h
                refine tqm_zald (jn := p0.toNatClampNeg) hx hb hK hW (by decide) (tq_mk_137 (by decide)) b15 rfl dX12_voyage_120 ?_
                refine lv_if_eq (tgt := 128) hx hb dX12_voyage_121 (by decide) (fun c16 => ?_) (fun c16 => ?_)
                · have h := h.1 c16
                  refine lv_iconst (v := 0) hx hb dX12_voyage_128 (by decide) ?_
                  exact bX12_voyage_129 C  _ _ _ _ _ h hW hS (lv_sub hl [] rfl)
                · have h := h.2 c16
                  refine lv_iconst (v := 1) hx hb dX12_voyage_124 (by decide) ?_
                  refine lv_goto (tgt := 129) hx hb dX12_voyage_125 (by decide) ?_
                  exact bX12_voyage_129 C  _ _ _ _ _ h hW hS (lv_sub hl [] rfl)
              · have h := h.2 c14
                by_cases c17 : p1 = 6
                · have h := h.1 c17
                  refine W.eq (g2 := F0 m 12 ls (.int 6 :: [])) (by rw [c17]) ?_
                  refine lv_tableIn (tgt := 130) hx hb dX12_voyage_12 (by decide) (by decide) rfl (by decide) ?_
                  exact bX12_voyage_130 C  _ _ _ _ _ _ h hW hS (lv_sub hl [0, 1, 2] rfl)
                · have h := h.2 c17
                  by_cases c18 : p1 = 7
                  · have h := h.1 c18
                    refine W.eq (g2 := F0 m 12 ls (.int 7 :: [])) (by rw [c18]) ?_
                    refine lv_tableIn (tgt := 130) hx hb dX12_voyage_12 (by decide) (by decide) rfl (by decide) ?_
                    exact bX12_voyage_130 C  _ _ _ _ _ _ h hW hS (lv_sub hl [0, 1, 2] rfl)
                  · have h := h.2 c18
                    by_cases c19 : p1 = 8
                    · have h := h.1 c19
                      refine W.eq (g2 := F0 m 12 ls (.int 8 :: [])) (by rw [c19]) ?_
                      refine lv_tableIn (tgt := 130) hx hb dX12_voyage_12 (by decide) (by decide) rfl (by decide) ?_
                      exact bX12_voyage_130 C  _ _ _ _ _ _ h hW hS (lv_sub hl [0, 1, 2] rfl)
                    · have h := h.2 c19
                      by_cases c20 : p1 = 9
                      · have h := h.1 c20
                        refine W.eq (g2 := F0 m 12 ls (.int 9 :: [])) (by rw [c20]) ?_
                        refine lv_tableIn (tgt := 130) hx hb dX12_voyage_12 (by decide) (by decide) rfl (by decide) ?_
                        exact bX12_voyage_130 C  _ _ _ _ _ _ h hW hS (lv_sub hl [0, 1, 2] rfl)
                      · have h := h.2 c20
                        by_cases c21 : p1 = 10
                        · have h := h.1 c21
                          refine W.eq (g2 := F0 m 12 ls (.int 10 :: [])) (by rw [c21]) ?_
                          refine lv_tableIn (tgt := 142) hx hb dX12_voyage_12 (by decide) (by decide) rfl (by decide) ?_
                          refine lv_aload_n hx hb dX12_voyage_142 rfl (lv_at hl 0 rfl) ?_
                          refine tqm_get (v := .ref (ad 141 0)) hx hb hw tq_inX12 hown hK hW (by decide) (tq_mk_64 (by decide)) rfl 41 (by decide) (hw _ tw_1449) (fun _ h9 => h9) rfl dX12_voyage_143 ?_
                          refine lv_iload_n hx hb dX12_voyage_146 rfl (lv_at hl 1 rfl) ?_
                          obtain ⟨b22, h⟩ := h
                          refine tqm_iald (jn := p0.toNatClampNeg) hx hb hK hW (by decide) (tq_mk_141 (by decide)) b22 rfl dX12_voyage_147 ?_
                          exact W.iret (v := M1 141 0 p0.toNatClampNeg) hx hb hr (fun t ht hWm => ⟨⟨_, M1, rfl, h, tq_pe ht hW⟩, hS.F ht⟩) hS.2.2 dX12_voyage_148
                        · have h := h.2 c21
                          by_cases c23 : p1 = 11
                          · have h := h.1 c23
                            refine W.eq (g2 := F0 m 12 ls (.int 11 :: [])) (by rw [c23]) ?_
                            refine lv_tableIn (tgt := 149) hx hb dX12_voyage_12 (by decide) (by decide) rfl (by decide) ?_
                            refine lv_aload_n hx hb dX12_voyage_149 rfl (lv_at hl 0 rfl) ?_
                            refine lv_iload_n hx hb dX12_voyage_150 rfl (lv_at hl 1 rfl) ?_
                            refine tq_callVi (As := [.int p0]) (rest := []) (kX12_joins h) ⟨hx, hb, hml, hown, hts⟩ (cwV 1 hts (tq_goodV tw_1893 tw_1895 tw_85 tw_125 tw_1896) rfl rfl rfl (by decide +kernel) ⟨Nat.le_of_ble_eq_true rfl, Nat.le_of_ble_eq_true rfl⟩) hK hG hW hS rfl hl.1 rfl (Nat.le_of_ble_eq_true rfl) dX12_voyage_151 ⟨Nat.le_of_ble_eq_true rfl, Nat.le_of_ble_eq_true rfl⟩ (fun r25 M24 H locs h hW hS => ?_)
                            exact W.iret (v := r25) hx hb hr (fun t ht hWm => ⟨⟨_, M24, rfl, h, tq_pe ht hW⟩, hS.F ht⟩) hS.2.2 dX12_voyage_154
                          · have h := h.2 c23
                            by_cases c26 : p1 = 12
                            · have h := h.1 c26
                              refine W.eq (g2 := F0 m 12 ls (.int 12 :: [])) (by rw [c26]) ?_
                              refine lv_tableIn (tgt := 155) hx hb dX12_voyage_12 (by decide) (by decide) rfl (by decide) ?_
                              refine lv_aload_n hx hb dX12_voyage_155 rfl (lv_at hl 0 rfl) ?_
                              refine tqm_get (v := .ref (ad 142 0)) hx hb hw tq_inX12 hown hK hW (by decide) (tq_mk_64 (by decide)) rfl 42 (by decide) (hw _ tw_1450) (fun _ h9 => h9) rfl dX12_voyage_156 ?_
                              refine lv_iload_n hx hb dX12_voyage_159 rfl (lv_at hl 1 rfl) ?_
                              obtain ⟨b27, h⟩ := h
                              refine tqm_iald (jn := p0.toNatClampNeg) hx hb hK hW (by decide) (tq_mk_142 (by decide)) b27 rfl dX12_voyage_160 ?_
                              exact W.iret (v := M1 142 0 p0.toNatClampNeg) hx hb hr (fun t ht hWm => ⟨⟨_, M1, rfl, h, tq_pe ht hW⟩, hS.F ht⟩) hS.2.2 dX12_voyage_161
                            · have h := h.2 c26
                              refine lv_tableOut (tgt := 162) hx hb dX12_voyage_12 (tq_out13 c4 c6 c8 c10 c12 c14 c17 c18 c19 c20 c21 c23 c26) (by decide) ?_
                              refine lv_bipush (v := (-5)) hx hb dX12_voyage_162 (by decide) ?_
                              exact W.iret (v := (-5)) hx hb hr (fun t ht hWm => ⟨⟨_, M1, rfl, h, tq_pe ht hW⟩, hS.F ht⟩) hS.2.2 dX12_voyage_164
  · have h := h.2 c3
    refine lv_bipush (v := (-5)) hx hb dX12_voyage_8 (by decide) ?_
    exact W.iret (v := (-5)) hx hb hr (fun t ht hWm => ⟨⟨_, M1, rfl, h, tq_pe ht hW⟩, hS.F ht⟩) hS.2.2 dX12_voyage_10
