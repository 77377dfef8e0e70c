variable {l : Launch} {D : va_G} {cy : Nat → ClassId} {z : Nat} {H0 : Heap} {ad : Nat → Nat → Nat} {N : tq_Nn} {S : tq_St}
-- leave
def wbX12_leave_158 (post : tq_St → Int32 → Prop) (L122 : tq_St → Int32 → Int32 → Int32 → Int32 → Int32 → Prop) (M : tq_St) (x1 : Int32) (x3 : Int32) (x4 : Int32) (x6 : Int32) (y0 : Int32) (y1 : Int32) : Prop :=
  L122 M x1 x3 x4 (y1 + y0) (x6 + 1)
def wbX12_leave_198 (post : tq_St → Int32 → Prop)  (M : tq_St) (x1 : Int32) (x3 : Int32) (y0 : Int32) (y1 : Int32) : Prop :=
  vp_in y1 99 ∧ (∀ M24, M24 = tq_up M 142 0 y1.toNatClampNeg y0 → (vp_in x1 8 ∧ (vp_in x3 99 ∧ ((∀ M27, M27 = tq_cp M24 139 x3.toNatClampNeg (va_cpy (M24 127 x1.toNatClampNeg) (M24 139 x3.toNatClampNeg) (0 : Int32).toNatClampNeg (0 : Int32).toNatClampNeg (4 : Int32).toNatClampNeg) → (∀ M28, M28 = tq_up M27 124 0 x1.toNatClampNeg ((-1)) → (∀ M29, M29 = tq_up M28 130 0 x1.toNatClampNeg x3 → (post M29 x3))))))))
def wbX12_leave_197 (post : tq_St → Int32 → Prop)  (M : tq_St) (x1 : Int32) (x3 : Int32) (y0 : Int32) : Prop :=
  wbX12_leave_198 post M x1 x3 0 y0
def wbX12_leave_122 (post : tq_St → Int32 → Prop) : Nat → tq_St → Int32 → Int32 → Int32 → Int32 → Int32 → Prop
  | 0, _, _, _, _, _, _ => False
  | n + 1, M, x1, x3, x4, x5, x6 =>
    ((M 64 0 6) ≤ x6 → (wpX12_ownOn (fun M17 r18 => (x4 = 0 → (wbX12_leave_197 post M17 x1 x3 x3)) ∧ (¬ x4 = 0 → (((r18 - x5) ≤ 0 → (wbX12_leave_197 post M17 x1 x3 x3)) ∧ (¬ (r18 - x5) ≤ 0 → (wbX12_leave_198 post M17 x1 x3 (r18 - x5) x3))))) M x1)) ∧ (¬ (M 64 0 6) ≤ x6 → (vp_in x6 20 ∧ ((¬ (M 107 0 x6.toNatClampNeg) = x4 → (wbX12_leave_158 post  (wbX12_leave_122 post n) M x1 x3 x4 x6 0 x5)) ∧ ((M 107 0 x6.toNatClampNeg) = x4 → (wbX12_leave_158 post  (wbX12_leave_122 post n) M x1 x3 x4 x6 ((M 108 0 x6.toNatClampNeg) / 2) x5)))))
def wbX12_leave_107 (post : tq_St → Int32 → Prop)  (M : tq_St) (x1 : Int32) (x3 : Int32) (x4 : Int32) (y0 : Int32) (y1 : Int32) (y2 : Int32) : Prop :=
  vp_in y2 99 ∧ (∀ M13, M13 = tq_up M 136 0 y2.toNatClampNeg (y1 + y0) → (vp_in x3 99 ∧ (∀ M15, M15 = tq_up M13 141 0 x3.toNatClampNeg ((-1)) → (∃ nq, wbX12_leave_122 post nq M15 x1 x3 x4 0 0))))
def wbX12_leave_86 (post : tq_St → Int32 → Prop)  (M : tq_St) (x1 : Int32) (x3 : Int32) (x4 : Int32) (y0 : Int32) (y1 : Int32) (y2 : Int32) : Prop :=
  (((M 64 0 0) - (M 64 0 0) / 360 * 360) < 240 → (wbX12_leave_107 post M x1 x3 x4 0 (y1 + y0) y2)) ∧ (¬ ((M 64 0 0) - (M 64 0 0) / 360 * 360) < 240 → (wbX12_leave_107 post M x1 x3 x4 60 (y1 + y0) y2))
def wpX12_leave (post : tq_St → Int32 → Prop) (M : tq_St) (p0 : Int32) (p1 : Int32) : Prop :=
  ∀ M1, M1 = tq_up M 64 0 31 ((M 64 0 31) + 1) → (vp_in p0 8 ∧ (vp_in (M 64 0 31) 99 ∧ (∀ M4, M4 = tq_up M1 132 0 ((M 64 0 31).toNatClampNeg) p0 → (∀ M5, M5 = tq_up M4 133 0 ((M 64 0 31).toNatClampNeg) (M1 124 0 p0.toNatClampNeg) → (∀ M6, M6 = tq_up M5 134 0 ((M 64 0 31).toNatClampNeg) p1 → (∀ M7, M7 = tq_up M6 135 0 ((M 64 0 31).toNatClampNeg) (M6 64 0 0) → ((¬ (M1 124 0 p0.toNatClampNeg) = 0 → (vp_in (M1 124 0 p0.toNatClampNeg) 5 ∧ (wbX12_leave_86 post M7 p0 (M 64 0 31) (M1 124 0 p0.toNatClampNeg) (M7 103 ((M1 124 0 p0.toNatClampNeg).toNatClampNeg) 1) (M7 64 0 0) (M 64 0 31)))) ∧ ((M1 124 0 p0.toNatClampNeg) = 0 → (vp_in p1 5 ∧ (wbX12_leave_86 post M7 p0 (M 64 0 31) (M1 124 0 p0.toNatClampNeg) (M7 103 p1.toNatClampNeg 0) (M7 64 0 0) (M 64 0 31)))))))))))
set_option maxHeartbeats 4000000 in
set_option maxRecDepth 100000 in
theorem bX12_leave_158 {p : Program} {e : Env} {s : State} {m : MethodId} {args : Array Value} {below : List Frame} {meth : Method} {c : Code} {post : tq_St → Int32 → Prop} (C : tq_At p s m meth c args cX12_leave 7 ((some .int)) ((tq_ws yX12_leave cX12_leave 7 (some .int))) RX12 D cy z ad) {L122 : tq_St → Int32 → Int32 → Int32 → Int32 → Int32 → Prop} (hL122 : ∀ (M : tq_St) (x1 : Int32) (x3 : Int32) (x4 : Int32) (x5 : Int32) (x6 : Int32) (H : Heap) (locs : List Loc) (ls : Array Slot), L122 M x1 x3 x4 x5 x6 → tq_wd D cy z H0 ad N (tq_mix S M) H → va_S (fun q => z ≤ q) s.heap H locs → lv_has ls 7 [(0, .ref (ad 64 0)), (1, .int x1), (3, .int x3), (4, .int x4), (5, .int x5), (6, .int x6)] → W p l e (tq_rm 1 48) s m args below meth c H locs 0 0 (MQ below (va_Qi (fun r u => post u r) (tq_P D cy z H0 ad N S) (fun q => z ≤ q)) args s 0 0 (fun q => z ≤ q)) (F0 m 122 ls [])) : ∀ (M : tq_St) (x1 : Int32) (x3 : Int32) (x4 : Int32) (x6 : Int32) (y0 : Int32) (y1 : Int32) (H : Heap) (locs : List Loc) (ls : Array Slot), wbX12_leave_158 post  L122 M x1 x3 x4 x6 y0 y1 → tq_wd D cy z H0 ad N (tq_mix S M) H → va_S (fun q => z ≤ q) s.heap H locs → lv_has ls 7 [(0, .ref (ad 64 0)), (1, .int x1), (3, .int x3), (4, .int x4), (6, .int x6)] → W p l e (tq_rm 1 48) s m args below meth c H locs 0 0 (MQ below (va_Qi (fun r u => post u r) (tq_P D cy z H0 ad N S) (fun q => z ≤ q)) args s 0 0 (fun q => z ≤ q)) (F0 m 158 ls [.int y0, .int y1]) := by
  obtain ⟨hx, hb, hr, hml, hown, hts, hlocks, hK, hG⟩ := id C
  have hw : ∀ w ∈ tq_W, w.before args s = true := fun w h => hts w (List.mem_cons_of_mem _ h)
  intro M x1 x3 x4 x6 y0 y1 H locs ls h hW hS hl
  unfold wbX12_leave_158 at h
  refine lv_iadd hx hb dX12_leave_158 ?_
  refine lv_istore (lv' := [(5, .int (y1 + y0)), (0, .ref (ad 64 0)), (1, .int x1), (3, .int x3), (4, .int x4), (6, .int x6)]) hx hb dX12_leave_159 hl (by decide) rfl (fun ls hl => ?_)
  refine lv_iinc (v := x6 + 1) (lv' := [(6, .int (x6 + 1)), (5, .int (y1 + y0)), (0, .ref (ad 64 0)), (1, .int x1), (3, .int x3), (4, .int x4)]) hx hb dX12_leave_161 hl (k := 5) rfl rfl (by decide) rfl (fun ls hl => ?_)
  refine lv_goto (tgt := 122) hx hb dX12_leave_164 (by decide) ?_
  exact hL122 _ _ _ _ _ _ _ _ _ h hW hS (lv_sub hl [2, 3, 4, 5, 1, 0] rfl)
set_option maxHeartbeats 4000000 in
set_option maxRecDepth 100000 in
theorem bX12_leave_198 {p : Program} {e : Env} {s : State} {m : MethodId} {args : Array Value} {below : List Frame} {meth : Method} {c : Code} {post : tq_St → Int32 → Prop} (C : tq_At p s m meth c args cX12_leave 7 ((some .int)) ((tq_ws yX12_leave cX12_leave 7 (some .int))) RX12 D cy z ad)  : ∀ (M : tq_St) (x1 : Int32) (x3 : Int32) (y0 : Int32) (y1 : Int32) (H : Heap) (locs : List Loc) (ls : Array Slot), wbX12_leave_198 post   M x1 x3 y0 y1 → tq_wd D cy z H0 ad N (tq_mix S M) H → va_S (fun q => z ≤ q) s.heap H locs → lv_has ls 7 [(0, .ref (ad 64 0)), (1, .int x1), (3, .int x3)] → W p l e (tq_rm 1 48) s m args below meth c H locs 0 0 (MQ below (va_Qi (fun r u => post u r) (tq_P D cy z H0 ad N S) (fun q => z ≤ q)) args s 0 0 (fun q => z ≤ q)) (F0 m 198 ls [.int y0, .int y1, .ref (ad 142 0)]) := by
  obtain ⟨hx, hb, hr, hml, hown, hts, hlocks, hK, hG⟩ := id C
  have hw : ∀ w ∈ tq_W, w.before args s = true := fun w h => hts w (List.mem_cons_of_mem _ h)
  intro M x1 x3 y0 y1 H locs ls h hW hS hl
  unfold wbX12_leave_198 at h
  obtain ⟨b23, h⟩ := h
  refine tqm_iast (jn := y1.toNatClampNeg) hx hb hK hW hS (by decide) (tq_mk_142 (by decide)) b23 rfl (tq_mk_142 (by decide)) dX12_leave_198 (fun H locs hW hS => ?_)
  generalize eM24 : tq_up M 142 0 y1.toNatClampNeg y0 = M24 at hW
  have h := h M24 eM24.symm
  refine lv_aload_n hx hb dX12_leave_199 rfl (lv_at hl 0 rfl) ?_
  refine tqm_get (v := .ref (ad 227 0)) hx hb hw tq_inX12 hown hK hW (by decide) (tq_mk_64 (by decide)) rfl 27 (by decide) (hw _ tw_1435) (fun _ h9 => h9) rfl dX12_leave_200 ?_
  refine lv_iload_n hx hb dX12_leave_203 rfl (lv_at hl 1 rfl) ?_
  obtain ⟨b25, h⟩ := h
  refine tqm_aald (jn := x1.toNatClampNeg) (v := .ref (ad 127 x1.toNatClampNeg)) hx hb hK hW (by decide) (tq_mk_227 (by decide)) 2 rfl rfl b25 rfl rfl dX12_leave_204 ?_
  refine lv_iconst (v := 0) hx hb dX12_leave_205 (by decide) ?_
  refine lv_aload_n hx hb dX12_leave_206 rfl (lv_at hl 0 rfl) ?_
  refine tqm_get (v := .ref (ad 239 0)) hx hb hw tq_inX12 hown hK hW (by decide) (tq_mk_64 (by decide)) rfl 39 (by decide) (hw _ tw_1447) (fun _ h9 => h9) rfl dX12_leave_207 ?_
  refine lv_iload_n hx hb dX12_leave_210 rfl (lv_at hl 2 rfl) ?_
  obtain ⟨b26, h⟩ := h
  refine tqm_aald (jn := x3.toNatClampNeg) (v := .ref (ad 139 x3.toNatClampNeg)) hx hb hK hW (by decide) (tq_mk_239 (by decide)) 2 rfl rfl b26 rfl rfl dX12_leave_211 ?_
  refine lv_iconst (v := 0) hx hb dX12_leave_212 (by decide) ?_
  refine lv_iconst (v := 4) hx hb dX12_leave_213 (by decide) ?_
  refine tqm_copy hx hb (hml.trans hl.1.symm) hown (hw _ tw_1756) (hw _ tw_801) (hw _ tw_800) (hw _ tw_135) hK hW hS (by decide) (by decide) (tq_mk_127 (tq_lt b25)) (fun f => tq_mk_139 (tq_lt b26)) (by decide) (by decide) (by decide) (by decide) (by decide) (Nat.le_of_ble_eq_true rfl) (Nat.le_of_ble_eq_true rfl) dX12_leave_214 (fun H locs hW hS => ?_)
  generalize eM27 : tq_cp M24 139 x3.toNatClampNeg (va_cpy (M24 127 x1.toNatClampNeg) (M24 139 x3.toNatClampNeg) (0 : Int32).toNatClampNeg (0 : Int32).toNatClampNeg (4 : Int32).toNatClampNeg) = M27 at hW
  have h := h M27 eM27.symm
  refine lv_aload_n hx hb dX12_leave_217 rfl (lv_at hl 0 rfl) ?_
  refine tqm_get (v := .ref (ad 124 0)) hx hb hw tq_inX12 hown hK hW (by decide) (tq_mk_64 (by decide)) rfl 24 (by decide) (hw _ tw_1432) (fun _ h9 => h9) rfl dX12_leave_218 ?_
  refine lv_iload_n hx hb dX12_leave_221 rfl (lv_at hl 1 rfl) ?_
  refine lv_iconst (v := (-1)) hx hb dX12_leave_222 (by decide) ?_
  refine tqm_iast (jn := x1.toNatClampNeg) hx hb hK hW hS (by decide) (tq_mk_124 (by decide)) b25 rfl (tq_mk_124 (by decide)) dX12_leave_223 (fun H locs hW hS => ?_)
  generalize eM28 : tq_up M27 124 0 x1.toNatClampNeg ((-1)) = M28 at hW
  have h := h M28 eM28.symm
  refine lv_aload_n hx hb dX12_leave_224 rfl (lv_at hl 0 rfl) ?_
  refine tqm_get (v := .ref (ad 130 0)) hx hb hw tq_inX12 hown hK hW (by decide) (tq_mk_64 (by decide)) rfl 30 (by decide) (hw _ tw_1438) (fun _ h9 => h9) rfl dX12_leave_225 ?_
  refine lv_iload_n hx hb dX12_leave_228 rfl (lv_at hl 1 rfl) ?_
  refine lv_iload_n hx hb dX12_leave_229 rfl (lv_at hl 2 rfl) ?_
  refine tqm_iast (jn := x1.toNatClampNeg) hx hb hK hW hS (by decide) (tq_mk_130 (by decide)) b25 rfl (tq_mk_130 (by decide)) dX12_leave_230 (fun H locs hW hS => ?_)
  generalize eM29 : tq_up M28 130 0 x1.toNatClampNeg x3 = M29 at hW
  have h := h M29 eM29.symm
  refine lv_iload_n hx hb dX12_leave_231 rfl (lv_at hl 2 rfl) ?_
  exact W.iret (v := x3) hx hb hr (fun t ht hWm => ⟨⟨_, M29, rfl, h, tq_pe ht hW⟩, hS.F ht⟩) hS.2.2 dX12_leave_232
set_option maxHeartbeats 4000000 in
set_option maxRecDepth 100000 in
theorem bX12_leave_197 {p : Program} {e : Env} {s : State} {m : MethodId} {args : Array Value} {below : List Frame} {meth : Method} {c : Code} {post : tq_St → Int32 → Prop} (C : tq_At p s m meth c args cX12_leave 7 ((some .int)) ((tq_ws yX12_leave cX12_leave 7 (some .int))) RX12 D cy z ad)  : ∀ (M : tq_St) (x1 : Int32) (x3 : Int32) (y0 : Int32) (H : Heap) (locs : List Loc) (ls : Array Slot), wbX12_leave_197 post   M x1 x3 y0 → tq_wd D cy z H0 ad N (tq_mix S M) H → va_S (fun q => z ≤ q) s.heap H locs → lv_has ls 7 [(0, .ref (ad 64 0)), (1, .int x1), (3, .int x3)] → W p l e (tq_rm 1 48) s m args below meth c H locs 0 0 (MQ below (va_Qi (fun r u => post u r) (tq_P D cy z H0 ad N S) (fun q => z ≤ q)) args s 0 0 (fun q => z ≤ q)) (F0 m 197 ls [.int y0, .ref (ad 142 0)]) := by
  obtain ⟨hx, hb, hr, hml, hown, hts, hlocks, hK, hG⟩ := id C
  have hw : ∀ w ∈ tq_W, w.before args s = true := fun w h => hts w (List.mem_cons_of_mem _ h)
  intro M x1 x3 y0 H locs ls h hW hS hl
  unfold wbX12_leave_197 at h
  refine lv_iconst (v := 0) hx hb dX12_leave_197 (by decide) ?_
  exact bX12_leave_198 C  _ _ _ _ _ _ _ _ h hW hS (lv_sub hl [0, 1, 2] rfl)
set_option maxHeartbeats 4000000 in
set_option maxRecDepth 100000 in
theorem bX12_leave_122 {p : Program} {e : Env} {s : State} {m : MethodId} {args : Array Value} {below : List Frame} {meth : Method} {c : Code} {post : tq_St → Int32 → Prop} (C : tq_At p s m meth c args cX12_leave 7 ((some .int)) ((tq_ws yX12_leave cX12_leave 7 (some .int))) RX12 D cy z ad)  : ∀ n : Nat, ∀ (M : tq_St) (x1 : Int32) (x3 : Int32) (x4 : Int32) (x5 : Int32) (x6 : Int32) (H : Heap) (locs : List Loc) (ls : Array Slot), wbX12_leave_122 post   n M x1 x3 x4 x5 x6 → tq_wd D cy z H0 ad N (tq_mix S M) H → va_S (fun q => z ≤ q) s.heap H locs → lv_has ls 7 [(0, .ref (ad 64 0)), (1, .int x1), (3, .int x3), (4, .int x4), (5, .int x5), (6, .int x6)] → W p l e (tq_rm 1 48) s m args below meth c H locs 0 0 (MQ below (va_Qi (fun r u => post u r) (tq_P D cy z H0 ad N S) (fun q => z ≤ q)) args s 0 0 (fun q => z ≤ q)) (F0 m 122 ls []) := by
  obtain ⟨hx, hb, hr, hml, hown, hts, hlocks, hK, hG⟩ := id C
  have hw : ∀ w ∈ tq_W, w.before args s = true := fun w h => hts w (List.mem_cons_of_mem _ h)
  intro n
  induction n with
  | zero =>
    intro M x1 x3 x4 x5 x6 H locs ls h
    exact absurd h (by unfold wbX12_leave_122; exact id)
  | succ n ih =>
    intro M x1 x3 x4 x5 x6 H locs ls h hW hS hl
    unfold wbX12_leave_122 at h
    refine lv_iload hx hb dX12_leave_122 (lv_at hl 5 rfl) ?_
    refine lv_aload_n hx hb dX12_leave_124 rfl (lv_at hl 0 rfl) ?_
    refine tqm_get (v := .int (M 64 0 6)) hx hb hw tq_inX12 hown hK hW (by decide) (tq_mk_64 (by decide)) rfl 6 (by decide) (hw _ tw_1414) (fun _ h9 => h9) rfl dX12_leave_125 ?_
    refine lv_icmp_ge (tgt := 167) hx hb dX12_leave_128 (by decide) (fun c16 => ?_) (fun c16 => ?_)
    · have h := h.1 c16
      refine lv_aload_n hx hb dX12_leave_167 rfl (lv_at hl 0 rfl) ?_
      refine lv_iload_n hx hb dX12_leave_168 rfl (lv_at hl 1 rfl) ?_
      refine tq_callVi (As := [.int x1]) (rest := []) (kX12_ownOn h) ⟨hx, hb, hml, hown, hts⟩ (cwV 1 hts (tq_goodV tw_1865 tw_1867 tw_82 tw_125 tw_1868) rfl rfl rfl (by decide +kernel) ⟨Nat.le_of_ble_eq_true rfl, Nat.le_of_ble_eq_true rfl⟩) hK hG hW hS rfl hl.1 rfl (Nat.le_of_ble_eq_true rfl) dX12_leave_169 ⟨Nat.le_of_ble_eq_true rfl, Nat.le_of_ble_eq_true rfl⟩ (fun r18 M17 H locs h hW hS => ?_)
      refine lv_iload hx hb dX12_leave_172 (lv_at hl 4 rfl) ?_
      refine lv_isub hx hb dX12_leave_174 ?_
      refine lv_istore (lv' := [(6, .int (r18 - x5)), (0, .ref (ad 64 0)), (1, .int x1), (3, .int x3), (4, .int x4), (5, .int x5)]) hx hb dX12_leave_175 hl (by decide) rfl (fun ls hl => ?_)
      refine lv_aload_n hx hb dX12_leave_177 rfl (lv_at hl 1 rfl) ?_
      refine tqm_get (v := .ref (ad 142 0)) hx hb hw tq_inX12 hown hK hW (by decide) (tq_mk_64 (by decide)) rfl 42 (by decide) (hw _ tw_1450) (fun _ h9 => h9) rfl dX12_leave_178 ?_
      refine lv_iload_n hx hb dX12_leave_181 rfl (lv_at hl 3 rfl) ?_
      refine lv_iload hx hb dX12_leave_182 (lv_at hl 4 rfl) ?_
      refine lv_if_eq (tgt := 197) hx hb dX12_leave_184 (by decide) (fun c19 => ?_) (fun c19 => ?_)
      · have h := h.1 c19
        exact bX12_leave_197 C  _ _ _ _ _ _ _ h hW hS (lv_sub hl [1, 2, 3] rfl)
      · have h := h.2 c19
        refine lv_iload hx hb dX12_leave_187 (lv_at hl 0 rfl) ?_
        refine lv_if_le (tgt := 197) hx hb dX12_leave_189 (by decide) (fun c20 => ?_) (fun c20 => ?_)
        · have h := h.1 c20
          exact bX12_leave_197 C  _ _ _ _ _ _ _ h hW hS (lv_sub hl [1, 2, 3] rfl)
        · have h := h.2 c20
          refine lv_iload hx hb dX12_leave_192 (lv_at hl 0 rfl) ?_
          refine lv_goto (tgt := 198) hx hb dX12_leave_194 (by decide) ?_
          exact bX12_leave_198 C  _ _ _ _ _ _ _ _ h hW hS (lv_sub hl [1, 2, 3] rfl)
    · have h := h.2 c16
      refine lv_iload hx hb dX12_leave_131 (lv_at hl 4 rfl) ?_
      refine lv_aload_n hx hb dX12_leave_133 rfl (lv_at hl 0 rfl) ?_
      refine tqm_get (v := .ref (ad 107 0)) hx hb hw tq_inX12 hown hK hW (by decide) (tq_mk_64 (by decide)) rfl 7 (by decide) (hw _ tw_1415) (fun _ h9 => h9) rfl dX12_leave_134 ?_
      refine lv_iload hx hb dX12_leave_137 (lv_at hl 5 rfl) ?_
      obtain ⟨b21, h⟩ := h
      refine tqm_iald (jn := x6.toNatClampNeg) hx hb hK hW (by decide) (tq_mk_107 (by decide)) b21 rfl dX12_leave_139 ?_
      refine lv_iload hx hb dX12_leave_140 (lv_at hl 3 rfl) ?_
      refine lv_icmp_ne (tgt := 157) hx hb dX12_leave_142 (by decide) (fun c22 => ?_) (fun c22 => ?_)
      · have h := h.1 c22
        refine lv_iconst (v := 0) hx hb dX12_leave_157 (by decide) ?_
        exact bX12_leave_158 C (fun M9 a09 a19 a29 a39 a49 H9 q9 ls9 h9 hW9 hS9 hl9 => ih M9 a09 a19 a29 a39 a49 H9 q9 ls9 h9 hW9 hS9 hl9) _ _ _ _ _ _ _ _ _ _ h hW hS (lv_sub hl [0, 1, 2, 3, 5] rfl)
      · have h := h.2 c22
        refine lv_aload_n hx hb dX12_leave_145 rfl (lv_at hl 0 rfl) ?_
        refine tqm_get (v := .ref (ad 108 0)) hx hb hw tq_inX12 hown hK hW (by decide) (tq_mk_64 (by decide)) rfl 8 (by decide) (hw _ tw_1416) (fun _ h9 => h9) rfl dX12_leave_146 ?_
        refine lv_iload hx hb dX12_leave_149 (lv_at hl 5 rfl) ?_
        refine tqm_iald (jn := x6.toNatClampNeg) hx hb hK hW (by decide) (tq_mk_108 (by decide)) b21 rfl dX12_leave_151 ?_
        refine lv_iconst (v := 2) hx hb dX12_leave_152 (by decide) ?_
        refine lv_idiv hx hb dX12_leave_153 (by decide) ?_
        refine lv_goto (tgt := 158) hx hb dX12_leave_154 (by decide) ?_
        exact bX12_leave_158 C (fun M9 a09 a19 a29 a39 a49 H9 q9 ls9 h9 hW9 hS9 hl9 => ih M9 a09 a19 a29 a39 a49 H9 q9 ls9 h9 hW9 hS9 hl9) _ _ _ _ _ _ _ _ _ _ h hW hS (lv_sub hl [0, 1, 2, 3, 5] rfl)
set_option maxHeartbeats 4000000 in
set_option maxRecDepth 100000 in
theorem bX12_leave_107 {p : Program} {e : Env} {s : State} {m : MethodId} {args : Array Value} {below : List Frame} {meth : Method} {c : Code} {post : tq_St → Int32 → Prop} (C : tq_At p s m meth c args cX12_leave 7 ((some .int)) ((tq_ws yX12_leave cX12_leave 7 (some .int))) RX12 D cy z ad)  : ∀ (M : tq_St) (x1 : Int32) (x3 : Int32) (x4 : Int32) (y0 : Int32) (y1 : Int32) (y2 : Int32) (H : Heap) (locs : List Loc) (ls : Array Slot), wbX12_leave_107 post   M x1 x3 x4 y0 y1 y2 → tq_wd D cy z H0 ad N (tq_mix S M) H → va_S (fun q => z ≤ q) s.heap H locs → lv_has ls 7 [(0, .ref (ad 64 0)), (1, .int x1), (3, .int x3), (4, .int x4)] → W p l e (tq_rm 1 48) s m args below meth c H locs 0 0 (MQ below (va_Qi (fun r u => post u r) (tq_P D cy z H0 ad N S) (fun q => z ≤ q)) args s 0 0 (fun q => z ≤ q)) (F0 m 107 ls [.int y0, .int y1, .int y2, .ref (ad 136 0)]) := by
  obtain ⟨hx, hb, hr, hml, hown, hts, hlocks, hK, hG⟩ := id C
  have hw : ∀ w ∈ tq_W, w.before args s = true := fun w h => hts w (List.mem_cons_of_mem _ h)
  intro M x1 x3 x4 y0 y1 y2 H locs ls h hW hS hl
  unfold wbX12_leave_107 at h
  refine lv_iadd hx hb dX12_leave_107 ?_
  obtain ⟨b12, h⟩ := h
  refine tqm_iast (jn := y2.toNatClampNeg) hx hb hK hW hS (by decide) (tq_mk_136 (by decide)) b12 rfl (tq_mk_136 (by decide)) dX12_leave_108 (fun H locs hW hS => ?_)
  generalize eM13 : tq_up M 136 0 y2.toNatClampNeg (y1 + y0) = M13 at hW
  have h := h M13 eM13.symm
  refine lv_aload_n hx hb dX12_leave_109 rfl (lv_at hl 0 rfl) ?_
  refine tqm_get (v := .ref (ad 141 0)) hx hb hw tq_inX12 hown hK hW (by decide) (tq_mk_64 (by decide)) rfl 41 (by decide) (hw _ tw_1449) (fun _ h9 => h9) rfl dX12_leave_110 ?_
  refine lv_iload_n hx hb dX12_leave_113 rfl (lv_at hl 2 rfl) ?_
  refine lv_iconst (v := (-1)) hx hb dX12_leave_114 (by decide) ?_
  obtain ⟨b14, h⟩ := h
  refine tqm_iast (jn := x3.toNatClampNeg) hx hb hK hW hS (by decide) (tq_mk_141 (by decide)) b14 rfl (tq_mk_141 (by decide)) dX12_leave_115 (fun H locs hW hS => ?_)
  generalize eM15 : tq_up M13 141 0 x3.toNatClampNeg ((-1)) = M15 at hW
  have h := h M15 eM15.symm
  refine lv_iconst (v := 0) hx hb dX12_leave_116 (by decide) ?_
  refine lv_istore (lv' := [(5, .int 0), (0, .ref (ad 64 0)), (1, .int x1), (3, .int x3), (4, .int x4)]) hx hb dX12_leave_117 hl (by decide) rfl (fun ls hl => ?_)
  refine lv_iconst (v := 0) hx hb dX12_leave_119 (by decide) ?_
  refine lv_istore (lv' := [(6, .int 0), (5, .int 0), (0, .ref (ad 64 0)), (1, .int x1), (3, .int x3), (4, .int x4)]) hx hb dX12_leave_120 hl (by decide) rfl (fun ls hl => ?_)
  obtain ⟨nq, h⟩ := h
  exact bX12_leave_122 C  nq _ _ _ _ _ _ _ _ _ h hW hS (lv_sub hl [2, 3, 4, 5, 1, 0] rfl)
set_option maxHeartbeats 4000000 in
set_option maxRecDepth 100000 in
theorem bX12_leave_86 {p : Program} {e : Env} {s : State} {m : MethodId} {args : Array Value} {below : List Frame} {meth : Method} {c : Code} {post : tq_St → Int32 → Prop} (C : tq_At p s m meth c args cX12_leave 7 ((some .int)) ((tq_ws yX12_leave cX12_leave 7 (some .int))) RX12 D cy z ad)  : ∀ (M : tq_St) (x1 : Int32) (x3 : Int32) (x4 : Int32) (y0 : Int32) (y1 : Int32) (y2 : Int32) (H : Heap) (locs : List Loc) (ls : Array Slot), wbX12_leave_86 post   M x1 x3 x4 y0 y1 y2 → tq_wd D cy z H0 ad N (tq_mix S M) H → va_S (fun q => z ≤ q) s.heap H locs → lv_has ls 7 [(0, .ref (ad 64 0)), (1, .int x1), (3, .int x3), (4, .int x4)] → W p l e (tq_rm 1 48) s m args below meth c H locs 0 0 (MQ below (va_Qi (fun r u => post u r) (tq_P D cy z H0 ad N S) (fun q => z ≤ q)) args s 0 0 (fun q => z ≤ q)) (F0 m 86 ls [.int y0, .int y1, .int y2, .ref (ad 136 0)]) := by
  obtain ⟨hx, hb, hr, hml, hown, hts, hlocks, hK, hG⟩ := id C
  have hw : ∀ w ∈ tq_W, w.before args s = true := fun w h => hts w (List.mem_cons_of_mem _ h)
  intro M x1 x3 x4 y0 y1 y2 H locs ls h hW hS hl
  unfold wbX12_leave_86 at h
  refine lv_iadd hx hb dX12_leave_86 ?_
  refine lv_aload_n hx hb dX12_leave_87 rfl (lv_at hl 0 rfl) ?_
  refine tqm_get (v := .int (M 64 0 0)) hx hb hw tq_inX12 hown hK hW (by decide) (tq_mk_64 (by decide)) rfl 0 (by decide) (hw _ tw_1408) (fun _ h9 => h9) rfl dX12_leave_88 ?_
  refine lv_sipush (v := 360) hx hb dX12_leave_91 (by decide) ?_
  refine lv_irem hx hb dX12_leave_94 (by decide) ?_
  refine lv_sipush (v := 240) hx hb dX12_leave_95 (by decide) ?_
  refine lv_icmp_lt (tgt := 106) hx hb dX12_leave_98 (by decide) (fun c11 => ?_) (fun c11 => ?_)
  · have h := h.1 c11
    refine lv_iconst (v := 0) hx hb dX12_leave_106 (by decide) ?_
    exact bX12_leave_107 C  _ _ _ _ _ _ _ _ _ _ h hW hS (lv_sub hl [0, 1, 2, 3] rfl)
  · have h := h.2 c11
    refine lv_bipush (v := 60) hx hb dX12_leave_101 (by decide) ?_
    refine lv_goto (tgt := 107) hx hb dX12_leave_103 (by decide) ?_
    exact bX12_leave_107 C  _ _ _ _ _ _ _ _ _ _ h hW hS (lv_sub hl [0, 1, 2, 3] rfl)
set_option maxHeartbeats 4000000 in
set_option maxRecDepth 100000 in
theorem kX12_leave {post : tq_St → Int32 → Prop} {M : tq_St} {p0 : Int32} {p1 : Int32} (h : wpX12_leave post M p0 p1) : tq_mI l yX12_leave (tq_ws yX12_leave cX12_leave 7 (some .int)) 1 48 D cy z H0 ad N S M [.ref (ad 64 0), .int p0, .int p1] post := by
  unfold wpX12_leave at h
  refine Met.ofW (cc := cX12_leave) (maxL := 7) (ret := (some .int)) (by decide) rfl ?_
  intro p e s m args below meth c s₁ B hml hv
  obtain ⟨rfl, hW, hK, hG⟩ := hv
  have hx := B.exec
  have hb := B.bytes
  have hr := B.returns
  have hts := atoms_spec (ws := (tq_ws yX12_leave cX12_leave 7 (some .int))) B.pre
  have hw : ∀ w ∈ tq_W, w.before _ s = true := fun w h => hts w (List.mem_cons_of_mem _ h)
  have hown : s.vm.findClass RX12 = some m.cls := findClass_of_methodNamed B.named
  have hlocks := B.notSynchronized
  have C : tq_At p s m meth c [.ref (ad 64 0), .int p0, .int p1].toArray cX12_leave 7 ((some .int)) ((tq_ws yX12_leave cX12_leave 7 (some .int))) RX12 D cy z ad := ⟨hx, hb, hr, hml, hown, hts, hlocks, hK, hG⟩
  have hS : va_S (fun q => z ≤ q) s.heap s.heap [] := va_S.rf
  have hl := lv_entry ([.ref (ad 64 0), .int p0, .int p1]) (n := 7) (Nat.le_of_ble_eq_true rfl)
  rw [lg_entry_eq]
  generalize (lg_sl ([.ref (ad 64 0), .int p0, .int p1]) ++ List.replicate (7 - (lg_sl ([.ref (ad 64 0), .int p0, .int p1])).length) Slot.unset).toArray = ls at hl ⊢
  have hl : lv_has ls 7 [(0, .ref (ad 64 0)), (1, .int p0), (2, .int p1)] := hl
  have hW : tq_wd D cy z H0 ad N (tq_mix S M) s.heap := hW
  refine lv_aload_n hx hb dX12_leave_0 rfl (lv_at hl 0 rfl) ?_
  refine lv_dup hx hb dX12_leave_1 rfl ?_
  refine tqm_get (v := .int (M 64 0 31)) hx hb hw tq_inX12 hown hK hW (by decide) (tq_mk_64 (by decide)) rfl 31 (by decide) (hw _ tw_1439) (fun _ h9 => h9) rfl dX12_leave_2 ?_
  refine lv_dup_x1 hx hb dX12_leave_5 rfl rfl ?_
  refine lv_iconst (v := 1) hx hb dX12_leave_6 (by decide) ?_
  refine lv_iadd hx hb dX12_leave_7 ?_
  refine tqm_put hx hb hw tq_inX12 tyX12 tyX12_ok nmX12 hown hK hW hS (by decide) (tq_mk_64 (by decide)) rfl 31 (by decide) (hw _ tw_1439) (fun _ h9 => h9) rfl rfl rfl rfl (tq_mk_64 (by decide)) dX12_leave_8 (fun H locs hW hS => ?_)
  generalize eM1 : tq_up M 64 0 31 ((M 64 0 31) + 1) = M1 at hW
  have h := h M1 eM1.symm
  refine lv_istore_n (lv' := [(3, .int (M 64 0 31)), (0, .ref (ad 64 0)), (1, .int p0), (2, .int p1)]) hx hb dX12_leave_11 rfl hl (by decide) rfl (fun ls hl => ?_)
  refine lv_aload_n hx hb dX12_leave_12 rfl (lv_at hl 1 rfl) ?_
  refine tqm_get (v := .ref (ad 124 0)) hx hb hw tq_inX12 hown hK hW (by decide) (tq_mk_64 (by decide)) rfl 24 (by decide) (hw _ tw_1432) (fun _ h9 => h9) rfl dX12_leave_13 ?_
  refine lv_iload_n hx hb dX12_leave_16 rfl (lv_at hl 2 rfl) ?_
  obtain ⟨b2, h⟩ := h
  refine tqm_iald (jn := p0.toNatClampNeg) hx hb hK hW (by decide) (tq_mk_124 (by decide)) b2 rfl dX12_leave_17 ?_
  refine lv_istore (lv' := [(4, .int (M1 124 0 p0.toNatClampNeg)), (3, .int (M 64 0 31)), (0, .ref (ad 64 0)), (1, .int p0), (2, .int p1)]) hx hb dX12_leave_18 hl (by decide) rfl (fun ls hl => ?_)
  refine lv_aload_n hx hb dX12_leave_20 rfl (lv_at hl 2 rfl) ?_
  refine tqm_get (v := .ref (ad 132 0)) hx hb hw tq_inX12 hown hK hW (by decide) (tq_mk_64 (by decide)) rfl 32 (by decide) (hw _ tw_1440) (fun _ h9 => h9) rfl dX12_leave_21 ?_
  refine lv_iload_n hx hb dX12_leave_24 rfl (lv_at hl 1 rfl) ?_
  refine lv_iload_n hx hb dX12_leave_25 rfl (lv_at hl 3 rfl) ?_
  obtain ⟨b3, h⟩ := h
  refine tqm_iast (jn := (M 64 0 31).toNatClampNeg) hx hb hK hW hS (by decide) (tq_mk_132 (by decide)) b3 rfl (tq_mk_132 (by decide)) dX12_leave_26 (fun H locs hW hS => ?_)
  generalize eM4 : tq_up M1 132 0 ((M 64 0 31).toNatClampNeg) p0 = M4 at hW
  have h := h M4 eM4.symm
  refine lv_aload_n hx hb dX12_leave_27 rfl (lv_at hl 2 rfl) ?_
  refine tqm_get (v := .ref (ad 133 0)) hx hb hw tq_inX12 hown hK hW (by decide) (tq_mk_64 (by decide)) rfl 33 (by decide) (hw _ tw_1441) (fun _ h9 => h9) rfl dX12_leave_28 ?_
  refine lv_iload_n hx hb dX12_leave_31 rfl (lv_at hl 1 rfl) ?_
  refine lv_iload hx hb dX12_leave_32 (lv_at hl 0 rfl) ?_
  refine tqm_iast (jn := (M 64 0 31).toNatClampNeg) hx hb hK hW hS (by decide) (tq_mk_133 (by decide)) b3 rfl (tq_mk_133 (by decide)) dX12_leave_34 (fun H locs hW hS => ?_)
  generalize eM5 : tq_up M4 133 0 ((M 64 0 31).toNatClampNeg) (M1 124 0 p0.toNatClampNeg) = M5 at hW
  have h := h M5 eM5.symm
  refine lv_aload_n hx hb dX12_leave_35 rfl (lv_at hl 2 rfl) ?_
  refine tqm_get (v := .ref (ad 134 0)) hx hb hw tq_inX12 hown hK hW (by decide) (tq_mk_64 (by decide)) rfl 34 (by decide) (hw _ tw_1442) (fun _ h9 => h9) rfl dX12_leave_36 ?_
  refine lv_iload_n hx hb dX12_leave_39 rfl (lv_at hl 1 rfl) ?_
  refine lv_iload_n hx hb dX12_leave_40 rfl (lv_at hl 4 rfl) ?_
  refine tqm_iast (jn := (M 64 0 31).toNatClampNeg) hx hb hK hW hS (by decide) (tq_mk_134 (by decide)) b3 rfl (tq_mk_134 (by decide)) dX12_leave_41 (fun H locs hW hS => ?_)
  generalize eM6 : tq_up M5 134 0 ((M 64 0 31).toNatClampNeg) p1 = M6 at hW
  have h := h M6 eM6.symm
  refine lv_aload_n hx hb dX12_leave_42 rfl (lv_at hl 2 rfl) ?_
  refine tqm_get (v := .ref (ad 135 0)) hx hb hw tq_inX12 hown hK hW (by decide) (tq_mk_64 (by decide)) rfl 35 (by decide) (hw _ tw_1443) (fun _ h9 => h9) rfl dX12_leave_43 ?_
  refine lv_iload_n hx hb dX12_leave_46 rfl (lv_at hl 1 rfl) ?_
  refine lv_aload_n hx hb dX12_leave_47 rfl (lv_at hl 2 rfl) ?_
  refine tqm_get (v := .int (M6 64 0 0)) hx hb hw tq_inX12 hown hK hW (by decide) (tq_mk_64 (by decide)) rfl 0 (by decide) (hw _ tw_1408) (fun _ h9 => h9) rfl dX12_leave_48 ?_
  refine tqm_iast (jn := (M 64 0 31).toNatClampNeg) hx hb hK hW hS (by decide) (tq_mk_135 (by decide)) b3 rfl (tq_mk_135 (by decide)) dX12_leave_51 (fun H locs hW hS => ?_)
  generalize eM7 : tq_up M6 135 0 ((M 64 0 31).toNatClampNeg) (M6 64 0 0) = M7 at hW
  have h := h M7 eM7.symm
  refine lv_aload_n hx hb dX12_leave_52 rfl (lv_at hl 2 rfl) ?_
  refine tqm_get (v := .ref (ad 136 0)) hx hb hw tq_inX12 hown hK hW (by decide) (tq_mk_64 (by decide)) rfl 36 (by decide) (hw _ tw_1444) (fun _ h9 => h9) rfl dX12_leave_53 ?_
  refine lv_iload_n hx hb dX12_leave_56 rfl (lv_at hl 1 rfl) ?_
  refine lv_aload_n hx hb dX12_leave_57 rfl (lv_at hl 2 rfl) ?_
  refine tqm_get (v := .int (M7 64 0 0)) hx hb hw tq_inX12 hown hK hW (by decide) (tq_mk_64 (by decide)) rfl 0 (by decide) (hw _ tw_1408) (fun _ h9 => h9) rfl dX12_leave_58 ?_
  refine lv_iload hx hb dX12_leave_61 (lv_at hl 0 rfl) ?_
  refine lv_if_ne (tgt := 77) hx hb dX12_leave_63 (by decide) (fun c8 => ?_) (fun c8 => ?_)
  · have h := h.1 c8
    refine lv_aload_n hx hb dX12_leave_77 rfl (lv_at hl 2 rfl) ?_
    refine tqm_get (v := .ref (ad 203 0)) hx hb hw tq_inX12 hown hK hW (by decide) (tq_mk_64 (by decide)) rfl 3 (by decide) (hw _ tw_1411) (fun _ h9 => h9) rfl dX12_leave_78 ?_
    refine lv_iload hx hb dX12_leave_81 (lv_at hl 0 rfl) ?_
    obtain ⟨b9, h⟩ := h
    refine tqm_aald (jn := (M1 124 0 p0.toNatClampNeg).toNatClampNeg) (v := .ref (ad 103 ((M1 124 0 p0.toNatClampNeg).toNatClampNeg))) hx hb hK hW (by decide) (tq_mk_203 (by decide)) 2 rfl rfl b9 rfl rfl dX12_leave_83 ?_
    refine lv_iconst (v := 1) hx hb dX12_leave_84 (by decide) ?_
    refine tqm_iald (jn := 1) hx hb hK hW (by decide) (tq_mk_103 (tq_lt b9)) (by unfold vp_in; decide) (by decide) dX12_leave_85 ?_
    exact bX12_leave_86 C  _ _ _ _ _ _ _ _ _ _ h hW hS (lv_sub hl [2, 3, 1, 0] rfl)
  · have h := h.2 c8
    refine lv_aload_n hx hb dX12_leave_66 rfl (lv_at hl 2 rfl) ?_
    refine tqm_get (v := .ref (ad 203 0)) hx hb hw tq_inX12 hown hK hW (by decide) (tq_mk_64 (by decide)) rfl 3 (by decide) (hw _ tw_1411) (fun _ h9 => h9) rfl dX12_leave_67 ?_
    refine lv_iload_n hx hb dX12_leave_70 rfl (lv_at hl 4 rfl) ?_
    obtain ⟨b10, h⟩ := h
    refine tqm_aald (jn := p1.toNatClampNeg) (v := .ref (ad 103 p1.toNatClampNeg)) hx hb hK hW (by decide) (tq_mk_203 (by decide)) 2 rfl rfl b10 rfl rfl dX12_leave_71 ?_
    refine lv_iconst (v := 0) hx hb dX12_leave_72 (by decide) ?_
    refine tqm_iald (jn := 0) hx hb hK hW (by decide) (tq_mk_103 (tq_lt b10)) (by unfold vp_in; decide) (by decide) dX12_leave_73 ?_
    refine lv_goto (tgt := 86) hx hb dX12_leave_74 (by decide) ?_
    exact bX12_leave_86 C  _ _ _ _ _ _ _ _ _ _ h hW hS (lv_sub hl [2, 3, 1, 0] rfl)
-- sail
def wbX12_sail_15 (post : tq_St → Int32 → Prop)  (M : tq_St) : Prop :=
  post M ((-1))
def wbX12_sail_35 (post : tq_St → Int32 → Prop)  (M : tq_St) : Prop :=
  post M ((-3))
def wbX12_sail_58 (post : tq_St → Int32 → Prop)  (M : tq_St) (y0 : Int32) : Prop :=
  post M y0
def wpX12_sail (post : tq_St → Int32 → Prop) (M : tq_St) (p0 : Int32) (p1 : Int32) : Prop :=
  wpX12_isShip (fun M1 r2 => (r2 = 0 → (wbX12_sail_15 post M1 )) ∧ (¬ r2 = 0 → (wpX12_isFactory (fun M4 r5 => (¬ r5 = 0 → (vp_in p0 8 ∧ ((¬ (M4 124 0 p0.toNatClampNeg) = 0 → (wbX12_sail_35 post M4 )) ∧ ((M4 124 0 p0.toNatClampNeg) = 0 → ((¬ (M4 125 0 p0.toNatClampNeg) = 0 → ((¬ (M4 64 0 31) = 99 → (wpX12_leave (fun M11 r12 => wbX12_sail_58 post M11 r12) M4 p0 p1)) ∧ ((M4 64 0 31) = 99 → (wbX12_sail_58 post M4 ((-4)))))) ∧ ((M4 125 0 p0.toNatClampNeg) = 0 → (wbX12_sail_35 post M4 ))))))) ∧ (r5 = 0 → (wbX12_sail_15 post M4 ))) M1 p1))) M p0
set_option maxHeartbeats 4000000 in
set_option maxRecDepth 100000 in
theorem bX12_sail_15 {p : Program} {e : Env} {s : State} {m : MethodId} {args : Array Value} {below : List Frame} {meth : Method} {c : Code} {post : tq_St → Int32 → Prop} (C : tq_At p s m meth c args cX12_sail 3 ((some .int)) ((tq_ws yX12_sail cX12_sail 3 (some .int))) RX12 D cy z ad)  : ∀ (M : tq_St)  (H : Heap) (locs : List Loc) (ls : Array Slot), wbX12_sail_15 post   M  → tq_wd D cy z H0 ad N (tq_mix S M) H → va_S (fun q => z ≤ q) s.heap H locs → lv_has ls 3 [] → W p l e (tq_rm 2 74) s m args below meth c H locs 0 0 (MQ below (va_Qi (fun r u => post u r) (tq_P D cy z H0 ad N S) (fun q => z ≤ q)) args s 0 0 (fun q => z ≤ q)) (F0 m 15 ls []) := by
  obtain ⟨hx, hb, hr, hml, hown, hts, hlocks, hK, hG⟩ := id C
  have hw : ∀ w ∈ tq_W, w.before args s = true := fun w h => hts w (List.mem_cons_of_mem _ h)
  intro M  H locs ls h hW hS hl
  unfold wbX12_sail_15 at h
  refine lv_iconst (v := (-1)) hx hb dX12_sail_15 (by decide) ?_
  exact W.iret (v := (-1)) hx hb hr (fun t ht hWm => ⟨⟨_, M, rfl, h, tq_pe ht hW⟩, hS.F ht⟩) hS.2.2 dX12_sail_16
set_option maxHeartbeats 4000000 in
set_option maxRecDepth 100000 in
theorem bX12_sail_35 {p : Program} {e : Env} {s : State} {m : MethodId} {args : Array Value} {below : List Frame} {meth : Method} {c : Code} {post : tq_St → Int32 → Prop} (C : tq_At p s m meth c args cX12_sail 3 ((some .int)) ((tq_ws yX12_sail cX12_sail 3 (some .int))) RX12 D cy z ad)  : ∀ (M : tq_St)  (H : Heap) (locs : List Loc) (ls : Array Slot), wbX12_sail_35 post   M  → tq_wd D cy z H0 ad N (tq_mix S M) H → va_S (fun q => z ≤ q) s.heap H locs → lv_has ls 3 [] → W p l e (tq_rm 2 74) s m args below meth c H locs 0 0 (MQ below (va_Qi (fun r u => post u r) (tq_P D cy z H0 ad N S) (fun q => z ≤ q)) args s 0 0 (fun q => z ≤ q)) (F0 m 35 ls []) := by
  obtain ⟨hx, hb, hr, hml, hown, hts, hlocks, hK, hG⟩ := id C
  have hw : ∀ w ∈ tq_W, w.before args s = true := fun w h => hts w (List.mem_cons_of_mem _ h)
  intro M  H locs ls h hW hS hl
  unfold wbX12_sail_35 at h
  refine lv_bipush (v := (-3)) hx hb dX12_sail_35 (by decide) ?_
  exact W.iret (v := (-3)) hx hb hr (fun t ht hWm => ⟨⟨_, M, rfl, h, tq_pe ht hW⟩, hS.F ht⟩) hS.2.2 dX12_sail_37
set_option maxHeartbeats 4000000 in
set_option maxRecDepth 100000 in
theorem bX12_sail_58 {p : Program} {e : Env} {s : State} {m : MethodId} {args : Array Value} {below : List Frame} {meth : Method} {c : Code} {post : tq_St → Int32 → Prop} (C : tq_At p s m meth c args cX12_sail 3 ((some .int)) ((tq_ws yX12_sail cX12_sail 3 (some .int))) RX12 D cy z ad)  : ∀ (M : tq_St) (y0 : Int32) (H : Heap) (locs : List Loc) (ls : Array Slot), wbX12_sail_58 post   M y0 → tq_wd D cy z H0 ad N (tq_mix S M) H → va_S (fun q => z ≤ q) s.heap H locs → lv_has ls 3 [] → W p l e (tq_rm 2 74) s m args below meth c H locs 0 0 (MQ below (va_Qi (fun r u => post u r) (tq_P D cy z H0 ad N S) (fun q => z ≤ q)) args s 0 0 (fun q => z ≤ q)) (F0 m 58 ls [.int y0]) := by
  obtain ⟨hx, hb, hr, hml, hown, hts, hlocks, hK, hG⟩ := id C
  have hw : ∀ w ∈ tq_W, w.before args s = true := fun w h => hts w (List.mem_cons_of_mem _ h)
  intro M y0 H locs ls h hW hS hl
  unfold wbX12_sail_58 at h
  exact W.iret (v := y0) hx hb hr (fun t ht hWm => ⟨⟨_, M, rfl, h, tq_pe ht hW⟩, hS.F ht⟩) hS.2.2 dX12_sail_58
set_option maxHeartbeats 4000000 in
set_option maxRecDepth 100000 in
theorem kX12_sail {post : tq_St → Int32 → Prop} {M : tq_St} {p0 : Int32} {p1 : Int32} (h : wpX12_sail post M p0 p1) : tq_mI l yX12_sail (tq_ws yX12_sail cX12_sail 3 (some .int)) 2 74 D cy z H0 ad N S M [.ref (ad 64 0), .int p0, .int p1] post := by
  unfold wpX12_sail at h
  refine Met.ofW (cc := cX12_sail) (maxL := 3) (ret := (some .int)) (by decide) rfl ?_
  intro p e s m args below meth c s₁ B hml hv
  obtain ⟨rfl, hW, hK, hG⟩ := hv
  have hx := B.exec
  have hb := B.bytes
  have hr := B.returns
  have hts := atoms_spec (ws := (tq_ws yX12_sail cX12_sail 3 (some .int))) B.pre
  have hw : ∀ w ∈ tq_W, w.before _ s = true := fun w h => hts w (List.mem_cons_of_mem _ h)
  have hown : s.vm.findClass RX12 = some m.cls := findClass_of_methodNamed B.named
  have hlocks := B.notSynchronized
  have C : tq_At p s m meth c [.ref (ad 64 0), .int p0, .int p1].toArray cX12_sail 3 ((some .int)) ((tq_ws yX12_sail cX12_sail 3 (some .int))) RX12 D cy z ad := ⟨hx, hb, hr, hml, hown, hts, hlocks, hK, hG⟩
  have hS : va_S (fun q => z ≤ q) s.heap s.heap [] := va_S.rf
  have hl := lv_entry ([.ref (ad 64 0), .int p0, .int p1]) (n := 3) (Nat.le_of_ble_eq_true rfl)
  rw [lg_entry_eq]
  generalize (lg_sl ([.ref (ad 64 0), .int p0, .int p1]) ++ List.replicate (3 - (lg_sl ([.ref (ad 64 0), .int p0, .int p1])).length) Slot.unset).toArray = ls at hl ⊢
  have hl : lv_has ls 3 [(0, .ref (ad 64 0)), (1, .int p0), (2, .int p1)] := hl
  have hW : tq_wd D cy z H0 ad N (tq_mix S M) s.heap := hW
  refine lv_aload_n hx hb dX12_sail_0 rfl (lv_at hl 0 rfl) ?_
  refine lv_iload_n hx hb dX12_sail_1 rfl (lv_at hl 1 rfl) ?_
  refine tq_callVi (As := [.int p0]) (rest := []) (kX12_isShip h) ⟨hx, hb, hml, hown, hts⟩ (cwV 1 hts (tq_goodV tw_1775 tw_1777 tw_69 tw_125 tw_1778) rfl rfl rfl (by decide +kernel) ⟨Nat.le_of_ble_eq_true rfl, Nat.le_of_ble_eq_true rfl⟩) hK hG hW hS rfl hl.1 rfl (Nat.le_of_ble_eq_true rfl) dX12_sail_2 ⟨Nat.le_of_ble_eq_true rfl, Nat.le_of_ble_eq_true rfl⟩ (fun r2 M1 H locs h hW hS => ?_)
  refine lv_if_eq (tgt := 15) hx hb dX12_sail_5 (by decide) (fun c3 => ?_) (fun c3 => ?_)
  · have h := h.1 c3
    exact bX12_sail_15 C  _  _ _ _ h hW hS (lv_sub hl [] rfl)
  · have h := h.2 c3
    refine lv_iload_n hx hb dX12_sail_8 rfl (lv_at hl 2 rfl) ?_
    refine tq_callSi (As := [.int p1]) (rest := []) (kX12_isFactory h) ⟨hx, hb, hml, hown, hts⟩ (va_cwS 1 hts (tq_goodS tw_1645 tw_1646 tw_125 tw_1647) rfl rfl rfl (by decide +kernel) ⟨Nat.le_of_ble_eq_true rfl, Nat.le_of_ble_eq_true rfl⟩) hK hG hW hS rfl hl.1 rfl (Nat.le_of_ble_eq_true rfl) dX12_sail_9 ⟨Nat.le_of_ble_eq_true rfl, Nat.le_of_ble_eq_true rfl⟩ (fun r5 M4 H locs h hW hS => ?_)
    refine lv_if_ne (tgt := 17) hx hb dX12_sail_12 (by decide) (fun c6 => ?_) (fun c6 => ?_)
    · have h := h.1 c6
      refine lv_aload_n hx hb dX12_sail_17 rfl (lv_at hl 0 rfl) ?_
      refine tqm_get (v := .ref (ad 124 0)) hx hb hw tq_inX12 hown hK hW (by decide) (tq_mk_64 (by decide)) rfl 24 (by decide) (hw _ tw_1432) (fun _ h9 => h9) rfl dX12_sail_18 ?_
      refine lv_iload_n hx hb dX12_sail_21 rfl (lv_at hl 1 rfl) ?_
      obtain ⟨b7, h⟩ := h
      refine tqm_iald (jn := p0.toNatClampNeg) hx hb hK hW (by decide) (tq_mk_124 (by decide)) b7 rfl dX12_sail_22 ?_
      refine lv_if_ne (tgt := 35) hx hb dX12_sail_23 (by decide) (fun c8 => ?_) (fun c8 => ?_)
      · have h := h.1 c8
        exact bX12_sail_35 C  _  _ _ _ h hW hS (lv_sub hl [] rfl)
      · have h := h.2 c8
        refine lv_aload_n hx hb dX12_sail_26 rfl (lv_at hl 0 rfl) ?_
        refine tqm_get (v := .ref (ad 125 0)) hx hb hw tq_inX12 hown hK hW (by decide) (tq_mk_64 (by decide)) rfl 25 (by decide) (hw _ tw_1433) (fun _ h9 => h9) rfl dX12_sail_27 ?_
        refine lv_iload_n hx hb dX12_sail_30 rfl (lv_at hl 1 rfl) ?_
        refine tqm_zald (jn := p0.toNatClampNeg) hx hb hK hW (by decide) (tq_mk_125 (by decide)) b7 rfl dX12_sail_31 ?_
        refine lv_if_ne (tgt := 38) hx hb dX12_sail_32 (by decide) (fun c9 => ?_) (fun c9 => ?_)
        · have h := h.1 c9
          refine lv_aload_n hx hb dX12_sail_38 rfl (lv_at hl 0 rfl) ?_
          refine tqm_get (v := .int (M4 64 0 31)) hx hb hw tq_inX12 hown hK hW (by decide) (tq_mk_64 (by decide)) rfl 31 (by decide) (hw _ tw_1439) (fun _ h9 => h9) rfl dX12_sail_39 ?_
          refine lv_bipush (v := 99) hx hb dX12_sail_42 (by decide) ?_
          refine lv_icmp_ne (tgt := 52) hx hb dX12_sail_44 (by decide) (fun c10 => ?_) (fun c10 => ?_)
          · have h := h.1 c10
            refine lv_aload_n hx hb dX12_sail_52 rfl (lv_at hl 0 rfl) ?_
            refine lv_iload_n hx hb dX12_sail_53 rfl (lv_at hl 1 rfl) ?_
            refine lv_iload_n hx hb dX12_sail_54 rfl (lv_at hl 2 rfl) ?_
            refine tq_callVi (As := [.int p0, .int p1]) (rest := []) (kX12_leave h) ⟨hx, hb, hml, hown, hts⟩ (cwV 2 hts (tq_goodV tw_1873 tw_1875 tw_83 tw_125 tw_1876) rfl rfl rfl (by decide +kernel) ⟨Nat.le_of_ble_eq_true rfl, Nat.le_of_ble_eq_true rfl⟩) hK hG hW hS rfl hl.1 rfl (Nat.le_of_ble_eq_true rfl) dX12_sail_55 ⟨Nat.le_of_ble_eq_true rfl, Nat.le_of_ble_eq_true rfl⟩ (fun r12 M11 H locs h hW hS => ?_)
            exact bX12_sail_58 C  _ _ _ _ _ h hW hS (lv_sub hl [] rfl)
          · have h := h.2 c10
            refine lv_bipush (v := (-4)) hx hb dX12_sail_47 (by decide) ?_
            refine lv_goto (tgt := 58) hx hb dX12_sail_49 (by decide) ?_
            exact bX12_sail_58 C  _ _ _ _ _ h hW hS (lv_sub hl [] rfl)
        · have h := h.2 c9
          exact bX12_sail_35 C  _  _ _ _ h hW hS (lv_sub hl [] rfl)
    · have h := h.2 c6
      exact bX12_sail_15 C  _  _ _ _ h hW hS (lv_sub hl [] rfl)
-- isVoyage
def wpX12_isVoyage (post : tq_St → Int32 → Prop) (M : tq_St) (p0 : Int32) : Prop :=
  wpX12_in (fun M1 r2 => narrow .boolean (.int r2) = .int r2 ∧ post M1 r2) M p0 0 ((M 64 0 31) - 1)
set_option maxHeartbeats 4000000 in
set_option maxRecDepth 100000 in
theorem kX12_isVoyage {post : tq_St → Int32 → Prop} {M : tq_St} {p0 : Int32} (h : wpX12_isVoyage post M p0) : tq_mI l yX12_isVoyage (tq_ws yX12_isVoyage cX12_isVoyage 2 (some .boolean)) 1 22 D cy z H0 ad N S M [.ref (ad 64 0), .int p0] post := by
  unfold wpX12_isVoyage at h
  refine Met.ofW (cc := cX12_isVoyage) (maxL := 2) (ret := (some .boolean)) (by decide) rfl ?_
  intro p e s m args below meth c s₁ B hml hv
  obtain ⟨rfl, hW, hK, hG⟩ := hv
  have hx := B.exec
  have hb := B.bytes
  have hr := B.returns
  have hts := atoms_spec (ws := (tq_ws yX12_isVoyage cX12_isVoyage 2 (some .boolean))) B.pre
  have hw : ∀ w ∈ tq_W, w.before _ s = true := fun w h => hts w (List.mem_cons_of_mem _ h)
  have hown : s.vm.findClass RX12 = some m.cls := findClass_of_methodNamed B.named
  have hlocks := B.notSynchronized
  have C : tq_At p s m meth c [.ref (ad 64 0), .int p0].toArray cX12_isVoyage 2 ((some .boolean)) ((tq_ws yX12_isVoyage cX12_isVoyage 2 (some .boolean))) RX12 D cy z ad := ⟨hx, hb, hr, hml, hown, hts, hlocks, hK, hG⟩
  have hS : va_S (fun q => z ≤ q) s.heap s.heap [] := va_S.rf
  have hl := lv_entry ([.ref (ad 64 0), .int p0]) (n := 2) (Nat.le_of_ble_eq_true rfl)
  rw [lg_entry_eq]
  generalize (lg_sl ([.ref (ad 64 0), .int p0]) ++ List.replicate (2 - (lg_sl ([.ref (ad 64 0), .int p0])).length) Slot.unset).toArray = ls at hl ⊢
  have hl : lv_has ls 2 [(0, .ref (ad 64 0)), (1, .int p0)] := hl
  have hW : tq_wd D cy z H0 ad N (tq_mix S M) s.heap := hW
  refine lv_iload_n hx hb dX12_isVoyage_0 rfl (lv_at hl 1 rfl) ?_
  refine lv_iconst (v := 0) hx hb dX12_isVoyage_1 (by decide) ?_
  refine lv_aload_n hx hb dX12_isVoyage_2 rfl (lv_at hl 0 rfl) ?_
  refine tqm_get (v := .int (M 64 0 31)) hx hb hw tq_inX12 hown hK hW (by decide) (tq_mk_64 (by decide)) rfl 31 (by decide) (hw _ tw_1439) (fun _ h9 => h9) rfl dX12_isVoyage_3 ?_
  refine lv_iconst (v := 1) hx hb dX12_isVoyage_6 (by decide) ?_
  refine lv_isub hx hb dX12_isVoyage_7 ?_
  refine tq_callSi (As := [.int p0, .int 0, .int ((M 64 0 31) - 1)]) (rest := []) (kX12_in h) ⟨hx, hb, hml, hown, hts⟩ (va_cwS 3 hts (tq_goodS tw_1648 tw_1649 tw_125 tw_1650) rfl rfl rfl (by decide +kernel) ⟨Nat.le_of_ble_eq_true rfl, Nat.le_of_ble_eq_true rfl⟩) hK hG hW hS rfl hl.1 rfl (Nat.le_of_ble_eq_true rfl) dX12_isVoyage_8 ⟨Nat.le_of_ble_eq_true rfl, Nat.le_of_ble_eq_true rfl⟩ (fun r2 M1 H locs h hW hS => ?_)
  obtain ⟨b3, h⟩ := h
  exact W.zret (v := r2) hx hb hr b3 (fun t ht hWm => ⟨⟨_, M1, rfl, h, tq_pe ht hW⟩, hS.F ht⟩) hS.2.2 dX12_isVoyage_11
-- lose
def wbX12_lose_28 (post : tq_St → Int32 → Prop)  (M : tq_St) : Prop :=
  post M ((-3))
def wpX12_lose (post : tq_St → Int32 → Prop) (M : tq_St) (p0 : Int32) : Prop :=
  wpX12_isVoyage (fun M1 r2 => (¬ r2 = 0 → (vp_in p0 99 ∧ ((¬ (M1 138 0 p0.toNatClampNeg) = 0 → (wbX12_lose_28 post M1 )) ∧ ((M1 138 0 p0.toNatClampNeg) = 0 → (((M1 137 0 p0.toNatClampNeg) = 0 → (∀ M7, M7 = tq_up M1 137 0 p0.toNatClampNeg 1 → (post M7 1))) ∧ (¬ (M1 137 0 p0.toNatClampNeg) = 0 → (wbX12_lose_28 post M1 ))))))) ∧ (r2 = 0 → (post M1 ((-1))))) M p0
set_option maxHeartbeats 4000000 in
set_option maxRecDepth 100000 in
theorem bX12_lose_28 {p : Program} {e : Env} {s : State} {m : MethodId} {args : Array Value} {below : List Frame} {meth : Method} {c : Code} {post : tq_St → Int32 → Prop} (C : tq_At p s m meth c args cX12_lose 2 ((some .int)) ((tq_ws yX12_lose cX12_lose 2 (some .int))) RX12 D cy z ad)  : ∀ (M : tq_St)  (H : Heap) (locs : List Loc) (ls : Array Slot), wbX12_lose_28 post   M  → tq_wd D cy z H0 ad N (tq_mix S M) H → va_S (fun q => z ≤ q) s.heap H locs → lv_has ls 2 [] → W p l e (tq_rm 2 43) s m args below meth c H locs 0 0 (MQ below (va_Qi (fun r u => post u r) (tq_P D cy z H0 ad N S) (fun q => z ≤ q)) args s 0 0 (fun q => z ≤ q)) (F0 m 28 ls []) := by
  obtain ⟨hx, hb, hr, hml, hown, hts, hlocks, hK, hG⟩ := id C
  have hw : ∀ w ∈ tq_W, w.before args s = true := fun w h => hts w (List.mem_cons_of_mem _ h)
  intro M  H locs ls h hW hS hl
  unfold wbX12_lose_28 at h
  refine lv_bipush (v := (-3)) hx hb dX12_lose_28 (by decide) ?_
  exact W.iret (v := (-3)) hx hb hr (fun t ht hWm => ⟨⟨_, M, rfl, h, tq_pe ht hW⟩, hS.F ht⟩) hS.2.2 dX12_lose_30
set_option maxHeartbeats 4000000 in
set_option maxRecDepth 100000 in
theorem kX12_lose {post : tq_St → Int32 → Prop} {M : tq_St} {p0 : Int32} (h : wpX12_lose post M p0) : tq_mI l yX12_lose (tq_ws yX12_lose cX12_lose 2 (some .int)) 2 43 D cy z H0 ad N S M [.ref (ad 64 0), .int p0] post := by
  unfold wpX12_lose at h
  refine Met.ofW (cc := cX12_lose) (maxL := 2) (ret := (some .int)) (by decide) rfl ?_
  intro p e s m args below meth c s₁ B hml hv
  obtain ⟨rfl, hW, hK, hG⟩ := hv
  have hx := B.exec
  have hb := B.bytes
  have hr := B.returns
  have hts := atoms_spec (ws := (tq_ws yX12_lose cX12_lose 2 (some .int))) B.pre
  have hw : ∀ w ∈ tq_W, w.before _ s = true := fun w h => hts w (List.mem_cons_of_mem _ h)
  have hown : s.vm.findClass RX12 = some m.cls := findClass_of_methodNamed B.named
  have hlocks := B.notSynchronized
  have C : tq_At p s m meth c [.ref (ad 64 0), .int p0].toArray cX12_lose 2 ((some .int)) ((tq_ws yX12_lose cX12_lose 2 (some .int))) RX12 D cy z ad := ⟨hx, hb, hr, hml, hown, hts, hlocks, hK, hG⟩
  have hS : va_S (fun q => z ≤ q) s.heap s.heap [] := va_S.rf
  have hl := lv_entry ([.ref (ad 64 0), .int p0]) (n := 2) (Nat.le_of_ble_eq_true rfl)
  rw [lg_entry_eq]
  generalize (lg_sl ([.ref (ad 64 0), .int p0]) ++ List.replicate (2 - (lg_sl ([.ref (ad 64 0), .int p0])).length) Slot.unset).toArray = ls at hl ⊢
  have hl : lv_has ls 2 [(0, .ref (ad 64 0)), (1, .int p0)] := hl
  have hW : tq_wd D cy z H0 ad N (tq_mix S M) s.heap := hW
  refine lv_aload_n hx hb dX12_lose_0 rfl (lv_at hl 0 rfl) ?_
  refine lv_iload_n hx hb dX12_lose_1 rfl (lv_at hl 1 rfl) ?_
  refine tq_callVi (As := [.int p0]) (rest := []) (kX12_isVoyage h) ⟨hx, hb, hml, hown, hts⟩ (cwV 1 hts (tq_goodV tw_1881 tw_1883 tw_84 tw_125 tw_1884) rfl rfl rfl (by decide +kernel) ⟨Nat.le_of_ble_eq_true rfl, Nat.le_of_ble_eq_true rfl⟩) hK hG hW hS rfl hl.1 rfl (Nat.le_of_ble_eq_true rfl) dX12_lose_2 ⟨Nat.le_of_ble_eq_true rfl, Nat.le_of_ble_eq_true rfl⟩ (fun r2 M1 H locs h hW hS => ?_)
  refine lv_if_ne (tgt := 10) hx hb dX12_lose_5 (by decide) (fun c3 => ?_) (fun c3 => ?_)
  · have h := h.1 c3
    refine lv_aload_n hx hb dX12_lose_10 rfl (lv_at hl 0 rfl) ?_
    refine tqm_get (v := .ref (ad 138 0)) hx hb hw tq_inX12 hown hK hW (by decide) (tq_mk_64 (by decide)) rfl 38 (by decide) (hw _ tw_1446) (fun _ h9 => h9) rfl dX12_lose_11 ?_
    refine lv_iload_n hx hb dX12_lose_14 rfl (lv_at hl 1 rfl) ?_
    obtain ⟨b4, h⟩ := h
    refine tqm_iald (jn := p0.toNatClampNeg) hx hb hK hW (by decide) (tq_mk_138 (by decide)) b4 rfl dX12_lose_15 ?_
    refine lv_if_ne (tgt := 28) hx hb dX12_lose_16 (by decide) (fun c5 => ?_) (fun c5 => ?_)
    · have h := h.1 c5
      exact bX12_lose_28 C  _  _ _ _ h hW hS (lv_sub hl [] rfl)
    · have h := h.2 c5
      refine lv_aload_n hx hb dX12_lose_19 rfl (lv_at hl 0 rfl) ?_
      refine tqm_get (v := .ref (ad 137 0)) hx hb hw tq_inX12 hown hK hW (by decide) (tq_mk_64 (by decide)) rfl 37 (by decide) (hw _ tw_1445) (fun _ h9 => h9) rfl dX12_lose_20 ?_
      refine lv_iload_n hx hb dX12_lose_23 rfl (lv_at hl 1 rfl) ?_
      refine tqm_zald (jn := p0.toNatClampNeg) hx hb hK hW (by decide) (tq_mk_137 (by decide)) b4 rfl dX12_lose_24 ?_
      refine lv_if_eq (tgt := 31) hx hb dX12_lose_25 (by decide) (fun c6 => ?_) (fun c6 => ?_)
      · have h := h.1 c6
        refine lv_aload_n hx hb dX12_lose_31 rfl (lv_at hl 0 rfl) ?_
        refine tqm_get (v := .ref (ad 137 0)) hx hb hw tq_inX12 hown hK hW (by decide) (tq_mk_64 (by decide)) rfl 37 (by decide) (hw _ tw_1445) (fun _ h9 => h9) rfl dX12_lose_32 ?_
        refine lv_iload_n hx hb dX12_lose_35 rfl (lv_at hl 1 rfl) ?_
        refine lv_iconst (v := 1) hx hb dX12_lose_36 (by decide) ?_
        refine tqm_zast (jn := p0.toNatClampNeg) hx hb hK hW hS (by decide) (tq_mk_137 (by decide)) b4 rfl rfl (tq_mk_137 (by decide)) dX12_lose_37 (fun H locs hW hS => ?_)
        generalize eM7 : tq_up M1 137 0 p0.toNatClampNeg 1 = M7 at hW
        have h := h M7 eM7.symm
        refine lv_iconst (v := 1) hx hb dX12_lose_38 (by decide) ?_
        exact W.iret (v := 1) hx hb hr (fun t ht hWm => ⟨⟨_, M7, rfl, h, tq_pe ht hW⟩, hS.F ht⟩) hS.2.2 dX12_lose_39
      · have h := h.2 c6
        exact bX12_lose_28 C  _  _ _ _ h hW hS (lv_sub hl [] rfl)
  · have h := h.2 c3
    refine lv_iconst (v := (-1)) hx hb dX12_lose_8 (by decide) ?_
    exact W.iret (v := (-1)) hx hb hr (fun t ht hWm => ⟨⟨_, M1, rfl, h, tq_pe ht hW⟩, hS.F ht⟩) hS.2.2 dX12_lose_9
