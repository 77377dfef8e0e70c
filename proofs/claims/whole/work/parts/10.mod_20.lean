variable {l : Launch} {D : va_G} {cy : Nat → ClassId} {z : Nat} {H0 : Heap} {ad : Nat → Nat → Nat} {N : tq_Nn} {S : tq_St}
-- sale
def wbX12_sale_91 (post : tq_St → Int32 → Prop) (L42 : tq_St → Int32 → Int32 → Int32 → Int32 → Prop) (M : tq_St) (x1 : Int32) (x2 : Int32) (x3 : Int32) (x4 : Int32) (x5 : Int32) (y0 : Int32) : Prop :=
  vp_in x5 6 ∧ (vp_in x1 4 ∧ (∀ M22, M22 = tq_up M 151 x5.toNatClampNeg x1.toNatClampNeg ((M 151 x5.toNatClampNeg x1.toNatClampNeg) - 1) → (∀ M23, M23 = tq_up M22 102 0 x1.toNatClampNeg ((M22 102 0 x1.toNatClampNeg) - 1) → (∀ M24, M24 = tq_up M23 153 0 x5.toNatClampNeg ((M23 153 0 x5.toNatClampNeg) + 1) → (∀ M25, M25 = tq_up M24 154 0 x5.toNatClampNeg ((M24 154 0 x5.toNatClampNeg) + y0) → (L42 M25 x1 x2 (x3 + y0) (x4 + 1)))))))
def wbX12_sale_152 (post : tq_St → Int32 → Prop)  (M : tq_St) (x3 : Int32) : Prop :=
  ∀ M18, M18 = tq_up M 64 0 55 ((M 64 0 55) + x3) → (∀ M19, M19 = tq_up M18 101 0 0 ((M18 101 0 0) + x3) → (post M19 x3))
def wbX12_sale_42 (post : tq_St → Int32 → Prop) : Nat → tq_St → Int32 → Int32 → Int32 → Int32 → Prop
  | 0, _, _, _, _, _ => False
  | n + 1, M, x1, x2, x3, x4 =>
    (x2 ≤ x4 → (wbX12_sale_152 post M x3)) ∧ (¬ x2 ≤ x4 → (wpX12_greatest (fun M10 r11 => (0 ≤ r11 → (wpX12_greatest (fun M13 r14 => (0 ≤ r14 → (vp_in r14 6 ∧ (vp_in x1 4 ∧ (wbX12_sale_91 post  (wbX12_sale_42 post n) M13 x1 x2 x3 x4 r11 (M13 152 r14.toNatClampNeg x1.toNatClampNeg))))) ∧ (¬ 0 ≤ r14 → (wbX12_sale_91 post  (wbX12_sale_42 post n) M13 x1 x2 x3 x4 r11 0))) M10 x1 r11)) ∧ (¬ 0 ≤ r11 → (wbX12_sale_152 post M10 x3))) M x1 (-1)))
def wpX12_sale (post : tq_St → Int32 → Prop) (M : tq_St) (p0 : Int32) (p1 : Int32) : Prop :=
  wpX12_isSort (fun M1 r2 => (¬ r2 = 0 → (wpX12_in (fun M4 r5 => (¬ r5 = 0 → (vp_in p0 4 ∧ ((p1 ≤ (M4 102 0 p0.toNatClampNeg) → (∃ nq, wbX12_sale_42 post nq M4 p0 p1 0 0)) ∧ (¬ p1 ≤ (M4 102 0 p0.toNatClampNeg) → (post M4 ((-3))))))) ∧ (r5 = 0 → (post M4 ((-2))))) M1 p1 1 99)) ∧ (r2 = 0 → (post M1 ((-1))))) M p0
set_option maxHeartbeats 4000000 in
set_option maxRecDepth 100000 in
theorem bX12_sale_91 {p : Program} {e : Env} {s : State} {m : MethodId} {args : Array Value} {below : List Frame} {meth : Method} {c : Code} {post : tq_St → Int32 → Prop} (C : tq_At p s m meth c args cX12_sale 8 ((some .int)) ((tq_ws yX12_sale cX12_sale 8 (some .int))) RX12 D cy z ad) {L42 : tq_St → Int32 → Int32 → Int32 → Int32 → Prop} (hL42 : ∀ (M : tq_St) (x1 : Int32) (x2 : Int32) (x3 : Int32) (x4 : Int32) (H : Heap) (locs : List Loc) (ls : Array Slot), L42 M x1 x2 x3 x4 → tq_wd D cy z H0 ad N (tq_mix S M) H → va_S (fun q => z ≤ q) s.heap H locs → lv_has ls 8 [(0, .ref (ad 64 0)), (1, .int x1), (2, .int x2), (3, .int x3), (4, .int x4)] → W p l e (tq_rm 2 42) s m args below meth c H locs 0 0 (MQ below (va_Qi (fun r u => post u r) (tq_P D cy z H0 ad N S) (fun q => z ≤ q)) args s 0 0 (fun q => z ≤ q)) (F0 m 42 ls [])) : ∀ (M : tq_St) (x1 : Int32) (x2 : Int32) (x3 : Int32) (x4 : Int32) (x5 : Int32) (y0 : Int32) (H : Heap) (locs : List Loc) (ls : Array Slot), wbX12_sale_91 post  L42 M x1 x2 x3 x4 x5 y0 → tq_wd D cy z H0 ad N (tq_mix S M) H → va_S (fun q => z ≤ q) s.heap H locs → lv_has ls 8 [(0, .ref (ad 64 0)), (1, .int x1), (2, .int x2), (3, .int x3), (4, .int x4), (5, .int x5)] → W p l e (tq_rm 2 42) s m args below meth c H locs 0 0 (MQ below (va_Qi (fun r u => post u r) (tq_P D cy z H0 ad N S) (fun q => z ≤ q)) args s 0 0 (fun q => z ≤ q)) (F0 m 91 ls [.int y0]) := by
  obtain ⟨hx, hb, hr, hml, hown, hts, hlocks, hK, hG⟩ := id C
  have hw : ∀ w ∈ tq_W, w.before args s = true := fun w h => hts w (List.mem_cons_of_mem _ h)
  intro M x1 x2 x3 x4 x5 y0 H locs ls h hW hS hl
  unfold wbX12_sale_91 at h
  refine lv_istore (lv' := [(7, .int y0), (0, .ref (ad 64 0)), (1, .int x1), (2, .int x2), (3, .int x3), (4, .int x4), (5, .int x5)]) hx hb dX12_sale_91 hl (by decide) rfl (fun ls hl => ?_)
  refine lv_aload_n hx hb dX12_sale_93 rfl (lv_at hl 1 rfl) ?_
  refine tqm_get (v := .ref (ad 251 0)) hx hb hw tq_inX12 hown hK hW (by decide) (tq_mk_64 (by decide)) rfl 51 (by decide) (hw _ tw_1459) (fun _ h9 => h9) rfl dX12_sale_94 ?_
  refine lv_iload hx hb dX12_sale_97 (lv_at hl 6 rfl) ?_
  obtain ⟨b20, h⟩ := h
  refine tqm_aald (jn := x5.toNatClampNeg) (v := .ref (ad 151 x5.toNatClampNeg)) hx hb hK hW (by decide) (tq_mk_251 (by decide)) 2 rfl rfl b20 rfl rfl dX12_sale_99 ?_
  refine lv_iload_n hx hb dX12_sale_100 rfl (lv_at hl 2 rfl) ?_
  refine lv_dup2_11 hx hb dX12_sale_101 rfl rfl ?_
  obtain ⟨b21, h⟩ := h
  refine tqm_iald (jn := x1.toNatClampNeg) hx hb hK hW (by decide) (tq_mk_151 (tq_lt b20)) b21 rfl dX12_sale_102 ?_
  refine lv_iconst (v := 1) hx hb dX12_sale_103 (by decide) ?_
  refine lv_isub hx hb dX12_sale_104 ?_
  refine tqm_iast (jn := x1.toNatClampNeg) hx hb hK hW hS (by decide) (tq_mk_151 (tq_lt b20)) b21 rfl (tq_mk_151 (tq_lt b20)) dX12_sale_105 (fun H locs hW hS => ?_)
  generalize eM22 : tq_up M 151 x5.toNatClampNeg x1.toNatClampNeg ((M 151 x5.toNatClampNeg x1.toNatClampNeg) - 1) = M22 at hW
  have h := h M22 eM22.symm
  refine lv_aload_n hx hb dX12_sale_106 rfl (lv_at hl 1 rfl) ?_
  refine tqm_get (v := .ref (ad 202 0)) hx hb hw tq_inX12 hown hK hW (by decide) (tq_mk_64 (by decide)) rfl 2 (by decide) (hw _ tw_1410) (fun _ h9 => h9) rfl dX12_sale_107 ?_
  refine lv_iconst (v := 0) hx hb dX12_sale_110 (by decide) ?_
  refine tqm_aald (jn := 0) (v := .ref (ad 102 0)) hx hb hK hW (by decide) (tq_mk_202 (by decide)) 2 rfl rfl (by unfold vp_in; decide) (by decide) rfl dX12_sale_111 ?_
  refine lv_iload_n hx hb dX12_sale_112 rfl (lv_at hl 2 rfl) ?_
  refine lv_dup2_11 hx hb dX12_sale_113 rfl rfl ?_
  refine tqm_iald (jn := x1.toNatClampNeg) hx hb hK hW (by decide) (tq_mk_102 (by decide)) b21 rfl dX12_sale_114 ?_
  refine lv_iconst (v := 1) hx hb dX12_sale_115 (by decide) ?_
  refine lv_isub hx hb dX12_sale_116 ?_
  refine tqm_iast (jn := x1.toNatClampNeg) hx hb hK hW hS (by decide) (tq_mk_102 (by decide)) b21 rfl (tq_mk_102 (by decide)) dX12_sale_117 (fun H locs hW hS => ?_)
  generalize eM23 : tq_up M22 102 0 x1.toNatClampNeg ((M22 102 0 x1.toNatClampNeg) - 1) = M23 at hW
  have h := h M23 eM23.symm
  refine lv_aload_n hx hb dX12_sale_118 rfl (lv_at hl 1 rfl) ?_
  refine tqm_get (v := .ref (ad 153 0)) hx hb hw tq_inX12 hown hK hW (by decide) (tq_mk_64 (by decide)) rfl 53 (by decide) (hw _ tw_1461) (fun _ h9 => h9) rfl dX12_sale_119 ?_
  refine lv_iload hx hb dX12_sale_122 (lv_at hl 6 rfl) ?_
  refine lv_dup2_11 hx hb dX12_sale_124 rfl rfl ?_
  refine tqm_iald (jn := x5.toNatClampNeg) hx hb hK hW (by decide) (tq_mk_153 (by decide)) b20 rfl dX12_sale_125 ?_
  refine lv_iconst (v := 1) hx hb dX12_sale_126 (by decide) ?_
  refine lv_iadd hx hb dX12_sale_127 ?_
  refine tqm_iast (jn := x5.toNatClampNeg) hx hb hK hW hS (by decide) (tq_mk_153 (by decide)) b20 rfl (tq_mk_153 (by decide)) dX12_sale_128 (fun H locs hW hS => ?_)
  generalize eM24 : tq_up M23 153 0 x5.toNatClampNeg ((M23 153 0 x5.toNatClampNeg) + 1) = M24 at hW
  have h := h M24 eM24.symm
  refine lv_aload_n hx hb dX12_sale_129 rfl (lv_at hl 1 rfl) ?_
  refine tqm_get (v := .ref (ad 154 0)) hx hb hw tq_inX12 hown hK hW (by decide) (tq_mk_64 (by decide)) rfl 54 (by decide) (hw _ tw_1462) (fun _ h9 => h9) rfl dX12_sale_130 ?_
  refine lv_iload hx hb dX12_sale_133 (lv_at hl 6 rfl) ?_
  refine lv_dup2_11 hx hb dX12_sale_135 rfl rfl ?_
  refine tqm_iald (jn := x5.toNatClampNeg) hx hb hK hW (by decide) (tq_mk_154 (by decide)) b20 rfl dX12_sale_136 ?_
  refine lv_iload hx hb dX12_sale_137 (lv_at hl 0 rfl) ?_
  refine lv_iadd hx hb dX12_sale_139 ?_
  refine tqm_iast (jn := x5.toNatClampNeg) hx hb hK hW hS (by decide) (tq_mk_154 (by decide)) b20 rfl (tq_mk_154 (by decide)) dX12_sale_140 (fun H locs hW hS => ?_)
  generalize eM25 : tq_up M24 154 0 x5.toNatClampNeg ((M24 154 0 x5.toNatClampNeg) + y0) = M25 at hW
  have h := h M25 eM25.symm
  refine lv_iload_n hx hb dX12_sale_141 rfl (lv_at hl 4 rfl) ?_
  refine lv_iload hx hb dX12_sale_142 (lv_at hl 0 rfl) ?_
  refine lv_iadd hx hb dX12_sale_144 ?_
  refine lv_istore_n (lv' := [(3, .int (x3 + y0)), (7, .int y0), (0, .ref (ad 64 0)), (1, .int x1), (2, .int x2), (4, .int x4), (5, .int x5)]) hx hb dX12_sale_145 rfl hl (by decide) rfl (fun ls hl => ?_)
  refine lv_iinc (v := x4 + 1) (lv' := [(4, .int (x4 + 1)), (3, .int (x3 + y0)), (7, .int y0), (0, .ref (ad 64 0)), (1, .int x1), (2, .int x2), (5, .int x5)]) hx hb dX12_sale_146 hl (k := 5) rfl rfl (by decide) rfl (fun ls hl => ?_)
  refine lv_goto (tgt := 42) hx hb dX12_sale_149 (by decide) ?_
  exact hL42 _ _ _ _ _ _ _ _ h hW hS (lv_sub hl [3, 4, 5, 1, 0] rfl)
set_option maxHeartbeats 4000000 in
set_option maxRecDepth 100000 in
theorem bX12_sale_152 {p : Program} {e : Env} {s : State} {m : MethodId} {args : Array Value} {below : List Frame} {meth : Method} {c : Code} {post : tq_St → Int32 → Prop} (C : tq_At p s m meth c args cX12_sale 8 ((some .int)) ((tq_ws yX12_sale cX12_sale 8 (some .int))) RX12 D cy z ad)  : ∀ (M : tq_St) (x3 : Int32) (H : Heap) (locs : List Loc) (ls : Array Slot), wbX12_sale_152 post   M x3 → tq_wd D cy z H0 ad N (tq_mix S M) H → va_S (fun q => z ≤ q) s.heap H locs → lv_has ls 8 [(0, .ref (ad 64 0)), (3, .int x3)] → W p l e (tq_rm 2 42) s m args below meth c H locs 0 0 (MQ below (va_Qi (fun r u => post u r) (tq_P D cy z H0 ad N S) (fun q => z ≤ q)) args s 0 0 (fun q => z ≤ q)) (F0 m 152 ls []) := by
  obtain ⟨hx, hb, hr, hml, hown, hts, hlocks, hK, hG⟩ := id C
  have hw : ∀ w ∈ tq_W, w.before args s = true := fun w h => hts w (List.mem_cons_of_mem _ h)
  intro M x3 H locs ls h hW hS hl
  unfold wbX12_sale_152 at h
  refine lv_aload_n hx hb dX12_sale_152 rfl (lv_at hl 0 rfl) ?_
  refine lv_dup hx hb dX12_sale_153 rfl ?_
  refine tqm_get (v := .int (M 64 0 55)) hx hb hw tq_inX12 hown hK hW (by decide) (tq_mk_64 (by decide)) rfl 55 (by decide) (hw _ tw_1463) (fun _ h9 => h9) rfl dX12_sale_154 ?_
  refine lv_iload_n hx hb dX12_sale_157 rfl (lv_at hl 1 rfl) ?_
  refine lv_iadd hx hb dX12_sale_158 ?_
  refine tqm_put hx hb hw tq_inX12 tyX12 tyX12_ok nmX12 hown hK hW hS (by decide) (tq_mk_64 (by decide)) rfl 55 (by decide) (hw _ tw_1463) (fun _ h9 => h9) rfl rfl rfl rfl (tq_mk_64 (by decide)) dX12_sale_159 (fun H locs hW hS => ?_)
  generalize eM18 : tq_up M 64 0 55 ((M 64 0 55) + x3) = M18 at hW
  have h := h M18 eM18.symm
  refine lv_aload_n hx hb dX12_sale_162 rfl (lv_at hl 0 rfl) ?_
  refine tqm_get (v := .ref (ad 101 0)) hx hb hw tq_inX12 hown hK hW (by decide) (tq_mk_64 (by decide)) rfl 1 (by decide) (hw _ tw_1409) (fun _ h9 => h9) rfl dX12_sale_163 ?_
  refine lv_iconst (v := 0) hx hb dX12_sale_166 (by decide) ?_
  refine lv_dup2_11 hx hb dX12_sale_167 rfl rfl ?_
  refine tqm_iald (jn := 0) hx hb hK hW (by decide) (tq_mk_101 (by decide)) (by unfold vp_in; decide) (by decide) dX12_sale_168 ?_
  refine lv_iload_n hx hb dX12_sale_169 rfl (lv_at hl 1 rfl) ?_
  refine lv_iadd hx hb dX12_sale_170 ?_
  refine tqm_iast (jn := 0) hx hb hK hW hS (by decide) (tq_mk_101 (by decide)) (by unfold vp_in; decide) (by decide) (tq_mk_101 (by decide)) dX12_sale_171 (fun H locs hW hS => ?_)
  generalize eM19 : tq_up M18 101 0 0 ((M18 101 0 0) + x3) = M19 at hW
  have h := h M19 eM19.symm
  refine lv_iload_n hx hb dX12_sale_172 rfl (lv_at hl 1 rfl) ?_
  exact W.iret (v := x3) hx hb hr (fun t ht hWm => ⟨⟨_, M19, rfl, h, tq_pe ht hW⟩, hS.F ht⟩) hS.2.2 dX12_sale_173
set_option maxHeartbeats 4000000 in
set_option maxRecDepth 100000 in
theorem bX12_sale_42 {p : Program} {e : Env} {s : State} {m : MethodId} {args : Array Value} {below : List Frame} {meth : Method} {c : Code} {post : tq_St → Int32 → Prop} (C : tq_At p s m meth c args cX12_sale 8 ((some .int)) ((tq_ws yX12_sale cX12_sale 8 (some .int))) RX12 D cy z ad)  : ∀ n : Nat, ∀ (M : tq_St) (x1 : Int32) (x2 : Int32) (x3 : Int32) (x4 : Int32) (H : Heap) (locs : List Loc) (ls : Array Slot), wbX12_sale_42 post   n M x1 x2 x3 x4 → tq_wd D cy z H0 ad N (tq_mix S M) H → va_S (fun q => z ≤ q) s.heap H locs → lv_has ls 8 [(0, .ref (ad 64 0)), (1, .int x1), (2, .int x2), (3, .int x3), (4, .int x4)] → W p l e (tq_rm 2 42) s m args below meth c H locs 0 0 (MQ below (va_Qi (fun r u => post u r) (tq_P D cy z H0 ad N S) (fun q => z ≤ q)) args s 0 0 (fun q => z ≤ q)) (F0 m 42 ls []) := by
  obtain ⟨hx, hb, hr, hml, hown, hts, hlocks, hK, hG⟩ := id C
  have hw : ∀ w ∈ tq_W, w.before args s = true := fun w h => hts w (List.mem_cons_of_mem _ h)
  intro n
  induction n with
  | zero =>
    intro M x1 x2 x3 x4 H locs ls h
    exact absurd h (by unfold wbX12_sale_42; exact id)
  | succ n ih =>
    intro M x1 x2 x3 x4 H locs ls h hW hS hl
    unfold wbX12_sale_42 at h
    refine lv_iload hx hb dX12_sale_42 (lv_at hl 4 rfl) ?_
    refine lv_iload_n hx hb dX12_sale_44 rfl (lv_at hl 2 rfl) ?_
    refine lv_icmp_ge (tgt := 152) hx hb dX12_sale_45 (by decide) (fun c9 => ?_) (fun c9 => ?_)
    · have h := h.1 c9
      exact bX12_sale_152 C  _ _ _ _ _ h hW hS (lv_sub hl [0, 3] rfl)
    · have h := h.2 c9
      refine lv_aload_n hx hb dX12_sale_48 rfl (lv_at hl 0 rfl) ?_
      refine lv_iload_n hx hb dX12_sale_49 rfl (lv_at hl 1 rfl) ?_
      refine lv_iconst (v := (-1)) hx hb dX12_sale_50 (by decide) ?_
      refine tq_callVi (As := [.int x1, .int ((-1))]) (rest := []) (kX12_greatest h) ⟨hx, hb, hml, hown, hts⟩ (cwV 2 hts (tq_goodV tw_2042 tw_2044 tw_110 tw_125 tw_2045) rfl rfl rfl (by decide +kernel) ⟨Nat.le_of_ble_eq_true rfl, Nat.le_of_ble_eq_true rfl⟩) hK hG hW hS rfl hl.1 rfl (Nat.le_of_ble_eq_true rfl) dX12_sale_51 ⟨Nat.le_of_ble_eq_true rfl, Nat.le_of_ble_eq_true rfl⟩ (fun r11 M10 H locs h hW hS => ?_)
      refine lv_istore (lv' := [(5, .int r11), (0, .ref (ad 64 0)), (1, .int x1), (2, .int x2), (3, .int x3), (4, .int x4)]) hx hb dX12_sale_54 hl (by decide) rfl (fun ls hl => ?_)
      refine lv_iload hx hb dX12_sale_56 (lv_at hl 0 rfl) ?_
      refine lv_if_ge (tgt := 64) hx hb dX12_sale_58 (by decide) (fun c12 => ?_) (fun c12 => ?_)
      · have h := h.1 c12
        refine lv_aload_n hx hb dX12_sale_64 rfl (lv_at hl 1 rfl) ?_
        refine lv_iload_n hx hb dX12_sale_65 rfl (lv_at hl 2 rfl) ?_
        refine lv_iload hx hb dX12_sale_66 (lv_at hl 0 rfl) ?_
        refine tq_callVi (As := [.int x1, .int r11]) (rest := []) (kX12_greatest h) ⟨hx, hb, hml, hown, hts⟩ (cwV 2 hts (tq_goodV tw_2042 tw_2044 tw_110 tw_125 tw_2045) rfl rfl rfl (by decide +kernel) ⟨Nat.le_of_ble_eq_true rfl, Nat.le_of_ble_eq_true rfl⟩) hK hG hW hS rfl hl.1 rfl (Nat.le_of_ble_eq_true rfl) dX12_sale_68 ⟨Nat.le_of_ble_eq_true rfl, Nat.le_of_ble_eq_true rfl⟩ (fun r14 M13 H locs h hW hS => ?_)
        refine lv_istore (lv' := [(6, .int r14), (5, .int r11), (0, .ref (ad 64 0)), (1, .int x1), (2, .int x2), (3, .int x3), (4, .int x4)]) hx hb dX12_sale_71 hl (by decide) rfl (fun ls hl => ?_)
        refine lv_iload hx hb dX12_sale_73 (lv_at hl 0 rfl) ?_
        refine lv_if_ge (tgt := 82) hx hb dX12_sale_75 (by decide) (fun c15 => ?_) (fun c15 => ?_)
        · have h := h.1 c15
          refine lv_aload_n hx hb dX12_sale_82 rfl (lv_at hl 2 rfl) ?_
          refine tqm_get (v := .ref (ad 252 0)) hx hb hw tq_inX12 hown hK hW (by decide) (tq_mk_64 (by decide)) rfl 52 (by decide) (hw _ tw_1460) (fun _ h9 => h9) rfl dX12_sale_83 ?_
          refine lv_iload hx hb dX12_sale_86 (lv_at hl 0 rfl) ?_
          obtain ⟨b16, h⟩ := h
          refine tqm_aald (jn := r14.toNatClampNeg) (v := .ref (ad 152 r14.toNatClampNeg)) hx hb hK hW (by decide) (tq_mk_252 (by decide)) 2 rfl rfl b16 rfl rfl dX12_sale_88 ?_
          refine lv_iload_n hx hb dX12_sale_89 rfl (lv_at hl 3 rfl) ?_
          obtain ⟨b17, h⟩ := h
          refine tqm_iald (jn := x1.toNatClampNeg) hx hb hK hW (by decide) (tq_mk_152 (tq_lt b16)) b17 rfl dX12_sale_90 ?_
          exact bX12_sale_91 C (fun M9 a09 a19 a29 a39 H9 q9 ls9 h9 hW9 hS9 hl9 => ih M9 a09 a19 a29 a39 H9 q9 ls9 h9 hW9 hS9 hl9) _ _ _ _ _ _ _ _ _ _ h hW hS (lv_sub hl [2, 3, 4, 5, 6, 1] rfl)
        · have h := h.2 c15
          refine lv_iconst (v := 0) hx hb dX12_sale_78 (by decide) ?_
          refine lv_goto (tgt := 91) hx hb dX12_sale_79 (by decide) ?_
          exact bX12_sale_91 C (fun M9 a09 a19 a29 a39 H9 q9 ls9 h9 hW9 hS9 hl9 => ih M9 a09 a19 a29 a39 H9 q9 ls9 h9 hW9 hS9 hl9) _ _ _ _ _ _ _ _ _ _ h hW hS (lv_sub hl [2, 3, 4, 5, 6, 1] rfl)
      · have h := h.2 c12
        refine lv_goto (tgt := 152) hx hb dX12_sale_61 (by decide) ?_
        exact bX12_sale_152 C  _ _ _ _ _ h hW hS (lv_sub hl [1, 4] rfl)
set_option maxHeartbeats 4000000 in
set_option maxRecDepth 100000 in
theorem kX12_sale {post : tq_St → Int32 → Prop} {M : tq_St} {p0 : Int32} {p1 : Int32} (h : wpX12_sale post M p0 p1) : tq_mI l yX12_sale (tq_ws yX12_sale cX12_sale 8 (some .int)) 2 42 D cy z H0 ad N S M [.ref (ad 64 0), .int p0, .int p1] post := by
  unfold wpX12_sale at h
  refine Met.ofW (cc := cX12_sale) (maxL := 8) (ret := (some .int)) (by decide) rfl ?_
  intro p e s m args below meth c s₁ B hml hv
  obtain ⟨rfl, hW, hK, hG⟩ := hv
  have hx := B.exec
  have hb := B.bytes
  have hr := B.returns
  have hts := atoms_spec (ws := (tq_ws yX12_sale cX12_sale 8 (some .int))) B.pre
  have hw : ∀ w ∈ tq_W, w.before _ s = true := fun w h => hts w (List.mem_cons_of_mem _ h)
  have hown : s.vm.findClass RX12 = some m.cls := findClass_of_methodNamed B.named
  have hlocks := B.notSynchronized
  have C : tq_At p s m meth c [.ref (ad 64 0), .int p0, .int p1].toArray cX12_sale 8 ((some .int)) ((tq_ws yX12_sale cX12_sale 8 (some .int))) RX12 D cy z ad := ⟨hx, hb, hr, hml, hown, hts, hlocks, hK, hG⟩
  have hS : va_S (fun q => z ≤ q) s.heap s.heap [] := va_S.rf
  have hl := lv_entry ([.ref (ad 64 0), .int p0, .int p1]) (n := 8) (Nat.le_of_ble_eq_true rfl)
  rw [lg_entry_eq]
  generalize (lg_sl ([.ref (ad 64 0), .int p0, .int p1]) ++ List.replicate (8 - (lg_sl ([.ref (ad 64 0), .int p0, .int p1])).length) Slot.unset).toArray = ls at hl ⊢
  have hl : lv_has ls 8 [(0, .ref (ad 64 0)), (1, .int p0), (2, .int p1)] := hl
  have hW : tq_wd D cy z H0 ad N (tq_mix S M) s.heap := hW
  refine lv_iload_n hx hb dX12_sale_0 rfl (lv_at hl 1 rfl) ?_
  refine tq_callSi (As := [.int p0]) (rest := []) (kX12_isSort h) ⟨hx, hb, hml, hown, hts⟩ (va_cwS 1 hts (tq_goodS tw_1655 tw_1656 tw_125 tw_1657) rfl rfl rfl (by decide +kernel) ⟨Nat.le_of_ble_eq_true rfl, Nat.le_of_ble_eq_true rfl⟩) hK hG hW hS rfl hl.1 rfl (Nat.le_of_ble_eq_true rfl) dX12_sale_1 ⟨Nat.le_of_ble_eq_true rfl, Nat.le_of_ble_eq_true rfl⟩ (fun r2 M1 H locs h hW hS => ?_)
  refine lv_if_ne (tgt := 9) hx hb dX12_sale_4 (by decide) (fun c3 => ?_) (fun c3 => ?_)
  · have h := h.1 c3
    refine lv_iload_n hx hb dX12_sale_9 rfl (lv_at hl 2 rfl) ?_
    refine lv_iconst (v := 1) hx hb dX12_sale_10 (by decide) ?_
    refine lv_bipush (v := 99) hx hb dX12_sale_11 (by decide) ?_
    refine tq_callSi (As := [.int p1, .int 1, .int 99]) (rest := []) (kX12_in h) ⟨hx, hb, hml, hown, hts⟩ (va_cwS 3 hts (tq_goodS tw_1648 tw_1649 tw_125 tw_1650) rfl rfl rfl (by decide +kernel) ⟨Nat.le_of_ble_eq_true rfl, Nat.le_of_ble_eq_true rfl⟩) hK hG hW hS rfl hl.1 rfl (Nat.le_of_ble_eq_true rfl) dX12_sale_13 ⟨Nat.le_of_ble_eq_true rfl, Nat.le_of_ble_eq_true rfl⟩ (fun r5 M4 H locs h hW hS => ?_)
    refine lv_if_ne (tgt := 22) hx hb dX12_sale_16 (by decide) (fun c6 => ?_) (fun c6 => ?_)
    · have h := h.1 c6
      refine lv_aload_n hx hb dX12_sale_22 rfl (lv_at hl 0 rfl) ?_
      refine tqm_get (v := .ref (ad 202 0)) hx hb hw tq_inX12 hown hK hW (by decide) (tq_mk_64 (by decide)) rfl 2 (by decide) (hw _ tw_1410) (fun _ h9 => h9) rfl dX12_sale_23 ?_
      refine lv_iconst (v := 0) hx hb dX12_sale_26 (by decide) ?_
      refine tqm_aald (jn := 0) (v := .ref (ad 102 0)) hx hb hK hW (by decide) (tq_mk_202 (by decide)) 2 rfl rfl (by unfold vp_in; decide) (by decide) rfl dX12_sale_27 ?_
      refine lv_iload_n hx hb dX12_sale_28 rfl (lv_at hl 1 rfl) ?_
      obtain ⟨b7, h⟩ := h
      refine tqm_iald (jn := p0.toNatClampNeg) hx hb hK hW (by decide) (tq_mk_102 (by decide)) b7 rfl dX12_sale_29 ?_
      refine lv_iload_n hx hb dX12_sale_30 rfl (lv_at hl 2 rfl) ?_
      refine lv_icmp_ge (tgt := 37) hx hb dX12_sale_31 (by decide) (fun c8 => ?_) (fun c8 => ?_)
      · have h := h.1 c8
        refine lv_iconst (v := 0) hx hb dX12_sale_37 (by decide) ?_
        refine lv_istore_n (lv' := [(3, .int 0), (0, .ref (ad 64 0)), (1, .int p0), (2, .int p1)]) hx hb dX12_sale_38 rfl hl (by decide) rfl (fun ls hl => ?_)
        refine lv_iconst (v := 0) hx hb dX12_sale_39 (by decide) ?_
        refine lv_istore (lv' := [(4, .int 0), (3, .int 0), (0, .ref (ad 64 0)), (1, .int p0), (2, .int p1)]) hx hb dX12_sale_40 hl (by decide) rfl (fun ls hl => ?_)
        obtain ⟨nq, h⟩ := h
        exact bX12_sale_42 C  nq _ _ _ _ _ _ _ _ h hW hS (lv_sub hl [2, 3, 4, 1, 0] rfl)
      · have h := h.2 c8
        refine lv_bipush (v := (-3)) hx hb dX12_sale_34 (by decide) ?_
        exact W.iret (v := (-3)) hx hb hr (fun t ht hWm => ⟨⟨_, M4, rfl, h, tq_pe ht hW⟩, hS.F ht⟩) hS.2.2 dX12_sale_36
    · have h := h.2 c6
      refine lv_bipush (v := (-2)) hx hb dX12_sale_19 (by decide) ?_
      exact W.iret (v := (-2)) hx hb hr (fun t ht hWm => ⟨⟨_, M4, rfl, h, tq_pe ht hW⟩, hS.F ht⟩) hS.2.2 dX12_sale_21
  · have h := h.2 c3
    refine lv_iconst (v := (-1)) hx hb dX12_sale_7 (by decide) ?_
    exact W.iret (v := (-1)) hx hb hr (fun t ht hWm => ⟨⟨_, M1, rfl, h, tq_pe ht hW⟩, hS.F ht⟩) hS.2.2 dX12_sale_8
-- bought
def wbX12_bought_39 (post : tq_St → Int32 → Prop)  (M : tq_St) (y0 : Int32) : Prop :=
  post M y0
def wbX12_bought_38 (post : tq_St → Int32 → Prop)  (M : tq_St) : Prop :=
  wbX12_bought_39 post M ((-1))
def wpX12_bought (post : tq_St → Int32 → Prop) (M : tq_St) (p0 : Int32) (p1 : Int32) : Prop :=
  wpX12_isBuyer (fun M1 r2 => (r2 = 0 → (wbX12_bought_38 post M1 )) ∧ (¬ r2 = 0 → (wpX12_in (fun M4 r5 => (r5 = 0 → (wbX12_bought_38 post M4 )) ∧ (¬ r5 = 0 → ((¬ p1 = 0 → (vp_in p0 6 ∧ (wbX12_bought_39 post M4 (M4 154 0 p0.toNatClampNeg)))) ∧ (p1 = 0 → (vp_in p0 6 ∧ (wbX12_bought_39 post M4 (M4 153 0 p0.toNatClampNeg))))))) M1 p1 0 1))) M p0
set_option maxHeartbeats 4000000 in
set_option maxRecDepth 100000 in
theorem bX12_bought_39 {p : Program} {e : Env} {s : State} {m : MethodId} {args : Array Value} {below : List Frame} {meth : Method} {c : Code} {post : tq_St → Int32 → Prop} (C : tq_At p s m meth c args cX12_bought 3 ((some .int)) ((tq_ws yX12_bought cX12_bought 3 (some .int))) RX12 D cy z ad)  : ∀ (M : tq_St) (y0 : Int32) (H : Heap) (locs : List Loc) (ls : Array Slot), wbX12_bought_39 post   M y0 → tq_wd D cy z H0 ad N (tq_mix S M) H → va_S (fun q => z ≤ q) s.heap H locs → lv_has ls 3 [] → W p l e (tq_rm 2 42) s m args below meth c H locs 0 0 (MQ below (va_Qi (fun r u => post u r) (tq_P D cy z H0 ad N S) (fun q => z ≤ q)) args s 0 0 (fun q => z ≤ q)) (F0 m 39 ls [.int y0]) := by
  obtain ⟨hx, hb, hr, hml, hown, hts, hlocks, hK, hG⟩ := id C
  have hw : ∀ w ∈ tq_W, w.before args s = true := fun w h => hts w (List.mem_cons_of_mem _ h)
  intro M y0 H locs ls h hW hS hl
  unfold wbX12_bought_39 at h
  exact W.iret (v := y0) hx hb hr (fun t ht hWm => ⟨⟨_, M, rfl, h, tq_pe ht hW⟩, hS.F ht⟩) hS.2.2 dX12_bought_39
set_option maxHeartbeats 4000000 in
set_option maxRecDepth 100000 in
theorem bX12_bought_38 {p : Program} {e : Env} {s : State} {m : MethodId} {args : Array Value} {below : List Frame} {meth : Method} {c : Code} {post : tq_St → Int32 → Prop} (C : tq_At p s m meth c args cX12_bought 3 ((some .int)) ((tq_ws yX12_bought cX12_bought 3 (some .int))) RX12 D cy z ad)  : ∀ (M : tq_St)  (H : Heap) (locs : List Loc) (ls : Array Slot), wbX12_bought_38 post   M  → tq_wd D cy z H0 ad N (tq_mix S M) H → va_S (fun q => z ≤ q) s.heap H locs → lv_has ls 3 [] → W p l e (tq_rm 2 42) s m args below meth c H locs 0 0 (MQ below (va_Qi (fun r u => post u r) (tq_P D cy z H0 ad N S) (fun q => z ≤ q)) args s 0 0 (fun q => z ≤ q)) (F0 m 38 ls []) := by
  obtain ⟨hx, hb, hr, hml, hown, hts, hlocks, hK, hG⟩ := id C
  have hw : ∀ w ∈ tq_W, w.before args s = true := fun w h => hts w (List.mem_cons_of_mem _ h)
  intro M  H locs ls h hW hS hl
  unfold wbX12_bought_38 at h
  refine lv_iconst (v := (-1)) hx hb dX12_bought_38 (by decide) ?_
  exact bX12_bought_39 C  _ _ _ _ _ h hW hS (lv_sub hl [] rfl)
set_option maxHeartbeats 4000000 in
set_option maxRecDepth 100000 in
theorem kX12_bought {post : tq_St → Int32 → Prop} {M : tq_St} {p0 : Int32} {p1 : Int32} (h : wpX12_bought post M p0 p1) : tq_mI l yX12_bought (tq_ws yX12_bought cX12_bought 3 (some .int)) 2 42 D cy z H0 ad N S M [.ref (ad 64 0), .int p0, .int p1] post := by
  unfold wpX12_bought at h
  refine Met.ofW (cc := cX12_bought) (maxL := 3) (ret := (some .int)) (by decide) rfl ?_
  intro p e s m args below meth c s₁ B hml hv
  obtain ⟨rfl, hW, hK, hG⟩ := hv
  have hx := B.exec
  have hb := B.bytes
  have hr := B.returns
  have hts := atoms_spec (ws := (tq_ws yX12_bought cX12_bought 3 (some .int))) B.pre
  have hw : ∀ w ∈ tq_W, w.before _ s = true := fun w h => hts w (List.mem_cons_of_mem _ h)
  have hown : s.vm.findClass RX12 = some m.cls := findClass_of_methodNamed B.named
  have hlocks := B.notSynchronized
  have C : tq_At p s m meth c [.ref (ad 64 0), .int p0, .int p1].toArray cX12_bought 3 ((some .int)) ((tq_ws yX12_bought cX12_bought 3 (some .int))) RX12 D cy z ad := ⟨hx, hb, hr, hml, hown, hts, hlocks, hK, hG⟩
  have hS : va_S (fun q => z ≤ q) s.heap s.heap [] := va_S.rf
  have hl := lv_entry ([.ref (ad 64 0), .int p0, .int p1]) (n := 3) (Nat.le_of_ble_eq_true rfl)
  rw [lg_entry_eq]
  generalize (lg_sl ([.ref (ad 64 0), .int p0, .int p1]) ++ List.replicate (3 - (lg_sl ([.ref (ad 64 0), .int p0, .int p1])).length) Slot.unset).toArray = ls at hl ⊢
  have hl : lv_has ls 3 [(0, .ref (ad 64 0)), (1, .int p0), (2, .int p1)] := hl
  have hW : tq_wd D cy z H0 ad N (tq_mix S M) s.heap := hW
  refine lv_iload_n hx hb dX12_bought_0 rfl (lv_at hl 1 rfl) ?_
  refine tq_callSi (As := [.int p0]) (rest := []) (kX12_isBuyer h) ⟨hx, hb, hml, hown, hts⟩ (va_cwS 1 hts (tq_goodS tw_2035 tw_2036 tw_125 tw_2037) rfl rfl rfl (by decide +kernel) ⟨Nat.le_of_ble_eq_true rfl, Nat.le_of_ble_eq_true rfl⟩) hK hG hW hS rfl hl.1 rfl (Nat.le_of_ble_eq_true rfl) dX12_bought_1 ⟨Nat.le_of_ble_eq_true rfl, Nat.le_of_ble_eq_true rfl⟩ (fun r2 M1 H locs h hW hS => ?_)
  refine lv_if_eq (tgt := 38) hx hb dX12_bought_4 (by decide) (fun c3 => ?_) (fun c3 => ?_)
  · have h := h.1 c3
    exact bX12_bought_38 C  _  _ _ _ h hW hS (lv_sub hl [] rfl)
  · have h := h.2 c3
    refine lv_iload_n hx hb dX12_bought_7 rfl (lv_at hl 2 rfl) ?_
    refine lv_iconst (v := 0) hx hb dX12_bought_8 (by decide) ?_
    refine lv_iconst (v := 1) hx hb dX12_bought_9 (by decide) ?_
    refine tq_callSi (As := [.int p1, .int 0, .int 1]) (rest := []) (kX12_in h) ⟨hx, hb, hml, hown, hts⟩ (va_cwS 3 hts (tq_goodS tw_1648 tw_1649 tw_125 tw_1650) rfl rfl rfl (by decide +kernel) ⟨Nat.le_of_ble_eq_true rfl, Nat.le_of_ble_eq_true rfl⟩) hK hG hW hS rfl hl.1 rfl (Nat.le_of_ble_eq_true rfl) dX12_bought_10 ⟨Nat.le_of_ble_eq_true rfl, Nat.le_of_ble_eq_true rfl⟩ (fun r5 M4 H locs h hW hS => ?_)
    refine lv_if_eq (tgt := 38) hx hb dX12_bought_13 (by decide) (fun c6 => ?_) (fun c6 => ?_)
    · have h := h.1 c6
      exact bX12_bought_38 C  _  _ _ _ h hW hS (lv_sub hl [] rfl)
    · have h := h.2 c6
      refine lv_iload_n hx hb dX12_bought_16 rfl (lv_at hl 2 rfl) ?_
      refine lv_if_ne (tgt := 29) hx hb dX12_bought_17 (by decide) (fun c7 => ?_) (fun c7 => ?_)
      · have h := h.1 c7
        refine lv_aload_n hx hb dX12_bought_29 rfl (lv_at hl 0 rfl) ?_
        refine tqm_get (v := .ref (ad 154 0)) hx hb hw tq_inX12 hown hK hW (by decide) (tq_mk_64 (by decide)) rfl 54 (by decide) (hw _ tw_1462) (fun _ h9 => h9) rfl dX12_bought_30 ?_
        refine lv_iload_n hx hb dX12_bought_33 rfl (lv_at hl 1 rfl) ?_
        obtain ⟨b8, h⟩ := h
        refine tqm_iald (jn := p0.toNatClampNeg) hx hb hK hW (by decide) (tq_mk_154 (by decide)) b8 rfl dX12_bought_34 ?_
        refine lv_goto (tgt := 39) hx hb dX12_bought_35 (by decide) ?_
        exact bX12_bought_39 C  _ _ _ _ _ h hW hS (lv_sub hl [] rfl)
      · have h := h.2 c7
        refine lv_aload_n hx hb dX12_bought_20 rfl (lv_at hl 0 rfl) ?_
        refine tqm_get (v := .ref (ad 153 0)) hx hb hw tq_inX12 hown hK hW (by decide) (tq_mk_64 (by decide)) rfl 53 (by decide) (hw _ tw_1461) (fun _ h9 => h9) rfl dX12_bought_21 ?_
        refine lv_iload_n hx hb dX12_bought_24 rfl (lv_at hl 1 rfl) ?_
        obtain ⟨b9, h⟩ := h
        refine tqm_iald (jn := p0.toNatClampNeg) hx hb hK hW (by decide) (tq_mk_153 (by decide)) b9 rfl dX12_bought_25 ?_
        refine lv_goto (tgt := 39) hx hb dX12_bought_26 (by decide) ?_
        exact bX12_bought_39 C  _ _ _ _ _ h hW hS (lv_sub hl [] rfl)
-- shares
def wbX12_shares_20 (post : tq_St → Int32 → Prop)  (M : tq_St) : Prop :=
  post M ((-1))
def wbX12_shares_41 (post : tq_St → Int32 → Prop)  (M : tq_St) : Prop :=
  post M ((-2))
def wpX12_shares (post : tq_St → Int32 → Prop) (M : tq_St) (p0 : Int32) (p1 : Int32) (p2 : Int32) : Prop :=
  wpX12_in (fun M1 r2 => (r2 = 0 → (wbX12_shares_20 post M1 )) ∧ (¬ r2 = 0 → (wpX12_in (fun M4 r5 => (¬ r5 = 0 → ((p0 = p1 → (wbX12_shares_41 post M4 )) ∧ (¬ p0 = p1 → (vp_in p0 8 ∧ (wpX12_in (fun M9 r10 => (¬ r10 = 0 → (∀ M12, M12 = tq_up M9 156 0 p0.toNatClampNeg ((M9 156 0 p0.toNatClampNeg) - p2) → (vp_in p1 8 ∧ (∀ M14, M14 = tq_up M12 156 0 p1.toNatClampNeg ((M12 156 0 p1.toNatClampNeg) + p2) → (post M14 (M14 156 0 p1.toNatClampNeg)))))) ∧ (r10 = 0 → (wbX12_shares_41 post M9 ))) M4 p2 1 (M4 156 0 p0.toNatClampNeg)))))) ∧ (r5 = 0 → (wbX12_shares_20 post M4 ))) M1 p1 0 7))) M p0 0 7
set_option maxHeartbeats 4000000 in
set_option maxRecDepth 100000 in
theorem bX12_shares_20 {p : Program} {e : Env} {s : State} {m : MethodId} {args : Array Value} {below : List Frame} {meth : Method} {c : Code} {post : tq_St → Int32 → Prop} (C : tq_At p s m meth c args cX12_shares 4 ((some .int)) ((tq_ws yX12_shares cX12_shares 4 (some .int))) RX12 D cy z ad)  : ∀ (M : tq_St)  (H : Heap) (locs : List Loc) (ls : Array Slot), wbX12_shares_20 post   M  → tq_wd D cy z H0 ad N (tq_mix S M) H → va_S (fun q => z ≤ q) s.heap H locs → lv_has ls 4 [] → W p l e (tq_rm 1 22) s m args below meth c H locs 0 0 (MQ below (va_Qi (fun r u => post u r) (tq_P D cy z H0 ad N S) (fun q => z ≤ q)) args s 0 0 (fun q => z ≤ q)) (F0 m 20 ls []) := by
  obtain ⟨hx, hb, hr, hml, hown, hts, hlocks, hK, hG⟩ := id C
  have hw : ∀ w ∈ tq_W, w.before args s = true := fun w h => hts w (List.mem_cons_of_mem _ h)
  intro M  H locs ls h hW hS hl
  unfold wbX12_shares_20 at h
  refine lv_iconst (v := (-1)) hx hb dX12_shares_20 (by decide) ?_
  exact W.iret (v := (-1)) hx hb hr (fun t ht hWm => ⟨⟨_, M, rfl, h, tq_pe ht hW⟩, hS.F ht⟩) hS.2.2 dX12_shares_21
set_option maxHeartbeats 4000000 in
set_option maxRecDepth 100000 in
theorem bX12_shares_41 {p : Program} {e : Env} {s : State} {m : MethodId} {args : Array Value} {below : List Frame} {meth : Method} {c : Code} {post : tq_St → Int32 → Prop} (C : tq_At p s m meth c args cX12_shares 4 ((some .int)) ((tq_ws yX12_shares cX12_shares 4 (some .int))) RX12 D cy z ad)  : ∀ (M : tq_St)  (H : Heap) (locs : List Loc) (ls : Array Slot), wbX12_shares_41 post   M  → tq_wd D cy z H0 ad N (tq_mix S M) H → va_S (fun q => z ≤ q) s.heap H locs → lv_has ls 4 [] → W p l e (tq_rm 1 22) s m args below meth c H locs 0 0 (MQ below (va_Qi (fun r u => post u r) (tq_P D cy z H0 ad N S) (fun q => z ≤ q)) args s 0 0 (fun q => z ≤ q)) (F0 m 41 ls []) := by
  obtain ⟨hx, hb, hr, hml, hown, hts, hlocks, hK, hG⟩ := id C
  have hw : ∀ w ∈ tq_W, w.before args s = true := fun w h => hts w (List.mem_cons_of_mem _ h)
  intro M  H locs ls h hW hS hl
  unfold wbX12_shares_41 at h
  refine lv_bipush (v := (-2)) hx hb dX12_shares_41 (by decide) ?_
  exact W.iret (v := (-2)) hx hb hr (fun t ht hWm => ⟨⟨_, M, rfl, h, tq_pe ht hW⟩, hS.F ht⟩) hS.2.2 dX12_shares_43
set_option maxHeartbeats 4000000 in
set_option maxRecDepth 100000 in
theorem kX12_shares {post : tq_St → Int32 → Prop} {M : tq_St} {p0 : Int32} {p1 : Int32} {p2 : Int32} (h : wpX12_shares post M p0 p1 p2) : tq_mI l yX12_shares (tq_ws yX12_shares cX12_shares 4 (some .int)) 1 22 D cy z H0 ad N S M [.ref (ad 64 0), .int p0, .int p1, .int p2] post := by
  unfold wpX12_shares at h
  refine Met.ofW (cc := cX12_shares) (maxL := 4) (ret := (some .int)) (by decide) rfl ?_
  intro p e s m args below meth c s₁ B hml hv
  obtain ⟨rfl, hW, hK, hG⟩ := hv
  have hx := B.exec
  have hb := B.bytes
  have hr := B.returns
  have hts := atoms_spec (ws := (tq_ws yX12_shares cX12_shares 4 (some .int))) B.pre
  have hw : ∀ w ∈ tq_W, w.before _ s = true := fun w h => hts w (List.mem_cons_of_mem _ h)
  have hown : s.vm.findClass RX12 = some m.cls := findClass_of_methodNamed B.named
  have hlocks := B.notSynchronized
  have C : tq_At p s m meth c [.ref (ad 64 0), .int p0, .int p1, .int p2].toArray cX12_shares 4 ((some .int)) ((tq_ws yX12_shares cX12_shares 4 (some .int))) RX12 D cy z ad := ⟨hx, hb, hr, hml, hown, hts, hlocks, hK, hG⟩
  have hS : va_S (fun q => z ≤ q) s.heap s.heap [] := va_S.rf
  have hl := lv_entry ([.ref (ad 64 0), .int p0, .int p1, .int p2]) (n := 4) (Nat.le_of_ble_eq_true rfl)
  rw [lg_entry_eq]
  generalize (lg_sl ([.ref (ad 64 0), .int p0, .int p1, .int p2]) ++ List.replicate (4 - (lg_sl ([.ref (ad 64 0), .int p0, .int p1, .int p2])).length) Slot.unset).toArray = ls at hl ⊢
  have hl : lv_has ls 4 [(0, .ref (ad 64 0)), (1, .int p0), (2, .int p1), (3, .int p2)] := hl
  have hW : tq_wd D cy z H0 ad N (tq_mix S M) s.heap := hW
  refine lv_iload_n hx hb dX12_shares_0 rfl (lv_at hl 1 rfl) ?_
  refine lv_iconst (v := 0) hx hb dX12_shares_1 (by decide) ?_
  refine lv_bipush (v := 7) hx hb dX12_shares_2 (by decide) ?_
  refine tq_callSi (As := [.int p0, .int 0, .int 7]) (rest := []) (kX12_in h) ⟨hx, hb, hml, hown, hts⟩ (va_cwS 3 hts (tq_goodS tw_1648 tw_1649 tw_125 tw_1650) rfl rfl rfl (by decide +kernel) ⟨Nat.le_of_ble_eq_true rfl, Nat.le_of_ble_eq_true rfl⟩) hK hG hW hS rfl hl.1 rfl (Nat.le_of_ble_eq_true rfl) dX12_shares_4 ⟨Nat.le_of_ble_eq_true rfl, Nat.le_of_ble_eq_true rfl⟩ (fun r2 M1 H locs h hW hS => ?_)
  refine lv_if_eq (tgt := 20) hx hb dX12_shares_7 (by decide) (fun c3 => ?_) (fun c3 => ?_)
  · have h := h.1 c3
    exact bX12_shares_20 C  _  _ _ _ h hW hS (lv_sub hl [] rfl)
  · have h := h.2 c3
    refine lv_iload_n hx hb dX12_shares_10 rfl (lv_at hl 2 rfl) ?_
    refine lv_iconst (v := 0) hx hb dX12_shares_11 (by decide) ?_
    refine lv_bipush (v := 7) hx hb dX12_shares_12 (by decide) ?_
    refine tq_callSi (As := [.int p1, .int 0, .int 7]) (rest := []) (kX12_in h) ⟨hx, hb, hml, hown, hts⟩ (va_cwS 3 hts (tq_goodS tw_1648 tw_1649 tw_125 tw_1650) rfl rfl rfl (by decide +kernel) ⟨Nat.le_of_ble_eq_true rfl, Nat.le_of_ble_eq_true rfl⟩) hK hG hW hS rfl hl.1 rfl (Nat.le_of_ble_eq_true rfl) dX12_shares_14 ⟨Nat.le_of_ble_eq_true rfl, Nat.le_of_ble_eq_true rfl⟩ (fun r5 M4 H locs h hW hS => ?_)
    refine lv_if_ne (tgt := 22) hx hb dX12_shares_17 (by decide) (fun c6 => ?_) (fun c6 => ?_)
    · have h := h.1 c6
      refine lv_iload_n hx hb dX12_shares_22 rfl (lv_at hl 1 rfl) ?_
      refine lv_iload_n hx hb dX12_shares_23 rfl (lv_at hl 2 rfl) ?_
      refine lv_icmp_eq (tgt := 41) hx hb dX12_shares_24 (by decide) (fun c7 => ?_) (fun c7 => ?_)
      · have h := h.1 c7
        exact bX12_shares_41 C  _  _ _ _ h hW hS (lv_sub hl [] rfl)
      · have h := h.2 c7
        refine lv_iload_n hx hb dX12_shares_27 rfl (lv_at hl 3 rfl) ?_
        refine lv_iconst (v := 1) hx hb dX12_shares_28 (by decide) ?_
        refine lv_aload_n hx hb dX12_shares_29 rfl (lv_at hl 0 rfl) ?_
        refine tqm_get (v := .ref (ad 156 0)) hx hb hw tq_inX12 hown hK hW (by decide) (tq_mk_64 (by decide)) rfl 56 (by decide) (hw _ tw_1464) (fun _ h9 => h9) rfl dX12_shares_30 ?_
        refine lv_iload_n hx hb dX12_shares_33 rfl (lv_at hl 1 rfl) ?_
        obtain ⟨b8, h⟩ := h
        refine tqm_iald (jn := p0.toNatClampNeg) hx hb hK hW (by decide) (tq_mk_156 (by decide)) b8 rfl dX12_shares_34 ?_
        refine tq_callSi (As := [.int p2, .int 1, .int (M4 156 0 p0.toNatClampNeg)]) (rest := []) (kX12_in h) ⟨hx, hb, hml, hown, hts⟩ (va_cwS 3 hts (tq_goodS tw_1648 tw_1649 tw_125 tw_1650) rfl rfl rfl (by decide +kernel) ⟨Nat.le_of_ble_eq_true rfl, Nat.le_of_ble_eq_true rfl⟩) hK hG hW hS rfl hl.1 rfl (Nat.le_of_ble_eq_true rfl) dX12_shares_35 ⟨Nat.le_of_ble_eq_true rfl, Nat.le_of_ble_eq_true rfl⟩ (fun r10 M9 H locs h hW hS => ?_)
        refine lv_if_ne (tgt := 44) hx hb dX12_shares_38 (by decide) (fun c11 => ?_) (fun c11 => ?_)
        · have h := h.1 c11
          refine lv_aload_n hx hb dX12_shares_44 rfl (lv_at hl 0 rfl) ?_
          refine tqm_get (v := .ref (ad 156 0)) hx hb hw tq_inX12 hown hK hW (by decide) (tq_mk_64 (by decide)) rfl 56 (by decide) (hw _ tw_1464) (fun _ h9 => h9) rfl dX12_shares_45 ?_
          refine lv_iload_n hx hb dX12_shares_48 rfl (lv_at hl 1 rfl) ?_
          refine lv_dup2_11 hx hb dX12_shares_49 rfl rfl ?_
          refine tqm_iald (jn := p0.toNatClampNeg) hx hb hK hW (by decide) (tq_mk_156 (by decide)) b8 rfl dX12_shares_50 ?_
          refine lv_iload_n hx hb dX12_shares_51 rfl (lv_at hl 3 rfl) ?_
          refine lv_isub hx hb dX12_shares_52 ?_
          refine tqm_iast (jn := p0.toNatClampNeg) hx hb hK hW hS (by decide) (tq_mk_156 (by decide)) b8 rfl (tq_mk_156 (by decide)) dX12_shares_53 (fun H locs hW hS => ?_)
          generalize eM12 : tq_up M9 156 0 p0.toNatClampNeg ((M9 156 0 p0.toNatClampNeg) - p2) = M12 at hW
          have h := h M12 eM12.symm
          refine lv_aload_n hx hb dX12_shares_54 rfl (lv_at hl 0 rfl) ?_
          refine tqm_get (v := .ref (ad 156 0)) hx hb hw tq_inX12 hown hK hW (by decide) (tq_mk_64 (by decide)) rfl 56 (by decide) (hw _ tw_1464) (fun _ h9 => h9) rfl dX12_shares_55 ?_
          refine lv_iload_n hx hb dX12_shares_58 rfl (lv_at hl 2 rfl) ?_
          refine lv_dup2_11 hx hb dX12_shares_59 rfl rfl ?_
          obtain ⟨b13, h⟩ := h
          refine tqm_iald (jn := p1.toNatClampNeg) hx hb hK hW (by decide) (tq_mk_156 (by decide)) b13 rfl dX12_shares_60 ?_
          refine lv_iload_n hx hb dX12_shares_61 rfl (lv_at hl 3 rfl) ?_
          refine lv_iadd hx hb dX12_shares_62 ?_
          refine tqm_iast (jn := p1.toNatClampNeg) hx hb hK hW hS (by decide) (tq_mk_156 (by decide)) b13 rfl (tq_mk_156 (by decide)) dX12_shares_63 (fun H locs hW hS => ?_)
          generalize eM14 : tq_up M12 156 0 p1.toNatClampNeg ((M12 156 0 p1.toNatClampNeg) + p2) = M14 at hW
          have h := h M14 eM14.symm
          refine lv_aload_n hx hb dX12_shares_64 rfl (lv_at hl 0 rfl) ?_
          refine tqm_get (v := .ref (ad 156 0)) hx hb hw tq_inX12 hown hK hW (by decide) (tq_mk_64 (by decide)) rfl 56 (by decide) (hw _ tw_1464) (fun _ h9 => h9) rfl dX12_shares_65 ?_
          refine lv_iload_n hx hb dX12_shares_68 rfl (lv_at hl 2 rfl) ?_
          refine tqm_iald (jn := p1.toNatClampNeg) hx hb hK hW (by decide) (tq_mk_156 (by decide)) b13 rfl dX12_shares_69 ?_
          exact W.iret (v := M14 156 0 p1.toNatClampNeg) hx hb hr (fun t ht hWm => ⟨⟨_, M14, rfl, h, tq_pe ht hW⟩, hS.F ht⟩) hS.2.2 dX12_shares_70
        · have h := h.2 c11
          exact bX12_shares_41 C  _  _ _ _ h hW hS (lv_sub hl [] rfl)
    · have h := h.2 c6
      exact bX12_shares_20 C  _  _ _ _ h hW hS (lv_sub hl [] rfl)
-- invoiced
def wbX12_invoiced_53 (post : tq_St → Int32 → Prop) (L2 : tq_St → Int32 → Int32 → Int32 → Prop) (M : tq_St) (x1 : Int32) (x2 : Int32) (x3 : Int32) : Prop :=
  L2 M x1 x2 (x3 + 1)
def wbX12_invoiced_2 (post : tq_St → Int32 → Prop) : Nat → tq_St → Int32 → Int32 → Int32 → Prop
  | 0, _, _, _, _ => False
  | n + 1, M, x1, x2, x3 =>
    ((M 64 0 9) ≤ x3 → (post M 0)) ∧ (¬ (M 64 0 9) ≤ x3 → (vp_in x3 150 ∧ ((¬ (M 110 0 x3.toNatClampNeg) = 4 → (wbX12_invoiced_53 post  (wbX12_invoiced_2 post n) M x1 x2 x3)) ∧ ((M 110 0 x3.toNatClampNeg) = 4 → ((¬ (M 111 0 x3.toNatClampNeg) = x1 → (wbX12_invoiced_53 post  (wbX12_invoiced_2 post n) M x1 x2 x3)) ∧ ((M 111 0 x3.toNatClampNeg) = x1 → (((M 112 0 x3.toNatClampNeg) < x2 → (wbX12_invoiced_53 post  (wbX12_invoiced_2 post n) M x1 x2 x3)) ∧ (¬ (M 112 0 x3.toNatClampNeg) < x2 → (((M 115 x3.toNatClampNeg 0) < 0 → (wbX12_invoiced_53 post  (wbX12_invoiced_2 post n) M x1 x2 x3)) ∧ (¬ (M 115 x3.toNatClampNeg 0) < 0 → (post M 1)))))))))))
def wpX12_invoiced (post : tq_St → Int32 → Prop) (M : tq_St) (p0 : Int32) (p1 : Int32) : Prop :=
  ∃ nq, wbX12_invoiced_2 post nq M p0 p1 0
set_option maxHeartbeats 4000000 in
set_option maxRecDepth 100000 in
theorem bX12_invoiced_53 {p : Program} {e : Env} {s : State} {m : MethodId} {args : Array Value} {below : List Frame} {meth : Method} {c : Code} {post : tq_St → Int32 → Prop} (C : tq_At p s m meth c args cX12_invoiced 4 ((some .boolean)) ((tq_ws yX12_invoiced cX12_invoiced 4 (some .boolean))) RX12 D cy z ad) {L2 : tq_St → Int32 → Int32 → Int32 → Prop} (hL2 : ∀ (M : tq_St) (x1 : Int32) (x2 : Int32) (x3 : Int32) (H : Heap) (locs : List Loc) (ls : Array Slot), L2 M x1 x2 x3 → tq_wd D cy z H0 ad N (tq_mix S M) H → va_S (fun q => z ≤ q) s.heap H locs → lv_has ls 4 [(0, .ref (ad 64 0)), (1, .int x1), (2, .int x2), (3, .int x3)] → W p l e (tq_rm 0 0) s m args below meth c H locs 0 0 (MQ below (va_Qi (fun r u => post u r) (tq_P D cy z H0 ad N S) (fun q => z ≤ q)) args s 0 0 (fun q => z ≤ q)) (F0 m 2 ls [])) : ∀ (M : tq_St) (x1 : Int32) (x2 : Int32) (x3 : Int32) (H : Heap) (locs : List Loc) (ls : Array Slot), wbX12_invoiced_53 post  L2 M x1 x2 x3 → tq_wd D cy z H0 ad N (tq_mix S M) H → va_S (fun q => z ≤ q) s.heap H locs → lv_has ls 4 [(0, .ref (ad 64 0)), (1, .int x1), (2, .int x2), (3, .int x3)] → W p l e (tq_rm 0 0) s m args below meth c H locs 0 0 (MQ below (va_Qi (fun r u => post u r) (tq_P D cy z H0 ad N S) (fun q => z ≤ q)) args s 0 0 (fun q => z ≤ q)) (F0 m 53 ls []) := by
  obtain ⟨hx, hb, hr, hml, hown, hts, hlocks, hK, hG⟩ := id C
  have hw : ∀ w ∈ tq_W, w.before args s = true := fun w h => hts w (List.mem_cons_of_mem _ h)
  intro M x1 x2 x3 H locs ls h hW hS hl
  unfold wbX12_invoiced_53 at h
  refine lv_iinc (v := x3 + 1) (lv' := [(3, .int (x3 + 1)), (0, .ref (ad 64 0)), (1, .int x1), (2, .int x2)]) hx hb dX12_invoiced_53 hl (k := 3) rfl rfl (by decide) rfl (fun ls hl => ?_)
  refine lv_goto (tgt := 2) hx hb dX12_invoiced_56 (by decide) ?_
  exact hL2 _ _ _ _ _ _ _ h hW hS (lv_sub hl [1, 2, 3, 0] rfl)
set_option maxHeartbeats 4000000 in
set_option maxRecDepth 100000 in
theorem bX12_invoiced_2 {p : Program} {e : Env} {s : State} {m : MethodId} {args : Array Value} {below : List Frame} {meth : Method} {c : Code} {post : tq_St → Int32 → Prop} (C : tq_At p s m meth c args cX12_invoiced 4 ((some .boolean)) ((tq_ws yX12_invoiced cX12_invoiced 4 (some .boolean))) RX12 D cy z ad)  : ∀ n : Nat, ∀ (M : tq_St) (x1 : Int32) (x2 : Int32) (x3 : Int32) (H : Heap) (locs : List Loc) (ls : Array Slot), wbX12_invoiced_2 post   n M x1 x2 x3 → tq_wd D cy z H0 ad N (tq_mix S M) H → va_S (fun q => z ≤ q) s.heap H locs → lv_has ls 4 [(0, .ref (ad 64 0)), (1, .int x1), (2, .int x2), (3, .int x3)] → W p l e (tq_rm 0 0) s m args below meth c H locs 0 0 (MQ below (va_Qi (fun r u => post u r) (tq_P D cy z H0 ad N S) (fun q => z ≤ q)) args s 0 0 (fun q => z ≤ q)) (F0 m 2 ls []) := by
  obtain ⟨hx, hb, hr, hml, hown, hts, hlocks, hK, hG⟩ := id C
  have hw : ∀ w ∈ tq_W, w.before args s = true := fun w h => hts w (List.mem_cons_of_mem _ h)
  intro n
  induction n with
  | zero =>
    intro M x1 x2 x3 H locs ls h
    exact absurd h (by unfold wbX12_invoiced_2; exact id)
  | succ n ih =>
    intro M x1 x2 x3 H locs ls h hW hS hl
    unfold wbX12_invoiced_2 at h
    refine lv_iload_n hx hb dX12_invoiced_2 rfl (lv_at hl 3 rfl) ?_
    refine lv_aload_n hx hb dX12_invoiced_3 rfl (lv_at hl 0 rfl) ?_
    refine tqm_get (v := .int (M 64 0 9)) hx hb hw tq_inX12 hown hK hW (by decide) (tq_mk_64 (by decide)) rfl 9 (by decide) (hw _ tw_1417) (fun _ h9 => h9) rfl dX12_invoiced_4 ?_
    refine lv_icmp_ge (tgt := 59) hx hb dX12_invoiced_7 (by decide) (fun c1 => ?_) (fun c1 => ?_)
    · have h := h.1 c1
      refine lv_iconst (v := 0) hx hb dX12_invoiced_59 (by decide) ?_
      exact W.zret (v := 0) hx hb hr rfl (fun t ht hWm => ⟨⟨_, M, rfl, h, tq_pe ht hW⟩, hS.F ht⟩) hS.2.2 dX12_invoiced_60
    · have h := h.2 c1
      refine lv_aload_n hx hb dX12_invoiced_10 rfl (lv_at hl 0 rfl) ?_
      refine tqm_get (v := .ref (ad 110 0)) hx hb hw tq_inX12 hown hK hW (by decide) (tq_mk_64 (by decide)) rfl 10 (by decide) (hw _ tw_1418) (fun _ h9 => h9) rfl dX12_invoiced_11 ?_
      refine lv_iload_n hx hb dX12_invoiced_14 rfl (lv_at hl 3 rfl) ?_
      obtain ⟨b2, h⟩ := h
      refine tqm_iald (jn := x3.toNatClampNeg) hx hb hK hW (by decide) (tq_mk_110 (by decide)) b2 rfl dX12_invoiced_15 ?_
      refine lv_iconst (v := 4) hx hb dX12_invoiced_16 (by decide) ?_
      refine lv_icmp_ne (tgt := 53) hx hb dX12_invoiced_17 (by decide) (fun c3 => ?_) (fun c3 => ?_)
      · have h := h.1 c3
        exact bX12_invoiced_53 C (fun M9 a09 a19 a29 H9 q9 ls9 h9 hW9 hS9 hl9 => ih M9 a09 a19 a29 H9 q9 ls9 h9 hW9 hS9 hl9) _ _ _ _ _ _ _ h hW hS (lv_sub hl [0, 1, 2, 3] rfl)
      · have h := h.2 c3
        refine lv_aload_n hx hb dX12_invoiced_20 rfl (lv_at hl 0 rfl) ?_
        refine tqm_get (v := .ref (ad 111 0)) hx hb hw tq_inX12 hown hK hW (by decide) (tq_mk_64 (by decide)) rfl 11 (by decide) (hw _ tw_1419) (fun _ h9 => h9) rfl dX12_invoiced_21 ?_
        refine lv_iload_n hx hb dX12_invoiced_24 rfl (lv_at hl 3 rfl) ?_
        refine tqm_iald (jn := x3.toNatClampNeg) hx hb hK hW (by decide) (tq_mk_111 (by decide)) b2 rfl dX12_invoiced_25 ?_
        refine lv_iload_n hx hb dX12_invoiced_26 rfl (lv_at hl 1 rfl) ?_
        refine lv_icmp_ne (tgt := 53) hx hb dX12_invoiced_27 (by decide) (fun c4 => ?_) (fun c4 => ?_)
        · have h := h.1 c4
          exact bX12_invoiced_53 C (fun M9 a09 a19 a29 H9 q9 ls9 h9 hW9 hS9 hl9 => ih M9 a09 a19 a29 H9 q9 ls9 h9 hW9 hS9 hl9) _ _ _ _ _ _ _ h hW hS (lv_sub hl [0, 1, 2, 3] rfl)
        · have h := h.2 c4
          refine lv_aload_n hx hb dX12_invoiced_30 rfl (lv_at hl 0 rfl) ?_
          refine tqm_get (v := .ref (ad 112 0)) hx hb hw tq_inX12 hown hK hW (by decide) (tq_mk_64 (by decide)) rfl 12 (by decide) (hw _ tw_1420) (fun _ h9 => h9) rfl dX12_invoiced_31 ?_
          refine lv_iload_n hx hb dX12_invoiced_34 rfl (lv_at hl 3 rfl) ?_
          refine tqm_iald (jn := x3.toNatClampNeg) hx hb hK hW (by decide) (tq_mk_112 (by decide)) b2 rfl dX12_invoiced_35 ?_
          refine lv_iload_n hx hb dX12_invoiced_36 rfl (lv_at hl 2 rfl) ?_
          refine lv_icmp_lt (tgt := 53) hx hb dX12_invoiced_37 (by decide) (fun c5 => ?_) (fun c5 => ?_)
          · have h := h.1 c5
            exact bX12_invoiced_53 C (fun M9 a09 a19 a29 H9 q9 ls9 h9 hW9 hS9 hl9 => ih M9 a09 a19 a29 H9 q9 ls9 h9 hW9 hS9 hl9) _ _ _ _ _ _ _ h hW hS (lv_sub hl [0, 1, 2, 3] rfl)
          · have h := h.2 c5
            refine lv_aload_n hx hb dX12_invoiced_40 rfl (lv_at hl 0 rfl) ?_
            refine tqm_get (v := .ref (ad 215 0)) hx hb hw tq_inX12 hown hK hW (by decide) (tq_mk_64 (by decide)) rfl 15 (by decide) (hw _ tw_1423) (fun _ h9 => h9) rfl dX12_invoiced_41 ?_
            refine lv_iload_n hx hb dX12_invoiced_44 rfl (lv_at hl 3 rfl) ?_
            refine tqm_aald (jn := x3.toNatClampNeg) (v := .ref (ad 115 x3.toNatClampNeg)) hx hb hK hW (by decide) (tq_mk_215 (by decide)) 2 rfl rfl b2 rfl rfl dX12_invoiced_45 ?_
            refine lv_iconst (v := 0) hx hb dX12_invoiced_46 (by decide) ?_
            refine tqm_iald (jn := 0) hx hb hK hW (by decide) (tq_mk_115 (tq_lt b2)) (by unfold vp_in; decide) (by decide) dX12_invoiced_47 ?_
            refine lv_if_lt (tgt := 53) hx hb dX12_invoiced_48 (by decide) (fun c6 => ?_) (fun c6 => ?_)
            · have h := h.1 c6
              exact bX12_invoiced_53 C (fun M9 a09 a19 a29 H9 q9 ls9 h9 hW9 hS9 hl9 => ih M9 a09 a19 a29 H9 q9 ls9 h9 hW9 hS9 hl9) _ _ _ _ _ _ _ h hW hS (lv_sub hl [0, 1, 2, 3] rfl)
            · have h := h.2 c6
              refine lv_iconst (v := 1) hx hb dX12_invoiced_51 (by decide) ?_
              exact W.zret (v := 1) hx hb hr rfl (fun t ht hWm => ⟨⟨_, M, rfl, h, tq_pe ht hW⟩, hS.F ht⟩) hS.2.2 dX12_invoiced_52
set_option maxHeartbeats 4000000 in
set_option maxRecDepth 100000 in
theorem kX12_invoiced {post : tq_St → Int32 → Prop} {M : tq_St} {p0 : Int32} {p1 : Int32} (h : wpX12_invoiced post M p0 p1) : tq_mI l yX12_invoiced (tq_ws yX12_invoiced cX12_invoiced 4 (some .boolean)) 0 0 D cy z H0 ad N S M [.ref (ad 64 0), .int p0, .int p1] post := by
  unfold wpX12_invoiced at h
  refine Met.ofW (cc := cX12_invoiced) (maxL := 4) (ret := (some .boolean)) (by decide) rfl ?_
  intro p e s m args below meth c s₁ B hml hv
  obtain ⟨rfl, hW, hK, hG⟩ := hv
  have hx := B.exec
  have hb := B.bytes
  have hr := B.returns
  have hts := atoms_spec (ws := (tq_ws yX12_invoiced cX12_invoiced 4 (some .boolean))) B.pre
  have hw : ∀ w ∈ tq_W, w.before _ s = true := fun w h => hts w (List.mem_cons_of_mem _ h)
  have hown : s.vm.findClass RX12 = some m.cls := findClass_of_methodNamed B.named
  have hlocks := B.notSynchronized
  have C : tq_At p s m meth c [.ref (ad 64 0), .int p0, .int p1].toArray cX12_invoiced 4 ((some .boolean)) ((tq_ws yX12_invoiced cX12_invoiced 4 (some .boolean))) RX12 D cy z ad := ⟨hx, hb, hr, hml, hown, hts, hlocks, hK, hG⟩
  have hS : va_S (fun q => z ≤ q) s.heap s.heap [] := va_S.rf
  have hl := lv_entry ([.ref (ad 64 0), .int p0, .int p1]) (n := 4) (Nat.le_of_ble_eq_true rfl)
  rw [lg_entry_eq]
  generalize (lg_sl ([.ref (ad 64 0), .int p0, .int p1]) ++ List.replicate (4 - (lg_sl ([.ref (ad 64 0), .int p0, .int p1])).length) Slot.unset).toArray = ls at hl ⊢
  have hl : lv_has ls 4 [(0, .ref (ad 64 0)), (1, .int p0), (2, .int p1)] := hl
  have hW : tq_wd D cy z H0 ad N (tq_mix S M) s.heap := hW
  refine lv_iconst (v := 0) hx hb dX12_invoiced_0 (by decide) ?_
  refine lv_istore_n (lv' := [(3, .int 0), (0, .ref (ad 64 0)), (1, .int p0), (2, .int p1)]) hx hb dX12_invoiced_1 rfl hl (by decide) rfl (fun ls hl => ?_)
  obtain ⟨nq, h⟩ := h
  exact bX12_invoiced_2 C  nq _ _ _ _ _ _ _ h hW hS (lv_sub hl [1, 2, 3, 0] rfl)
