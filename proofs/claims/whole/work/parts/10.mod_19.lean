variable {l : Launch} {D : va_G} {cy : Nat → ClassId} {z : Nat} {H0 : Heap} {ad : Nat → Nat → Nat} {N : tq_Nn} {S : tq_St}
-- council
def wbX12_council_14 (post : tq_St → Int32 → Prop)  (M : tq_St) : Prop :=
  post M ((-1))
def wbX12_council_42 (post : tq_St → Int32 → Prop)  (M : tq_St) : Prop :=
  post M ((-2))
def wbX12_council_138 (post : tq_St → Int32 → Prop) (L109 : tq_St → Int32 → Int32 → Int32 → Int32 → Int32 → Int32 → Int32 → Prop) (M : tq_St) (x1 : Int32) (x2 : Int32) (x5 : Int32) (x6 : Int32) (x7 : Int32) (x8 : Int32) (x9 : Int32) : Prop :=
  L109 M x1 x2 x5 x6 x7 x8 (x9 + 1)
def wbX12_council_163 (post : tq_St → Int32 → Prop)  (M : tq_St) (x7 : Int32) : Prop :=
  post M x7
def wbX12_council_109 (post : tq_St → Int32 → Prop) : Nat → tq_St → Int32 → Int32 → Int32 → Int32 → Int32 → Int32 → Int32 → Prop
  | 0, _, _, _, _, _, _, _, _ => False
  | n + 1, M, x1, x2, x5, x6, x7, x8, x9 =>
    ((M 64 0 6) ≤ x9 → ((x6 ≤ 0 → (wbX12_council_163 post M x7)) ∧ (¬ x6 ≤ 0 → (wpX12_enter (fun M25 => wbX12_council_163 post M25 x7) M x1 5 x2 x6 x7 x8 (-1))))) ∧ (¬ (M 64 0 6) ≤ x9 → ((¬ ((x5 >>> (x9 &&& 31)) &&& 1) = 1 → (wbX12_council_138 post  (wbX12_council_109 post n) M x1 x2 x5 x6 x7 x8 x9)) ∧ (((x5 >>> (x9 &&& 31)) &&& 1) = 1 → (wpX12_write (fun M27 r28 => wbX12_council_138 post  (wbX12_council_109 post n) M27 x1 x2 x5 x6 x7 x8 x9) M 6 x1 0))))
def wpX12_council (post : tq_St → Int32 → Prop) (M : tq_St) (p0 : Int32) (p1 : Int32) (p2 : Int32) (p3 : Int32) (p4 : Int32) : Prop :=
  wpX12_isFactory (fun M1 r2 => (r2 = 0 → (wbX12_council_14 post M1 )) ∧ (¬ r2 = 0 → (wpX12_isSort (fun M4 r5 => (¬ r5 = 0 → (wpX12_in (fun M7 r8 => (r8 = 0 → (wbX12_council_42 post M7 )) ∧ (¬ r8 = 0 → (wpX12_sitting (fun M10 r11 => (((p3 ||| p4) &&& (r11 ^^^ ((-1)))) = 0 → (wpX12_carries (fun M13 r14 => (¬ r14 = 0 → (wpJ6_bitCount_0f7a4 (fun M16 r17 => ((((M13 64 0 9) + 1) + r17) ≤ 150 → (wpX12_buy (fun M19 r20 => wpX12_write (fun M21 r22 => ∃ nq, wbX12_council_109 post nq M21 p0 p1 p4 r20 (M19 64 0 73) r22 0) M19 3 p0 0) M16 p0 p1 p2 0)) ∧ (¬ (((M13 64 0 9) + 1) + r17) ≤ 150 → (post M16 ((-4))))) M13 p4)) ∧ (r14 = 0 → (post M13 ((-3))))) M10 p0 p3 p4)) ∧ (¬ ((p3 ||| p4) &&& (r11 ^^^ ((-1)))) = 0 → (wbX12_council_42 post M10 ))) M7 p0))) M4 p2 1 99)) ∧ (r5 = 0 → (wbX12_council_14 post M4 ))) M1 p1))) M p0
set_option maxHeartbeats 4000000 in
set_option maxRecDepth 100000 in
theorem bX12_council_14 {p : Program} {e : Env} {s : State} {m : MethodId} {args : Array Value} {below : List Frame} {meth : Method} {c : Code} {post : tq_St → Int32 → Prop} (C : tq_At p s m meth c args cX12_council 10 ((some .int)) ((tq_ws yX12_council cX12_council 10 (some .int))) RX12 D cy z ad)  : ∀ (M : tq_St)  (H : Heap) (locs : List Loc) (ls : Array Slot), wbX12_council_14 post   M  → tq_wd D cy z H0 ad N (tq_mix S M) H → va_S (fun q => z ≤ q) s.heap H locs → lv_has ls 10 [] → W p l e (tq_rm 3 67) s m args below meth c H locs 0 0 (MQ below (va_Qi (fun r u => post u r) (tq_P D cy z H0 ad N S) (fun q => z ≤ q)) args s 0 0 (fun q => z ≤ q)) (F0 m 14 ls []) := by
  obtain ⟨hx, hb, hr, hml, hown, hts, hlocks, hK, hG⟩ := id C
  have hw : ∀ w ∈ tq_W, w.before args s = true := fun w h => hts w (List.mem_cons_of_mem _ h)
  intro M  H locs ls h hW hS hl
  unfold wbX12_council_14 at h
  refine lv_iconst (v := (-1)) hx hb dX12_council_14 (by decide) ?_
  exact W.iret (v := (-1)) hx hb hr (fun t ht hWm => ⟨⟨_, M, rfl, h, tq_pe ht hW⟩, hS.F ht⟩) hS.2.2 dX12_council_15
set_option maxHeartbeats 4000000 in
set_option maxRecDepth 100000 in
theorem bX12_council_42 {p : Program} {e : Env} {s : State} {m : MethodId} {args : Array Value} {below : List Frame} {meth : Method} {c : Code} {post : tq_St → Int32 → Prop} (C : tq_At p s m meth c args cX12_council 10 ((some .int)) ((tq_ws yX12_council cX12_council 10 (some .int))) RX12 D cy z ad)  : ∀ (M : tq_St)  (H : Heap) (locs : List Loc) (ls : Array Slot), wbX12_council_42 post   M  → tq_wd D cy z H0 ad N (tq_mix S M) H → va_S (fun q => z ≤ q) s.heap H locs → lv_has ls 10 [] → W p l e (tq_rm 3 67) s m args below meth c H locs 0 0 (MQ below (va_Qi (fun r u => post u r) (tq_P D cy z H0 ad N S) (fun q => z ≤ q)) args s 0 0 (fun q => z ≤ q)) (F0 m 42 ls []) := by
  obtain ⟨hx, hb, hr, hml, hown, hts, hlocks, hK, hG⟩ := id C
  have hw : ∀ w ∈ tq_W, w.before args s = true := fun w h => hts w (List.mem_cons_of_mem _ h)
  intro M  H locs ls h hW hS hl
  unfold wbX12_council_42 at h
  refine lv_bipush (v := (-2)) hx hb dX12_council_42 (by decide) ?_
  exact W.iret (v := (-2)) hx hb hr (fun t ht hWm => ⟨⟨_, M, rfl, h, tq_pe ht hW⟩, hS.F ht⟩) hS.2.2 dX12_council_44
set_option maxHeartbeats 4000000 in
set_option maxRecDepth 100000 in
theorem bX12_council_138 {p : Program} {e : Env} {s : State} {m : MethodId} {args : Array Value} {below : List Frame} {meth : Method} {c : Code} {post : tq_St → Int32 → Prop} (C : tq_At p s m meth c args cX12_council 10 ((some .int)) ((tq_ws yX12_council cX12_council 10 (some .int))) RX12 D cy z ad) {L109 : tq_St → Int32 → Int32 → Int32 → Int32 → Int32 → Int32 → Int32 → Prop} (hL109 : ∀ (M : tq_St) (x1 : Int32) (x2 : Int32) (x5 : Int32) (x6 : Int32) (x7 : Int32) (x8 : Int32) (x9 : Int32) (H : Heap) (locs : List Loc) (ls : Array Slot), L109 M x1 x2 x5 x6 x7 x8 x9 → tq_wd D cy z H0 ad N (tq_mix S M) H → va_S (fun q => z ≤ q) s.heap H locs → lv_has ls 10 [(0, .ref (ad 64 0)), (1, .int x1), (2, .int x2), (5, .int x5), (6, .int x6), (7, .int x7), (8, .int x8), (9, .int x9)] → W p l e (tq_rm 3 67) s m args below meth c H locs 0 0 (MQ below (va_Qi (fun r u => post u r) (tq_P D cy z H0 ad N S) (fun q => z ≤ q)) args s 0 0 (fun q => z ≤ q)) (F0 m 109 ls [])) : ∀ (M : tq_St) (x1 : Int32) (x2 : Int32) (x5 : Int32) (x6 : Int32) (x7 : Int32) (x8 : Int32) (x9 : Int32) (H : Heap) (locs : List Loc) (ls : Array Slot), wbX12_council_138 post  L109 M x1 x2 x5 x6 x7 x8 x9 → tq_wd D cy z H0 ad N (tq_mix S M) H → va_S (fun q => z ≤ q) s.heap H locs → lv_has ls 10 [(0, .ref (ad 64 0)), (1, .int x1), (2, .int x2), (5, .int x5), (6, .int x6), (7, .int x7), (8, .int x8), (9, .int x9)] → W p l e (tq_rm 3 67) s m args below meth c H locs 0 0 (MQ below (va_Qi (fun r u => post u r) (tq_P D cy z H0 ad N S) (fun q => z ≤ q)) args s 0 0 (fun q => z ≤ q)) (F0 m 138 ls []) := by
  obtain ⟨hx, hb, hr, hml, hown, hts, hlocks, hK, hG⟩ := id C
  have hw : ∀ w ∈ tq_W, w.before args s = true := fun w h => hts w (List.mem_cons_of_mem _ h)
  intro M x1 x2 x5 x6 x7 x8 x9 H locs ls h hW hS hl
  unfold wbX12_council_138 at h
  refine lv_iinc (v := x9 + 1) (lv' := [(9, .int (x9 + 1)), (0, .ref (ad 64 0)), (1, .int x1), (2, .int x2), (5, .int x5), (6, .int x6), (7, .int x7), (8, .int x8)]) hx hb dX12_council_138 hl (k := 7) rfl rfl (by decide) rfl (fun ls hl => ?_)
  refine lv_goto (tgt := 109) hx hb dX12_council_141 (by decide) ?_
  exact hL109 _ _ _ _ _ _ _ _ _ _ _ h hW hS (lv_sub hl [1, 2, 3, 4, 5, 6, 7, 0] rfl)
set_option maxHeartbeats 4000000 in
set_option maxRecDepth 100000 in
theorem bX12_council_163 {p : Program} {e : Env} {s : State} {m : MethodId} {args : Array Value} {below : List Frame} {meth : Method} {c : Code} {post : tq_St → Int32 → Prop} (C : tq_At p s m meth c args cX12_council 10 ((some .int)) ((tq_ws yX12_council cX12_council 10 (some .int))) RX12 D cy z ad)  : ∀ (M : tq_St) (x7 : Int32) (H : Heap) (locs : List Loc) (ls : Array Slot), wbX12_council_163 post   M x7 → tq_wd D cy z H0 ad N (tq_mix S M) H → va_S (fun q => z ≤ q) s.heap H locs → lv_has ls 10 [(7, .int x7)] → W p l e (tq_rm 3 67) s m args below meth c H locs 0 0 (MQ below (va_Qi (fun r u => post u r) (tq_P D cy z H0 ad N S) (fun q => z ≤ q)) args s 0 0 (fun q => z ≤ q)) (F0 m 163 ls []) := by
  obtain ⟨hx, hb, hr, hml, hown, hts, hlocks, hK, hG⟩ := id C
  have hw : ∀ w ∈ tq_W, w.before args s = true := fun w h => hts w (List.mem_cons_of_mem _ h)
  intro M x7 H locs ls h hW hS hl
  unfold wbX12_council_163 at h
  refine lv_iload hx hb dX12_council_163 (lv_at hl 0 rfl) ?_
  exact W.iret (v := x7) hx hb hr (fun t ht hWm => ⟨⟨_, M, rfl, h, tq_pe ht hW⟩, hS.F ht⟩) hS.2.2 dX12_council_165
set_option maxHeartbeats 4000000 in
set_option maxRecDepth 100000 in
theorem bX12_council_109 {p : Program} {e : Env} {s : State} {m : MethodId} {args : Array Value} {below : List Frame} {meth : Method} {c : Code} {post : tq_St → Int32 → Prop} (C : tq_At p s m meth c args cX12_council 10 ((some .int)) ((tq_ws yX12_council cX12_council 10 (some .int))) RX12 D cy z ad)  : ∀ n : Nat, ∀ (M : tq_St) (x1 : Int32) (x2 : Int32) (x5 : Int32) (x6 : Int32) (x7 : Int32) (x8 : Int32) (x9 : Int32) (H : Heap) (locs : List Loc) (ls : Array Slot), wbX12_council_109 post   n M x1 x2 x5 x6 x7 x8 x9 → tq_wd D cy z H0 ad N (tq_mix S M) H → va_S (fun q => z ≤ q) s.heap H locs → lv_has ls 10 [(0, .ref (ad 64 0)), (1, .int x1), (2, .int x2), (5, .int x5), (6, .int x6), (7, .int x7), (8, .int x8), (9, .int x9)] → W p l e (tq_rm 3 67) s m args below meth c H locs 0 0 (MQ below (va_Qi (fun r u => post u r) (tq_P D cy z H0 ad N S) (fun q => z ≤ q)) args s 0 0 (fun q => z ≤ q)) (F0 m 109 ls []) := by
  obtain ⟨hx, hb, hr, hml, hown, hts, hlocks, hK, hG⟩ := id C
  have hw : ∀ w ∈ tq_W, w.before args s = true := fun w h => hts w (List.mem_cons_of_mem _ h)
  intro n
  induction n with
  | zero =>
    intro M x1 x2 x5 x6 x7 x8 x9 H locs ls h
    exact absurd h (by unfold wbX12_council_109; exact id)
  | succ n ih =>
    intro M x1 x2 x5 x6 x7 x8 x9 H locs ls h hW hS hl
    unfold wbX12_council_109 at h
    refine lv_iload hx hb dX12_council_109 (lv_at hl 7 rfl) ?_
    refine lv_aload_n hx hb dX12_council_111 rfl (lv_at hl 0 rfl) ?_
    refine tqm_get (v := .int (M 64 0 6)) hx hb hw tq_inX12 hown hK hW (by decide) (tq_mk_64 (by decide)) rfl 6 (by decide) (hw _ tw_1414) (fun _ h9 => h9) rfl dX12_council_112 ?_
    refine lv_icmp_ge (tgt := 144) hx hb dX12_council_115 (by decide) (fun c23 => ?_) (fun c23 => ?_)
    · have h := h.1 c23
      refine lv_iload hx hb dX12_council_144 (lv_at hl 4 rfl) ?_
      refine lv_if_le (tgt := 163) hx hb dX12_council_146 (by decide) (fun c24 => ?_) (fun c24 => ?_)
      · have h := h.1 c24
        exact bX12_council_163 C  _ _ _ _ _ h hW hS (lv_sub hl [5] rfl)
      · have h := h.2 c24
        refine lv_aload_n hx hb dX12_council_149 rfl (lv_at hl 0 rfl) ?_
        refine lv_iload_n hx hb dX12_council_150 rfl (lv_at hl 1 rfl) ?_
        refine lv_iconst (v := 5) hx hb dX12_council_151 (by decide) ?_
        refine lv_iload_n hx hb dX12_council_152 rfl (lv_at hl 2 rfl) ?_
        refine lv_iload hx hb dX12_council_153 (lv_at hl 4 rfl) ?_
        refine lv_iload hx hb dX12_council_155 (lv_at hl 5 rfl) ?_
        refine lv_iload hx hb dX12_council_157 (lv_at hl 6 rfl) ?_
        refine lv_iconst (v := (-1)) hx hb dX12_council_159 (by decide) ?_
        refine tq_callVv (As := [.int x1, .int 5, .int x2, .int x6, .int x7, .int x8, .int ((-1))]) (rest := []) (kX12_enter h) ⟨hx, hb, hml, hown, hts⟩ (cwV 7 hts (tq_goodV tw_1959 tw_1961 tw_98 tw_125 tw_1962) rfl rfl rfl (by decide +kernel) ⟨Nat.le_of_ble_eq_true rfl, Nat.le_of_ble_eq_true rfl⟩) hK hG hW hS rfl hl.1 rfl (Nat.le_of_ble_eq_true rfl) dX12_council_160 ⟨Nat.le_of_ble_eq_true rfl, Nat.le_of_ble_eq_true rfl⟩ (fun M25 H locs h hW hS => ?_)
        exact bX12_council_163 C  _ _ _ _ _ h hW hS (lv_sub hl [5] rfl)
    · have h := h.2 c23
      refine lv_iload hx hb dX12_council_118 (lv_at hl 3 rfl) ?_
      refine lv_iload hx hb dX12_council_120 (lv_at hl 7 rfl) ?_
      refine lv_ishr hx hb dX12_council_122 ?_
      refine lv_iconst (v := 1) hx hb dX12_council_123 (by decide) ?_
      refine lv_iand hx hb dX12_council_124 ?_
      refine lv_iconst (v := 1) hx hb dX12_council_125 (by decide) ?_
      refine lv_icmp_ne (tgt := 138) hx hb dX12_council_126 (by decide) (fun c26 => ?_) (fun c26 => ?_)
      · have h := h.1 c26
        exact bX12_council_138 C (fun M9 a09 a19 a29 a39 a49 a59 a69 H9 q9 ls9 h9 hW9 hS9 hl9 => ih M9 a09 a19 a29 a39 a49 a59 a69 H9 q9 ls9 h9 hW9 hS9 hl9) _ _ _ _ _ _ _ _ _ _ _ h hW hS (lv_sub hl [0, 1, 2, 3, 4, 5, 6, 7] rfl)
      · have h := h.2 c26
        refine lv_aload_n hx hb dX12_council_129 rfl (lv_at hl 0 rfl) ?_
        refine lv_bipush (v := 6) hx hb dX12_council_130 (by decide) ?_
        refine lv_iload_n hx hb dX12_council_132 rfl (lv_at hl 1 rfl) ?_
        refine lv_iconst (v := 0) hx hb dX12_council_133 (by decide) ?_
        refine tq_callVi (As := [.int 6, .int x1, .int 0]) (rest := []) (kX12_write h) ⟨hx, hb, hml, hown, hts⟩ (cwV 3 hts (tq_goodV tw_1759 tw_1761 tw_67 tw_125 tw_1762) rfl rfl rfl (by decide +kernel) ⟨Nat.le_of_ble_eq_true rfl, Nat.le_of_ble_eq_true rfl⟩) hK hG hW hS rfl hl.1 rfl (Nat.le_of_ble_eq_true rfl) dX12_council_134 ⟨Nat.le_of_ble_eq_true rfl, Nat.le_of_ble_eq_true rfl⟩ (fun r28 M27 H locs h hW hS => ?_)
        refine lv_pop hx hb dX12_council_137 rfl ?_
        exact bX12_council_138 C (fun M9 a09 a19 a29 a39 a49 a59 a69 H9 q9 ls9 h9 hW9 hS9 hl9 => ih M9 a09 a19 a29 a39 a49 a59 a69 H9 q9 ls9 h9 hW9 hS9 hl9) _ _ _ _ _ _ _ _ _ _ _ h hW hS (lv_sub hl [0, 1, 2, 3, 4, 5, 6, 7] rfl)
set_option maxHeartbeats 4000000 in
set_option maxRecDepth 100000 in
theorem kX12_council {post : tq_St → Int32 → Prop} {M : tq_St} {p0 : Int32} {p1 : Int32} {p2 : Int32} {p3 : Int32} {p4 : Int32} (h : wpX12_council post M p0 p1 p2 p3 p4) : tq_mI l yX12_council (tq_ws yX12_council cX12_council 10 (some .int)) 3 67 D cy z H0 ad N S M [.ref (ad 64 0), .int p0, .int p1, .int p2, .int p3, .int p4] post := by
  unfold wpX12_council at h
  refine Met.ofW (cc := cX12_council) (maxL := 10) (ret := (some .int)) (by decide) rfl ?_
  intro p e s m args below meth c s₁ B hml hv
  obtain ⟨rfl, hW, hK, hG⟩ := hv
  have hx := B.exec
  have hb := B.bytes
  have hr := B.returns
  have hts := atoms_spec (ws := (tq_ws yX12_council cX12_council 10 (some .int))) B.pre
  have hw : ∀ w ∈ tq_W, w.before _ s = true := fun w h => hts w (List.mem_cons_of_mem _ h)
  have hown : s.vm.findClass RX12 = some m.cls := findClass_of_methodNamed B.named
  have hlocks := B.notSynchronized
  have C : tq_At p s m meth c [.ref (ad 64 0), .int p0, .int p1, .int p2, .int p3, .int p4].toArray cX12_council 10 ((some .int)) ((tq_ws yX12_council cX12_council 10 (some .int))) RX12 D cy z ad := ⟨hx, hb, hr, hml, hown, hts, hlocks, hK, hG⟩
  have hS : va_S (fun q => z ≤ q) s.heap s.heap [] := va_S.rf
  have hl := lv_entry ([.ref (ad 64 0), .int p0, .int p1, .int p2, .int p3, .int p4]) (n := 10) (Nat.le_of_ble_eq_true rfl)
  rw [lg_entry_eq]
  generalize (lg_sl ([.ref (ad 64 0), .int p0, .int p1, .int p2, .int p3, .int p4]) ++ List.replicate (10 - (lg_sl ([.ref (ad 64 0), .int p0, .int p1, .int p2, .int p3, .int p4])).length) Slot.unset).toArray = ls at hl ⊢
  have hl : lv_has ls 10 [(0, .ref (ad 64 0)), (1, .int p0), (2, .int p1), (3, .int p2), (4, .int p3), (5, .int p4)] := hl
  have hW : tq_wd D cy z H0 ad N (tq_mix S M) s.heap := hW
  refine lv_iload_n hx hb dX12_council_0 rfl (lv_at hl 1 rfl) ?_
  refine tq_callSi (As := [.int p0]) (rest := []) (kX12_isFactory h) ⟨hx, hb, hml, hown, hts⟩ (va_cwS 1 hts (tq_goodS tw_1645 tw_1646 tw_125 tw_1647) rfl rfl rfl (by decide +kernel) ⟨Nat.le_of_ble_eq_true rfl, Nat.le_of_ble_eq_true rfl⟩) hK hG hW hS rfl hl.1 rfl (Nat.le_of_ble_eq_true rfl) dX12_council_1 ⟨Nat.le_of_ble_eq_true rfl, Nat.le_of_ble_eq_true rfl⟩ (fun r2 M1 H locs h hW hS => ?_)
  refine lv_if_eq (tgt := 14) hx hb dX12_council_4 (by decide) (fun c3 => ?_) (fun c3 => ?_)
  · have h := h.1 c3
    exact bX12_council_14 C  _  _ _ _ h hW hS (lv_sub hl [] rfl)
  · have h := h.2 c3
    refine lv_iload_n hx hb dX12_council_7 rfl (lv_at hl 2 rfl) ?_
    refine tq_callSi (As := [.int p1]) (rest := []) (kX12_isSort h) ⟨hx, hb, hml, hown, hts⟩ (va_cwS 1 hts (tq_goodS tw_1655 tw_1656 tw_125 tw_1657) rfl rfl rfl (by decide +kernel) ⟨Nat.le_of_ble_eq_true rfl, Nat.le_of_ble_eq_true rfl⟩) hK hG hW hS rfl hl.1 rfl (Nat.le_of_ble_eq_true rfl) dX12_council_8 ⟨Nat.le_of_ble_eq_true rfl, Nat.le_of_ble_eq_true rfl⟩ (fun r5 M4 H locs h hW hS => ?_)
    refine lv_if_ne (tgt := 16) hx hb dX12_council_11 (by decide) (fun c6 => ?_) (fun c6 => ?_)
    · have h := h.1 c6
      refine lv_iload_n hx hb dX12_council_16 rfl (lv_at hl 3 rfl) ?_
      refine lv_iconst (v := 1) hx hb dX12_council_17 (by decide) ?_
      refine lv_bipush (v := 99) hx hb dX12_council_18 (by decide) ?_
      refine tq_callSi (As := [.int p2, .int 1, .int 99]) (rest := []) (kX12_in h) ⟨hx, hb, hml, hown, hts⟩ (va_cwS 3 hts (tq_goodS tw_1648 tw_1649 tw_125 tw_1650) rfl rfl rfl (by decide +kernel) ⟨Nat.le_of_ble_eq_true rfl, Nat.le_of_ble_eq_true rfl⟩) hK hG hW hS rfl hl.1 rfl (Nat.le_of_ble_eq_true rfl) dX12_council_20 ⟨Nat.le_of_ble_eq_true rfl, Nat.le_of_ble_eq_true rfl⟩ (fun r8 M7 H locs h hW hS => ?_)
      refine lv_if_eq (tgt := 42) hx hb dX12_council_23 (by decide) (fun c9 => ?_) (fun c9 => ?_)
      · have h := h.1 c9
        exact bX12_council_42 C  _  _ _ _ h hW hS (lv_sub hl [] rfl)
      · have h := h.2 c9
        refine lv_iload hx hb dX12_council_26 (lv_at hl 4 rfl) ?_
        refine lv_iload hx hb dX12_council_28 (lv_at hl 5 rfl) ?_
        refine lv_ior hx hb dX12_council_30 ?_
        refine lv_aload_n hx hb dX12_council_31 rfl (lv_at hl 0 rfl) ?_
        refine lv_iload_n hx hb dX12_council_32 rfl (lv_at hl 1 rfl) ?_
        refine tq_callVi (As := [.int p0]) (rest := [.int (p3 ||| p4)]) (kX12_sitting h) ⟨hx, hb, hml, hown, hts⟩ (cwV 1 hts (tq_goodV tw_2014 tw_2016 tw_106 tw_125 tw_2017) rfl rfl rfl (by decide +kernel) ⟨Nat.le_of_ble_eq_true rfl, Nat.le_of_ble_eq_true rfl⟩) hK hG hW hS rfl hl.1 rfl (Nat.le_of_ble_eq_true rfl) dX12_council_33 ⟨Nat.le_of_ble_eq_true rfl, Nat.le_of_ble_eq_true rfl⟩ (fun r11 M10 H locs h hW hS => ?_)
        refine lv_iconst (v := (-1)) hx hb dX12_council_36 (by decide) ?_
        refine lv_ixor hx hb dX12_council_37 ?_
        refine lv_iand hx hb dX12_council_38 ?_
        refine lv_if_eq (tgt := 45) hx hb dX12_council_39 (by decide) (fun c12 => ?_) (fun c12 => ?_)
        · have h := h.1 c12
          refine lv_aload_n hx hb dX12_council_45 rfl (lv_at hl 0 rfl) ?_
          refine lv_iload_n hx hb dX12_council_46 rfl (lv_at hl 1 rfl) ?_
          refine lv_iload hx hb dX12_council_47 (lv_at hl 4 rfl) ?_
          refine lv_iload hx hb dX12_council_49 (lv_at hl 5 rfl) ?_
          refine tq_callVi (As := [.int p0, .int p3, .int p4]) (rest := []) (kX12_carries h) ⟨hx, hb, hml, hown, hts⟩ (cwV 3 hts (tq_goodV tw_2018 tw_2020 tw_107 tw_125 tw_2021) rfl rfl rfl (by decide +kernel) ⟨Nat.le_of_ble_eq_true rfl, Nat.le_of_ble_eq_true rfl⟩) hK hG hW hS rfl hl.1 rfl (Nat.le_of_ble_eq_true rfl) dX12_council_51 ⟨Nat.le_of_ble_eq_true rfl, Nat.le_of_ble_eq_true rfl⟩ (fun r14 M13 H locs h hW hS => ?_)
          refine lv_if_ne (tgt := 60) hx hb dX12_council_54 (by decide) (fun c15 => ?_) (fun c15 => ?_)
          · have h := h.1 c15
            refine lv_aload_n hx hb dX12_council_60 rfl (lv_at hl 0 rfl) ?_
            refine tqm_get (v := .int (M13 64 0 9)) hx hb hw tq_inX12 hown hK hW (by decide) (tq_mk_64 (by decide)) rfl 9 (by decide) (hw _ tw_1417) (fun _ h9 => h9) rfl dX12_council_61 ?_
            refine lv_iconst (v := 1) hx hb dX12_council_64 (by decide) ?_
            refine lv_iadd hx hb dX12_council_65 ?_
            refine lv_iload hx hb dX12_council_66 (lv_at hl 5 rfl) ?_
            refine tq_callSi (As := [.int p4]) (rest := [.int ((M13 64 0 9) + 1)]) (kJ6_bitCount_0f7a4 h) ⟨hx, hb, hml, hown, hts⟩ (va_cwS 1 hts (tq_goodS tw_2022 tw_1257 tw_140 tw_1258) rfl rfl rfl (by decide +kernel) ⟨Nat.le_of_ble_eq_true rfl, Nat.le_of_ble_eq_true rfl⟩) hK hG hW hS rfl hl.1 rfl (Nat.le_of_ble_eq_true rfl) dX12_council_68 ⟨Nat.le_of_ble_eq_true rfl, Nat.le_of_ble_eq_true rfl⟩ (fun r17 M16 H locs h hW hS => ?_)
            refine lv_iadd hx hb dX12_council_71 ?_
            refine lv_sipush (v := 150) hx hb dX12_council_72 (by decide) ?_
            refine lv_icmp_le (tgt := 81) hx hb dX12_council_75 (by decide) (fun c18 => ?_) (fun c18 => ?_)
            · have h := h.1 c18
              refine lv_aload_n hx hb dX12_council_81 rfl (lv_at hl 0 rfl) ?_
              refine lv_iload_n hx hb dX12_council_82 rfl (lv_at hl 1 rfl) ?_
              refine lv_iload_n hx hb dX12_council_83 rfl (lv_at hl 2 rfl) ?_
              refine lv_iload_n hx hb dX12_council_84 rfl (lv_at hl 3 rfl) ?_
              refine lv_iconst (v := 0) hx hb dX12_council_85 (by decide) ?_
              refine tq_callVi (As := [.int p0, .int p1, .int p2, .int 0]) (rest := []) (kX12_buy h) ⟨hx, hb, hml, hown, hts⟩ (cwV 4 hts (tq_goodV tw_1955 tw_1957 tw_97 tw_125 tw_1958) rfl rfl rfl (by decide +kernel) ⟨Nat.le_of_ble_eq_true rfl, Nat.le_of_ble_eq_true rfl⟩) hK hG hW hS rfl hl.1 rfl (Nat.le_of_ble_eq_true rfl) dX12_council_86 ⟨Nat.le_of_ble_eq_true rfl, Nat.le_of_ble_eq_true rfl⟩ (fun r20 M19 H locs h hW hS => ?_)
              refine lv_istore (lv' := [(6, .int r20), (0, .ref (ad 64 0)), (1, .int p0), (2, .int p1), (3, .int p2), (4, .int p3), (5, .int p4)]) hx hb dX12_council_89 hl (by decide) rfl (fun ls hl => ?_)
              refine lv_aload_n hx hb dX12_council_91 rfl (lv_at hl 1 rfl) ?_
              refine tqm_get (v := .int (M19 64 0 73)) hx hb hw tq_inX12 hown hK hW (by decide) (tq_mk_64 (by decide)) rfl 73 (by decide) (hw _ tw_1481) (fun _ h9 => h9) rfl dX12_council_92 ?_
              refine lv_istore (lv' := [(7, .int (M19 64 0 73)), (6, .int r20), (0, .ref (ad 64 0)), (1, .int p0), (2, .int p1), (3, .int p2), (4, .int p3), (5, .int p4)]) hx hb dX12_council_95 hl (by decide) rfl (fun ls hl => ?_)
              refine lv_aload_n hx hb dX12_council_97 rfl (lv_at hl 2 rfl) ?_
              refine lv_iconst (v := 3) hx hb dX12_council_98 (by decide) ?_
              refine lv_iload_n hx hb dX12_council_99 rfl (lv_at hl 3 rfl) ?_
              refine lv_iconst (v := 0) hx hb dX12_council_100 (by decide) ?_
              refine tq_callVi (As := [.int 3, .int p0, .int 0]) (rest := []) (kX12_write h) ⟨hx, hb, hml, hown, hts⟩ (cwV 3 hts (tq_goodV tw_1759 tw_1761 tw_67 tw_125 tw_1762) rfl rfl rfl (by decide +kernel) ⟨Nat.le_of_ble_eq_true rfl, Nat.le_of_ble_eq_true rfl⟩) hK hG hW hS rfl hl.1 rfl (Nat.le_of_ble_eq_true rfl) dX12_council_101 ⟨Nat.le_of_ble_eq_true rfl, Nat.le_of_ble_eq_true rfl⟩ (fun r22 M21 H locs h hW hS => ?_)
              refine lv_istore (lv' := [(8, .int r22), (7, .int (M19 64 0 73)), (6, .int r20), (0, .ref (ad 64 0)), (1, .int p0), (2, .int p1), (3, .int p2), (4, .int p3), (5, .int p4)]) hx hb dX12_council_104 hl (by decide) rfl (fun ls hl => ?_)
              refine lv_iconst (v := 0) hx hb dX12_council_106 (by decide) ?_
              refine lv_istore (lv' := [(9, .int 0), (8, .int r22), (7, .int (M19 64 0 73)), (6, .int r20), (0, .ref (ad 64 0)), (1, .int p0), (2, .int p1), (3, .int p2), (4, .int p3), (5, .int p4)]) hx hb dX12_council_107 hl (by decide) rfl (fun ls hl => ?_)
              obtain ⟨nq, h⟩ := h
              exact bX12_council_109 C  nq _ _ _ _ _ _ _ _ _ _ _ h hW hS (lv_sub hl [4, 5, 6, 9, 3, 2, 1, 0] rfl)
            · have h := h.2 c18
              refine lv_bipush (v := (-4)) hx hb dX12_council_78 (by decide) ?_
              exact W.iret (v := (-4)) hx hb hr (fun t ht hWm => ⟨⟨_, M16, rfl, h, tq_pe ht hW⟩, hS.F ht⟩) hS.2.2 dX12_council_80
          · have h := h.2 c15
            refine lv_bipush (v := (-3)) hx hb dX12_council_57 (by decide) ?_
            exact W.iret (v := (-3)) hx hb hr (fun t ht hWm => ⟨⟨_, M13, rfl, h, tq_pe ht hW⟩, hS.F ht⟩) hS.2.2 dX12_council_59
        · have h := h.2 c12
          exact bX12_council_42 C  _  _ _ _ h hW hS (lv_sub hl [] rfl)
    · have h := h.2 c6
      exact bX12_council_14 C  _  _ _ _ h hW hS (lv_sub hl [] rfl)
-- isBuyer
def wpX12_isBuyer (post : tq_St → Int32 → Prop) (M : tq_St) (p0 : Int32) : Prop :=
  wpX12_in (fun M1 r2 => narrow .boolean (.int r2) = .int r2 ∧ post M1 r2) M p0 0 5
set_option maxHeartbeats 4000000 in
set_option maxRecDepth 100000 in
theorem kX12_isBuyer {post : tq_St → Int32 → Prop} {M : tq_St} {p0 : Int32} (h : wpX12_isBuyer post M p0) : tq_mI l yX12_isBuyer (tq_ws yX12_isBuyer cX12_isBuyer 1 (some .boolean)) 1 22 D cy z H0 ad N S M [.int p0] post := by
  unfold wpX12_isBuyer at h
  refine Met.ofW (cc := cX12_isBuyer) (maxL := 1) (ret := (some .boolean)) (by decide) rfl ?_
  intro p e s m args below meth c s₁ B hml hv
  obtain ⟨rfl, hW, hK, hG⟩ := hv
  have hx := B.exec
  have hb := B.bytes
  have hr := B.returns
  have hts := atoms_spec (ws := (tq_ws yX12_isBuyer cX12_isBuyer 1 (some .boolean))) B.pre
  have hw : ∀ w ∈ tq_W, w.before _ s = true := fun w h => hts w (List.mem_cons_of_mem _ h)
  have hown : s.vm.findClass RX12 = some m.cls := findClass_of_methodNamed B.named
  have hlocks := B.notSynchronized
  have C : tq_At p s m meth c [.int p0].toArray cX12_isBuyer 1 ((some .boolean)) ((tq_ws yX12_isBuyer cX12_isBuyer 1 (some .boolean))) RX12 D cy z ad := ⟨hx, hb, hr, hml, hown, hts, hlocks, hK, hG⟩
  have hS : va_S (fun q => z ≤ q) s.heap s.heap [] := va_S.rf
  have hl := lv_entry ([.int p0]) (n := 1) (Nat.le_of_ble_eq_true rfl)
  rw [lg_entry_eq]
  generalize (lg_sl ([.int p0]) ++ List.replicate (1 - (lg_sl ([.int p0])).length) Slot.unset).toArray = ls at hl ⊢
  have hl : lv_has ls 1 [(0, .int p0)] := hl
  have hW : tq_wd D cy z H0 ad N (tq_mix S M) s.heap := hW
  refine lv_iload_n hx hb dX12_isBuyer_0 rfl (lv_at hl 0 rfl) ?_
  refine lv_iconst (v := 0) hx hb dX12_isBuyer_1 (by decide) ?_
  refine lv_iconst (v := 5) hx hb dX12_isBuyer_2 (by decide) ?_
  refine tq_callSi (As := [.int p0, .int 0, .int 5]) (rest := []) (kX12_in h) ⟨hx, hb, hml, hown, hts⟩ (va_cwS 3 hts (tq_goodS tw_1648 tw_1649 tw_125 tw_1650) rfl rfl rfl (by decide +kernel) ⟨Nat.le_of_ble_eq_true rfl, Nat.le_of_ble_eq_true rfl⟩) hK hG hW hS rfl hl.1 rfl (Nat.le_of_ble_eq_true rfl) dX12_isBuyer_3 ⟨Nat.le_of_ble_eq_true rfl, Nat.le_of_ble_eq_true rfl⟩ (fun r2 M1 H locs h hW hS => ?_)
  obtain ⟨b3, h⟩ := h
  exact W.zret (v := r2) hx hb hr b3 (fun t ht hWm => ⟨⟨_, M1, rfl, h, tq_pe ht hW⟩, hS.F ht⟩) hS.2.2 dX12_isBuyer_6
-- wants
def wbX12_wants_14 (post : tq_St → Int32 → Prop)  (M : tq_St) : Prop :=
  post M ((-1))
def wbX12_wants_38 (post : tq_St → Int32 → Prop)  (M : tq_St) : Prop :=
  post M ((-2))
def wpX12_wants (post : tq_St → Int32 → Prop) (M : tq_St) (p0 : Int32) (p1 : Int32) (p2 : Int32) (p3 : Int32) : Prop :=
  wpX12_isBuyer (fun M1 r2 => (r2 = 0 → (wbX12_wants_14 post M1 )) ∧ (¬ r2 = 0 → (wpX12_isSort (fun M4 r5 => (¬ r5 = 0 → (wpX12_in (fun M7 r8 => (r8 = 0 → (wbX12_wants_38 post M7 )) ∧ (¬ r8 = 0 → (wpX12_in (fun M10 r11 => (¬ r11 = 0 → (vp_in p0 6 ∧ (vp_in p1 4 ∧ (∀ M15, M15 = tq_up M10 151 p0.toNatClampNeg p1.toNatClampNeg p2 → (∀ M16, M16 = tq_up M15 152 p0.toNatClampNeg p1.toNatClampNeg p3 → (post M16 (M10 151 p0.toNatClampNeg p1.toNatClampNeg))))))) ∧ (r11 = 0 → (wbX12_wants_38 post M10 ))) M7 p3 0 999))) M4 p2 0 99)) ∧ (r5 = 0 → (wbX12_wants_14 post M4 ))) M1 p1))) M p0
set_option maxHeartbeats 4000000 in
set_option maxRecDepth 100000 in
theorem bX12_wants_14 {p : Program} {e : Env} {s : State} {m : MethodId} {args : Array Value} {below : List Frame} {meth : Method} {c : Code} {post : tq_St → Int32 → Prop} (C : tq_At p s m meth c args cX12_wants 6 ((some .int)) ((tq_ws yX12_wants cX12_wants 6 (some .int))) RX12 D cy z ad)  : ∀ (M : tq_St)  (H : Heap) (locs : List Loc) (ls : Array Slot), wbX12_wants_14 post   M  → tq_wd D cy z H0 ad N (tq_mix S M) H → va_S (fun q => z ≤ q) s.heap H locs → lv_has ls 6 [] → W p l e (tq_rm 2 42) s m args below meth c H locs 0 0 (MQ below (va_Qi (fun r u => post u r) (tq_P D cy z H0 ad N S) (fun q => z ≤ q)) args s 0 0 (fun q => z ≤ q)) (F0 m 14 ls []) := by
  obtain ⟨hx, hb, hr, hml, hown, hts, hlocks, hK, hG⟩ := id C
  have hw : ∀ w ∈ tq_W, w.before args s = true := fun w h => hts w (List.mem_cons_of_mem _ h)
  intro M  H locs ls h hW hS hl
  unfold wbX12_wants_14 at h
  refine lv_iconst (v := (-1)) hx hb dX12_wants_14 (by decide) ?_
  exact W.iret (v := (-1)) hx hb hr (fun t ht hWm => ⟨⟨_, M, rfl, h, tq_pe ht hW⟩, hS.F ht⟩) hS.2.2 dX12_wants_15
set_option maxHeartbeats 4000000 in
set_option maxRecDepth 100000 in
theorem bX12_wants_38 {p : Program} {e : Env} {s : State} {m : MethodId} {args : Array Value} {below : List Frame} {meth : Method} {c : Code} {post : tq_St → Int32 → Prop} (C : tq_At p s m meth c args cX12_wants 6 ((some .int)) ((tq_ws yX12_wants cX12_wants 6 (some .int))) RX12 D cy z ad)  : ∀ (M : tq_St)  (H : Heap) (locs : List Loc) (ls : Array Slot), wbX12_wants_38 post   M  → tq_wd D cy z H0 ad N (tq_mix S M) H → va_S (fun q => z ≤ q) s.heap H locs → lv_has ls 6 [] → W p l e (tq_rm 2 42) s m args below meth c H locs 0 0 (MQ below (va_Qi (fun r u => post u r) (tq_P D cy z H0 ad N S) (fun q => z ≤ q)) args s 0 0 (fun q => z ≤ q)) (F0 m 38 ls []) := by
  obtain ⟨hx, hb, hr, hml, hown, hts, hlocks, hK, hG⟩ := id C
  have hw : ∀ w ∈ tq_W, w.before args s = true := fun w h => hts w (List.mem_cons_of_mem _ h)
  intro M  H locs ls h hW hS hl
  unfold wbX12_wants_38 at h
  refine lv_bipush (v := (-2)) hx hb dX12_wants_38 (by decide) ?_
  exact W.iret (v := (-2)) hx hb hr (fun t ht hWm => ⟨⟨_, M, rfl, h, tq_pe ht hW⟩, hS.F ht⟩) hS.2.2 dX12_wants_40
set_option maxHeartbeats 4000000 in
set_option maxRecDepth 100000 in
theorem kX12_wants {post : tq_St → Int32 → Prop} {M : tq_St} {p0 : Int32} {p1 : Int32} {p2 : Int32} {p3 : Int32} (h : wpX12_wants post M p0 p1 p2 p3) : tq_mI l yX12_wants (tq_ws yX12_wants cX12_wants 6 (some .int)) 2 42 D cy z H0 ad N S M [.ref (ad 64 0), .int p0, .int p1, .int p2, .int p3] post := by
  unfold wpX12_wants at h
  refine Met.ofW (cc := cX12_wants) (maxL := 6) (ret := (some .int)) (by decide) rfl ?_
  intro p e s m args below meth c s₁ B hml hv
  obtain ⟨rfl, hW, hK, hG⟩ := hv
  have hx := B.exec
  have hb := B.bytes
  have hr := B.returns
  have hts := atoms_spec (ws := (tq_ws yX12_wants cX12_wants 6 (some .int))) B.pre
  have hw : ∀ w ∈ tq_W, w.before _ s = true := fun w h => hts w (List.mem_cons_of_mem _ h)
  have hown : s.vm.findClass RX12 = some m.cls := findClass_of_methodNamed B.named
  have hlocks := B.notSynchronized
  have C : tq_At p s m meth c [.ref (ad 64 0), .int p0, .int p1, .int p2, .int p3].toArray cX12_wants 6 ((some .int)) ((tq_ws yX12_wants cX12_wants 6 (some .int))) RX12 D cy z ad := ⟨hx, hb, hr, hml, hown, hts, hlocks, hK, hG⟩
  have hS : va_S (fun q => z ≤ q) s.heap s.heap [] := va_S.rf
  have hl := lv_entry ([.ref (ad 64 0), .int p0, .int p1, .int p2, .int p3]) (n := 6) (Nat.le_of_ble_eq_true rfl)
  rw [lg_entry_eq]
  generalize (lg_sl ([.ref (ad 64 0), .int p0, .int p1, .int p2, .int p3]) ++ List.replicate (6 - (lg_sl ([.ref (ad 64 0), .int p0, .int p1, .int p2, .int p3])).length) Slot.unset).toArray = ls at hl ⊢
  have hl : lv_has ls 6 [(0, .ref (ad 64 0)), (1, .int p0), (2, .int p1), (3, .int p2), (4, .int p3)] := hl
  have hW : tq_wd D cy z H0 ad N (tq_mix S M) s.heap := hW
  refine lv_iload_n hx hb dX12_wants_0 rfl (lv_at hl 1 rfl) ?_
  refine tq_callSi (As := [.int p0]) (rest := []) (kX12_isBuyer h) ⟨hx, hb, hml, hown, hts⟩ (va_cwS 1 hts (tq_goodS tw_2035 tw_2036 tw_125 tw_2037) rfl rfl rfl (by decide +kernel) ⟨Nat.le_of_ble_eq_true rfl, Nat.le_of_ble_eq_true rfl⟩) hK hG hW hS rfl hl.1 rfl (Nat.le_of_ble_eq_true rfl) dX12_wants_1 ⟨Nat.le_of_ble_eq_true rfl, Nat.le_of_ble_eq_true rfl⟩ (fun r2 M1 H locs h hW hS => ?_)
  refine lv_if_eq (tgt := 14) hx hb dX12_wants_4 (by decide) (fun c3 => ?_) (fun c3 => ?_)
  · have h := h.1 c3
    exact bX12_wants_14 C  _  _ _ _ h hW hS (lv_sub hl [] rfl)
  · have h := h.2 c3
    refine lv_iload_n hx hb dX12_wants_7 rfl (lv_at hl 2 rfl) ?_
    refine tq_callSi (As := [.int p1]) (rest := []) (kX12_isSort h) ⟨hx, hb, hml, hown, hts⟩ (va_cwS 1 hts (tq_goodS tw_1655 tw_1656 tw_125 tw_1657) rfl rfl rfl (by decide +kernel) ⟨Nat.le_of_ble_eq_true rfl, Nat.le_of_ble_eq_true rfl⟩) hK hG hW hS rfl hl.1 rfl (Nat.le_of_ble_eq_true rfl) dX12_wants_8 ⟨Nat.le_of_ble_eq_true rfl, Nat.le_of_ble_eq_true rfl⟩ (fun r5 M4 H locs h hW hS => ?_)
    refine lv_if_ne (tgt := 16) hx hb dX12_wants_11 (by decide) (fun c6 => ?_) (fun c6 => ?_)
    · have h := h.1 c6
      refine lv_iload_n hx hb dX12_wants_16 rfl (lv_at hl 3 rfl) ?_
      refine lv_iconst (v := 0) hx hb dX12_wants_17 (by decide) ?_
      refine lv_bipush (v := 99) hx hb dX12_wants_18 (by decide) ?_
      refine tq_callSi (As := [.int p2, .int 0, .int 99]) (rest := []) (kX12_in h) ⟨hx, hb, hml, hown, hts⟩ (va_cwS 3 hts (tq_goodS tw_1648 tw_1649 tw_125 tw_1650) rfl rfl rfl (by decide +kernel) ⟨Nat.le_of_ble_eq_true rfl, Nat.le_of_ble_eq_true rfl⟩) hK hG hW hS rfl hl.1 rfl (Nat.le_of_ble_eq_true rfl) dX12_wants_20 ⟨Nat.le_of_ble_eq_true rfl, Nat.le_of_ble_eq_true rfl⟩ (fun r8 M7 H locs h hW hS => ?_)
      refine lv_if_eq (tgt := 38) hx hb dX12_wants_23 (by decide) (fun c9 => ?_) (fun c9 => ?_)
      · have h := h.1 c9
        exact bX12_wants_38 C  _  _ _ _ h hW hS (lv_sub hl [] rfl)
      · have h := h.2 c9
        refine lv_iload hx hb dX12_wants_26 (lv_at hl 4 rfl) ?_
        refine lv_iconst (v := 0) hx hb dX12_wants_28 (by decide) ?_
        refine lv_sipush (v := 999) hx hb dX12_wants_29 (by decide) ?_
        refine tq_callSi (As := [.int p3, .int 0, .int 999]) (rest := []) (kX12_in h) ⟨hx, hb, hml, hown, hts⟩ (va_cwS 3 hts (tq_goodS tw_1648 tw_1649 tw_125 tw_1650) rfl rfl rfl (by decide +kernel) ⟨Nat.le_of_ble_eq_true rfl, Nat.le_of_ble_eq_true rfl⟩) hK hG hW hS rfl hl.1 rfl (Nat.le_of_ble_eq_true rfl) dX12_wants_32 ⟨Nat.le_of_ble_eq_true rfl, Nat.le_of_ble_eq_true rfl⟩ (fun r11 M10 H locs h hW hS => ?_)
        refine lv_if_ne (tgt := 41) hx hb dX12_wants_35 (by decide) (fun c12 => ?_) (fun c12 => ?_)
        · have h := h.1 c12
          refine lv_aload_n hx hb dX12_wants_41 rfl (lv_at hl 0 rfl) ?_
          refine tqm_get (v := .ref (ad 251 0)) hx hb hw tq_inX12 hown hK hW (by decide) (tq_mk_64 (by decide)) rfl 51 (by decide) (hw _ tw_1459) (fun _ h9 => h9) rfl dX12_wants_42 ?_
          refine lv_iload_n hx hb dX12_wants_45 rfl (lv_at hl 1 rfl) ?_
          obtain ⟨b13, h⟩ := h
          refine tqm_aald (jn := p0.toNatClampNeg) (v := .ref (ad 151 p0.toNatClampNeg)) hx hb hK hW (by decide) (tq_mk_251 (by decide)) 2 rfl rfl b13 rfl rfl dX12_wants_46 ?_
          refine lv_iload_n hx hb dX12_wants_47 rfl (lv_at hl 2 rfl) ?_
          obtain ⟨b14, h⟩ := h
          refine tqm_iald (jn := p1.toNatClampNeg) hx hb hK hW (by decide) (tq_mk_151 (tq_lt b13)) b14 rfl dX12_wants_48 ?_
          refine lv_istore (lv' := [(5, .int (M10 151 p0.toNatClampNeg p1.toNatClampNeg)), (0, .ref (ad 64 0)), (1, .int p0), (2, .int p1), (3, .int p2), (4, .int p3)]) hx hb dX12_wants_49 hl (by decide) rfl (fun ls hl => ?_)
          refine lv_aload_n hx hb dX12_wants_51 rfl (lv_at hl 1 rfl) ?_
          refine tqm_get (v := .ref (ad 251 0)) hx hb hw tq_inX12 hown hK hW (by decide) (tq_mk_64 (by decide)) rfl 51 (by decide) (hw _ tw_1459) (fun _ h9 => h9) rfl dX12_wants_52 ?_
          refine lv_iload_n hx hb dX12_wants_55 rfl (lv_at hl 2 rfl) ?_
          refine tqm_aald (jn := p0.toNatClampNeg) (v := .ref (ad 151 p0.toNatClampNeg)) hx hb hK hW (by decide) (tq_mk_251 (by decide)) 2 rfl rfl b13 rfl rfl dX12_wants_56 ?_
          refine lv_iload_n hx hb dX12_wants_57 rfl (lv_at hl 3 rfl) ?_
          refine lv_iload_n hx hb dX12_wants_58 rfl (lv_at hl 4 rfl) ?_
          refine tqm_iast (jn := p1.toNatClampNeg) hx hb hK hW hS (by decide) (tq_mk_151 (tq_lt b13)) b14 rfl (tq_mk_151 (tq_lt b13)) dX12_wants_59 (fun H locs hW hS => ?_)
          generalize eM15 : tq_up M10 151 p0.toNatClampNeg p1.toNatClampNeg p2 = M15 at hW
          have h := h M15 eM15.symm
          refine lv_aload_n hx hb dX12_wants_60 rfl (lv_at hl 1 rfl) ?_
          refine tqm_get (v := .ref (ad 252 0)) hx hb hw tq_inX12 hown hK hW (by decide) (tq_mk_64 (by decide)) rfl 52 (by decide) (hw _ tw_1460) (fun _ h9 => h9) rfl dX12_wants_61 ?_
          refine lv_iload_n hx hb dX12_wants_64 rfl (lv_at hl 2 rfl) ?_
          refine tqm_aald (jn := p0.toNatClampNeg) (v := .ref (ad 152 p0.toNatClampNeg)) hx hb hK hW (by decide) (tq_mk_252 (by decide)) 2 rfl rfl b13 rfl rfl dX12_wants_65 ?_
          refine lv_iload_n hx hb dX12_wants_66 rfl (lv_at hl 3 rfl) ?_
          refine lv_iload hx hb dX12_wants_67 (lv_at hl 5 rfl) ?_
          refine tqm_iast (jn := p1.toNatClampNeg) hx hb hK hW hS (by decide) (tq_mk_152 (tq_lt b13)) b14 rfl (tq_mk_152 (tq_lt b13)) dX12_wants_69 (fun H locs hW hS => ?_)
          generalize eM16 : tq_up M15 152 p0.toNatClampNeg p1.toNatClampNeg p3 = M16 at hW
          have h := h M16 eM16.symm
          refine lv_iload hx hb dX12_wants_70 (lv_at hl 0 rfl) ?_
          exact W.iret (v := M10 151 p0.toNatClampNeg p1.toNatClampNeg) hx hb hr (fun t ht hWm => ⟨⟨_, M16, rfl, h, tq_pe ht hW⟩, hS.F ht⟩) hS.2.2 dX12_wants_72
        · have h := h.2 c12
          exact bX12_wants_38 C  _  _ _ _ h hW hS (lv_sub hl [] rfl)
    · have h := h.2 c6
      exact bX12_wants_14 C  _  _ _ _ h hW hS (lv_sub hl [] rfl)
-- greatest
def wbX12_greatest_57 (post : tq_St → Int32 → Prop) (L5 : tq_St → Int32 → Int32 → Int32 → Int32 → Prop) (M : tq_St) (x1 : Int32) (x2 : Int32) (x3 : Int32) (x4 : Int32) : Prop :=
  L5 M x1 x2 x3 (x4 + 1)
def wbX12_greatest_54 (post : tq_St → Int32 → Prop) (L5 : tq_St → Int32 → Int32 → Int32 → Int32 → Prop) (M : tq_St) (x1 : Int32) (x2 : Int32) (x4 : Int32) : Prop :=
  wbX12_greatest_57 post  L5 M x1 x2 x4 x4
def wbX12_greatest_5 (post : tq_St → Int32 → Prop) : Nat → tq_St → Int32 → Int32 → Int32 → Int32 → Prop
  | 0, _, _, _, _, _ => False
  | n + 1, M, x1, x2, x3, x4 =>
    (6 ≤ x4 → (post M x3)) ∧ (¬ 6 ≤ x4 → ((x4 = x2 → (wbX12_greatest_57 post  (wbX12_greatest_5 post n) M x1 x2 x3 x4)) ∧ (¬ x4 = x2 → (vp_in x4 6 ∧ (vp_in x1 4 ∧ (((M 151 x4.toNatClampNeg x1.toNatClampNeg) ≤ 0 → (wbX12_greatest_57 post  (wbX12_greatest_5 post n) M x1 x2 x3 x4)) ∧ (¬ (M 151 x4.toNatClampNeg x1.toNatClampNeg) ≤ 0 → ((x3 < 0 → (wbX12_greatest_54 post  (wbX12_greatest_5 post n) M x1 x2 x4)) ∧ (¬ x3 < 0 → (vp_in x3 6 ∧ (((M 152 x4.toNatClampNeg x1.toNatClampNeg) ≤ (M 152 x3.toNatClampNeg x1.toNatClampNeg) → (wbX12_greatest_57 post  (wbX12_greatest_5 post n) M x1 x2 x3 x4)) ∧ (¬ (M 152 x4.toNatClampNeg x1.toNatClampNeg) ≤ (M 152 x3.toNatClampNeg x1.toNatClampNeg) → (wbX12_greatest_54 post  (wbX12_greatest_5 post n) M x1 x2 x4)))))))))))))
def wpX12_greatest (post : tq_St → Int32 → Prop) (M : tq_St) (p0 : Int32) (p1 : Int32) : Prop :=
  ∃ nq, wbX12_greatest_5 post nq M p0 p1 ((-1)) 0
set_option maxHeartbeats 4000000 in
set_option maxRecDepth 100000 in
theorem bX12_greatest_57 {p : Program} {e : Env} {s : State} {m : MethodId} {args : Array Value} {below : List Frame} {meth : Method} {c : Code} {post : tq_St → Int32 → Prop} (C : tq_At p s m meth c args cX12_greatest 5 ((some .int)) ((tq_ws yX12_greatest cX12_greatest 5 (some .int))) RX12 D cy z ad) {L5 : tq_St → Int32 → Int32 → Int32 → Int32 → Prop} (hL5 : ∀ (M : tq_St) (x1 : Int32) (x2 : Int32) (x3 : Int32) (x4 : Int32) (H : Heap) (locs : List Loc) (ls : Array Slot), L5 M x1 x2 x3 x4 → tq_wd D cy z H0 ad N (tq_mix S M) H → va_S (fun q => z ≤ q) s.heap H locs → lv_has ls 5 [(0, .ref (ad 64 0)), (1, .int x1), (2, .int x2), (3, .int x3), (4, .int x4)] → W p l e (tq_rm 0 0) s m args below meth c H locs 0 0 (MQ below (va_Qi (fun r u => post u r) (tq_P D cy z H0 ad N S) (fun q => z ≤ q)) args s 0 0 (fun q => z ≤ q)) (F0 m 5 ls [])) : ∀ (M : tq_St) (x1 : Int32) (x2 : Int32) (x3 : Int32) (x4 : Int32) (H : Heap) (locs : List Loc) (ls : Array Slot), wbX12_greatest_57 post  L5 M x1 x2 x3 x4 → tq_wd D cy z H0 ad N (tq_mix S M) H → va_S (fun q => z ≤ q) s.heap H locs → lv_has ls 5 [(0, .ref (ad 64 0)), (1, .int x1), (2, .int x2), (3, .int x3), (4, .int x4)] → W p l e (tq_rm 0 0) s m args below meth c H locs 0 0 (MQ below (va_Qi (fun r u => post u r) (tq_P D cy z H0 ad N S) (fun q => z ≤ q)) args s 0 0 (fun q => z ≤ q)) (F0 m 57 ls []) := by
  obtain ⟨hx, hb, hr, hml, hown, hts, hlocks, hK, hG⟩ := id C
  have hw : ∀ w ∈ tq_W, w.before args s = true := fun w h => hts w (List.mem_cons_of_mem _ h)
  intro M x1 x2 x3 x4 H locs ls h hW hS hl
  unfold wbX12_greatest_57 at h
  refine lv_iinc (v := x4 + 1) (lv' := [(4, .int (x4 + 1)), (0, .ref (ad 64 0)), (1, .int x1), (2, .int x2), (3, .int x3)]) hx hb dX12_greatest_57 hl (k := 4) rfl rfl (by decide) rfl (fun ls hl => ?_)
  refine lv_goto (tgt := 5) hx hb dX12_greatest_60 (by decide) ?_
  exact hL5 _ _ _ _ _ _ _ _ h hW hS (lv_sub hl [1, 2, 3, 4, 0] rfl)
set_option maxHeartbeats 4000000 in
set_option maxRecDepth 100000 in
theorem bX12_greatest_54 {p : Program} {e : Env} {s : State} {m : MethodId} {args : Array Value} {below : List Frame} {meth : Method} {c : Code} {post : tq_St → Int32 → Prop} (C : tq_At p s m meth c args cX12_greatest 5 ((some .int)) ((tq_ws yX12_greatest cX12_greatest 5 (some .int))) RX12 D cy z ad) {L5 : tq_St → Int32 → Int32 → Int32 → Int32 → Prop} (hL5 : ∀ (M : tq_St) (x1 : Int32) (x2 : Int32) (x3 : Int32) (x4 : Int32) (H : Heap) (locs : List Loc) (ls : Array Slot), L5 M x1 x2 x3 x4 → tq_wd D cy z H0 ad N (tq_mix S M) H → va_S (fun q => z ≤ q) s.heap H locs → lv_has ls 5 [(0, .ref (ad 64 0)), (1, .int x1), (2, .int x2), (3, .int x3), (4, .int x4)] → W p l e (tq_rm 0 0) s m args below meth c H locs 0 0 (MQ below (va_Qi (fun r u => post u r) (tq_P D cy z H0 ad N S) (fun q => z ≤ q)) args s 0 0 (fun q => z ≤ q)) (F0 m 5 ls [])) : ∀ (M : tq_St) (x1 : Int32) (x2 : Int32) (x4 : Int32) (H : Heap) (locs : List Loc) (ls : Array Slot), wbX12_greatest_54 post  L5 M x1 x2 x4 → tq_wd D cy z H0 ad N (tq_mix S M) H → va_S (fun q => z ≤ q) s.heap H locs → lv_has ls 5 [(0, .ref (ad 64 0)), (1, .int x1), (2, .int x2), (4, .int x4)] → W p l e (tq_rm 0 0) s m args below meth c H locs 0 0 (MQ below (va_Qi (fun r u => post u r) (tq_P D cy z H0 ad N S) (fun q => z ≤ q)) args s 0 0 (fun q => z ≤ q)) (F0 m 54 ls []) := by
  obtain ⟨hx, hb, hr, hml, hown, hts, hlocks, hK, hG⟩ := id C
  have hw : ∀ w ∈ tq_W, w.before args s = true := fun w h => hts w (List.mem_cons_of_mem _ h)
  intro M x1 x2 x4 H locs ls h hW hS hl
  unfold wbX12_greatest_54 at h
  refine lv_iload hx hb dX12_greatest_54 (lv_at hl 3 rfl) ?_
  refine lv_istore_n (lv' := [(3, .int x4), (0, .ref (ad 64 0)), (1, .int x1), (2, .int x2), (4, .int x4)]) hx hb dX12_greatest_56 rfl hl (by decide) rfl (fun ls hl => ?_)
  exact bX12_greatest_57 C (fun M9 a09 a19 a29 a39 H9 q9 ls9 h9 hW9 hS9 hl9 => hL5 M9 a09 a19 a29 a39 H9 q9 ls9 h9 hW9 hS9 hl9) _ _ _ _ _ _ _ _ h hW hS (lv_sub hl [1, 2, 3, 0, 4] rfl)
set_option maxHeartbeats 4000000 in
set_option maxRecDepth 100000 in
theorem bX12_greatest_5 {p : Program} {e : Env} {s : State} {m : MethodId} {args : Array Value} {below : List Frame} {meth : Method} {c : Code} {post : tq_St → Int32 → Prop} (C : tq_At p s m meth c args cX12_greatest 5 ((some .int)) ((tq_ws yX12_greatest cX12_greatest 5 (some .int))) RX12 D cy z ad)  : ∀ n : Nat, ∀ (M : tq_St) (x1 : Int32) (x2 : Int32) (x3 : Int32) (x4 : Int32) (H : Heap) (locs : List Loc) (ls : Array Slot), wbX12_greatest_5 post   n M x1 x2 x3 x4 → tq_wd D cy z H0 ad N (tq_mix S M) H → va_S (fun q => z ≤ q) s.heap H locs → lv_has ls 5 [(0, .ref (ad 64 0)), (1, .int x1), (2, .int x2), (3, .int x3), (4, .int x4)] → W p l e (tq_rm 0 0) s m args below meth c H locs 0 0 (MQ below (va_Qi (fun r u => post u r) (tq_P D cy z H0 ad N S) (fun q => z ≤ q)) args s 0 0 (fun q => z ≤ q)) (F0 m 5 ls []) := by
  obtain ⟨hx, hb, hr, hml, hown, hts, hlocks, hK, hG⟩ := id C
  have hw : ∀ w ∈ tq_W, w.before args s = true := fun w h => hts w (List.mem_cons_of_mem _ h)
  intro n
  induction n with
  | zero =>
    intro M x1 x2 x3 x4 H locs ls h
    exact absurd h (by unfold wbX12_greatest_5; exact id)
  | succ n ih =>
    intro M x1 x2 x3 x4 H locs ls h hW hS hl
    unfold wbX12_greatest_5 at h
    refine lv_iload hx hb dX12_greatest_5 (lv_at hl 4 rfl) ?_
    refine lv_bipush (v := 6) hx hb dX12_greatest_7 (by decide) ?_
    refine lv_icmp_ge (tgt := 63) hx hb dX12_greatest_9 (by decide) (fun c1 => ?_) (fun c1 => ?_)
    · have h := h.1 c1
      refine lv_iload_n hx hb dX12_greatest_63 rfl (lv_at hl 3 rfl) ?_
      exact W.iret (v := x3) hx hb hr (fun t ht hWm => ⟨⟨_, M, rfl, h, tq_pe ht hW⟩, hS.F ht⟩) hS.2.2 dX12_greatest_64
    · have h := h.2 c1
      refine lv_iload hx hb dX12_greatest_12 (lv_at hl 4 rfl) ?_
      refine lv_iload_n hx hb dX12_greatest_14 rfl (lv_at hl 2 rfl) ?_
      refine lv_icmp_eq (tgt := 57) hx hb dX12_greatest_15 (by decide) (fun c2 => ?_) (fun c2 => ?_)
      · have h := h.1 c2
        exact bX12_greatest_57 C (fun M9 a09 a19 a29 a39 H9 q9 ls9 h9 hW9 hS9 hl9 => ih M9 a09 a19 a29 a39 H9 q9 ls9 h9 hW9 hS9 hl9) _ _ _ _ _ _ _ _ h hW hS (lv_sub hl [0, 1, 2, 3, 4] rfl)
      · have h := h.2 c2
        refine lv_aload_n hx hb dX12_greatest_18 rfl (lv_at hl 0 rfl) ?_
        refine tqm_get (v := .ref (ad 251 0)) hx hb hw tq_inX12 hown hK hW (by decide) (tq_mk_64 (by decide)) rfl 51 (by decide) (hw _ tw_1459) (fun _ h9 => h9) rfl dX12_greatest_19 ?_
        refine lv_iload hx hb dX12_greatest_22 (lv_at hl 4 rfl) ?_
        obtain ⟨b3, h⟩ := h
        refine tqm_aald (jn := x4.toNatClampNeg) (v := .ref (ad 151 x4.toNatClampNeg)) hx hb hK hW (by decide) (tq_mk_251 (by decide)) 2 rfl rfl b3 rfl rfl dX12_greatest_24 ?_
        refine lv_iload_n hx hb dX12_greatest_25 rfl (lv_at hl 1 rfl) ?_
        obtain ⟨b4, h⟩ := h
        refine tqm_iald (jn := x1.toNatClampNeg) hx hb hK hW (by decide) (tq_mk_151 (tq_lt b3)) b4 rfl dX12_greatest_26 ?_
        refine lv_if_le (tgt := 57) hx hb dX12_greatest_27 (by decide) (fun c5 => ?_) (fun c5 => ?_)
        · have h := h.1 c5
          exact bX12_greatest_57 C (fun M9 a09 a19 a29 a39 H9 q9 ls9 h9 hW9 hS9 hl9 => ih M9 a09 a19 a29 a39 H9 q9 ls9 h9 hW9 hS9 hl9) _ _ _ _ _ _ _ _ h hW hS (lv_sub hl [0, 1, 2, 3, 4] rfl)
        · have h := h.2 c5
          refine lv_iload_n hx hb dX12_greatest_30 rfl (lv_at hl 3 rfl) ?_
          refine lv_if_lt (tgt := 54) hx hb dX12_greatest_31 (by decide) (fun c6 => ?_) (fun c6 => ?_)
          · have h := h.1 c6
            exact bX12_greatest_54 C (fun M9 a09 a19 a29 a39 H9 q9 ls9 h9 hW9 hS9 hl9 => ih M9 a09 a19 a29 a39 H9 q9 ls9 h9 hW9 hS9 hl9) _ _ _ _ _ _ _ h hW hS (lv_sub hl [0, 1, 2, 4] rfl)
          · have h := h.2 c6
            refine lv_aload_n hx hb dX12_greatest_34 rfl (lv_at hl 0 rfl) ?_
            refine tqm_get (v := .ref (ad 252 0)) hx hb hw tq_inX12 hown hK hW (by decide) (tq_mk_64 (by decide)) rfl 52 (by decide) (hw _ tw_1460) (fun _ h9 => h9) rfl dX12_greatest_35 ?_
            refine lv_iload hx hb dX12_greatest_38 (lv_at hl 4 rfl) ?_
            refine tqm_aald (jn := x4.toNatClampNeg) (v := .ref (ad 152 x4.toNatClampNeg)) hx hb hK hW (by decide) (tq_mk_252 (by decide)) 2 rfl rfl b3 rfl rfl dX12_greatest_40 ?_
            refine lv_iload_n hx hb dX12_greatest_41 rfl (lv_at hl 1 rfl) ?_
            refine tqm_iald (jn := x1.toNatClampNeg) hx hb hK hW (by decide) (tq_mk_152 (tq_lt b3)) b4 rfl dX12_greatest_42 ?_
            refine lv_aload_n hx hb dX12_greatest_43 rfl (lv_at hl 0 rfl) ?_
            refine tqm_get (v := .ref (ad 252 0)) hx hb hw tq_inX12 hown hK hW (by decide) (tq_mk_64 (by decide)) rfl 52 (by decide) (hw _ tw_1460) (fun _ h9 => h9) rfl dX12_greatest_44 ?_
            refine lv_iload_n hx hb dX12_greatest_47 rfl (lv_at hl 3 rfl) ?_
            obtain ⟨b7, h⟩ := h
            refine tqm_aald (jn := x3.toNatClampNeg) (v := .ref (ad 152 x3.toNatClampNeg)) hx hb hK hW (by decide) (tq_mk_252 (by decide)) 2 rfl rfl b7 rfl rfl dX12_greatest_48 ?_
            refine lv_iload_n hx hb dX12_greatest_49 rfl (lv_at hl 1 rfl) ?_
            refine tqm_iald (jn := x1.toNatClampNeg) hx hb hK hW (by decide) (tq_mk_152 (tq_lt b7)) b4 rfl dX12_greatest_50 ?_
            refine lv_icmp_le (tgt := 57) hx hb dX12_greatest_51 (by decide) (fun c8 => ?_) (fun c8 => ?_)
            · have h := h.1 c8
              exact bX12_greatest_57 C (fun M9 a09 a19 a29 a39 H9 q9 ls9 h9 hW9 hS9 hl9 => ih M9 a09 a19 a29 a39 H9 q9 ls9 h9 hW9 hS9 hl9) _ _ _ _ _ _ _ _ h hW hS (lv_sub hl [0, 1, 2, 3, 4] rfl)
            · have h := h.2 c8
              exact bX12_greatest_54 C (fun M9 a09 a19 a29 a39 H9 q9 ls9 h9 hW9 hS9 hl9 => ih M9 a09 a19 a29 a39 H9 q9 ls9 h9 hW9 hS9 hl9) _ _ _ _ _ _ _ h hW hS (lv_sub hl [0, 1, 2, 4] rfl)
set_option maxHeartbeats 4000000 in
set_option maxRecDepth 100000 in
theorem kX12_greatest {post : tq_St → Int32 → Prop} {M : tq_St} {p0 : Int32} {p1 : Int32} (h : wpX12_greatest post M p0 p1) : tq_mI l yX12_greatest (tq_ws yX12_greatest cX12_greatest 5 (some .int)) 0 0 D cy z H0 ad N S M [.ref (ad 64 0), .int p0, .int p1] post := by
  unfold wpX12_greatest at h
  refine Met.ofW (cc := cX12_greatest) (maxL := 5) (ret := (some .int)) (by decide) rfl ?_
  intro p e s m args below meth c s₁ B hml hv
  obtain ⟨rfl, hW, hK, hG⟩ := hv
  have hx := B.exec
  have hb := B.bytes
  have hr := B.returns
  have hts := atoms_spec (ws := (tq_ws yX12_greatest cX12_greatest 5 (some .int))) B.pre
  have hw : ∀ w ∈ tq_W, w.before _ s = true := fun w h => hts w (List.mem_cons_of_mem _ h)
  have hown : s.vm.findClass RX12 = some m.cls := findClass_of_methodNamed B.named
  have hlocks := B.notSynchronized
  have C : tq_At p s m meth c [.ref (ad 64 0), .int p0, .int p1].toArray cX12_greatest 5 ((some .int)) ((tq_ws yX12_greatest cX12_greatest 5 (some .int))) RX12 D cy z ad := ⟨hx, hb, hr, hml, hown, hts, hlocks, hK, hG⟩
  have hS : va_S (fun q => z ≤ q) s.heap s.heap [] := va_S.rf
  have hl := lv_entry ([.ref (ad 64 0), .int p0, .int p1]) (n := 5) (Nat.le_of_ble_eq_true rfl)
  rw [lg_entry_eq]
  generalize (lg_sl ([.ref (ad 64 0), .int p0, .int p1]) ++ List.replicate (5 - (lg_sl ([.ref (ad 64 0), .int p0, .int p1])).length) Slot.unset).toArray = ls at hl ⊢
  have hl : lv_has ls 5 [(0, .ref (ad 64 0)), (1, .int p0), (2, .int p1)] := hl
  have hW : tq_wd D cy z H0 ad N (tq_mix S M) s.heap := hW
  refine lv_iconst (v := (-1)) hx hb dX12_greatest_0 (by decide) ?_
  refine lv_istore_n (lv' := [(3, .int ((-1))), (0, .ref (ad 64 0)), (1, .int p0), (2, .int p1)]) hx hb dX12_greatest_1 rfl hl (by decide) rfl (fun ls hl => ?_)
  refine lv_iconst (v := 0) hx hb dX12_greatest_2 (by decide) ?_
  refine lv_istore (lv' := [(4, .int 0), (3, .int ((-1))), (0, .ref (ad 64 0)), (1, .int p0), (2, .int p1)]) hx hb dX12_greatest_3 hl (by decide) rfl (fun ls hl => ?_)
  obtain ⟨nq, h⟩ := h
  exact bX12_greatest_5 C  nq _ _ _ _ _ _ _ _ h hW hS (lv_sub hl [2, 3, 4, 1, 0] rfl)
