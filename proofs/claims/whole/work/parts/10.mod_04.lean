variable {l : Launch} {D : va_G} {cy : Nat → ClassId} {z : Nat} {H0 : Heap} {ad : Nat → Nat → Nat} {N : tq_Nn} {S : tq_St}
-- testHere
def wbX12_testHere_206 (post : tq_St → Int32 → Prop)  (M : tq_St) (x2 : Int32) : Prop :=
  ∀ M47, M47 = tq_up M 171 0 3 x2 → (∀ M48, M48 = tq_up M47 64 0 67 ((M47 64 0 67) + 1) → (wpX12_numberHere (fun M49 r50 => (¬ r50 = 0 → (∀ M52, M52 = tq_up M49 171 0 4 (M49 64 0 69) → (post M52 1))) ∧ (r50 = 0 → (post M49 0))) M48 ))
def wbX12_testHere_178 (post : tq_St → Int32 → Prop)  (M : tq_St) : Prop :=
  wpX12_here (fun M39 r40 => (r40 = 60 → (wbX12_testHere_206 post M39 r40)) ∧ (¬ r40 = 60 → ((r40 = 61 → (wbX12_testHere_206 post M39 r40)) ∧ (¬ r40 = 61 → ((r40 = 62 → (wbX12_testHere_206 post M39 r40)) ∧ (¬ r40 = 62 → (wpX12_wrong (fun M44 r45 => narrow .boolean (.int r45) = .int r45 ∧ post M44 r45) M39 ))))))) M 
def wbX12_testHere_155 (post : tq_St → Int32 → Prop)  (M : tq_St) : Prop :=
  (2 ≤ (M 171 0 1) → (wbX12_testHere_178 post M )) ∧ (¬ 2 ≤ (M 171 0 1) → (wpX12_sortHere (fun M32 r33 => (¬ r33 = 0 → (∀ M35, M35 = tq_up M32 171 0 2 (M32 64 0 69) → (wbX12_testHere_178 post M35 ))) ∧ (r33 = 0 → (post M32 0))) M ))
def wbX12_testHere_147 (post : tq_St → Int32 → Prop)  (M : tq_St) (y0 : Nat) : Prop :=
  wpX12_word (fun M36 r37 => (¬ r37 = 0 → (wbX12_testHere_155 post M36 )) ∧ (r37 = 0 → (post M36 0))) M y0
def wbX12_testHere_118 (post : tq_St → Int32 → Prop)  (M : tq_St) (x2 : Int32) (y0 : Int32) (y1 : Int32) : Prop :=
  vp_in y1 6 ∧ (∀ M28, M28 = tq_up M 171 0 y1.toNatClampNeg y0 → ((¬ x2 = 112 → ((¬ x2 = 98 → (wbX12_testHere_147 post M28 15)) ∧ (x2 = 98 → (wbX12_testHere_147 post M28 25)))) ∧ (x2 = 112 → (wbX12_testHere_147 post M28 24))))
def wbX12_testHere_29 (post : tq_St → Int32 → Prop)  (M : tq_St) : Prop :=
  wpX12_here (fun M9 r10 => ∀ M11, M11 = tq_up M9 171 0 2 ((-1)) → ((¬ r10 = 115 → ((¬ r10 = 112 → ((¬ r10 = 98 → (wbX12_testHere_118 post M11 r10 4 1)) ∧ (r10 = 98 → (wbX12_testHere_118 post M11 r10 2 1)))) ∧ (r10 = 112 → (wbX12_testHere_118 post M11 r10 0 1)))) ∧ (r10 = 115 → (∀ M15, M15 = tq_up M11 64 0 67 ((M11 64 0 67) + 1) → (wpX12_here (fun M16 r17 => (¬ r17 = 104 → (∀ M19, M19 = tq_up M16 171 0 1 1 → (wpX12_word (fun M20 r21 => (¬ r21 = 0 → (wbX12_testHere_155 post M20 )) ∧ (r21 = 0 → (post M20 0))) M19 23))) ∧ (r17 = 104 → (∀ M23, M23 = tq_up M16 171 0 1 3 → (wpX12_word (fun M24 r25 => (¬ r25 = 0 → (wbX12_testHere_155 post M24 )) ∧ (r25 = 0 → (post M24 0))) M23 14)))) M15 ))))) M 
def wpX12_testHere (post : tq_St → Int32 → Prop) (M : tq_St)  : Prop :=
  ∀ M1, M1 = tq_up M 171 0 0 0 → (wpX12_here (fun M2 r3 => (¬ r3 = 110 → (wbX12_testHere_29 post M2 )) ∧ (r3 = 110 → (wpX12_word (fun M5 r6 => (¬ r6 = 0 → (∀ M8, M8 = tq_up M5 171 0 0 1 → (wbX12_testHere_29 post M8 ))) ∧ (r6 = 0 → (post M5 0))) M2 22))) M1 )
set_option maxHeartbeats 4000000 in
set_option maxRecDepth 100000 in
theorem bX12_testHere_206 {p : Program} {e : Env} {s : State} {m : MethodId} {args : Array Value} {below : List Frame} {meth : Method} {c : Code} {post : tq_St → Int32 → Prop} (C : tq_At p s m meth c args cX12_testHere 3 ((some .boolean)) ((tq_ws yX12_testHere cX12_testHere 3 (some .boolean))) RX12 D cy z ad)  : ∀ (M : tq_St) (x2 : Int32) (H : Heap) (locs : List Loc) (ls : Array Slot), wbX12_testHere_206 post   M x2 → tq_wd D cy z H0 ad N (tq_mix S M) H → va_S (fun q => z ≤ q) s.heap H locs → lv_has ls 3 [(0, .ref (ad 64 0)), (1, .ref (ad 171 0)), (2, .int x2)] → W p l e (tq_rm 5 107) s m args below meth c H locs 0 0 (MQ below (va_Qi (fun r u => post u r) (tq_P D cy z H0 ad N S) (fun q => z ≤ q)) args s 0 0 (fun q => z ≤ q)) (F0 m 206 ls []) := by
  obtain ⟨hx, hb, hr, hml, hown, hts, hlocks, hK, hG⟩ := id C
  have hw : ∀ w ∈ tq_W, w.before args s = true := fun w h => hts w (List.mem_cons_of_mem _ h)
  intro M x2 H locs ls h hW hS hl
  unfold wbX12_testHere_206 at h
  refine lv_aload_n hx hb dX12_testHere_206 rfl (lv_at hl 1 rfl) ?_
  refine lv_iconst (v := 3) hx hb dX12_testHere_207 (by decide) ?_
  refine lv_iload_n hx hb dX12_testHere_208 rfl (lv_at hl 2 rfl) ?_
  refine tqm_iast (jn := 3) hx hb hK hW hS (by decide) (tq_mk_171 (by decide)) (by unfold vp_in; decide) (by decide) (tq_mk_171 (by decide)) dX12_testHere_209 (fun H locs hW hS => ?_)
  generalize eM47 : tq_up M 171 0 3 x2 = M47 at hW
  have h := h M47 eM47.symm
  refine lv_aload_n hx hb dX12_testHere_210 rfl (lv_at hl 0 rfl) ?_
  refine lv_dup hx hb dX12_testHere_211 rfl ?_
  refine tqm_get (v := .int (M47 64 0 67)) hx hb hw tq_inX12 hown hK hW (by decide) (tq_mk_64 (by decide)) rfl 67 (by decide) (hw _ tw_1475) (fun _ h9 => h9) rfl dX12_testHere_212 ?_
  refine lv_iconst (v := 1) hx hb dX12_testHere_215 (by decide) ?_
  refine lv_iadd hx hb dX12_testHere_216 ?_
  refine tqm_put hx hb hw tq_inX12 tyX12 tyX12_ok nmX12 hown hK hW hS (by decide) (tq_mk_64 (by decide)) rfl 67 (by decide) (hw _ tw_1475) (fun _ h9 => h9) rfl rfl rfl rfl (tq_mk_64 (by decide)) dX12_testHere_217 (fun H locs hW hS => ?_)
  generalize eM48 : tq_up M47 64 0 67 ((M47 64 0 67) + 1) = M48 at hW
  have h := h M48 eM48.symm
  refine lv_aload_n hx hb dX12_testHere_220 rfl (lv_at hl 0 rfl) ?_
  refine tq_callVi (As := []) (rest := []) (kX12_numberHere h) ⟨hx, hb, hml, hown, hts⟩ (cwV 0 hts (tq_goodV tw_1741 tw_1743 tw_65 tw_125 tw_1744) rfl rfl rfl (by decide +kernel) ⟨Nat.le_of_ble_eq_true rfl, Nat.le_of_ble_eq_true rfl⟩) hK hG hW hS rfl hl.1 rfl (Nat.le_of_ble_eq_true rfl) dX12_testHere_221 ⟨Nat.le_of_ble_eq_true rfl, Nat.le_of_ble_eq_true rfl⟩ (fun r50 M49 H locs h hW hS => ?_)
  refine lv_if_ne (tgt := 229) hx hb dX12_testHere_224 (by decide) (fun c51 => ?_) (fun c51 => ?_)
  · have h := h.1 c51
    refine lv_aload_n hx hb dX12_testHere_229 rfl (lv_at hl 1 rfl) ?_
    refine lv_iconst (v := 4) hx hb dX12_testHere_230 (by decide) ?_
    refine lv_aload_n hx hb dX12_testHere_231 rfl (lv_at hl 0 rfl) ?_
    refine tqm_get (v := .int (M49 64 0 69)) hx hb hw tq_inX12 hown hK hW (by decide) (tq_mk_64 (by decide)) rfl 69 (by decide) (hw _ tw_1477) (fun _ h9 => h9) rfl dX12_testHere_232 ?_
    refine tqm_iast (jn := 4) hx hb hK hW hS (by decide) (tq_mk_171 (by decide)) (by unfold vp_in; decide) (by decide) (tq_mk_171 (by decide)) dX12_testHere_235 (fun H locs hW hS => ?_)
    generalize eM52 : tq_up M49 171 0 4 (M49 64 0 69) = M52 at hW
    have h := h M52 eM52.symm
    refine lv_iconst (v := 1) hx hb dX12_testHere_236 (by decide) ?_
    exact W.zret (v := 1) hx hb hr rfl (fun t ht hWm => ⟨⟨_, M52, rfl, h, tq_pe ht hW⟩, hS.F ht⟩) hS.2.2 dX12_testHere_237
  · have h := h.2 c51
    refine lv_iconst (v := 0) hx hb dX12_testHere_227 (by decide) ?_
    exact W.zret (v := 0) hx hb hr rfl (fun t ht hWm => ⟨⟨_, M49, rfl, h, tq_pe ht hW⟩, hS.F ht⟩) hS.2.2 dX12_testHere_228
set_option maxHeartbeats 4000000 in
set_option maxRecDepth 100000 in
theorem bX12_testHere_178 {p : Program} {e : Env} {s : State} {m : MethodId} {args : Array Value} {below : List Frame} {meth : Method} {c : Code} {post : tq_St → Int32 → Prop} (C : tq_At p s m meth c args cX12_testHere 3 ((some .boolean)) ((tq_ws yX12_testHere cX12_testHere 3 (some .boolean))) RX12 D cy z ad)  : ∀ (M : tq_St)  (H : Heap) (locs : List Loc) (ls : Array Slot), wbX12_testHere_178 post   M  → tq_wd D cy z H0 ad N (tq_mix S M) H → va_S (fun q => z ≤ q) s.heap H locs → lv_has ls 3 [(0, .ref (ad 64 0)), (1, .ref (ad 171 0))] → W p l e (tq_rm 5 107) s m args below meth c H locs 0 0 (MQ below (va_Qi (fun r u => post u r) (tq_P D cy z H0 ad N S) (fun q => z ≤ q)) args s 0 0 (fun q => z ≤ q)) (F0 m 178 ls []) := by
  obtain ⟨hx, hb, hr, hml, hown, hts, hlocks, hK, hG⟩ := id C
  have hw : ∀ w ∈ tq_W, w.before args s = true := fun w h => hts w (List.mem_cons_of_mem _ h)
  intro M  H locs ls h hW hS hl
  unfold wbX12_testHere_178 at h
  refine lv_aload_n hx hb dX12_testHere_178 rfl (lv_at hl 0 rfl) ?_
  refine tq_callVi (As := []) (rest := []) (kX12_here h) ⟨hx, hb, hml, hown, hts⟩ (cwV 0 hts (tq_goodV tw_1716 tw_1718 tw_61 tw_125 tw_1719) rfl rfl rfl (by decide +kernel) ⟨Nat.le_of_ble_eq_true rfl, Nat.le_of_ble_eq_true rfl⟩) hK hG hW hS rfl hl.1 rfl (Nat.le_of_ble_eq_true rfl) dX12_testHere_179 ⟨Nat.le_of_ble_eq_true rfl, Nat.le_of_ble_eq_true rfl⟩ (fun r40 M39 H locs h hW hS => ?_)
  refine lv_istore_n (lv' := [(2, .int r40), (0, .ref (ad 64 0)), (1, .ref (ad 171 0))]) hx hb dX12_testHere_182 rfl hl (by decide) rfl (fun ls hl => ?_)
  refine lv_iload_n hx hb dX12_testHere_183 rfl (lv_at hl 0 rfl) ?_
  refine lv_bipush (v := 60) hx hb dX12_testHere_184 (by decide) ?_
  refine lv_icmp_eq (tgt := 206) hx hb dX12_testHere_186 (by decide) (fun c41 => ?_) (fun c41 => ?_)
  · have h := h.1 c41
    exact bX12_testHere_206 C  _ _ _ _ _ h hW hS (lv_sub hl [1, 2, 0] rfl)
  · have h := h.2 c41
    refine lv_iload_n hx hb dX12_testHere_189 rfl (lv_at hl 0 rfl) ?_
    refine lv_bipush (v := 61) hx hb dX12_testHere_190 (by decide) ?_
    refine lv_icmp_eq (tgt := 206) hx hb dX12_testHere_192 (by decide) (fun c42 => ?_) (fun c42 => ?_)
    · have h := h.1 c42
      exact bX12_testHere_206 C  _ _ _ _ _ h hW hS (lv_sub hl [1, 2, 0] rfl)
    · have h := h.2 c42
      refine lv_iload_n hx hb dX12_testHere_195 rfl (lv_at hl 0 rfl) ?_
      refine lv_bipush (v := 62) hx hb dX12_testHere_196 (by decide) ?_
      refine lv_icmp_eq (tgt := 206) hx hb dX12_testHere_198 (by decide) (fun c43 => ?_) (fun c43 => ?_)
      · have h := h.1 c43
        exact bX12_testHere_206 C  _ _ _ _ _ h hW hS (lv_sub hl [1, 2, 0] rfl)
      · have h := h.2 c43
        refine lv_aload_n hx hb dX12_testHere_201 rfl (lv_at hl 1 rfl) ?_
        refine tq_callVi (As := []) (rest := []) (kX12_wrong h) ⟨hx, hb, hml, hown, hts⟩ (cwV 0 hts (tq_goodV tw_1732 tw_1734 tw_63 tw_125 tw_1735) rfl rfl rfl (by decide +kernel) ⟨Nat.le_of_ble_eq_true rfl, Nat.le_of_ble_eq_true rfl⟩) hK hG hW hS rfl hl.1 rfl (Nat.le_of_ble_eq_true rfl) dX12_testHere_202 ⟨Nat.le_of_ble_eq_true rfl, Nat.le_of_ble_eq_true rfl⟩ (fun r45 M44 H locs h hW hS => ?_)
        obtain ⟨b46, h⟩ := h
        exact W.zret (v := r45) hx hb hr b46 (fun t ht hWm => ⟨⟨_, M44, rfl, h, tq_pe ht hW⟩, hS.F ht⟩) hS.2.2 dX12_testHere_205
set_option maxHeartbeats 4000000 in
set_option maxRecDepth 100000 in
theorem bX12_testHere_155 {p : Program} {e : Env} {s : State} {m : MethodId} {args : Array Value} {below : List Frame} {meth : Method} {c : Code} {post : tq_St → Int32 → Prop} (C : tq_At p s m meth c args cX12_testHere 3 ((some .boolean)) ((tq_ws yX12_testHere cX12_testHere 3 (some .boolean))) RX12 D cy z ad)  : ∀ (M : tq_St)  (H : Heap) (locs : List Loc) (ls : Array Slot), wbX12_testHere_155 post   M  → tq_wd D cy z H0 ad N (tq_mix S M) H → va_S (fun q => z ≤ q) s.heap H locs → lv_has ls 3 [(0, .ref (ad 64 0)), (1, .ref (ad 171 0))] → W p l e (tq_rm 5 107) s m args below meth c H locs 0 0 (MQ below (va_Qi (fun r u => post u r) (tq_P D cy z H0 ad N S) (fun q => z ≤ q)) args s 0 0 (fun q => z ≤ q)) (F0 m 155 ls []) := by
  obtain ⟨hx, hb, hr, hml, hown, hts, hlocks, hK, hG⟩ := id C
  have hw : ∀ w ∈ tq_W, w.before args s = true := fun w h => hts w (List.mem_cons_of_mem _ h)
  intro M  H locs ls h hW hS hl
  unfold wbX12_testHere_155 at h
  refine lv_aload_n hx hb dX12_testHere_155 rfl (lv_at hl 1 rfl) ?_
  refine lv_iconst (v := 1) hx hb dX12_testHere_156 (by decide) ?_
  refine tqm_iald (jn := 1) hx hb hK hW (by decide) (tq_mk_171 (by decide)) (by unfold vp_in; decide) (by decide) dX12_testHere_157 ?_
  refine lv_iconst (v := 2) hx hb dX12_testHere_158 (by decide) ?_
  refine lv_icmp_ge (tgt := 178) hx hb dX12_testHere_159 (by decide) (fun c31 => ?_) (fun c31 => ?_)
  · have h := h.1 c31
    exact bX12_testHere_178 C  _  _ _ _ h hW hS (lv_sub hl [0, 1] rfl)
  · have h := h.2 c31
    refine lv_aload_n hx hb dX12_testHere_162 rfl (lv_at hl 0 rfl) ?_
    refine tq_callVi (As := []) (rest := []) (kX12_sortHere h) ⟨hx, hb, hml, hown, hts⟩ (cwV 0 hts (tq_goodV tw_1736 tw_1738 tw_64 tw_125 tw_1739) rfl rfl rfl (by decide +kernel) ⟨Nat.le_of_ble_eq_true rfl, Nat.le_of_ble_eq_true rfl⟩) hK hG hW hS rfl hl.1 rfl (Nat.le_of_ble_eq_true rfl) dX12_testHere_163 ⟨Nat.le_of_ble_eq_true rfl, Nat.le_of_ble_eq_true rfl⟩ (fun r33 M32 H locs h hW hS => ?_)
    refine lv_if_ne (tgt := 171) hx hb dX12_testHere_166 (by decide) (fun c34 => ?_) (fun c34 => ?_)
    · have h := h.1 c34
      refine lv_aload_n hx hb dX12_testHere_171 rfl (lv_at hl 1 rfl) ?_
      refine lv_iconst (v := 2) hx hb dX12_testHere_172 (by decide) ?_
      refine lv_aload_n hx hb dX12_testHere_173 rfl (lv_at hl 0 rfl) ?_
      refine tqm_get (v := .int (M32 64 0 69)) hx hb hw tq_inX12 hown hK hW (by decide) (tq_mk_64 (by decide)) rfl 69 (by decide) (hw _ tw_1477) (fun _ h9 => h9) rfl dX12_testHere_174 ?_
      refine tqm_iast (jn := 2) hx hb hK hW hS (by decide) (tq_mk_171 (by decide)) (by unfold vp_in; decide) (by decide) (tq_mk_171 (by decide)) dX12_testHere_177 (fun H locs hW hS => ?_)
      generalize eM35 : tq_up M32 171 0 2 (M32 64 0 69) = M35 at hW
      have h := h M35 eM35.symm
      exact bX12_testHere_178 C  _  _ _ _ h hW hS (lv_sub hl [0, 1] rfl)
    · have h := h.2 c34
      refine lv_iconst (v := 0) hx hb dX12_testHere_169 (by decide) ?_
      exact W.zret (v := 0) hx hb hr rfl (fun t ht hWm => ⟨⟨_, M32, rfl, h, tq_pe ht hW⟩, hS.F ht⟩) hS.2.2 dX12_testHere_170
set_option maxHeartbeats 4000000 in
set_option maxRecDepth 100000 in
theorem bX12_testHere_147 {p : Program} {e : Env} {s : State} {m : MethodId} {args : Array Value} {below : List Frame} {meth : Method} {c : Code} {post : tq_St → Int32 → Prop} (C : tq_At p s m meth c args cX12_testHere 3 ((some .boolean)) ((tq_ws yX12_testHere cX12_testHere 3 (some .boolean))) RX12 D cy z ad)  : ∀ (M : tq_St) (y0 : Nat) (H : Heap) (locs : List Loc) (ls : Array Slot), wbX12_testHere_147 post   M y0 → tq_wd D cy z H0 ad N (tq_mix S M) H → va_S (fun q => z ≤ q) s.heap H locs → lv_has ls 3 [(0, .ref (ad 64 0)), (1, .ref (ad 171 0))] → W p l e (tq_rm 5 107) s m args below meth c H locs 0 0 (MQ below (va_Qi (fun r u => post u r) (tq_P D cy z H0 ad N S) (fun q => z ≤ q)) args s 0 0 (fun q => z ≤ q)) (F0 m 147 ls [.ref (ad 61 y0), .ref (ad 64 0)]) := by
  obtain ⟨hx, hb, hr, hml, hown, hts, hlocks, hK, hG⟩ := id C
  have hw : ∀ w ∈ tq_W, w.before args s = true := fun w h => hts w (List.mem_cons_of_mem _ h)
  intro M y0 H locs ls h hW hS hl
  unfold wbX12_testHere_147 at h
  refine tq_callVi (As := [.ref (ad 61 y0)]) (rest := []) (kX12_word h) ⟨hx, hb, hml, hown, hts⟩ (cwV 1 hts (tq_goodV tw_1726 tw_1728 tw_62 tw_125 tw_1729) rfl rfl rfl (by decide +kernel) ⟨Nat.le_of_ble_eq_true rfl, Nat.le_of_ble_eq_true rfl⟩) hK hG hW hS rfl hl.1 rfl (Nat.le_of_ble_eq_true rfl) dX12_testHere_147 ⟨Nat.le_of_ble_eq_true rfl, Nat.le_of_ble_eq_true rfl⟩ (fun r37 M36 H locs h hW hS => ?_)
  refine lv_if_ne (tgt := 155) hx hb dX12_testHere_150 (by decide) (fun c38 => ?_) (fun c38 => ?_)
  · have h := h.1 c38
    exact bX12_testHere_155 C  _  _ _ _ h hW hS (lv_sub hl [0, 1] rfl)
  · have h := h.2 c38
    refine lv_iconst (v := 0) hx hb dX12_testHere_153 (by decide) ?_
    exact W.zret (v := 0) hx hb hr rfl (fun t ht hWm => ⟨⟨_, M36, rfl, h, tq_pe ht hW⟩, hS.F ht⟩) hS.2.2 dX12_testHere_154
set_option maxHeartbeats 4000000 in
set_option maxRecDepth 100000 in
theorem bX12_testHere_118 {p : Program} {e : Env} {s : State} {m : MethodId} {args : Array Value} {below : List Frame} {meth : Method} {c : Code} {post : tq_St → Int32 → Prop} (C : tq_At p s m meth c args cX12_testHere 3 ((some .boolean)) ((tq_ws yX12_testHere cX12_testHere 3 (some .boolean))) RX12 D cy z ad)  : ∀ (M : tq_St) (x2 : Int32) (y0 : Int32) (y1 : Int32) (H : Heap) (locs : List Loc) (ls : Array Slot), wbX12_testHere_118 post   M x2 y0 y1 → tq_wd D cy z H0 ad N (tq_mix S M) H → va_S (fun q => z ≤ q) s.heap H locs → lv_has ls 3 [(0, .ref (ad 64 0)), (1, .ref (ad 171 0)), (2, .int x2)] → W p l e (tq_rm 5 107) s m args below meth c H locs 0 0 (MQ below (va_Qi (fun r u => post u r) (tq_P D cy z H0 ad N S) (fun q => z ≤ q)) args s 0 0 (fun q => z ≤ q)) (F0 m 118 ls [.int y0, .int y1, .ref (ad 171 0)]) := by
  obtain ⟨hx, hb, hr, hml, hown, hts, hlocks, hK, hG⟩ := id C
  have hw : ∀ w ∈ tq_W, w.before args s = true := fun w h => hts w (List.mem_cons_of_mem _ h)
  intro M x2 y0 y1 H locs ls h hW hS hl
  unfold wbX12_testHere_118 at h
  obtain ⟨b27, h⟩ := h
  refine tqm_iast (jn := y1.toNatClampNeg) hx hb hK hW hS (by decide) (tq_mk_171 (by decide)) b27 rfl (tq_mk_171 (by decide)) dX12_testHere_118 (fun H locs hW hS => ?_)
  generalize eM28 : tq_up M 171 0 y1.toNatClampNeg y0 = M28 at hW
  have h := h M28 eM28.symm
  refine lv_aload_n hx hb dX12_testHere_119 rfl (lv_at hl 0 rfl) ?_
  refine lv_iload_n hx hb dX12_testHere_120 rfl (lv_at hl 2 rfl) ?_
  refine lv_bipush (v := 112) hx hb dX12_testHere_121 (by decide) ?_
  refine lv_icmp_ne (tgt := 132) hx hb dX12_testHere_123 (by decide) (fun c29 => ?_) (fun c29 => ?_)
  · have h := h.1 c29
    refine lv_iload_n hx hb dX12_testHere_132 rfl (lv_at hl 2 rfl) ?_
    refine lv_bipush (v := 98) hx hb dX12_testHere_133 (by decide) ?_
    refine lv_icmp_ne (tgt := 144) hx hb dX12_testHere_135 (by decide) (fun c30 => ?_) (fun c30 => ?_)
    · have h := h.1 c30
      refine tq_ldcwS hx hb hown (hG.2.1 ("TwoSeasModel", 293, "day", 15) (by decide)) dX12_testHere_144 ?_
      exact bX12_testHere_147 C  _ _ _ _ _ h hW hS (lv_sub hl [0, 1] rfl)
    · have h := h.2 c30
      refine tq_ldcwS hx hb hown (hG.2.1 ("TwoSeasModel", 291, "bullion", 25) (by decide)) dX12_testHere_138 ?_
      refine lv_goto (tgt := 147) hx hb dX12_testHere_141 (by decide) ?_
      exact bX12_testHere_147 C  _ _ _ _ _ h hW hS (lv_sub hl [0, 1] rfl)
  · have h := h.2 c29
    refine tq_ldcwS hx hb hown (hG.2.1 ("TwoSeasModel", 289, "price", 24) (by decide)) dX12_testHere_126 ?_
    refine lv_goto (tgt := 147) hx hb dX12_testHere_129 (by decide) ?_
    exact bX12_testHere_147 C  _ _ _ _ _ h hW hS (lv_sub hl [0, 1] rfl)
set_option maxHeartbeats 4000000 in
set_option maxRecDepth 100000 in
theorem bX12_testHere_29 {p : Program} {e : Env} {s : State} {m : MethodId} {args : Array Value} {below : List Frame} {meth : Method} {c : Code} {post : tq_St → Int32 → Prop} (C : tq_At p s m meth c args cX12_testHere 3 ((some .boolean)) ((tq_ws yX12_testHere cX12_testHere 3 (some .boolean))) RX12 D cy z ad)  : ∀ (M : tq_St)  (H : Heap) (locs : List Loc) (ls : Array Slot), wbX12_testHere_29 post   M  → tq_wd D cy z H0 ad N (tq_mix S M) H → va_S (fun q => z ≤ q) s.heap H locs → lv_has ls 3 [(0, .ref (ad 64 0)), (1, .ref (ad 171 0))] → W p l e (tq_rm 5 107) s m args below meth c H locs 0 0 (MQ below (va_Qi (fun r u => post u r) (tq_P D cy z H0 ad N S) (fun q => z ≤ q)) args s 0 0 (fun q => z ≤ q)) (F0 m 29 ls []) := by
  obtain ⟨hx, hb, hr, hml, hown, hts, hlocks, hK, hG⟩ := id C
  have hw : ∀ w ∈ tq_W, w.before args s = true := fun w h => hts w (List.mem_cons_of_mem _ h)
  intro M  H locs ls h hW hS hl
  unfold wbX12_testHere_29 at h
  refine lv_aload_n hx hb dX12_testHere_29 rfl (lv_at hl 0 rfl) ?_
  refine tq_callVi (As := []) (rest := []) (kX12_here h) ⟨hx, hb, hml, hown, hts⟩ (cwV 0 hts (tq_goodV tw_1716 tw_1718 tw_61 tw_125 tw_1719) rfl rfl rfl (by decide +kernel) ⟨Nat.le_of_ble_eq_true rfl, Nat.le_of_ble_eq_true rfl⟩) hK hG hW hS rfl hl.1 rfl (Nat.le_of_ble_eq_true rfl) dX12_testHere_30 ⟨Nat.le_of_ble_eq_true rfl, Nat.le_of_ble_eq_true rfl⟩ (fun r10 M9 H locs h hW hS => ?_)
  refine lv_istore_n (lv' := [(2, .int r10), (0, .ref (ad 64 0)), (1, .ref (ad 171 0))]) hx hb dX12_testHere_33 rfl hl (by decide) rfl (fun ls hl => ?_)
  refine lv_aload_n hx hb dX12_testHere_34 rfl (lv_at hl 2 rfl) ?_
  refine lv_iconst (v := 2) hx hb dX12_testHere_35 (by decide) ?_
  refine lv_iconst (v := (-1)) hx hb dX12_testHere_36 (by decide) ?_
  refine tqm_iast (jn := 2) hx hb hK hW hS (by decide) (tq_mk_171 (by decide)) (by unfold vp_in; decide) (by decide) (tq_mk_171 (by decide)) dX12_testHere_37 (fun H locs hW hS => ?_)
  generalize eM11 : tq_up M9 171 0 2 ((-1)) = M11 at hW
  have h := h M11 eM11.symm
  refine lv_iload_n hx hb dX12_testHere_38 rfl (lv_at hl 0 rfl) ?_
  refine lv_bipush (v := 115) hx hb dX12_testHere_39 (by decide) ?_
  refine lv_icmp_ne (tgt := 95) hx hb dX12_testHere_41 (by decide) (fun c12 => ?_) (fun c12 => ?_)
  · have h := h.1 c12
    refine lv_aload_n hx hb dX12_testHere_95 rfl (lv_at hl 2 rfl) ?_
    refine lv_iconst (v := 1) hx hb dX12_testHere_96 (by decide) ?_
    refine lv_iload_n hx hb dX12_testHere_97 rfl (lv_at hl 0 rfl) ?_
    refine lv_bipush (v := 112) hx hb dX12_testHere_98 (by decide) ?_
    refine lv_icmp_ne (tgt := 107) hx hb dX12_testHere_100 (by decide) (fun c13 => ?_) (fun c13 => ?_)
    · have h := h.1 c13
      refine lv_iload_n hx hb dX12_testHere_107 rfl (lv_at hl 0 rfl) ?_
      refine lv_bipush (v := 98) hx hb dX12_testHere_108 (by decide) ?_
      refine lv_icmp_ne (tgt := 117) hx hb dX12_testHere_110 (by decide) (fun c14 => ?_) (fun c14 => ?_)
      · have h := h.1 c14
        refine lv_iconst (v := 4) hx hb dX12_testHere_117 (by decide) ?_
        exact bX12_testHere_118 C  _ _ _ _ _ _ _ h hW hS (lv_sub hl [1, 2, 0] rfl)
      · have h := h.2 c14
        refine lv_iconst (v := 2) hx hb dX12_testHere_113 (by decide) ?_
        refine lv_goto (tgt := 118) hx hb dX12_testHere_114 (by decide) ?_
        exact bX12_testHere_118 C  _ _ _ _ _ _ _ h hW hS (lv_sub hl [1, 2, 0] rfl)
    · have h := h.2 c13
      refine lv_iconst (v := 0) hx hb dX12_testHere_103 (by decide) ?_
      refine lv_goto (tgt := 118) hx hb dX12_testHere_104 (by decide) ?_
      exact bX12_testHere_118 C  _ _ _ _ _ _ _ h hW hS (lv_sub hl [1, 2, 0] rfl)
  · have h := h.2 c12
    refine lv_aload_n hx hb dX12_testHere_44 rfl (lv_at hl 1 rfl) ?_
    refine lv_dup hx hb dX12_testHere_45 rfl ?_
    refine tqm_get (v := .int (M11 64 0 67)) hx hb hw tq_inX12 hown hK hW (by decide) (tq_mk_64 (by decide)) rfl 67 (by decide) (hw _ tw_1475) (fun _ h9 => h9) rfl dX12_testHere_46 ?_
    refine lv_iconst (v := 1) hx hb dX12_testHere_49 (by decide) ?_
    refine lv_iadd hx hb dX12_testHere_50 ?_
    refine tqm_put hx hb hw tq_inX12 tyX12 tyX12_ok nmX12 hown hK hW hS (by decide) (tq_mk_64 (by decide)) rfl 67 (by decide) (hw _ tw_1475) (fun _ h9 => h9) rfl rfl rfl rfl (tq_mk_64 (by decide)) dX12_testHere_51 (fun H locs hW hS => ?_)
    generalize eM15 : tq_up M11 64 0 67 ((M11 64 0 67) + 1) = M15 at hW
    have h := h M15 eM15.symm
    refine lv_aload_n hx hb dX12_testHere_54 rfl (lv_at hl 1 rfl) ?_
    refine tq_callVi (As := []) (rest := []) (kX12_here h) ⟨hx, hb, hml, hown, hts⟩ (cwV 0 hts (tq_goodV tw_1716 tw_1718 tw_61 tw_125 tw_1719) rfl rfl rfl (by decide +kernel) ⟨Nat.le_of_ble_eq_true rfl, Nat.le_of_ble_eq_true rfl⟩) hK hG hW hS rfl hl.1 rfl (Nat.le_of_ble_eq_true rfl) dX12_testHere_55 ⟨Nat.le_of_ble_eq_true rfl, Nat.le_of_ble_eq_true rfl⟩ (fun r17 M16 H locs h hW hS => ?_)
    refine lv_bipush (v := 104) hx hb dX12_testHere_58 (by decide) ?_
    refine lv_icmp_ne (tgt := 79) hx hb dX12_testHere_60 (by decide) (fun c18 => ?_) (fun c18 => ?_)
    · have h := h.1 c18
      refine lv_aload_n hx hb dX12_testHere_79 rfl (lv_at hl 2 rfl) ?_
      refine lv_iconst (v := 1) hx hb dX12_testHere_80 (by decide) ?_
      refine lv_iconst (v := 1) hx hb dX12_testHere_81 (by decide) ?_
      refine tqm_iast (jn := 1) hx hb hK hW hS (by decide) (tq_mk_171 (by decide)) (by unfold vp_in; decide) (by decide) (tq_mk_171 (by decide)) dX12_testHere_82 (fun H locs hW hS => ?_)
      generalize eM19 : tq_up M16 171 0 1 1 = M19 at hW
      have h := h M19 eM19.symm
      refine lv_aload_n hx hb dX12_testHere_83 rfl (lv_at hl 1 rfl) ?_
      refine tq_ldcwS hx hb hown (hG.2.1 ("TwoSeasModel", 287, "tock", 23) (by decide)) dX12_testHere_84 ?_
      refine tq_callVi (As := [.ref (ad 61 23)]) (rest := []) (kX12_word h) ⟨hx, hb, hml, hown, hts⟩ (cwV 1 hts (tq_goodV tw_1726 tw_1728 tw_62 tw_125 tw_1729) rfl rfl rfl (by decide +kernel) ⟨Nat.le_of_ble_eq_true rfl, Nat.le_of_ble_eq_true rfl⟩) hK hG hW hS rfl hl.1 rfl (Nat.le_of_ble_eq_true rfl) dX12_testHere_87 ⟨Nat.le_of_ble_eq_true rfl, Nat.le_of_ble_eq_true rfl⟩ (fun r21 M20 H locs h hW hS => ?_)
      refine lv_if_ne (tgt := 155) hx hb dX12_testHere_90 (by decide) (fun c22 => ?_) (fun c22 => ?_)
      · have h := h.1 c22
        exact bX12_testHere_155 C  _  _ _ _ h hW hS (lv_sub hl [1, 2] rfl)
      · have h := h.2 c22
        refine lv_iconst (v := 0) hx hb dX12_testHere_93 (by decide) ?_
        exact W.zret (v := 0) hx hb hr rfl (fun t ht hWm => ⟨⟨_, M20, rfl, h, tq_pe ht hW⟩, hS.F ht⟩) hS.2.2 dX12_testHere_94
    · have h := h.2 c18
      refine lv_aload_n hx hb dX12_testHere_63 rfl (lv_at hl 2 rfl) ?_
      refine lv_iconst (v := 1) hx hb dX12_testHere_64 (by decide) ?_
      refine lv_iconst (v := 3) hx hb dX12_testHere_65 (by decide) ?_
      refine tqm_iast (jn := 1) hx hb hK hW hS (by decide) (tq_mk_171 (by decide)) (by unfold vp_in; decide) (by decide) (tq_mk_171 (by decide)) dX12_testHere_66 (fun H locs hW hS => ?_)
      generalize eM23 : tq_up M16 171 0 1 3 = M23 at hW
      have h := h M23 eM23.symm
      refine lv_aload_n hx hb dX12_testHere_67 rfl (lv_at hl 1 rfl) ?_
      refine tq_ldcwS hx hb hown (hG.2.1 ("TwoSeasModel", 285, "hips", 14) (by decide)) dX12_testHere_68 ?_
      refine tq_callVi (As := [.ref (ad 61 14)]) (rest := []) (kX12_word h) ⟨hx, hb, hml, hown, hts⟩ (cwV 1 hts (tq_goodV tw_1726 tw_1728 tw_62 tw_125 tw_1729) rfl rfl rfl (by decide +kernel) ⟨Nat.le_of_ble_eq_true rfl, Nat.le_of_ble_eq_true rfl⟩) hK hG hW hS rfl hl.1 rfl (Nat.le_of_ble_eq_true rfl) dX12_testHere_71 ⟨Nat.le_of_ble_eq_true rfl, Nat.le_of_ble_eq_true rfl⟩ (fun r25 M24 H locs h hW hS => ?_)
      refine lv_if_ne (tgt := 155) hx hb dX12_testHere_74 (by decide) (fun c26 => ?_) (fun c26 => ?_)
      · have h := h.1 c26
        exact bX12_testHere_155 C  _  _ _ _ h hW hS (lv_sub hl [1, 2] rfl)
      · have h := h.2 c26
        refine lv_iconst (v := 0) hx hb dX12_testHere_77 (by decide) ?_
        exact W.zret (v := 0) hx hb hr rfl (fun t ht hWm => ⟨⟨_, M24, rfl, h, tq_pe ht hW⟩, hS.F ht⟩) hS.2.2 dX12_testHere_78
set_option maxHeartbeats 4000000 in
set_option maxRecDepth 100000 in
theorem kX12_testHere {post : tq_St → Int32 → Prop} {M : tq_St}  (h : wpX12_testHere post M ) : tq_mI l yX12_testHere (tq_ws yX12_testHere cX12_testHere 3 (some .boolean)) 5 107 D cy z H0 ad N S M [.ref (ad 64 0), .ref (ad 171 0)] post := by
  unfold wpX12_testHere at h
  refine Met.ofW (cc := cX12_testHere) (maxL := 3) (ret := (some .boolean)) (by decide) rfl ?_
  intro p e s m args below meth c s₁ B hml hv
  obtain ⟨rfl, hW, hK, hG⟩ := hv
  have hx := B.exec
  have hb := B.bytes
  have hr := B.returns
  have hts := atoms_spec (ws := (tq_ws yX12_testHere cX12_testHere 3 (some .boolean))) B.pre
  have hw : ∀ w ∈ tq_W, w.before _ s = true := fun w h => hts w (List.mem_cons_of_mem _ h)
  have hown : s.vm.findClass RX12 = some m.cls := findClass_of_methodNamed B.named
  have hlocks := B.notSynchronized
  have C : tq_At p s m meth c [.ref (ad 64 0), .ref (ad 171 0)].toArray cX12_testHere 3 ((some .boolean)) ((tq_ws yX12_testHere cX12_testHere 3 (some .boolean))) RX12 D cy z ad := ⟨hx, hb, hr, hml, hown, hts, hlocks, hK, hG⟩
  have hS : va_S (fun q => z ≤ q) s.heap s.heap [] := va_S.rf
  have hl := lv_entry ([.ref (ad 64 0), .ref (ad 171 0)]) (n := 3) (Nat.le_of_ble_eq_true rfl)
  rw [lg_entry_eq]
  generalize (lg_sl ([.ref (ad 64 0), .ref (ad 171 0)]) ++ List.replicate (3 - (lg_sl ([.ref (ad 64 0), .ref (ad 171 0)])).length) Slot.unset).toArray = ls at hl ⊢
  have hl : lv_has ls 3 [(0, .ref (ad 64 0)), (1, .ref (ad 171 0))] := hl
  have hW : tq_wd D cy z H0 ad N (tq_mix S M) s.heap := hW
  refine lv_aload_n hx hb dX12_testHere_0 rfl (lv_at hl 1 rfl) ?_
  refine lv_iconst (v := 0) hx hb dX12_testHere_1 (by decide) ?_
  refine lv_iconst (v := 0) hx hb dX12_testHere_2 (by decide) ?_
  refine tqm_iast (jn := 0) hx hb hK hW hS (by decide) (tq_mk_171 (by decide)) (by unfold vp_in; decide) (by decide) (tq_mk_171 (by decide)) dX12_testHere_3 (fun H locs hW hS => ?_)
  generalize eM1 : tq_up M 171 0 0 0 = M1 at hW
  have h := h M1 eM1.symm
  refine lv_aload_n hx hb dX12_testHere_4 rfl (lv_at hl 0 rfl) ?_
  refine tq_callVi (As := []) (rest := []) (kX12_here h) ⟨hx, hb, hml, hown, hts⟩ (cwV 0 hts (tq_goodV tw_1716 tw_1718 tw_61 tw_125 tw_1719) rfl rfl rfl (by decide +kernel) ⟨Nat.le_of_ble_eq_true rfl, Nat.le_of_ble_eq_true rfl⟩) hK hG hW hS rfl hl.1 rfl (Nat.le_of_ble_eq_true rfl) dX12_testHere_5 ⟨Nat.le_of_ble_eq_true rfl, Nat.le_of_ble_eq_true rfl⟩ (fun r3 M2 H locs h hW hS => ?_)
  refine lv_bipush (v := 110) hx hb dX12_testHere_8 (by decide) ?_
  refine lv_icmp_ne (tgt := 29) hx hb dX12_testHere_10 (by decide) (fun c4 => ?_) (fun c4 => ?_)
  · have h := h.1 c4
    exact bX12_testHere_29 C  _  _ _ _ h hW hS (lv_sub hl [0, 1] rfl)
  · have h := h.2 c4
    refine lv_aload_n hx hb dX12_testHere_13 rfl (lv_at hl 0 rfl) ?_
    refine tq_ldcwS hx hb hown (hG.2.1 ("TwoSeasModel", 283, "not ", 22) (by decide)) dX12_testHere_14 ?_
    refine tq_callVi (As := [.ref (ad 61 22)]) (rest := []) (kX12_word h) ⟨hx, hb, hml, hown, hts⟩ (cwV 1 hts (tq_goodV tw_1726 tw_1728 tw_62 tw_125 tw_1729) rfl rfl rfl (by decide +kernel) ⟨Nat.le_of_ble_eq_true rfl, Nat.le_of_ble_eq_true rfl⟩) hK hG hW hS rfl hl.1 rfl (Nat.le_of_ble_eq_true rfl) dX12_testHere_17 ⟨Nat.le_of_ble_eq_true rfl, Nat.le_of_ble_eq_true rfl⟩ (fun r6 M5 H locs h hW hS => ?_)
    refine lv_if_ne (tgt := 25) hx hb dX12_testHere_20 (by decide) (fun c7 => ?_) (fun c7 => ?_)
    · have h := h.1 c7
      refine lv_aload_n hx hb dX12_testHere_25 rfl (lv_at hl 1 rfl) ?_
      refine lv_iconst (v := 0) hx hb dX12_testHere_26 (by decide) ?_
      refine lv_iconst (v := 1) hx hb dX12_testHere_27 (by decide) ?_
      refine tqm_iast (jn := 0) hx hb hK hW hS (by decide) (tq_mk_171 (by decide)) (by unfold vp_in; decide) (by decide) (tq_mk_171 (by decide)) dX12_testHere_28 (fun H locs hW hS => ?_)
      generalize eM8 : tq_up M5 171 0 0 1 = M8 at hW
      have h := h M8 eM8.symm
      exact bX12_testHere_29 C  _  _ _ _ h hW hS (lv_sub hl [0, 1] rfl)
    · have h := h.2 c7
      refine lv_iconst (v := 0) hx hb dX12_testHere_23 (by decide) ?_
      exact W.zret (v := 0) hx hb hr rfl (fun t ht hWm => ⟨⟨_, M5, rfl, h, tq_pe ht hW⟩, hS.F ht⟩) hS.2.2 dX12_testHere_24
-- paragraphHere
def wbX12_paragraphHere_147 (post : tq_St → Int32 → Prop) (L39 : tq_St → Int32 → Int32 → Int32 → Int32 → Prop) (M : tq_St) (x1 : Int32) (x2 : Int32) (x3 : Int32) (x4 : Int32) (y0 : Nat) : Prop :=
  wpX12_word (fun M32 r33 => (¬ r33 = 0 → (L39 M32 x1 x2 x3 x4)) ∧ (r33 = 0 → (post M32 0))) M y0
def wbX12_paragraphHere_129 (post : tq_St → Int32 → Prop) (L39 : tq_St → Int32 → Int32 → Int32 → Int32 → Prop) (M : tq_St) (x1 : Int32) (x2 : Int32) (x3 : Int32) (y0 : Int32) : Prop :=
  (¬ y0 = 1 → (wbX12_paragraphHere_147 post  L39 M x1 x2 x3 y0 9)) ∧ (y0 = 1 → (wbX12_paragraphHere_147 post  L39 M x1 x2 x3 y0 27))
def wbX12_paragraphHere_155 (post : tq_St → Int32 → Prop)  (M : tq_St) (x1 : Int32) (x2 : Int32) (x3 : Int32) : Prop :=
  ∀ M10, M10 = tq_up M 170 0 3 x3 → (vp_in x1 150 ∧ (¬ (4 * x2) < 0 ∧ (4 * x2).toNatClampNeg + (4 : Int32).toNatClampNeg ≤ 24 ∧ (∀ M14, M14 = tq_cp M10 118 x1.toNatClampNeg (va_cpy (M10 170 0) (M10 118 x1.toNatClampNeg) (0 : Int32).toNatClampNeg (4 * x2).toNatClampNeg (4 : Int32).toNatClampNeg) → (post M14 1))))
def wbX12_paragraphHere_39 (post : tq_St → Int32 → Prop) : Nat → tq_St → Int32 → Int32 → Int32 → Int32 → Prop
  | 0, _, _, _, _, _ => False
  | n + 1, M, x1, x2, x3, x4 =>
    wpX12_testHere (fun M15 r16 => (¬ r16 = 0 → (∀ M18, M18 = tq_up M15 171 0 5 x4 → (vp_in x1 150 ∧ (¬ ((24 * x2) + (6 * x3)) < 0 ∧ ((24 * x2) + (6 * x3)).toNatClampNeg + (6 : Int32).toNatClampNeg ≤ 144 ∧ (∀ M22, M22 = tq_cp M18 119 x1.toNatClampNeg (va_cpy (M18 171 0) (M18 119 x1.toNatClampNeg) (0 : Int32).toNatClampNeg ((24 * x2) + (6 * x3)).toNatClampNeg (6 : Int32).toNatClampNeg) → (wpX12_here (fun M23 r24 => (¬ r24 = 32 → (wbX12_paragraphHere_155 post M23 x1 x2 (x3 + 1))) ∧ (r24 = 32 → ((¬ (x3 + 1) = 4 → (∀ M27, M27 = tq_up M23 64 0 67 ((M23 64 0 67) + 1) → (wpX12_here (fun M28 r29 => (¬ r29 = 111 → (wbX12_paragraphHere_129 post  (wbX12_paragraphHere_39 post n) M28 x1 x2 (x3 + 1) 0)) ∧ (r29 = 111 → (wbX12_paragraphHere_129 post  (wbX12_paragraphHere_39 post n) M28 x1 x2 (x3 + 1) 1))) M27 ))) ∧ ((x3 + 1) = 4 → (wbX12_paragraphHere_155 post M23 x1 x2 (x3 + 1)))))) M22 )))))) ∧ (r16 = 0 → (post M15 0))) M 
def wpX12_paragraphHere (post : tq_St → Int32 → Prop) (M : tq_St) (p0 : Int32) (p1 : Int32) : Prop :=
  wpX12_actHere (fun M1 r2 => (¬ r2 = 0 → (wpX12_here (fun M4 r5 => (¬ r5 = 32 → (wbX12_paragraphHere_155 post M4 p0 p1 0)) ∧ (r5 = 32 → (wpX12_word (fun M7 r8 => (¬ r8 = 0 → (∃ nq, wbX12_paragraphHere_39 post nq M7 p0 p1 0 0)) ∧ (r8 = 0 → (post M7 0))) M4 26))) M1 )) ∧ (r2 = 0 → (post M1 0))) M 
set_option maxHeartbeats 4000000 in
set_option maxRecDepth 100000 in
theorem bX12_paragraphHere_147 {p : Program} {e : Env} {s : State} {m : MethodId} {args : Array Value} {below : List Frame} {meth : Method} {c : Code} {post : tq_St → Int32 → Prop} (C : tq_At p s m meth c args cX12_paragraphHere 5 ((some .boolean)) ((tq_ws yX12_paragraphHere cX12_paragraphHere 5 (some .boolean))) RX12 D cy z ad) {L39 : tq_St → Int32 → Int32 → Int32 → Int32 → Prop} (hL39 : ∀ (M : tq_St) (x1 : Int32) (x2 : Int32) (x3 : Int32) (x4 : Int32) (H : Heap) (locs : List Loc) (ls : Array Slot), L39 M x1 x2 x3 x4 → tq_wd D cy z H0 ad N (tq_mix S M) H → va_S (fun q => z ≤ q) s.heap H locs → lv_has ls 5 [(0, .ref (ad 64 0)), (1, .int x1), (2, .int x2), (3, .int x3), (4, .int x4)] → W p l e (tq_rm 6 130) s m args below meth c H locs 0 0 (MQ below (va_Qi (fun r u => post u r) (tq_P D cy z H0 ad N S) (fun q => z ≤ q)) args s 0 0 (fun q => z ≤ q)) (F0 m 39 ls [])) : ∀ (M : tq_St) (x1 : Int32) (x2 : Int32) (x3 : Int32) (x4 : Int32) (y0 : Nat) (H : Heap) (locs : List Loc) (ls : Array Slot), wbX12_paragraphHere_147 post  L39 M x1 x2 x3 x4 y0 → tq_wd D cy z H0 ad N (tq_mix S M) H → va_S (fun q => z ≤ q) s.heap H locs → lv_has ls 5 [(0, .ref (ad 64 0)), (1, .int x1), (2, .int x2), (3, .int x3), (4, .int x4)] → W p l e (tq_rm 6 130) s m args below meth c H locs 0 0 (MQ below (va_Qi (fun r u => post u r) (tq_P D cy z H0 ad N S) (fun q => z ≤ q)) args s 0 0 (fun q => z ≤ q)) (F0 m 147 ls [.ref (ad 61 y0), .ref (ad 64 0)]) := by
  obtain ⟨hx, hb, hr, hml, hown, hts, hlocks, hK, hG⟩ := id C
  have hw : ∀ w ∈ tq_W, w.before args s = true := fun w h => hts w (List.mem_cons_of_mem _ h)
  intro M x1 x2 x3 x4 y0 H locs ls h hW hS hl
  unfold wbX12_paragraphHere_147 at h
  refine tq_callVi (As := [.ref (ad 61 y0)]) (rest := []) (kX12_word h) ⟨hx, hb, hml, hown, hts⟩ (cwV 1 hts (tq_goodV tw_1726 tw_1728 tw_62 tw_125 tw_1729) rfl rfl rfl (by decide +kernel) ⟨Nat.le_of_ble_eq_true rfl, Nat.le_of_ble_eq_true rfl⟩) hK hG hW hS rfl hl.1 rfl (Nat.le_of_ble_eq_true rfl) dX12_paragraphHere_147 ⟨Nat.le_of_ble_eq_true rfl, Nat.le_of_ble_eq_true rfl⟩ (fun r33 M32 H locs h hW hS => ?_)
  refine lv_if_ne (tgt := 39) hx hb dX12_paragraphHere_150 (by decide) (fun c34 => ?_) (fun c34 => ?_)
  · have h := h.1 c34
    exact hL39 _ _ _ _ _ _ _ _ h hW hS (lv_sub hl [0, 1, 2, 3, 4] rfl)
  · have h := h.2 c34
    refine lv_iconst (v := 0) hx hb dX12_paragraphHere_153 (by decide) ?_
    exact W.zret (v := 0) hx hb hr rfl (fun t ht hWm => ⟨⟨_, M32, rfl, h, tq_pe ht hW⟩, hS.F ht⟩) hS.2.2 dX12_paragraphHere_154
set_option maxHeartbeats 4000000 in
set_option maxRecDepth 100000 in
theorem bX12_paragraphHere_129 {p : Program} {e : Env} {s : State} {m : MethodId} {args : Array Value} {below : List Frame} {meth : Method} {c : Code} {post : tq_St → Int32 → Prop} (C : tq_At p s m meth c args cX12_paragraphHere 5 ((some .boolean)) ((tq_ws yX12_paragraphHere cX12_paragraphHere 5 (some .boolean))) RX12 D cy z ad) {L39 : tq_St → Int32 → Int32 → Int32 → Int32 → Prop} (hL39 : ∀ (M : tq_St) (x1 : Int32) (x2 : Int32) (x3 : Int32) (x4 : Int32) (H : Heap) (locs : List Loc) (ls : Array Slot), L39 M x1 x2 x3 x4 → tq_wd D cy z H0 ad N (tq_mix S M) H → va_S (fun q => z ≤ q) s.heap H locs → lv_has ls 5 [(0, .ref (ad 64 0)), (1, .int x1), (2, .int x2), (3, .int x3), (4, .int x4)] → W p l e (tq_rm 6 130) s m args below meth c H locs 0 0 (MQ below (va_Qi (fun r u => post u r) (tq_P D cy z H0 ad N S) (fun q => z ≤ q)) args s 0 0 (fun q => z ≤ q)) (F0 m 39 ls [])) : ∀ (M : tq_St) (x1 : Int32) (x2 : Int32) (x3 : Int32) (y0 : Int32) (H : Heap) (locs : List Loc) (ls : Array Slot), wbX12_paragraphHere_129 post  L39 M x1 x2 x3 y0 → tq_wd D cy z H0 ad N (tq_mix S M) H → va_S (fun q => z ≤ q) s.heap H locs → lv_has ls 5 [(0, .ref (ad 64 0)), (1, .int x1), (2, .int x2), (3, .int x3)] → W p l e (tq_rm 6 130) s m args below meth c H locs 0 0 (MQ below (va_Qi (fun r u => post u r) (tq_P D cy z H0 ad N S) (fun q => z ≤ q)) args s 0 0 (fun q => z ≤ q)) (F0 m 129 ls [.int y0]) := by
  obtain ⟨hx, hb, hr, hml, hown, hts, hlocks, hK, hG⟩ := id C
  have hw : ∀ w ∈ tq_W, w.before args s = true := fun w h => hts w (List.mem_cons_of_mem _ h)
  intro M x1 x2 x3 y0 H locs ls h hW hS hl
  unfold wbX12_paragraphHere_129 at h
  refine lv_istore (lv' := [(4, .int y0), (0, .ref (ad 64 0)), (1, .int x1), (2, .int x2), (3, .int x3)]) hx hb dX12_paragraphHere_129 hl (by decide) rfl (fun ls hl => ?_)
  refine lv_aload_n hx hb dX12_paragraphHere_131 rfl (lv_at hl 1 rfl) ?_
  refine lv_iload hx hb dX12_paragraphHere_132 (lv_at hl 0 rfl) ?_
  refine lv_iconst (v := 1) hx hb dX12_paragraphHere_134 (by decide) ?_
  refine lv_icmp_ne (tgt := 144) hx hb dX12_paragraphHere_135 (by decide) (fun c31 => ?_) (fun c31 => ?_)
  · have h := h.1 c31
    refine tq_ldcwS hx hb hown (hG.2.1 ("TwoSeasModel", 311, "and ", 9) (by decide)) dX12_paragraphHere_144 ?_
    exact bX12_paragraphHere_147 C (fun M9 a09 a19 a29 a39 H9 q9 ls9 h9 hW9 hS9 hl9 => hL39 M9 a09 a19 a29 a39 H9 q9 ls9 h9 hW9 hS9 hl9) _ _ _ _ _ _ _ _ _ h hW hS (lv_sub hl [1, 2, 3, 4, 0] rfl)
  · have h := h.2 c31
    refine tq_ldcwS hx hb hown (hG.2.1 ("TwoSeasModel", 309, "or ", 27) (by decide)) dX12_paragraphHere_138 ?_
    refine lv_goto (tgt := 147) hx hb dX12_paragraphHere_141 (by decide) ?_
    exact bX12_paragraphHere_147 C (fun M9 a09 a19 a29 a39 H9 q9 ls9 h9 hW9 hS9 hl9 => hL39 M9 a09 a19 a29 a39 H9 q9 ls9 h9 hW9 hS9 hl9) _ _ _ _ _ _ _ _ _ h hW hS (lv_sub hl [1, 2, 3, 4, 0] rfl)
set_option maxHeartbeats 4000000 in
set_option maxRecDepth 100000 in
theorem bX12_paragraphHere_155 {p : Program} {e : Env} {s : State} {m : MethodId} {args : Array Value} {below : List Frame} {meth : Method} {c : Code} {post : tq_St → Int32 → Prop} (C : tq_At p s m meth c args cX12_paragraphHere 5 ((some .boolean)) ((tq_ws yX12_paragraphHere cX12_paragraphHere 5 (some .boolean))) RX12 D cy z ad)  : ∀ (M : tq_St) (x1 : Int32) (x2 : Int32) (x3 : Int32) (H : Heap) (locs : List Loc) (ls : Array Slot), wbX12_paragraphHere_155 post   M x1 x2 x3 → tq_wd D cy z H0 ad N (tq_mix S M) H → va_S (fun q => z ≤ q) s.heap H locs → lv_has ls 5 [(0, .ref (ad 64 0)), (1, .int x1), (2, .int x2), (3, .int x3)] → W p l e (tq_rm 6 130) s m args below meth c H locs 0 0 (MQ below (va_Qi (fun r u => post u r) (tq_P D cy z H0 ad N S) (fun q => z ≤ q)) args s 0 0 (fun q => z ≤ q)) (F0 m 155 ls []) := by
  obtain ⟨hx, hb, hr, hml, hown, hts, hlocks, hK, hG⟩ := id C
  have hw : ∀ w ∈ tq_W, w.before args s = true := fun w h => hts w (List.mem_cons_of_mem _ h)
  intro M x1 x2 x3 H locs ls h hW hS hl
  unfold wbX12_paragraphHere_155 at h
  refine lv_aload_n hx hb dX12_paragraphHere_155 rfl (lv_at hl 0 rfl) ?_
  refine tqm_get (v := .ref (ad 170 0)) hx hb hw tq_inX12 hown hK hW (by decide) (tq_mk_64 (by decide)) rfl 70 (by decide) (hw _ tw_1478) (fun _ h9 => h9) rfl dX12_paragraphHere_156 ?_
  refine lv_iconst (v := 3) hx hb dX12_paragraphHere_159 (by decide) ?_
  refine lv_iload_n hx hb dX12_paragraphHere_160 rfl (lv_at hl 3 rfl) ?_
  refine tqm_iast (jn := 3) hx hb hK hW hS (by decide) (tq_mk_170 (by decide)) (by unfold vp_in; decide) (by decide) (tq_mk_170 (by decide)) dX12_paragraphHere_161 (fun H locs hW hS => ?_)
  generalize eM10 : tq_up M 170 0 3 x3 = M10 at hW
  have h := h M10 eM10.symm
  refine lv_aload_n hx hb dX12_paragraphHere_162 rfl (lv_at hl 0 rfl) ?_
  refine tqm_get (v := .ref (ad 170 0)) hx hb hw tq_inX12 hown hK hW (by decide) (tq_mk_64 (by decide)) rfl 70 (by decide) (hw _ tw_1478) (fun _ h9 => h9) rfl dX12_paragraphHere_163 ?_
  refine lv_iconst (v := 0) hx hb dX12_paragraphHere_166 (by decide) ?_
  refine lv_aload_n hx hb dX12_paragraphHere_167 rfl (lv_at hl 0 rfl) ?_
  refine tqm_get (v := .ref (ad 218 0)) hx hb hw tq_inX12 hown hK hW (by decide) (tq_mk_64 (by decide)) rfl 18 (by decide) (hw _ tw_1426) (fun _ h9 => h9) rfl dX12_paragraphHere_168 ?_
  refine lv_iload_n hx hb dX12_paragraphHere_171 rfl (lv_at hl 1 rfl) ?_
  obtain ⟨b11, h⟩ := h
  refine tqm_aald (jn := x1.toNatClampNeg) (v := .ref (ad 118 x1.toNatClampNeg)) hx hb hK hW (by decide) (tq_mk_218 (by decide)) 2 rfl rfl b11 rfl rfl dX12_paragraphHere_172 ?_
  refine lv_iconst (v := 4) hx hb dX12_paragraphHere_173 (by decide) ?_
  refine lv_iload_n hx hb dX12_paragraphHere_174 rfl (lv_at hl 2 rfl) ?_
  refine lv_imul hx hb dX12_paragraphHere_175 ?_
  refine lv_iconst (v := 4) hx hb dX12_paragraphHere_176 (by decide) ?_
  obtain ⟨b12, h⟩ := h
  obtain ⟨b13, h⟩ := h
  refine tqm_copy hx hb (hml.trans hl.1.symm) hown (hw _ tw_1756) (hw _ tw_801) (hw _ tw_800) (hw _ tw_135) hK hW hS (by decide) (by decide) (tq_mk_170 (by decide)) (fun f => tq_mk_118 (tq_lt b11)) (by decide) b12 (by decide) (by decide) b13 (Nat.le_of_ble_eq_true rfl) (Nat.le_of_ble_eq_true rfl) dX12_paragraphHere_177 (fun H locs hW hS => ?_)
  generalize eM14 : tq_cp M10 118 x1.toNatClampNeg (va_cpy (M10 170 0) (M10 118 x1.toNatClampNeg) (0 : Int32).toNatClampNeg (4 * x2).toNatClampNeg (4 : Int32).toNatClampNeg) = M14 at hW
  have h := h M14 eM14.symm
  refine lv_iconst (v := 1) hx hb dX12_paragraphHere_180 (by decide) ?_
  exact W.zret (v := 1) hx hb hr rfl (fun t ht hWm => ⟨⟨_, M14, rfl, h, tq_pe ht hW⟩, hS.F ht⟩) hS.2.2 dX12_paragraphHere_181
set_option maxHeartbeats 4000000 in
set_option maxRecDepth 100000 in
theorem bX12_paragraphHere_39 {p : Program} {e : Env} {s : State} {m : MethodId} {args : Array Value} {below : List Frame} {meth : Method} {c : Code} {post : tq_St → Int32 → Prop} (C : tq_At p s m meth c args cX12_paragraphHere 5 ((some .boolean)) ((tq_ws yX12_paragraphHere cX12_paragraphHere 5 (some .boolean))) RX12 D cy z ad)  : ∀ n : Nat, ∀ (M : tq_St) (x1 : Int32) (x2 : Int32) (x3 : Int32) (x4 : Int32) (H : Heap) (locs : List Loc) (ls : Array Slot), wbX12_paragraphHere_39 post   n M x1 x2 x3 x4 → tq_wd D cy z H0 ad N (tq_mix S M) H → va_S (fun q => z ≤ q) s.heap H locs → lv_has ls 5 [(0, .ref (ad 64 0)), (1, .int x1), (2, .int x2), (3, .int x3), (4, .int x4)] → W p l e (tq_rm 6 130) s m args below meth c H locs 0 0 (MQ below (va_Qi (fun r u => post u r) (tq_P D cy z H0 ad N S) (fun q => z ≤ q)) args s 0 0 (fun q => z ≤ q)) (F0 m 39 ls []) := by
  obtain ⟨hx, hb, hr, hml, hown, hts, hlocks, hK, hG⟩ := id C
  have hw : ∀ w ∈ tq_W, w.before args s = true := fun w h => hts w (List.mem_cons_of_mem _ h)
  intro n
  induction n with
  | zero =>
    intro M x1 x2 x3 x4 H locs ls h
    exact absurd h (by unfold wbX12_paragraphHere_39; exact id)
  | succ n ih =>
    intro M x1 x2 x3 x4 H locs ls h hW hS hl
    unfold wbX12_paragraphHere_39 at h
    refine lv_aload_n hx hb dX12_paragraphHere_39 rfl (lv_at hl 0 rfl) ?_
    refine lv_aload_n hx hb dX12_paragraphHere_40 rfl (lv_at hl 0 rfl) ?_
    refine tqm_get (v := .ref (ad 171 0)) hx hb hw tq_inX12 hown hK hW (by decide) (tq_mk_64 (by decide)) rfl 71 (by decide) (hw _ tw_1479) (fun _ h9 => h9) rfl dX12_paragraphHere_41 ?_
    refine tq_callVi (As := [.ref (ad 171 0)]) (rest := []) (kX12_testHere h) ⟨hx, hb, hml, hown, hts⟩ (cwV 1 hts (tq_goodV tw_1746 tw_1748 tw_66 tw_125 tw_1749) rfl rfl rfl (by decide +kernel) ⟨Nat.le_of_ble_eq_true rfl, Nat.le_of_ble_eq_true rfl⟩) hK hG hW hS rfl hl.1 rfl (Nat.le_of_ble_eq_true rfl) dX12_paragraphHere_44 ⟨Nat.le_of_ble_eq_true rfl, Nat.le_of_ble_eq_true rfl⟩ (fun r16 M15 H locs h hW hS => ?_)
    refine lv_if_ne (tgt := 52) hx hb dX12_paragraphHere_47 (by decide) (fun c17 => ?_) (fun c17 => ?_)
    · have h := h.1 c17
      refine lv_aload_n hx hb dX12_paragraphHere_52 rfl (lv_at hl 0 rfl) ?_
      refine tqm_get (v := .ref (ad 171 0)) hx hb hw tq_inX12 hown hK hW (by decide) (tq_mk_64 (by decide)) rfl 71 (by decide) (hw _ tw_1479) (fun _ h9 => h9) rfl dX12_paragraphHere_53 ?_
      refine lv_iconst (v := 5) hx hb dX12_paragraphHere_56 (by decide) ?_
      refine lv_iload hx hb dX12_paragraphHere_57 (lv_at hl 4 rfl) ?_
      refine tqm_iast (jn := 5) hx hb hK hW hS (by decide) (tq_mk_171 (by decide)) (by unfold vp_in; decide) (by decide) (tq_mk_171 (by decide)) dX12_paragraphHere_59 (fun H locs hW hS => ?_)
      generalize eM18 : tq_up M15 171 0 5 x4 = M18 at hW
      have h := h M18 eM18.symm
      refine lv_aload_n hx hb dX12_paragraphHere_60 rfl (lv_at hl 0 rfl) ?_
      refine tqm_get (v := .ref (ad 171 0)) hx hb hw tq_inX12 hown hK hW (by decide) (tq_mk_64 (by decide)) rfl 71 (by decide) (hw _ tw_1479) (fun _ h9 => h9) rfl dX12_paragraphHere_61 ?_
      refine lv_iconst (v := 0) hx hb dX12_paragraphHere_64 (by decide) ?_
      refine lv_aload_n hx hb dX12_paragraphHere_65 rfl (lv_at hl 0 rfl) ?_
      refine tqm_get (v := .ref (ad 219 0)) hx hb hw tq_inX12 hown hK hW (by decide) (tq_mk_64 (by decide)) rfl 19 (by decide) (hw _ tw_1427) (fun _ h9 => h9) rfl dX12_paragraphHere_66 ?_
      refine lv_iload_n hx hb dX12_paragraphHere_69 rfl (lv_at hl 1 rfl) ?_
      obtain ⟨b19, h⟩ := h
      refine tqm_aald (jn := x1.toNatClampNeg) (v := .ref (ad 119 x1.toNatClampNeg)) hx hb hK hW (by decide) (tq_mk_219 (by decide)) 2 rfl rfl b19 rfl rfl dX12_paragraphHere_70 ?_
      refine lv_bipush (v := 24) hx hb dX12_paragraphHere_71 (by decide) ?_
      refine lv_iload_n hx hb dX12_paragraphHere_73 rfl (lv_at hl 2 rfl) ?_
      refine lv_imul hx hb dX12_paragraphHere_74 ?_
      refine lv_bipush (v := 6) hx hb dX12_paragraphHere_75 (by decide) ?_
      refine lv_iload_n hx hb dX12_paragraphHere_77 rfl (lv_at hl 3 rfl) ?_
      refine lv_imul hx hb dX12_paragraphHere_78 ?_
      refine lv_iadd hx hb dX12_paragraphHere_79 ?_
      refine lv_bipush (v := 6) hx hb dX12_paragraphHere_80 (by decide) ?_
      obtain ⟨b20, h⟩ := h
      obtain ⟨b21, h⟩ := h
      refine tqm_copy hx hb (hml.trans hl.1.symm) hown (hw _ tw_1756) (hw _ tw_801) (hw _ tw_800) (hw _ tw_135) hK hW hS (by decide) (by decide) (tq_mk_171 (by decide)) (fun f => tq_mk_119 (tq_lt b19)) (by decide) b20 (by decide) (by decide) b21 (Nat.le_of_ble_eq_true rfl) (Nat.le_of_ble_eq_true rfl) dX12_paragraphHere_82 (fun H locs hW hS => ?_)
      generalize eM22 : tq_cp M18 119 x1.toNatClampNeg (va_cpy (M18 171 0) (M18 119 x1.toNatClampNeg) (0 : Int32).toNatClampNeg ((24 * x2) + (6 * x3)).toNatClampNeg (6 : Int32).toNatClampNeg) = M22 at hW
      have h := h M22 eM22.symm
      refine lv_iinc (v := x3 + 1) (lv' := [(3, .int (x3 + 1)), (0, .ref (ad 64 0)), (1, .int x1), (2, .int x2), (4, .int x4)]) hx hb dX12_paragraphHere_85 hl (k := 3) rfl rfl (by decide) rfl (fun ls hl => ?_)
      refine lv_aload_n hx hb dX12_paragraphHere_88 rfl (lv_at hl 1 rfl) ?_
      refine tq_callVi (As := []) (rest := []) (kX12_here h) ⟨hx, hb, hml, hown, hts⟩ (cwV 0 hts (tq_goodV tw_1716 tw_1718 tw_61 tw_125 tw_1719) rfl rfl rfl (by decide +kernel) ⟨Nat.le_of_ble_eq_true rfl, Nat.le_of_ble_eq_true rfl⟩) hK hG hW hS rfl hl.1 rfl (Nat.le_of_ble_eq_true rfl) dX12_paragraphHere_89 ⟨Nat.le_of_ble_eq_true rfl, Nat.le_of_ble_eq_true rfl⟩ (fun r24 M23 H locs h hW hS => ?_)
      refine lv_bipush (v := 32) hx hb dX12_paragraphHere_92 (by decide) ?_
      refine lv_icmp_ne (tgt := 155) hx hb dX12_paragraphHere_94 (by decide) (fun c25 => ?_) (fun c25 => ?_)
      · have h := h.1 c25
        exact bX12_paragraphHere_155 C  _ _ _ _ _ _ _ h hW hS (lv_sub hl [1, 2, 3, 0] rfl)
      · have h := h.2 c25
        refine lv_iload_n hx hb dX12_paragraphHere_97 rfl (lv_at hl 0 rfl) ?_
        refine lv_iconst (v := 4) hx hb dX12_paragraphHere_98 (by decide) ?_
        refine lv_icmp_ne (tgt := 105) hx hb dX12_paragraphHere_99 (by decide) (fun c26 => ?_) (fun c26 => ?_)
        · have h := h.1 c26
          refine lv_aload_n hx hb dX12_paragraphHere_105 rfl (lv_at hl 1 rfl) ?_
          refine lv_dup hx hb dX12_paragraphHere_106 rfl ?_
          refine tqm_get (v := .int (M23 64 0 67)) hx hb hw tq_inX12 hown hK hW (by decide) (tq_mk_64 (by decide)) rfl 67 (by decide) (hw _ tw_1475) (fun _ h9 => h9) rfl dX12_paragraphHere_107 ?_
          refine lv_iconst (v := 1) hx hb dX12_paragraphHere_110 (by decide) ?_
          refine lv_iadd hx hb dX12_paragraphHere_111 ?_
          refine tqm_put hx hb hw tq_inX12 tyX12 tyX12_ok nmX12 hown hK hW hS (by decide) (tq_mk_64 (by decide)) rfl 67 (by decide) (hw _ tw_1475) (fun _ h9 => h9) rfl rfl rfl rfl (tq_mk_64 (by decide)) dX12_paragraphHere_112 (fun H locs hW hS => ?_)
          generalize eM27 : tq_up M23 64 0 67 ((M23 64 0 67) + 1) = M27 at hW
          have h := h M27 eM27.symm
          refine lv_aload_n hx hb dX12_paragraphHere_115 rfl (lv_at hl 1 rfl) ?_
          refine tq_callVi (As := []) (rest := []) (kX12_here h) ⟨hx, hb, hml, hown, hts⟩ (cwV 0 hts (tq_goodV tw_1716 tw_1718 tw_61 tw_125 tw_1719) rfl rfl rfl (by decide +kernel) ⟨Nat.le_of_ble_eq_true rfl, Nat.le_of_ble_eq_true rfl⟩) hK hG hW hS rfl hl.1 rfl (Nat.le_of_ble_eq_true rfl) dX12_paragraphHere_116 ⟨Nat.le_of_ble_eq_true rfl, Nat.le_of_ble_eq_true rfl⟩ (fun r29 M28 H locs h hW hS => ?_)
          refine lv_bipush (v := 111) hx hb dX12_paragraphHere_119 (by decide) ?_
          refine lv_icmp_ne (tgt := 128) hx hb dX12_paragraphHere_121 (by decide) (fun c30 => ?_) (fun c30 => ?_)
          · have h := h.1 c30
            refine lv_iconst (v := 0) hx hb dX12_paragraphHere_128 (by decide) ?_
            exact bX12_paragraphHere_129 C (fun M9 a09 a19 a29 a39 H9 q9 ls9 h9 hW9 hS9 hl9 => ih M9 a09 a19 a29 a39 H9 q9 ls9 h9 hW9 hS9 hl9) _ _ _ _ _ _ _ _ h hW hS (lv_sub hl [1, 2, 3, 0] rfl)
          · have h := h.2 c30
            refine lv_iconst (v := 1) hx hb dX12_paragraphHere_124 (by decide) ?_
            refine lv_goto (tgt := 129) hx hb dX12_paragraphHere_125 (by decide) ?_
            exact bX12_paragraphHere_129 C (fun M9 a09 a19 a29 a39 H9 q9 ls9 h9 hW9 hS9 hl9 => ih M9 a09 a19 a29 a39 H9 q9 ls9 h9 hW9 hS9 hl9) _ _ _ _ _ _ _ _ h hW hS (lv_sub hl [1, 2, 3, 0] rfl)
        · have h := h.2 c26
          refine lv_goto (tgt := 155) hx hb dX12_paragraphHere_102 (by decide) ?_
          exact bX12_paragraphHere_155 C  _ _ _ _ _ _ _ h hW hS (lv_sub hl [1, 2, 3, 0] rfl)
    · have h := h.2 c17
      refine lv_iconst (v := 0) hx hb dX12_paragraphHere_50 (by decide) ?_
      exact W.zret (v := 0) hx hb hr rfl (fun t ht hWm => ⟨⟨_, M15, rfl, h, tq_pe ht hW⟩, hS.F ht⟩) hS.2.2 dX12_paragraphHere_51
set_option maxHeartbeats 4000000 in
set_option maxRecDepth 100000 in
theorem kX12_paragraphHere {post : tq_St → Int32 → Prop} {M : tq_St} {p0 : Int32} {p1 : Int32} (h : wpX12_paragraphHere post M p0 p1) : tq_mI l yX12_paragraphHere (tq_ws yX12_paragraphHere cX12_paragraphHere 5 (some .boolean)) 6 130 D cy z H0 ad N S M [.ref (ad 64 0), .int p0, .int p1] post := by
  unfold wpX12_paragraphHere at h
  refine Met.ofW (cc := cX12_paragraphHere) (maxL := 5) (ret := (some .boolean)) (by decide) rfl ?_
  intro p e s m args below meth c s₁ B hml hv
  obtain ⟨rfl, hW, hK, hG⟩ := hv
  have hx := B.exec
  have hb := B.bytes
  have hr := B.returns
  have hts := atoms_spec (ws := (tq_ws yX12_paragraphHere cX12_paragraphHere 5 (some .boolean))) B.pre
  have hw : ∀ w ∈ tq_W, w.before _ s = true := fun w h => hts w (List.mem_cons_of_mem _ h)
  have hown : s.vm.findClass RX12 = some m.cls := findClass_of_methodNamed B.named
  have hlocks := B.notSynchronized
  have C : tq_At p s m meth c [.ref (ad 64 0), .int p0, .int p1].toArray cX12_paragraphHere 5 ((some .boolean)) ((tq_ws yX12_paragraphHere cX12_paragraphHere 5 (some .boolean))) RX12 D cy z ad := ⟨hx, hb, hr, hml, hown, hts, hlocks, hK, hG⟩
  have hS : va_S (fun q => z ≤ q) s.heap s.heap [] := va_S.rf
  have hl := lv_entry ([.ref (ad 64 0), .int p0, .int p1]) (n := 5) (Nat.le_of_ble_eq_true rfl)
  rw [lg_entry_eq]
  generalize (lg_sl ([.ref (ad 64 0), .int p0, .int p1]) ++ List.replicate (5 - (lg_sl ([.ref (ad 64 0), .int p0, .int p1])).length) Slot.unset).toArray = ls at hl ⊢
  have hl : lv_has ls 5 [(0, .ref (ad 64 0)), (1, .int p0), (2, .int p1)] := hl
  have hW : tq_wd D cy z H0 ad N (tq_mix S M) s.heap := hW
  refine lv_aload_n hx hb dX12_paragraphHere_0 rfl (lv_at hl 0 rfl) ?_
  refine lv_aload_n hx hb dX12_paragraphHere_1 rfl (lv_at hl 0 rfl) ?_
  refine tqm_get (v := .ref (ad 170 0)) hx hb hw tq_inX12 hown hK hW (by decide) (tq_mk_64 (by decide)) rfl 70 (by decide) (hw _ tw_1478) (fun _ h9 => h9) rfl dX12_paragraphHere_2 ?_
  refine tq_callVi (As := [.ref (ad 170 0)]) (rest := []) (kX12_actHere h) ⟨hx, hb, hml, hown, hts⟩ (cwV 1 hts (tq_goodV tw_1712 tw_1714 tw_60 tw_125 tw_1715) rfl rfl rfl (by decide +kernel) ⟨Nat.le_of_ble_eq_true rfl, Nat.le_of_ble_eq_true rfl⟩) hK hG hW hS rfl hl.1 rfl (Nat.le_of_ble_eq_true rfl) dX12_paragraphHere_5 ⟨Nat.le_of_ble_eq_true rfl, Nat.le_of_ble_eq_true rfl⟩ (fun r2 M1 H locs h hW hS => ?_)
  refine lv_if_ne (tgt := 13) hx hb dX12_paragraphHere_8 (by decide) (fun c3 => ?_) (fun c3 => ?_)
  · have h := h.1 c3
    refine lv_iconst (v := 0) hx hb dX12_paragraphHere_13 (by decide) ?_
    refine lv_istore_n (lv' := [(3, .int 0), (0, .ref (ad 64 0)), (1, .int p0), (2, .int p1)]) hx hb dX12_paragraphHere_14 rfl hl (by decide) rfl (fun ls hl => ?_)
    refine lv_aload_n hx hb dX12_paragraphHere_15 rfl (lv_at hl 1 rfl) ?_
    refine tq_callVi (As := []) (rest := []) (kX12_here h) ⟨hx, hb, hml, hown, hts⟩ (cwV 0 hts (tq_goodV tw_1716 tw_1718 tw_61 tw_125 tw_1719) rfl rfl rfl (by decide +kernel) ⟨Nat.le_of_ble_eq_true rfl, Nat.le_of_ble_eq_true rfl⟩) hK hG hW hS rfl hl.1 rfl (Nat.le_of_ble_eq_true rfl) dX12_paragraphHere_16 ⟨Nat.le_of_ble_eq_true rfl, Nat.le_of_ble_eq_true rfl⟩ (fun r5 M4 H locs h hW hS => ?_)
    refine lv_bipush (v := 32) hx hb dX12_paragraphHere_19 (by decide) ?_
    refine lv_icmp_ne (tgt := 155) hx hb dX12_paragraphHere_21 (by decide) (fun c6 => ?_) (fun c6 => ?_)
    · have h := h.1 c6
      exact bX12_paragraphHere_155 C  _ _ _ _ _ _ _ h hW hS (lv_sub hl [1, 2, 3, 0] rfl)
    · have h := h.2 c6
      refine lv_aload_n hx hb dX12_paragraphHere_24 rfl (lv_at hl 1 rfl) ?_
      refine tq_ldcwS hx hb hown (hG.2.1 ("TwoSeasModel", 298, " if ", 26) (by decide)) dX12_paragraphHere_25 ?_
      refine tq_callVi (As := [.ref (ad 61 26)]) (rest := []) (kX12_word h) ⟨hx, hb, hml, hown, hts⟩ (cwV 1 hts (tq_goodV tw_1726 tw_1728 tw_62 tw_125 tw_1729) rfl rfl rfl (by decide +kernel) ⟨Nat.le_of_ble_eq_true rfl, Nat.le_of_ble_eq_true rfl⟩) hK hG hW hS rfl hl.1 rfl (Nat.le_of_ble_eq_true rfl) dX12_paragraphHere_28 ⟨Nat.le_of_ble_eq_true rfl, Nat.le_of_ble_eq_true rfl⟩ (fun r8 M7 H locs h hW hS => ?_)
      refine lv_if_ne (tgt := 36) hx hb dX12_paragraphHere_31 (by decide) (fun c9 => ?_) (fun c9 => ?_)
      · have h := h.1 c9
        refine lv_iconst (v := 0) hx hb dX12_paragraphHere_36 (by decide) ?_
        refine lv_istore (lv' := [(4, .int 0), (3, .int 0), (0, .ref (ad 64 0)), (1, .int p0), (2, .int p1)]) hx hb dX12_paragraphHere_37 hl (by decide) rfl (fun ls hl => ?_)
        obtain ⟨nq, h⟩ := h
        exact bX12_paragraphHere_39 C  nq _ _ _ _ _ _ _ _ h hW hS (lv_sub hl [2, 3, 4, 1, 0] rfl)
      · have h := h.2 c9
        refine lv_iconst (v := 0) hx hb dX12_paragraphHere_34 (by decide) ?_
        exact W.zret (v := 0) hx hb hr rfl (fun t ht hWm => ⟨⟨_, M7, rfl, h, tq_pe ht hW⟩, hS.F ht⟩) hS.2.2 dX12_paragraphHere_35
  · have h := h.2 c3
    refine lv_iconst (v := 0) hx hb dX12_paragraphHere_11 (by decide) ?_
    exact W.zret (v := 0) hx hb hr rfl (fun t ht hWm => ⟨⟨_, M1, rfl, h, tq_pe ht hW⟩, hS.F ht⟩) hS.2.2 dX12_paragraphHere_12
