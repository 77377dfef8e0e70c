variable {l : Launch} {D : va_G} {cy : Nat → ClassId} {z : Nat} {H0 : Heap} {ad : Nat → Nat → Nat} {N : tq_Nn} {S : tq_St}
-- plan
def wbX12_plan_38 (post : tq_St → Int32 → Prop)  (M : tq_St) : Prop :=
  post M ((-1000000000))
def wbX12_plan_54 (post : tq_St → Int32 → Prop) : Nat → tq_St → Int32 → Int32 → Int32 → Int32 → Int32 → Prop
  | 0, _, _, _, _, _, _ => False
  | n + 1, M, x1, x2, x3, x4, x5 =>
    (1296 ≤ x5 → (vp_in x4 5 ∧ (post M (M 176 0 x4.toNatClampNeg)))) ∧ (¬ 1296 ≤ x5 → (∀ M16, M16 = tq_up M 175 0 0 (x5 / 216) → (∀ M17, M17 = tq_up M16 175 0 1 ((x5 / 36) - (x5 / 36) / 6 * 6) → (∀ M18, M18 = tq_up M17 175 0 2 ((x5 / 6) - (x5 / 6) / 6 * 6) → (∀ M19, M19 = tq_up M18 175 0 3 (x5 - x5 / 6 * 6) → (wpX12_judge (fun M20 => (wbX12_plan_54 post n) M20 x1 x2 x3 x4 (x5 + 1)) M19 x1 x2 x3))))))
def wpX12_plan (post : tq_St → Int32 → Prop) (M : tq_St) (p0 : Int32) (p1 : Int32) (p2 : Int32) (p3 : Int32) : Prop :=
  wpX12_isFactory (fun M1 r2 => (r2 = 0 → (wbX12_plan_38 post M1 )) ∧ (¬ r2 = 0 → (wpX12_in (fun M4 r5 => (r5 = 0 → (wbX12_plan_38 post M4 )) ∧ (¬ r5 = 0 → (wpX12_in (fun M7 r8 => (r8 = 0 → (wbX12_plan_38 post M7 )) ∧ (¬ r8 = 0 → (wpX12_in (fun M10 r11 => (¬ r11 = 0 → (∀ M13, M13 = tq_up M10 176 0 0 ((-2147483648)) → (∃ nq, wbX12_plan_54 post nq M13 p0 p1 p2 p3 0))) ∧ (r11 = 0 → (wbX12_plan_38 post M10 ))) M7 p3 0 4))) M4 p2 0 (1000000)))) M1 p1 0 200))) M p0
set_option maxHeartbeats 4000000 in
set_option maxRecDepth 100000 in
theorem bX12_plan_38 {p : Program} {e : Env} {s : State} {m : MethodId} {args : Array Value} {below : List Frame} {meth : Method} {c : Code} {post : tq_St → Int32 → Prop} (C : tq_At p s m meth c args cX12_plan 6 ((some .int)) ((tq_ws yX12_plan cX12_plan 6 (some .int))) RX12 D cy z ad)  : ∀ (M : tq_St)  (H : Heap) (locs : List Loc) (ls : Array Slot), wbX12_plan_38 post   M  → tq_wd D cy z H0 ad N (tq_mix S M) H → va_S (fun q => z ≤ q) s.heap H locs → lv_has ls 6 [] → W p l e (tq_rm 2 77) s m args below meth c H locs 0 0 (MQ below (va_Qi (fun r u => post u r) (tq_P D cy z H0 ad N S) (fun q => z ≤ q)) args s 0 0 (fun q => z ≤ q)) (F0 m 38 ls []) := by
  obtain ⟨hx, hb, hr, hml, hown, hts, hlocks, hK, hG⟩ := id C
  have hw : ∀ w ∈ tq_W, w.before args s = true := fun w h => hts w (List.mem_cons_of_mem _ h)
  intro M  H locs ls h hW hS hl
  unfold wbX12_plan_38 at h
  refine lv_ldcw hx hb hown (hw _ tw_2084) dX12_plan_38 ?_
  exact W.iret (v := (-1000000000)) hx hb hr (fun t ht hWm => ⟨⟨_, M, rfl, h, tq_pe ht hW⟩, hS.F ht⟩) hS.2.2 dX12_plan_41
set_option maxHeartbeats 4000000 in
set_option maxRecDepth 100000 in
theorem bX12_plan_54 {p : Program} {e : Env} {s : State} {m : MethodId} {args : Array Value} {below : List Frame} {meth : Method} {c : Code} {post : tq_St → Int32 → Prop} (C : tq_At p s m meth c args cX12_plan 6 ((some .int)) ((tq_ws yX12_plan cX12_plan 6 (some .int))) RX12 D cy z ad)  : ∀ n : Nat, ∀ (M : tq_St) (x1 : Int32) (x2 : Int32) (x3 : Int32) (x4 : Int32) (x5 : Int32) (H : Heap) (locs : List Loc) (ls : Array Slot), wbX12_plan_54 post   n M x1 x2 x3 x4 x5 → tq_wd D cy z H0 ad N (tq_mix S M) H → va_S (fun q => z ≤ q) s.heap H locs → lv_has ls 6 [(0, .ref (ad 64 0)), (1, .int x1), (2, .int x2), (3, .int x3), (4, .int x4), (5, .int x5)] → W p l e (tq_rm 2 77) s m args below meth c H locs 0 0 (MQ below (va_Qi (fun r u => post u r) (tq_P D cy z H0 ad N S) (fun q => z ≤ q)) args s 0 0 (fun q => z ≤ q)) (F0 m 54 ls []) := by
  obtain ⟨hx, hb, hr, hml, hown, hts, hlocks, hK, hG⟩ := id C
  have hw : ∀ w ∈ tq_W, w.before args s = true := fun w h => hts w (List.mem_cons_of_mem _ h)
  intro n
  induction n with
  | zero =>
    intro M x1 x2 x3 x4 x5 H locs ls h
    exact absurd h (by unfold wbX12_plan_54; exact id)
  | succ n ih =>
    intro M x1 x2 x3 x4 x5 H locs ls h hW hS hl
    unfold wbX12_plan_54 at h
    refine lv_iload hx hb dX12_plan_54 (lv_at hl 5 rfl) ?_
    refine lv_sipush (v := 1296) hx hb dX12_plan_56 (by decide) ?_
    refine lv_icmp_ge (tgt := 126) hx hb dX12_plan_59 (by decide) (fun c14 => ?_) (fun c14 => ?_)
    · have h := h.1 c14
      refine lv_aload_n hx hb dX12_plan_126 rfl (lv_at hl 0 rfl) ?_
      refine tqm_get (v := .ref (ad 176 0)) hx hb hw tq_inX12 hown hK hW (by decide) (tq_mk_64 (by decide)) rfl 76 (by decide) (hw _ tw_1484) (fun _ h9 => h9) rfl dX12_plan_127 ?_
      refine lv_iload hx hb dX12_plan_130 (lv_at hl 4 rfl) ?_
      obtain ⟨b15, h⟩ := h
      refine tqm_iald (jn := x4.toNatClampNeg) hx hb hK hW (by decide) (tq_mk_176 (by decide)) b15 rfl dX12_plan_132 ?_
      exact W.iret (v := M 176 0 x4.toNatClampNeg) hx hb hr (fun t ht hWm => ⟨⟨_, M, rfl, h, tq_pe ht hW⟩, hS.F ht⟩) hS.2.2 dX12_plan_133
    · have h := h.2 c14
      refine lv_aload_n hx hb dX12_plan_62 rfl (lv_at hl 0 rfl) ?_
      refine tqm_get (v := .ref (ad 175 0)) hx hb hw tq_inX12 hown hK hW (by decide) (tq_mk_64 (by decide)) rfl 75 (by decide) (hw _ tw_1483) (fun _ h9 => h9) rfl dX12_plan_63 ?_
      refine lv_iconst (v := 0) hx hb dX12_plan_66 (by decide) ?_
      refine lv_iload hx hb dX12_plan_67 (lv_at hl 5 rfl) ?_
      refine lv_sipush (v := 216) hx hb dX12_plan_69 (by decide) ?_
      refine lv_idiv hx hb dX12_plan_72 (by decide) ?_
      refine tqm_iast (jn := 0) hx hb hK hW hS (by decide) (tq_mk_175 (by decide)) (by unfold vp_in; decide) (by decide) (tq_mk_175 (by decide)) dX12_plan_73 (fun H locs hW hS => ?_)
      generalize eM16 : tq_up M 175 0 0 (x5 / 216) = M16 at hW
      have h := h M16 eM16.symm
      refine lv_aload_n hx hb dX12_plan_74 rfl (lv_at hl 0 rfl) ?_
      refine tqm_get (v := .ref (ad 175 0)) hx hb hw tq_inX12 hown hK hW (by decide) (tq_mk_64 (by decide)) rfl 75 (by decide) (hw _ tw_1483) (fun _ h9 => h9) rfl dX12_plan_75 ?_
      refine lv_iconst (v := 1) hx hb dX12_plan_78 (by decide) ?_
      refine lv_iload hx hb dX12_plan_79 (lv_at hl 5 rfl) ?_
      refine lv_bipush (v := 36) hx hb dX12_plan_81 (by decide) ?_
      refine lv_idiv hx hb dX12_plan_83 (by decide) ?_
      refine lv_bipush (v := 6) hx hb dX12_plan_84 (by decide) ?_
      refine lv_irem hx hb dX12_plan_86 (by decide) ?_
      refine tqm_iast (jn := 1) hx hb hK hW hS (by decide) (tq_mk_175 (by decide)) (by unfold vp_in; decide) (by decide) (tq_mk_175 (by decide)) dX12_plan_87 (fun H locs hW hS => ?_)
      generalize eM17 : tq_up M16 175 0 1 ((x5 / 36) - (x5 / 36) / 6 * 6) = M17 at hW
      have h := h M17 eM17.symm
      refine lv_aload_n hx hb dX12_plan_88 rfl (lv_at hl 0 rfl) ?_
      refine tqm_get (v := .ref (ad 175 0)) hx hb hw tq_inX12 hown hK hW (by decide) (tq_mk_64 (by decide)) rfl 75 (by decide) (hw _ tw_1483) (fun _ h9 => h9) rfl dX12_plan_89 ?_
      refine lv_iconst (v := 2) hx hb dX12_plan_92 (by decide) ?_
      refine lv_iload hx hb dX12_plan_93 (lv_at hl 5 rfl) ?_
      refine lv_bipush (v := 6) hx hb dX12_plan_95 (by decide) ?_
      refine lv_idiv hx hb dX12_plan_97 (by decide) ?_
      refine lv_bipush (v := 6) hx hb dX12_plan_98 (by decide) ?_
      refine lv_irem hx hb dX12_plan_100 (by decide) ?_
      refine tqm_iast (jn := 2) hx hb hK hW hS (by decide) (tq_mk_175 (by decide)) (by unfold vp_in; decide) (by decide) (tq_mk_175 (by decide)) dX12_plan_101 (fun H locs hW hS => ?_)
      generalize eM18 : tq_up M17 175 0 2 ((x5 / 6) - (x5 / 6) / 6 * 6) = M18 at hW
      have h := h M18 eM18.symm
      refine lv_aload_n hx hb dX12_plan_102 rfl (lv_at hl 0 rfl) ?_
      refine tqm_get (v := .ref (ad 175 0)) hx hb hw tq_inX12 hown hK hW (by decide) (tq_mk_64 (by decide)) rfl 75 (by decide) (hw _ tw_1483) (fun _ h9 => h9) rfl dX12_plan_103 ?_
      refine lv_iconst (v := 3) hx hb dX12_plan_106 (by decide) ?_
      refine lv_iload hx hb dX12_plan_107 (lv_at hl 5 rfl) ?_
      refine lv_bipush (v := 6) hx hb dX12_plan_109 (by decide) ?_
      refine lv_irem hx hb dX12_plan_111 (by decide) ?_
      refine tqm_iast (jn := 3) hx hb hK hW hS (by decide) (tq_mk_175 (by decide)) (by unfold vp_in; decide) (by decide) (tq_mk_175 (by decide)) dX12_plan_112 (fun H locs hW hS => ?_)
      generalize eM19 : tq_up M18 175 0 3 (x5 - x5 / 6 * 6) = M19 at hW
      have h := h M19 eM19.symm
      refine lv_aload_n hx hb dX12_plan_113 rfl (lv_at hl 0 rfl) ?_
      refine lv_iload_n hx hb dX12_plan_114 rfl (lv_at hl 1 rfl) ?_
      refine lv_iload_n hx hb dX12_plan_115 rfl (lv_at hl 2 rfl) ?_
      refine lv_iload_n hx hb dX12_plan_116 rfl (lv_at hl 3 rfl) ?_
      refine tq_callVv (As := [.int x1, .int x2, .int x3]) (rest := []) (kX12_judge h) ⟨hx, hb, hml, hown, hts⟩ (cwV 3 hts (tq_goodV tw_2086 tw_2088 tw_112 tw_125 tw_2089) rfl rfl rfl (by decide +kernel) ⟨Nat.le_of_ble_eq_true rfl, Nat.le_of_ble_eq_true rfl⟩) hK hG hW hS rfl hl.1 rfl (Nat.le_of_ble_eq_true rfl) dX12_plan_117 ⟨Nat.le_of_ble_eq_true rfl, Nat.le_of_ble_eq_true rfl⟩ (fun M20 H locs h hW hS => ?_)
      refine lv_iinc (v := x5 + 1) (lv' := [(5, .int (x5 + 1)), (0, .ref (ad 64 0)), (1, .int x1), (2, .int x2), (3, .int x3), (4, .int x4)]) hx hb dX12_plan_120 hl (k := 5) rfl rfl (by decide) rfl (fun ls hl => ?_)
      refine lv_goto (tgt := 54) hx hb dX12_plan_123 (by decide) ?_
      exact ih _ _ _ _ _ _ _ _ _ h hW hS (lv_sub hl [1, 2, 3, 4, 5, 0] rfl)
set_option maxHeartbeats 4000000 in
set_option maxRecDepth 100000 in
theorem kX12_plan {post : tq_St → Int32 → Prop} {M : tq_St} {p0 : Int32} {p1 : Int32} {p2 : Int32} {p3 : Int32} (h : wpX12_plan post M p0 p1 p2 p3) : tq_mI l yX12_plan (tq_ws yX12_plan cX12_plan 6 (some .int)) 2 77 D cy z H0 ad N S M [.ref (ad 64 0), .int p0, .int p1, .int p2, .int p3] post := by
  unfold wpX12_plan at h
  refine Met.ofW (cc := cX12_plan) (maxL := 6) (ret := (some .int)) (by decide) rfl ?_
  intro p e s m args below meth c s₁ B hml hv
  obtain ⟨rfl, hW, hK, hG⟩ := hv
  have hx := B.exec
  have hb := B.bytes
  have hr := B.returns
  have hts := atoms_spec (ws := (tq_ws yX12_plan cX12_plan 6 (some .int))) B.pre
  have hw : ∀ w ∈ tq_W, w.before _ s = true := fun w h => hts w (List.mem_cons_of_mem _ h)
  have hown : s.vm.findClass RX12 = some m.cls := findClass_of_methodNamed B.named
  have hlocks := B.notSynchronized
  have C : tq_At p s m meth c [.ref (ad 64 0), .int p0, .int p1, .int p2, .int p3].toArray cX12_plan 6 ((some .int)) ((tq_ws yX12_plan cX12_plan 6 (some .int))) RX12 D cy z ad := ⟨hx, hb, hr, hml, hown, hts, hlocks, hK, hG⟩
  have hS : va_S (fun q => z ≤ q) s.heap s.heap [] := va_S.rf
  have hl := lv_entry ([.ref (ad 64 0), .int p0, .int p1, .int p2, .int p3]) (n := 6) (Nat.le_of_ble_eq_true rfl)
  rw [lg_entry_eq]
  generalize (lg_sl ([.ref (ad 64 0), .int p0, .int p1, .int p2, .int p3]) ++ List.replicate (6 - (lg_sl ([.ref (ad 64 0), .int p0, .int p1, .int p2, .int p3])).length) Slot.unset).toArray = ls at hl ⊢
  have hl : lv_has ls 6 [(0, .ref (ad 64 0)), (1, .int p0), (2, .int p1), (3, .int p2), (4, .int p3)] := hl
  have hW : tq_wd D cy z H0 ad N (tq_mix S M) s.heap := hW
  refine lv_iload_n hx hb dX12_plan_0 rfl (lv_at hl 1 rfl) ?_
  refine tq_callSi (As := [.int p0]) (rest := []) (kX12_isFactory h) ⟨hx, hb, hml, hown, hts⟩ (va_cwS 1 hts (tq_goodS tw_1645 tw_1646 tw_125 tw_1647) rfl rfl rfl (by decide +kernel) ⟨Nat.le_of_ble_eq_true rfl, Nat.le_of_ble_eq_true rfl⟩) hK hG hW hS rfl hl.1 rfl (Nat.le_of_ble_eq_true rfl) dX12_plan_1 ⟨Nat.le_of_ble_eq_true rfl, Nat.le_of_ble_eq_true rfl⟩ (fun r2 M1 H locs h hW hS => ?_)
  refine lv_if_eq (tgt := 38) hx hb dX12_plan_4 (by decide) (fun c3 => ?_) (fun c3 => ?_)
  · have h := h.1 c3
    exact bX12_plan_38 C  _  _ _ _ h hW hS (lv_sub hl [] rfl)
  · have h := h.2 c3
    refine lv_iload_n hx hb dX12_plan_7 rfl (lv_at hl 2 rfl) ?_
    refine lv_iconst (v := 0) hx hb dX12_plan_8 (by decide) ?_
    refine lv_sipush (v := 200) hx hb dX12_plan_9 (by decide) ?_
    refine tq_callSi (As := [.int p1, .int 0, .int 200]) (rest := []) (kX12_in h) ⟨hx, hb, hml, hown, hts⟩ (va_cwS 3 hts (tq_goodS tw_1648 tw_1649 tw_125 tw_1650) rfl rfl rfl (by decide +kernel) ⟨Nat.le_of_ble_eq_true rfl, Nat.le_of_ble_eq_true rfl⟩) hK hG hW hS rfl hl.1 rfl (Nat.le_of_ble_eq_true rfl) dX12_plan_12 ⟨Nat.le_of_ble_eq_true rfl, Nat.le_of_ble_eq_true rfl⟩ (fun r5 M4 H locs h hW hS => ?_)
    refine lv_if_eq (tgt := 38) hx hb dX12_plan_15 (by decide) (fun c6 => ?_) (fun c6 => ?_)
    · have h := h.1 c6
      exact bX12_plan_38 C  _  _ _ _ h hW hS (lv_sub hl [] rfl)
    · have h := h.2 c6
      refine lv_iload_n hx hb dX12_plan_18 rfl (lv_at hl 3 rfl) ?_
      refine lv_iconst (v := 0) hx hb dX12_plan_19 (by decide) ?_
      refine lv_ldc hx hb hown (hw _ tw_1674) dX12_plan_20 ?_
      refine tq_callSi (As := [.int p2, .int 0, .int ((1000000))]) (rest := []) (kX12_in h) ⟨hx, hb, hml, hown, hts⟩ (va_cwS 3 hts (tq_goodS tw_1648 tw_1649 tw_125 tw_1650) rfl rfl rfl (by decide +kernel) ⟨Nat.le_of_ble_eq_true rfl, Nat.le_of_ble_eq_true rfl⟩) hK hG hW hS rfl hl.1 rfl (Nat.le_of_ble_eq_true rfl) dX12_plan_22 ⟨Nat.le_of_ble_eq_true rfl, Nat.le_of_ble_eq_true rfl⟩ (fun r8 M7 H locs h hW hS => ?_)
      refine lv_if_eq (tgt := 38) hx hb dX12_plan_25 (by decide) (fun c9 => ?_) (fun c9 => ?_)
      · have h := h.1 c9
        exact bX12_plan_38 C  _  _ _ _ h hW hS (lv_sub hl [] rfl)
      · have h := h.2 c9
        refine lv_iload hx hb dX12_plan_28 (lv_at hl 4 rfl) ?_
        refine lv_iconst (v := 0) hx hb dX12_plan_30 (by decide) ?_
        refine lv_iconst (v := 4) hx hb dX12_plan_31 (by decide) ?_
        refine tq_callSi (As := [.int p3, .int 0, .int 4]) (rest := []) (kX12_in h) ⟨hx, hb, hml, hown, hts⟩ (va_cwS 3 hts (tq_goodS tw_1648 tw_1649 tw_125 tw_1650) rfl rfl rfl (by decide +kernel) ⟨Nat.le_of_ble_eq_true rfl, Nat.le_of_ble_eq_true rfl⟩) hK hG hW hS rfl hl.1 rfl (Nat.le_of_ble_eq_true rfl) dX12_plan_32 ⟨Nat.le_of_ble_eq_true rfl, Nat.le_of_ble_eq_true rfl⟩ (fun r11 M10 H locs h hW hS => ?_)
        refine lv_if_ne (tgt := 42) hx hb dX12_plan_35 (by decide) (fun c12 => ?_) (fun c12 => ?_)
        · have h := h.1 c12
          refine lv_aload_n hx hb dX12_plan_42 rfl (lv_at hl 0 rfl) ?_
          refine tqm_get (v := .ref (ad 176 0)) hx hb hw tq_inX12 hown hK hW (by decide) (tq_mk_64 (by decide)) rfl 76 (by decide) (hw _ tw_1484) (fun _ h9 => h9) rfl dX12_plan_43 ?_
          refine lv_iconst (v := 0) hx hb dX12_plan_46 (by decide) ?_
          refine lv_ldcw hx hb hown (hw _ tw_2085) dX12_plan_47 ?_
          refine tqm_iast (jn := 0) hx hb hK hW hS (by decide) (tq_mk_176 (by decide)) (by unfold vp_in; decide) (by decide) (tq_mk_176 (by decide)) dX12_plan_50 (fun H locs hW hS => ?_)
          generalize eM13 : tq_up M10 176 0 0 ((-2147483648)) = M13 at hW
          have h := h M13 eM13.symm
          refine lv_iconst (v := 0) hx hb dX12_plan_51 (by decide) ?_
          refine lv_istore (lv' := [(5, .int 0), (0, .ref (ad 64 0)), (1, .int p0), (2, .int p1), (3, .int p2), (4, .int p3)]) hx hb dX12_plan_52 hl (by decide) rfl (fun ls hl => ?_)
          obtain ⟨nq, h⟩ := h
          exact bX12_plan_54 C  nq _ _ _ _ _ _ _ _ _ h hW hS (lv_sub hl [1, 2, 3, 4, 5, 0] rfl)
        · have h := h.2 c12
          exact bX12_plan_38 C  _  _ _ _ h hW hS (lv_sub hl [] rfl)
-- above
def wbX12_above_37 (post : tq_St → Int32 → Prop)  (M : tq_St) (y0 : Int32) : Prop :=
  post M y0
def wpX12_above (post : tq_St → Int32 → Prop) (M : tq_St) (p0 : Int32) : Prop :=
  (¬ p0 = 1 → ((¬ p0 = 5 → ((¬ p0 = 6 → ((¬ p0 = 0 → (wbX12_above_37 post M 1)) ∧ (p0 = 0 → (wbX12_above_37 post M ((-1)))))) ∧ (p0 = 6 → (wbX12_above_37 post M 3)))) ∧ (p0 = 5 → (wbX12_above_37 post M 4)))) ∧ (p0 = 1 → (wbX12_above_37 post M 0))
set_option maxHeartbeats 4000000 in
set_option maxRecDepth 100000 in
theorem bX12_above_37 {p : Program} {e : Env} {s : State} {m : MethodId} {args : Array Value} {below : List Frame} {meth : Method} {c : Code} {post : tq_St → Int32 → Prop} (C : tq_At p s m meth c args cX12_above 1 ((some .int)) ((tq_ws yX12_above cX12_above 1 (some .int))) RX12 D cy z ad)  : ∀ (M : tq_St) (y0 : Int32) (H : Heap) (locs : List Loc) (ls : Array Slot), wbX12_above_37 post   M y0 → tq_wd D cy z H0 ad N (tq_mix S M) H → va_S (fun q => z ≤ q) s.heap H locs → lv_has ls 1 [] → W p l e (tq_rm 0 0) s m args below meth c H locs 0 0 (MQ below (va_Qi (fun r u => post u r) (tq_P D cy z H0 ad N S) (fun q => z ≤ q)) args s 0 0 (fun q => z ≤ q)) (F0 m 37 ls [.int y0]) := by
  obtain ⟨hx, hb, hr, hml, hown, hts, hlocks, hK, hG⟩ := id C
  have hw : ∀ w ∈ tq_W, w.before args s = true := fun w h => hts w (List.mem_cons_of_mem _ h)
  intro M y0 H locs ls h hW hS hl
  unfold wbX12_above_37 at h
  exact W.iret (v := y0) hx hb hr (fun t ht hWm => ⟨⟨_, M, rfl, h, tq_pe ht hW⟩, hS.F ht⟩) hS.2.2 dX12_above_37
set_option maxHeartbeats 4000000 in
set_option maxRecDepth 100000 in
theorem kX12_above {post : tq_St → Int32 → Prop} {M : tq_St} {p0 : Int32} (h : wpX12_above post M p0) : tq_mI l yX12_above (tq_ws yX12_above cX12_above 1 (some .int)) 0 0 D cy z H0 ad N S M [.int p0] post := by
  unfold wpX12_above at h
  refine Met.ofW (cc := cX12_above) (maxL := 1) (ret := (some .int)) (by decide) rfl ?_
  intro p e s m args below meth c s₁ B hml hv
  obtain ⟨rfl, hW, hK, hG⟩ := hv
  have hx := B.exec
  have hb := B.bytes
  have hr := B.returns
  have hts := atoms_spec (ws := (tq_ws yX12_above cX12_above 1 (some .int))) B.pre
  have hw : ∀ w ∈ tq_W, w.before _ s = true := fun w h => hts w (List.mem_cons_of_mem _ h)
  have hown : s.vm.findClass RX12 = some m.cls := findClass_of_methodNamed B.named
  have hlocks := B.notSynchronized
  have C : tq_At p s m meth c [.int p0].toArray cX12_above 1 ((some .int)) ((tq_ws yX12_above cX12_above 1 (some .int))) RX12 D cy z ad := ⟨hx, hb, hr, hml, hown, hts, hlocks, hK, hG⟩
  have hS : va_S (fun q => z ≤ q) s.heap s.heap [] := va_S.rf
  have hl := lv_entry ([.int p0]) (n := 1) (Nat.le_of_ble_eq_true rfl)
  rw [lg_entry_eq]
  generalize (lg_sl ([.int p0]) ++ List.replicate (1 - (lg_sl ([.int p0])).length) Slot.unset).toArray = ls at hl ⊢
  have hl : lv_has ls 1 [(0, .int p0)] := hl
  have hW : tq_wd D cy z H0 ad N (tq_mix S M) s.heap := hW
  refine lv_iload_n hx hb dX12_above_0 rfl (lv_at hl 0 rfl) ?_
  refine lv_iconst (v := 1) hx hb dX12_above_1 (by decide) ?_
  refine lv_icmp_ne (tgt := 9) hx hb dX12_above_2 (by decide) (fun c1 => ?_) (fun c1 => ?_)
  · have h := h.1 c1
    refine lv_iload_n hx hb dX12_above_9 rfl (lv_at hl 0 rfl) ?_
    refine lv_iconst (v := 5) hx hb dX12_above_10 (by decide) ?_
    refine lv_icmp_ne (tgt := 18) hx hb dX12_above_11 (by decide) (fun c2 => ?_) (fun c2 => ?_)
    · have h := h.1 c2
      refine lv_iload_n hx hb dX12_above_18 rfl (lv_at hl 0 rfl) ?_
      refine lv_bipush (v := 6) hx hb dX12_above_19 (by decide) ?_
      refine lv_icmp_ne (tgt := 28) hx hb dX12_above_21 (by decide) (fun c3 => ?_) (fun c3 => ?_)
      · have h := h.1 c3
        refine lv_iload_n hx hb dX12_above_28 rfl (lv_at hl 0 rfl) ?_
        refine lv_if_ne (tgt := 36) hx hb dX12_above_29 (by decide) (fun c4 => ?_) (fun c4 => ?_)
        · have h := h.1 c4
          refine lv_iconst (v := 1) hx hb dX12_above_36 (by decide) ?_
          exact bX12_above_37 C  _ _ _ _ _ h hW hS (lv_sub hl [] rfl)
        · have h := h.2 c4
          refine lv_iconst (v := (-1)) hx hb dX12_above_32 (by decide) ?_
          refine lv_goto (tgt := 37) hx hb dX12_above_33 (by decide) ?_
          exact bX12_above_37 C  _ _ _ _ _ h hW hS (lv_sub hl [] rfl)
      · have h := h.2 c3
        refine lv_iconst (v := 3) hx hb dX12_above_24 (by decide) ?_
        refine lv_goto (tgt := 37) hx hb dX12_above_25 (by decide) ?_
        exact bX12_above_37 C  _ _ _ _ _ h hW hS (lv_sub hl [] rfl)
    · have h := h.2 c2
      refine lv_iconst (v := 4) hx hb dX12_above_14 (by decide) ?_
      refine lv_goto (tgt := 37) hx hb dX12_above_15 (by decide) ?_
      exact bX12_above_37 C  _ _ _ _ _ h hW hS (lv_sub hl [] rfl)
  · have h := h.2 c1
    refine lv_iconst (v := 0) hx hb dX12_above_5 (by decide) ?_
    refine lv_goto (tgt := 37) hx hb dX12_above_6 (by decide) ?_
    exact bX12_above_37 C  _ _ _ _ _ h hW hS (lv_sub hl [] rfl)
-- bodyOf
def wpX12_bodyOf (post : tq_St → Int32 → Prop) (M : tq_St) (p0 : Int32) (p1 : Int32) : Prop :=
  (((10 * p0) + p1) = 0 → (post M 10)) ∧ (¬ ((10 * p0) + p1) = 0 → ((((10 * p0) + p1) = 1 → (post M 11)) ∧ (¬ ((10 * p0) + p1) = 1 → ((((10 * p0) + p1) = 2 → (post M 12)) ∧ (¬ ((10 * p0) + p1) = 2 → ((((10 * p0) + p1) = 11 → (post M 20)) ∧ (¬ ((10 * p0) + p1) = 11 → ((((10 * p0) + p1) = 20 → (post M 30)) ∧ (¬ ((10 * p0) + p1) = 20 → ((((10 * p0) + p1) = 32 → (post M 40)) ∧ (¬ ((10 * p0) + p1) = 32 → ((((10 * p0) + p1) = 42 → (post M 50)) ∧ (¬ ((10 * p0) + p1) = 42 → ((((10 * p0) + p1) = 51 → (post M 60)) ∧ (¬ ((10 * p0) + p1) = 51 → ((((10 * p0) + p1) = 52 → (post M 61)) ∧ (¬ ((10 * p0) + p1) = 52 → ((((10 * p0) + p1) = 60 → (post M 70)) ∧ (¬ ((10 * p0) + p1) = 60 → (post M 0))))))))))))))))))))
set_option maxHeartbeats 4000000 in
set_option maxRecDepth 100000 in
theorem kX12_bodyOf {post : tq_St → Int32 → Prop} {M : tq_St} {p0 : Int32} {p1 : Int32} (h : wpX12_bodyOf post M p0 p1) : tq_mI l yX12_bodyOf (tq_ws yX12_bodyOf cX12_bodyOf 2 (some .int)) 0 0 D cy z H0 ad N S M [.int p0, .int p1] post := by
  unfold wpX12_bodyOf at h
  refine Met.ofW (cc := cX12_bodyOf) (maxL := 2) (ret := (some .int)) (by decide) rfl ?_
  intro p e s m args below meth c s₁ B hml hv
  obtain ⟨rfl, hW, hK, hG⟩ := hv
  have hx := B.exec
  have hb := B.bytes
  have hr := B.returns
  have hts := atoms_spec (ws := (tq_ws yX12_bodyOf cX12_bodyOf 2 (some .int))) B.pre
  have hw : ∀ w ∈ tq_W, w.before _ s = true := fun w h => hts w (List.mem_cons_of_mem _ h)
  have hown : s.vm.findClass RX12 = some m.cls := findClass_of_methodNamed B.named
  have hlocks := B.notSynchronized
  have C : tq_At p s m meth c [.int p0, .int p1].toArray cX12_bodyOf 2 ((some .int)) ((tq_ws yX12_bodyOf cX12_bodyOf 2 (some .int))) RX12 D cy z ad := ⟨hx, hb, hr, hml, hown, hts, hlocks, hK, hG⟩
  have hS : va_S (fun q => z ≤ q) s.heap s.heap [] := va_S.rf
  have hl := lv_entry ([.int p0, .int p1]) (n := 2) (Nat.le_of_ble_eq_true rfl)
  rw [lg_entry_eq]
  generalize (lg_sl ([.int p0, .int p1]) ++ List.replicate (2 - (lg_sl ([.int p0, .int p1])).length) Slot.unset).toArray = ls at hl ⊢
  have hl : lv_has ls 2 [(0, .int p0), (1, .int p1)] := hl
  have hW : tq_wd D cy z H0 ad N (tq_mix S M) s.heap := hW
  refine lv_bipush (v := 10) hx hb dX12_bodyOf_0 (by decide) ?_
  refine lv_iload_n hx hb dX12_bodyOf_2 rfl (lv_at hl 0 rfl) ?_
  refine lv_imul hx hb dX12_bodyOf_3 ?_
  refine lv_iload_n hx hb dX12_bodyOf_4 rfl (lv_at hl 1 rfl) ?_
  refine lv_iadd hx hb dX12_bodyOf_5 ?_
  by_cases c1 : ((10 * p0) + p1) = 0
  · have h := h.1 c1
    refine W.eq (g2 := F0 m 6 ls (.int 0 :: [])) (by rw [c1]) ?_
    refine lv_lookup (tgt := 96) hx hb dX12_bodyOf_6 (by decide) rfl (by decide) ?_
    refine lv_bipush (v := 10) hx hb dX12_bodyOf_96 (by decide) ?_
    exact W.iret (v := 10) hx hb hr (fun t ht hWm => ⟨⟨_, M, rfl, h, tq_pe ht hW⟩, hS.F ht⟩) hS.2.2 dX12_bodyOf_98
  · have h := h.2 c1
    by_cases c2 : ((10 * p0) + p1) = 1
    · have h := h.1 c2
      refine W.eq (g2 := F0 m 6 ls (.int 1 :: [])) (by rw [c2]) ?_
      refine lv_lookup (tgt := 99) hx hb dX12_bodyOf_6 (by decide) rfl (by decide) ?_
      refine lv_bipush (v := 11) hx hb dX12_bodyOf_99 (by decide) ?_
      exact W.iret (v := 11) hx hb hr (fun t ht hWm => ⟨⟨_, M, rfl, h, tq_pe ht hW⟩, hS.F ht⟩) hS.2.2 dX12_bodyOf_101
    · have h := h.2 c2
      by_cases c3 : ((10 * p0) + p1) = 2
      · have h := h.1 c3
        refine W.eq (g2 := F0 m 6 ls (.int 2 :: [])) (by rw [c3]) ?_
        refine lv_lookup (tgt := 102) hx hb dX12_bodyOf_6 (by decide) rfl (by decide) ?_
        refine lv_bipush (v := 12) hx hb dX12_bodyOf_102 (by decide) ?_
        exact W.iret (v := 12) hx hb hr (fun t ht hWm => ⟨⟨_, M, rfl, h, tq_pe ht hW⟩, hS.F ht⟩) hS.2.2 dX12_bodyOf_104
      · have h := h.2 c3
        by_cases c4 : ((10 * p0) + p1) = 11
        · have h := h.1 c4
          refine W.eq (g2 := F0 m 6 ls (.int 11 :: [])) (by rw [c4]) ?_
          refine lv_lookup (tgt := 105) hx hb dX12_bodyOf_6 (by decide) rfl (by decide) ?_
          refine lv_bipush (v := 20) hx hb dX12_bodyOf_105 (by decide) ?_
          exact W.iret (v := 20) hx hb hr (fun t ht hWm => ⟨⟨_, M, rfl, h, tq_pe ht hW⟩, hS.F ht⟩) hS.2.2 dX12_bodyOf_107
        · have h := h.2 c4
          by_cases c5 : ((10 * p0) + p1) = 20
          · have h := h.1 c5
            refine W.eq (g2 := F0 m 6 ls (.int 20 :: [])) (by rw [c5]) ?_
            refine lv_lookup (tgt := 108) hx hb dX12_bodyOf_6 (by decide) rfl (by decide) ?_
            refine lv_bipush (v := 30) hx hb dX12_bodyOf_108 (by decide) ?_
            exact W.iret (v := 30) hx hb hr (fun t ht hWm => ⟨⟨_, M, rfl, h, tq_pe ht hW⟩, hS.F ht⟩) hS.2.2 dX12_bodyOf_110
          · have h := h.2 c5
            by_cases c6 : ((10 * p0) + p1) = 32
            · have h := h.1 c6
              refine W.eq (g2 := F0 m 6 ls (.int 32 :: [])) (by rw [c6]) ?_
              refine lv_lookup (tgt := 111) hx hb dX12_bodyOf_6 (by decide) rfl (by decide) ?_
              refine lv_bipush (v := 40) hx hb dX12_bodyOf_111 (by decide) ?_
              exact W.iret (v := 40) hx hb hr (fun t ht hWm => ⟨⟨_, M, rfl, h, tq_pe ht hW⟩, hS.F ht⟩) hS.2.2 dX12_bodyOf_113
            · have h := h.2 c6
              by_cases c7 : ((10 * p0) + p1) = 42
              · have h := h.1 c7
                refine W.eq (g2 := F0 m 6 ls (.int 42 :: [])) (by rw [c7]) ?_
                refine lv_lookup (tgt := 114) hx hb dX12_bodyOf_6 (by decide) rfl (by decide) ?_
                refine lv_bipush (v := 50) hx hb dX12_bodyOf_114 (by decide) ?_
                exact W.iret (v := 50) hx hb hr (fun t ht hWm => ⟨⟨_, M, rfl, h, tq_pe ht hW⟩, hS.F ht⟩) hS.2.2 dX12_bodyOf_116
              · have h := h.2 c7
                by_cases c8 : ((10 * p0) + p1) = 51
                · have h := h.1 c8
                  refine W.eq (g2 := F0 m 6 ls (.int 51 :: [])) (by rw [c8]) ?_
                  refine lv_lookup (tgt := 117) hx hb dX12_bodyOf_6 (by decide) rfl (by decide) ?_
                  refine lv_bipush (v := 60) hx hb dX12_bodyOf_117 (by decide) ?_
                  exact W.iret (v := 60) hx hb hr (fun t ht hWm => ⟨⟨_, M, rfl, h, tq_pe ht hW⟩, hS.F ht⟩) hS.2.2 dX12_bodyOf_119
                · have h := h.2 c8
                  by_cases c9 : ((10 * p0) + p1) = 52
                  · have h := h.1 c9
                    refine W.eq (g2 := F0 m 6 ls (.int 52 :: [])) (by rw [c9]) ?_
                    refine lv_lookup (tgt := 120) hx hb dX12_bodyOf_6 (by decide) rfl (by decide) ?_
                    refine lv_bipush (v := 61) hx hb dX12_bodyOf_120 (by decide) ?_
                    exact W.iret (v := 61) hx hb hr (fun t ht hWm => ⟨⟨_, M, rfl, h, tq_pe ht hW⟩, hS.F ht⟩) hS.2.2 dX12_bodyOf_122
                  · have h := h.2 c9
                    by_cases c10 : ((10 * p0) + p1) = 60
                    · have h := h.1 c10
                      refine W.eq (g2 := F0 m 6 ls (.int 60 :: [])) (by rw [c10]) ?_
                      refine lv_lookup (tgt := 123) hx hb dX12_bodyOf_6 (by decide) rfl (by decide) ?_
                      refine lv_bipush (v := 70) hx hb dX12_bodyOf_123 (by decide) ?_
                      exact W.iret (v := 70) hx hb hr (fun t ht hWm => ⟨⟨_, M, rfl, h, tq_pe ht hW⟩, hS.F ht⟩) hS.2.2 dX12_bodyOf_125
                    · have h := h.2 c10
                      refine lv_lookup (tgt := 126) (off := 120) hx hb dX12_bodyOf_6 (by decide) (by show Op.lookupswitch.offset [(0, 90), (1, 93), (2, 96), (11, 99), (20, 102), (32, 105), (42, 108), (51, 111), (52, 114), (60, 117)] 120 _ = 120; simp only [Op.lookupswitch.offset, if_neg (Ne.symm (tq_ne c1 (i := 0) (by decide))), if_neg (Ne.symm (tq_ne c2 (i := 1) (by decide))), if_neg (Ne.symm (tq_ne c3 (i := 2) (by decide))), if_neg (Ne.symm (tq_ne c4 (i := 11) (by decide))), if_neg (Ne.symm (tq_ne c5 (i := 20) (by decide))), if_neg (Ne.symm (tq_ne c6 (i := 32) (by decide))), if_neg (Ne.symm (tq_ne c7 (i := 42) (by decide))), if_neg (Ne.symm (tq_ne c8 (i := 51) (by decide))), if_neg (Ne.symm (tq_ne c9 (i := 52) (by decide))), if_neg (Ne.symm (tq_ne c10 (i := 60) (by decide)))]) (by decide) ?_
                      refine lv_iconst (v := 0) hx hb dX12_bodyOf_126 (by decide) ?_
                      exact W.iret (v := 0) hx hb hr (fun t ht hWm => ⟨⟨_, M, rfl, h, tq_pe ht hW⟩, hS.F ht⟩) hS.2.2 dX12_bodyOf_127
-- run
def wbX12_run_50 (post : tq_St → Int32 → Prop) (Rc : (tq_St → Int32 → Prop) → tq_St → Int32 → Int32 → Int32 → Int32 → Prop)  (M : tq_St) (x1 : Int32) (x4 : Int32) (x5 : Int32) (x6 : Int32) : Prop :=
  ∀ M11, M11 = tq_up M 64 0 66 ((M 64 0 66) + 1) → (vp_in x1 150 ∧ ((x6 = 10 → (post M11 (x4 + x1))) ∧ (¬ x6 = 10 → ((x6 = 11 → (Rc (fun M15 r16 => post M15 (r16 * 2)) M11 x1 (M11 110 0 x1.toNatClampNeg) 0 x4)) ∧ (¬ x6 = 11 → ((x6 = 12 → (Rc (fun M18 r19 => Rc (fun M20 r21 => post M20 (r19 ^^^ r21)) M18 x1 (M18 110 0 x1.toNatClampNeg) 0 (x4 + (M11 112 0 x1.toNatClampNeg))) M11 x1 (M11 110 0 x1.toNatClampNeg) 1 x4)) ∧ (¬ x6 = 12 → ((x6 = 20 → (wpX12_above (fun M23 r24 => Rc (fun M25 r26 => post M25 (r26 - x1)) M23 x1 r24 1 x4) M11 x5)) ∧ (¬ x6 = 20 → ((x6 = 30 → (wpX12_above (fun M28 r29 => Rc (fun M30 r31 => post M30 (r31 * 3)) M28 x1 r29 0 x4) M11 x5)) ∧ (¬ x6 = 30 → ((x6 = 40 → (wpX12_above (fun M33 r34 => Rc (fun M35 r36 => post M35 r36) M33 x1 r34 2 (x4 - 1)) M11 x5)) ∧ (¬ x6 = 40 → ((x6 = 50 → (wpX12_above (fun M38 r39 => Rc (fun M40 r41 => post M40 (r41 + x1)) M38 x1 r39 2 x4) M11 x5)) ∧ (¬ x6 = 50 → ((x6 = 60 → (wpX12_above (fun M43 r44 => Rc (fun M45 r46 => post M45 (r46 ^^^ 9)) M43 x1 r44 1 x4) M11 x5)) ∧ (¬ x6 = 60 → ((x6 = 61 → (wpX12_above (fun M48 r49 => Rc (fun M50 r51 => post M50 (r51 * 2)) M48 x1 r49 2 x4) M11 x5)) ∧ (¬ x6 = 61 → (wpX12_above (fun M52 r53 => Rc (fun M54 r55 => post M54 (r55 - (M11 112 0 x1.toNatClampNeg))) M52 x1 r53 0 x4) M11 x5))))))))))))))))))))
def wbX12_run_3 (post : tq_St → Int32 → Prop) (Rc : (tq_St → Int32 → Prop) → tq_St → Int32 → Int32 → Int32 → Int32 → Prop) : Nat → tq_St → Int32 → Int32 → Int32 → Int32 → Prop
  | 0, _, _, _, _, _ => False
  | n + 1, M, x1, x3, x4, x5 =>
    wpX12_bodyOf (fun M1 r2 => (¬ r2 = 0 → (wpX12_bodyOf (fun M4 r5 => (20 ≤ (M4 64 0 66) → (wbX12_run_50 post Rc M4 x1 x4 x5 r5)) ∧ (¬ 20 ≤ (M4 64 0 66) → (vp_in (M4 64 0 66) 20 ∧ (∀ M8, M8 = tq_up M4 165 0 ((M4 64 0 66).toNatClampNeg) r5 → (wbX12_run_50 post Rc M8 x1 x4 x5 r5))))) M1 x5 x3)) ∧ (r2 = 0 → (wpX12_above (fun M9 r10 => (wbX12_run_3 post Rc n) M9 x1 x3 x4 r10) M1 x5))) M x5 x3
def wpX12_run : Nat → (tq_St → Int32 → Prop) → tq_St → Int32 → Int32 → Int32 → Int32 → Prop
  | 0, _, _, _, _, _, _ => False
  | d + 1, post, M, p0, p1, p2, p3 =>
    ∃ nq, wbX12_run_3 post (wpX12_run d) nq M p0 p2 p3 p1
set_option maxHeartbeats 4000000 in
set_option maxRecDepth 100000 in
theorem bX12_run_50 {dd : Nat} {p : Program} {e : Env} {s : State} {m : MethodId} {args : Array Value} {below : List Frame} {meth : Method} {c : Code} {post : tq_St → Int32 → Prop} (C : tq_At p s m meth c args cX12_run 9 ((some .int)) ((tq_ws yX12_run cX12_run 9 (some .int))) RX12 D cy z ad) {Rc : (tq_St → Int32 → Prop) → tq_St → Int32 → Int32 → Int32 → Int32 → Prop} (hRc : ∀ (post : tq_St → Int32 → Prop) (M : tq_St) (p0 p1 p2 p3 : Int32), Rc post M p0 p1 p2 p3 → tq_mI l yX12_run (tq_ws yX12_run cX12_run 9 (some .int)) (dd + 2) (40 * dd + 60) D cy z H0 ad N S M [.ref (ad 64 0), .int p0, .int p1, .int p2, .int p3] post)  : ∀ (M : tq_St) (x1 : Int32) (x4 : Int32) (x5 : Int32) (x6 : Int32) (H : Heap) (locs : List Loc) (ls : Array Slot), wbX12_run_50 post Rc  M x1 x4 x5 x6 → tq_wd D cy z H0 ad N (tq_mix S M) H → va_S (fun q => z ≤ q) s.heap H locs → lv_has ls 9 [(0, .ref (ad 64 0)), (1, .int x1), (4, .int x4), (5, .int x5), (6, .int x6)] → W p l e (tq_rm (dd + 1 + 2) (40 * (dd + 1) + 60)) s m args below meth c H locs 0 0 (MQ below (va_Qi (fun r u => post u r) (tq_P D cy z H0 ad N S) (fun q => z ≤ q)) args s 0 0 (fun q => z ≤ q)) (F0 m 50 ls []) := by
  obtain ⟨hx, hb, hr, hml, hown, hts, hlocks, hK, hG⟩ := id C
  have hw : ∀ w ∈ tq_W, w.before args s = true := fun w h => hts w (List.mem_cons_of_mem _ h)
  intro M x1 x4 x5 x6 H locs ls h hW hS hl
  unfold wbX12_run_50 at h
  refine lv_aload_n hx hb dX12_run_50 rfl (lv_at hl 0 rfl) ?_
  refine lv_dup hx hb dX12_run_51 rfl ?_
  refine tqm_get (v := .int (M 64 0 66)) hx hb hw tq_inX12 hown hK hW (by decide) (tq_mk_64 (by decide)) rfl 66 (by decide) (hw _ tw_1474) (fun _ h9 => h9) rfl dX12_run_52 ?_
  refine lv_iconst (v := 1) hx hb dX12_run_55 (by decide) ?_
  refine lv_iadd hx hb dX12_run_56 ?_
  refine tqm_put hx hb hw tq_inX12 tyX12 tyX12_ok nmX12 hown hK hW hS (by decide) (tq_mk_64 (by decide)) rfl 66 (by decide) (hw _ tw_1474) (fun _ h9 => h9) rfl rfl rfl rfl (tq_mk_64 (by decide)) dX12_run_57 (fun H locs hW hS => ?_)
  generalize eM11 : tq_up M 64 0 66 ((M 64 0 66) + 1) = M11 at hW
  have h := h M11 eM11.symm
  refine lv_aload_n hx hb dX12_run_60 rfl (lv_at hl 0 rfl) ?_
  refine tqm_get (v := .ref (ad 112 0)) hx hb hw tq_inX12 hown hK hW (by decide) (tq_mk_64 (by decide)) rfl 12 (by decide) (hw _ tw_1420) (fun _ h9 => h9) rfl dX12_run_61 ?_
  refine lv_iload_n hx hb dX12_run_64 rfl (lv_at hl 1 rfl) ?_
  obtain ⟨b12, h⟩ := h
  refine tqm_iald (jn := x1.toNatClampNeg) hx hb hK hW (by decide) (tq_mk_112 (by decide)) b12 rfl dX12_run_65 ?_
  refine lv_istore (lv' := [(7, .int (M11 112 0 x1.toNatClampNeg)), (0, .ref (ad 64 0)), (1, .int x1), (4, .int x4), (5, .int x5), (6, .int x6)]) hx hb dX12_run_66 hl (by decide) rfl (fun ls hl => ?_)
  refine lv_iload hx hb dX12_run_68 (lv_at hl 5 rfl) ?_
  by_cases c13 : x6 = 10
  · have h := h.1 c13
    refine W.eq (g2 := F0 m 70 ls (.int 10 :: [])) (by rw [c13]) ?_
    refine lv_lookup (tgt := 152) hx hb dX12_run_70 (by decide) rfl (by decide) ?_
    refine lv_iload hx hb dX12_run_152 (lv_at hl 3 rfl) ?_
    refine lv_iload_n hx hb dX12_run_154 rfl (lv_at hl 2 rfl) ?_
    refine lv_iadd hx hb dX12_run_155 ?_
    exact W.iret (v := x4 + x1) hx hb hr (fun t ht hWm => ⟨⟨_, M11, rfl, h, tq_pe ht hW⟩, hS.F ht⟩) hS.2.2 dX12_run_156
  · have h := h.2 c13
    by_cases c14 : x6 = 11
    · have h := h.1 c14
      refine W.eq (g2 := F0 m 70 ls (.int 11 :: [])) (by rw [c14]) ?_
      refine lv_lookup (tgt := 157) hx hb dX12_run_70 (by decide) rfl (by decide) ?_
      refine lv_aload_n hx hb dX12_run_157 rfl (lv_at hl 1 rfl) ?_
      refine lv_iload_n hx hb dX12_run_158 rfl (lv_at hl 2 rfl) ?_
      refine lv_aload_n hx hb dX12_run_159 rfl (lv_at hl 1 rfl) ?_
      refine tqm_get (v := .ref (ad 110 0)) hx hb hw tq_inX12 hown hK hW (by decide) (tq_mk_64 (by decide)) rfl 10 (by decide) (hw _ tw_1418) (fun _ h9 => h9) rfl dX12_run_160 ?_
      refine lv_iload_n hx hb dX12_run_163 rfl (lv_at hl 2 rfl) ?_
      refine tqm_iald (jn := x1.toNatClampNeg) hx hb hK hW (by decide) (tq_mk_110 (by decide)) b12 rfl dX12_run_164 ?_
      refine lv_iconst (v := 0) hx hb dX12_run_165 (by decide) ?_
      refine lv_iload hx hb dX12_run_166 (lv_at hl 3 rfl) ?_
      refine tq_callVi (As := [.int x1, .int (M11 110 0 x1.toNatClampNeg), .int 0, .int x4]) (rest := []) (hRc _ _ _ _ _ _ h) ⟨hx, hb, hml, hown, hts⟩ (cwV 4 hts (tq_goodV tw_2095 tw_2097 tw_113 tw_125 tw_2098) rfl rfl rfl (by decide +kernel) ⟨by simp only [tq_rm, headSpec]; omega, by simp only [tq_rm, headSpec]; omega⟩) hK hG hW hS rfl hl.1 rfl (Nat.le_of_ble_eq_true rfl) dX12_run_168 ⟨Nat.le_of_ble_eq_true rfl, Nat.le_of_ble_eq_true rfl⟩ (fun r16 M15 H locs h hW hS => ?_)
      refine lv_iconst (v := 2) hx hb dX12_run_171 (by decide) ?_
      refine lv_imul hx hb dX12_run_172 ?_
      exact W.iret (v := r16 * 2) hx hb hr (fun t ht hWm => ⟨⟨_, M15, rfl, h, tq_pe ht hW⟩, hS.F ht⟩) hS.2.2 dX12_run_173
    · have h := h.2 c14
      by_cases c17 : x6 = 12
      · have h := h.1 c17
        refine W.eq (g2 := F0 m 70 ls (.int 12 :: [])) (by rw [c17]) ?_
        refine lv_lookup (tgt := 174) hx hb dX12_run_70 (by decide) rfl (by decide) ?_
        refine lv_aload_n hx hb dX12_run_174 rfl (lv_at hl 1 rfl) ?_
        refine lv_iload_n hx hb dX12_run_175 rfl (lv_at hl 2 rfl) ?_
        refine lv_aload_n hx hb dX12_run_176 rfl (lv_at hl 1 rfl) ?_
        refine tqm_get (v := .ref (ad 110 0)) hx hb hw tq_inX12 hown hK hW (by decide) (tq_mk_64 (by decide)) rfl 10 (by decide) (hw _ tw_1418) (fun _ h9 => h9) rfl dX12_run_177 ?_
        refine lv_iload_n hx hb dX12_run_180 rfl (lv_at hl 2 rfl) ?_
        refine tqm_iald (jn := x1.toNatClampNeg) hx hb hK hW (by decide) (tq_mk_110 (by decide)) b12 rfl dX12_run_181 ?_
        refine lv_iconst (v := 1) hx hb dX12_run_182 (by decide) ?_
        refine lv_iload hx hb dX12_run_183 (lv_at hl 3 rfl) ?_
        refine tq_callVi (As := [.int x1, .int (M11 110 0 x1.toNatClampNeg), .int 1, .int x4]) (rest := []) (hRc _ _ _ _ _ _ h) ⟨hx, hb, hml, hown, hts⟩ (cwV 4 hts (tq_goodV tw_2095 tw_2097 tw_113 tw_125 tw_2098) rfl rfl rfl (by decide +kernel) ⟨by simp only [tq_rm, headSpec]; omega, by simp only [tq_rm, headSpec]; omega⟩) hK hG hW hS rfl hl.1 rfl (Nat.le_of_ble_eq_true rfl) dX12_run_185 ⟨Nat.le_of_ble_eq_true rfl, Nat.le_of_ble_eq_true rfl⟩ (fun r19 M18 H locs h hW hS => ?_)
        refine lv_istore (lv' := [(8, .int r19), (7, .int (M11 112 0 x1.toNatClampNeg)), (0, .ref (ad 64 0)), (1, .int x1), (4, .int x4), (5, .int x5), (6, .int x6)]) hx hb dX12_run_188 hl (by decide) rfl (fun ls hl => ?_)
        refine lv_iload hx hb dX12_run_190 (lv_at hl 0 rfl) ?_
        refine lv_aload_n hx hb dX12_run_192 rfl (lv_at hl 2 rfl) ?_
        refine lv_iload_n hx hb dX12_run_193 rfl (lv_at hl 3 rfl) ?_
        refine lv_aload_n hx hb dX12_run_194 rfl (lv_at hl 2 rfl) ?_
        refine tqm_get (v := .ref (ad 110 0)) hx hb hw tq_inX12 hown hK hW (by decide) (tq_mk_64 (by decide)) rfl 10 (by decide) (hw _ tw_1418) (fun _ h9 => h9) rfl dX12_run_195 ?_
        refine lv_iload_n hx hb dX12_run_198 rfl (lv_at hl 3 rfl) ?_
        refine tqm_iald (jn := x1.toNatClampNeg) hx hb hK hW (by decide) (tq_mk_110 (by decide)) b12 rfl dX12_run_199 ?_
        refine lv_iconst (v := 0) hx hb dX12_run_200 (by decide) ?_
        refine lv_iload hx hb dX12_run_201 (lv_at hl 4 rfl) ?_
        refine lv_iload hx hb dX12_run_203 (lv_at hl 1 rfl) ?_
        refine lv_iadd hx hb dX12_run_205 ?_
        refine tq_callVi (As := [.int x1, .int (M18 110 0 x1.toNatClampNeg), .int 0, .int (x4 + (M11 112 0 x1.toNatClampNeg))]) (rest := [.int r19]) (hRc _ _ _ _ _ _ h) ⟨hx, hb, hml, hown, hts⟩ (cwV 4 hts (tq_goodV tw_2095 tw_2097 tw_113 tw_125 tw_2098) rfl rfl rfl (by decide +kernel) ⟨by simp only [tq_rm, headSpec]; omega, by simp only [tq_rm, headSpec]; omega⟩) hK hG hW hS rfl hl.1 rfl (Nat.le_of_ble_eq_true rfl) dX12_run_206 ⟨Nat.le_of_ble_eq_true rfl, Nat.le_of_ble_eq_true rfl⟩ (fun r21 M20 H locs h hW hS => ?_)
        refine lv_ixor hx hb dX12_run_209 ?_
        exact W.iret (v := r19 ^^^ r21) hx hb hr (fun t ht hWm => ⟨⟨_, M20, rfl, h, tq_pe ht hW⟩, hS.F ht⟩) hS.2.2 dX12_run_210
      · have h := h.2 c17
        by_cases c22 : x6 = 20
        · have h := h.1 c22
          refine W.eq (g2 := F0 m 70 ls (.int 20 :: [])) (by rw [c22]) ?_
          refine lv_lookup (tgt := 211) hx hb dX12_run_70 (by decide) rfl (by decide) ?_
          refine lv_aload_n hx hb dX12_run_211 rfl (lv_at hl 1 rfl) ?_
          refine lv_iload_n hx hb dX12_run_212 rfl (lv_at hl 2 rfl) ?_
          refine lv_iload hx hb dX12_run_213 (lv_at hl 4 rfl) ?_
          refine tq_callSi (As := [.int x5]) (rest := [.int x1, .ref (ad 64 0)]) (kX12_above h) ⟨hx, hb, hml, hown, hts⟩ (va_cwS 1 hts (tq_goodS tw_2102 tw_2103 tw_125 tw_2104) rfl rfl rfl (by decide +kernel) ⟨by simp only [tq_rm, headSpec]; omega, by simp only [tq_rm, headSpec]; omega⟩) hK hG hW hS rfl hl.1 rfl (Nat.le_of_ble_eq_true rfl) dX12_run_215 ⟨Nat.le_of_ble_eq_true rfl, Nat.le_of_ble_eq_true rfl⟩ (fun r24 M23 H locs h hW hS => ?_)
          refine lv_iconst (v := 1) hx hb dX12_run_218 (by decide) ?_
          refine lv_iload hx hb dX12_run_219 (lv_at hl 3 rfl) ?_
          refine tq_callVi (As := [.int x1, .int r24, .int 1, .int x4]) (rest := []) (hRc _ _ _ _ _ _ h) ⟨hx, hb, hml, hown, hts⟩ (cwV 4 hts (tq_goodV tw_2095 tw_2097 tw_113 tw_125 tw_2098) rfl rfl rfl (by decide +kernel) ⟨by simp only [tq_rm, headSpec]; omega, by simp only [tq_rm, headSpec]; omega⟩) hK hG hW hS rfl hl.1 rfl (Nat.le_of_ble_eq_true rfl) dX12_run_221 ⟨Nat.le_of_ble_eq_true rfl, Nat.le_of_ble_eq_true rfl⟩ (fun r26 M25 H locs h hW hS => ?_)
          refine lv_iload_n hx hb dX12_run_224 rfl (lv_at hl 2 rfl) ?_
          refine lv_isub hx hb dX12_run_225 ?_
          exact W.iret (v := r26 - x1) hx hb hr (fun t ht hWm => ⟨⟨_, M25, rfl, h, tq_pe ht hW⟩, hS.F ht⟩) hS.2.2 dX12_run_226
        · have h := h.2 c22
          by_cases c27 : x6 = 30
          · have h := h.1 c27
            refine W.eq (g2 := F0 m 70 ls (.int 30 :: [])) (by rw [c27]) ?_
            refine lv_lookup (tgt := 227) hx hb dX12_run_70 (by decide) rfl (by decide) ?_
            refine lv_aload_n hx hb dX12_run_227 rfl (lv_at hl 1 rfl) ?_
            refine lv_iload_n hx hb dX12_run_228 rfl (lv_at hl 2 rfl) ?_
            refine lv_iload hx hb dX12_run_229 (lv_at hl 4 rfl) ?_
            refine tq_callSi (As := [.int x5]) (rest := [.int x1, .ref (ad 64 0)]) (kX12_above h) ⟨hx, hb, hml, hown, hts⟩ (va_cwS 1 hts (tq_goodS tw_2102 tw_2103 tw_125 tw_2104) rfl rfl rfl (by decide +kernel) ⟨by simp only [tq_rm, headSpec]; omega, by simp only [tq_rm, headSpec]; omega⟩) hK hG hW hS rfl hl.1 rfl (Nat.le_of_ble_eq_true rfl) dX12_run_231 ⟨Nat.le_of_ble_eq_true rfl, Nat.le_of_ble_eq_true rfl⟩ (fun r29 M28 H locs h hW hS => ?_)
            refine lv_iconst (v := 0) hx hb dX12_run_234 (by decide) ?_
            refine lv_iload hx hb dX12_run_235 (lv_at hl 3 rfl) ?_
            refine tq_callVi (As := [.int x1, .int r29, .int 0, .int x4]) (rest := []) (hRc _ _ _ _ _ _ h) ⟨hx, hb, hml, hown, hts⟩ (cwV 4 hts (tq_goodV tw_2095 tw_2097 tw_113 tw_125 tw_2098) rfl rfl rfl (by decide +kernel) ⟨by simp only [tq_rm, headSpec]; omega, by simp only [tq_rm, headSpec]; omega⟩) hK hG hW hS rfl hl.1 rfl (Nat.le_of_ble_eq_true rfl) dX12_run_237 ⟨Nat.le_of_ble_eq_true rfl, Nat.le_of_ble_eq_true rfl⟩ (fun r31 M30 H locs h hW hS => ?_)
            refine lv_iconst (v := 3) hx hb dX12_run_240 (by decide) ?_
            refine lv_imul hx hb dX12_run_241 ?_
            exact W.iret (v := r31 * 3) hx hb hr (fun t ht hWm => ⟨⟨_, M30, rfl, h, tq_pe ht hW⟩, hS.F ht⟩) hS.2.2 dX12_run_242
          · have h := h.2 c27
            by_cases c32 : x6 = 40
            · have h := h.1 c32
              refine W.eq (g2 := F0 m 70 ls (.int 40 :: [])) (by rw [c32]) ?_
              refine lv_lookup (tgt := 243) hx hb dX12_run_70 (by decide) rfl (by decide) ?_
              refine lv_aload_n hx hb dX12_run_243 rfl (lv_at hl 1 rfl) ?_
              refine lv_iload_n hx hb dX12_run_244 rfl (lv_at hl 2 rfl) ?_
              refine lv_iload hx hb dX12_run_245 (lv_at hl 4 rfl) ?_
              refine tq_callSi (As := [.int x5]) (rest := [.int x1, .ref (ad 64 0)]) (kX12_above h) ⟨hx, hb, hml, hown, hts⟩ (va_cwS 1 hts (tq_goodS tw_2102 tw_2103 tw_125 tw_2104) rfl rfl rfl (by decide +kernel) ⟨by simp only [tq_rm, headSpec]; omega, by simp only [tq_rm, headSpec]; omega⟩) hK hG hW hS rfl hl.1 rfl (Nat.le_of_ble_eq_true rfl) dX12_run_247 ⟨Nat.le_of_ble_eq_true rfl, Nat.le_of_ble_eq_true rfl⟩ (fun r34 M33 H locs h hW hS => ?_)
              refine lv_iconst (v := 2) hx hb dX12_run_250 (by decide) ?_
              refine lv_iload hx hb dX12_run_251 (lv_at hl 3 rfl) ?_
              refine lv_iconst (v := 1) hx hb dX12_run_253 (by decide) ?_
              refine lv_isub hx hb dX12_run_254 ?_
              refine tq_callVi (As := [.int x1, .int r34, .int 2, .int (x4 - 1)]) (rest := []) (hRc _ _ _ _ _ _ h) ⟨hx, hb, hml, hown, hts⟩ (cwV 4 hts (tq_goodV tw_2095 tw_2097 tw_113 tw_125 tw_2098) rfl rfl rfl (by decide +kernel) ⟨by simp only [tq_rm, headSpec]; omega, by simp only [tq_rm, headSpec]; omega⟩) hK hG hW hS rfl hl.1 rfl (Nat.le_of_ble_eq_true rfl) dX12_run_255 ⟨Nat.le_of_ble_eq_true rfl, Nat.le_of_ble_eq_true rfl⟩ (fun r36 M35 H locs h hW hS => ?_)
              exact W.iret (v := r36) hx hb hr (fun t ht hWm => ⟨⟨_, M35, rfl, h, tq_pe ht hW⟩, hS.F ht⟩) hS.2.2 dX12_run_258
            · have h := h.2 c32
              by_cases c37 : x6 = 50
              · have h := h.1 c37
                refine W.eq (g2 := F0 m 70 ls (.int 50 :: [])) (by rw [c37]) ?_
                refine lv_lookup (tgt := 259) hx hb dX12_run_70 (by decide) rfl (by decide) ?_
                refine lv_aload_n hx hb dX12_run_259 rfl (lv_at hl 1 rfl) ?_
                refine lv_iload_n hx hb dX12_run_260 rfl (lv_at hl 2 rfl) ?_
                refine lv_iload hx hb dX12_run_261 (lv_at hl 4 rfl) ?_
                refine tq_callSi (As := [.int x5]) (rest := [.int x1, .ref (ad 64 0)]) (kX12_above h) ⟨hx, hb, hml, hown, hts⟩ (va_cwS 1 hts (tq_goodS tw_2102 tw_2103 tw_125 tw_2104) rfl rfl rfl (by decide +kernel) ⟨by simp only [tq_rm, headSpec]; omega, by simp only [tq_rm, headSpec]; omega⟩) hK hG hW hS rfl hl.1 rfl (Nat.le_of_ble_eq_true rfl) dX12_run_263 ⟨Nat.le_of_ble_eq_true rfl, Nat.le_of_ble_eq_true rfl⟩ (fun r39 M38 H locs h hW hS => ?_)
                refine lv_iconst (v := 2) hx hb dX12_run_266 (by decide) ?_
                refine lv_iload hx hb dX12_run_267 (lv_at hl 3 rfl) ?_
                refine tq_callVi (As := [.int x1, .int r39, .int 2, .int x4]) (rest := []) (hRc _ _ _ _ _ _ h) ⟨hx, hb, hml, hown, hts⟩ (cwV 4 hts (tq_goodV tw_2095 tw_2097 tw_113 tw_125 tw_2098) rfl rfl rfl (by decide +kernel) ⟨by simp only [tq_rm, headSpec]; omega, by simp only [tq_rm, headSpec]; omega⟩) hK hG hW hS rfl hl.1 rfl (Nat.le_of_ble_eq_true rfl) dX12_run_269 ⟨Nat.le_of_ble_eq_true rfl, Nat.le_of_ble_eq_true rfl⟩ (fun r41 M40 H locs h hW hS => ?_)
                refine lv_iload_n hx hb dX12_run_272 rfl (lv_at hl 2 rfl) ?_
                refine lv_iadd hx hb dX12_run_273 ?_
                exact W.iret (v := r41 + x1) hx hb hr (fun t ht hWm => ⟨⟨_, M40, rfl, h, tq_pe ht hW⟩, hS.F ht⟩) hS.2.2 dX12_run_274
              · have h := h.2 c37
                by_cases c42 : x6 = 60
                · have h := h.1 c42
                  refine W.eq (g2 := F0 m 70 ls (.int 60 :: [])) (by rw [c42]) ?_
                  refine lv_lookup (tgt := 275) hx hb dX12_run_70 (by decide) rfl (by decide) ?_
                  refine lv_aload_n hx hb dX12_run_275 rfl (lv_at hl 1 rfl) ?_
                  refine lv_iload_n hx hb dX12_run_276 rfl (lv_at hl 2 rfl) ?_
                  refine lv_iload hx hb dX12_run_277 (lv_at hl 4 rfl) ?_
                  refine tq_callSi (As := [.int x5]) (rest := [.int x1, .ref (ad 64 0)]) (kX12_above h) ⟨hx, hb, hml, hown, hts⟩ (va_cwS 1 hts (tq_goodS tw_2102 tw_2103 tw_125 tw_2104) rfl rfl rfl (by decide +kernel) ⟨by simp only [tq_rm, headSpec]; omega, by simp only [tq_rm, headSpec]; omega⟩) hK hG hW hS rfl hl.1 rfl (Nat.le_of_ble_eq_true rfl) dX12_run_279 ⟨Nat.le_of_ble_eq_true rfl, Nat.le_of_ble_eq_true rfl⟩ (fun r44 M43 H locs h hW hS => ?_)
                  refine lv_iconst (v := 1) hx hb dX12_run_282 (by decide) ?_
                  refine lv_iload hx hb dX12_run_283 (lv_at hl 3 rfl) ?_
                  refine tq_callVi (As := [.int x1, .int r44, .int 1, .int x4]) (rest := []) (hRc _ _ _ _ _ _ h) ⟨hx, hb, hml, hown, hts⟩ (cwV 4 hts (tq_goodV tw_2095 tw_2097 tw_113 tw_125 tw_2098) rfl rfl rfl (by decide +kernel) ⟨by simp only [tq_rm, headSpec]; omega, by simp only [tq_rm, headSpec]; omega⟩) hK hG hW hS rfl hl.1 rfl (Nat.le_of_ble_eq_true rfl) dX12_run_285 ⟨Nat.le_of_ble_eq_true rfl, Nat.le_of_ble_eq_true rfl⟩ (fun r46 M45 H locs h hW hS => ?_)
                  refine lv_bipush (v := 9) hx hb dX12_run_288 (by decide) ?_
                  refine lv_ixor hx hb dX12_run_290 ?_
                  exact W.iret (v := r46 ^^^ 9) hx hb hr (fun t ht hWm => ⟨⟨_, M45, rfl, h, tq_pe ht hW⟩, hS.F ht⟩) hS.2.2 dX12_run_291
                · have h := h.2 c42
                  by_cases c47 : x6 = 61
                  · have h := h.1 c47
                    refine W.eq (g2 := F0 m 70 ls (.int 61 :: [])) (by rw [c47]) ?_
                    refine lv_lookup (tgt := 292) hx hb dX12_run_70 (by decide) rfl (by decide) ?_
                    refine lv_aload_n hx hb dX12_run_292 rfl (lv_at hl 1 rfl) ?_
                    refine lv_iload_n hx hb dX12_run_293 rfl (lv_at hl 2 rfl) ?_
                    refine lv_iload hx hb dX12_run_294 (lv_at hl 4 rfl) ?_
                    refine tq_callSi (As := [.int x5]) (rest := [.int x1, .ref (ad 64 0)]) (kX12_above h) ⟨hx, hb, hml, hown, hts⟩ (va_cwS 1 hts (tq_goodS tw_2102 tw_2103 tw_125 tw_2104) rfl rfl rfl (by decide +kernel) ⟨by simp only [tq_rm, headSpec]; omega, by simp only [tq_rm, headSpec]; omega⟩) hK hG hW hS rfl hl.1 rfl (Nat.le_of_ble_eq_true rfl) dX12_run_296 ⟨Nat.le_of_ble_eq_true rfl, Nat.le_of_ble_eq_true rfl⟩ (fun r49 M48 H locs h hW hS => ?_)
                    refine lv_iconst (v := 2) hx hb dX12_run_299 (by decide) ?_
                    refine lv_iload hx hb dX12_run_300 (lv_at hl 3 rfl) ?_
                    refine tq_callVi (As := [.int x1, .int r49, .int 2, .int x4]) (rest := []) (hRc _ _ _ _ _ _ h) ⟨hx, hb, hml, hown, hts⟩ (cwV 4 hts (tq_goodV tw_2095 tw_2097 tw_113 tw_125 tw_2098) rfl rfl rfl (by decide +kernel) ⟨by simp only [tq_rm, headSpec]; omega, by simp only [tq_rm, headSpec]; omega⟩) hK hG hW hS rfl hl.1 rfl (Nat.le_of_ble_eq_true rfl) dX12_run_302 ⟨Nat.le_of_ble_eq_true rfl, Nat.le_of_ble_eq_true rfl⟩ (fun r51 M50 H locs h hW hS => ?_)
                    refine lv_iconst (v := 2) hx hb dX12_run_305 (by decide) ?_
                    refine lv_imul hx hb dX12_run_306 ?_
                    exact W.iret (v := r51 * 2) hx hb hr (fun t ht hWm => ⟨⟨_, M50, rfl, h, tq_pe ht hW⟩, hS.F ht⟩) hS.2.2 dX12_run_307
                  · have h := h.2 c47
                    refine lv_lookup (tgt := 308) (off := 238) hx hb dX12_run_70 (by decide) (by show Op.lookupswitch.offset [(10, 82), (11, 87), (12, 104), (20, 141), (30, 157), (40, 173), (50, 189), (60, 205), (61, 222)] 238 _ = 238; simp only [Op.lookupswitch.offset, if_neg (Ne.symm (tq_ne c13 (i := 10) (by decide))), if_neg (Ne.symm (tq_ne c14 (i := 11) (by decide))), if_neg (Ne.symm (tq_ne c17 (i := 12) (by decide))), if_neg (Ne.symm (tq_ne c22 (i := 20) (by decide))), if_neg (Ne.symm (tq_ne c27 (i := 30) (by decide))), if_neg (Ne.symm (tq_ne c32 (i := 40) (by decide))), if_neg (Ne.symm (tq_ne c37 (i := 50) (by decide))), if_neg (Ne.symm (tq_ne c42 (i := 60) (by decide))), if_neg (Ne.symm (tq_ne c47 (i := 61) (by decide)))]) (by decide) ?_
                    refine lv_aload_n hx hb dX12_run_308 rfl (lv_at hl 1 rfl) ?_
                    refine lv_iload_n hx hb dX12_run_309 rfl (lv_at hl 2 rfl) ?_
                    refine lv_iload hx hb dX12_run_310 (lv_at hl 4 rfl) ?_
                    refine tq_callSi (As := [.int x5]) (rest := [.int x1, .ref (ad 64 0)]) (kX12_above h) ⟨hx, hb, hml, hown, hts⟩ (va_cwS 1 hts (tq_goodS tw_2102 tw_2103 tw_125 tw_2104) rfl rfl rfl (by decide +kernel) ⟨by simp only [tq_rm, headSpec]; omega, by simp only [tq_rm, headSpec]; omega⟩) hK hG hW hS rfl hl.1 rfl (Nat.le_of_ble_eq_true rfl) dX12_run_312 ⟨Nat.le_of_ble_eq_true rfl, Nat.le_of_ble_eq_true rfl⟩ (fun r53 M52 H locs h hW hS => ?_)
                    refine lv_iconst (v := 0) hx hb dX12_run_315 (by decide) ?_
                    refine lv_iload hx hb dX12_run_316 (lv_at hl 3 rfl) ?_
                    refine tq_callVi (As := [.int x1, .int r53, .int 0, .int x4]) (rest := []) (hRc _ _ _ _ _ _ h) ⟨hx, hb, hml, hown, hts⟩ (cwV 4 hts (tq_goodV tw_2095 tw_2097 tw_113 tw_125 tw_2098) rfl rfl rfl (by decide +kernel) ⟨by simp only [tq_rm, headSpec]; omega, by simp only [tq_rm, headSpec]; omega⟩) hK hG hW hS rfl hl.1 rfl (Nat.le_of_ble_eq_true rfl) dX12_run_318 ⟨Nat.le_of_ble_eq_true rfl, Nat.le_of_ble_eq_true rfl⟩ (fun r55 M54 H locs h hW hS => ?_)
                    refine lv_iload hx hb dX12_run_321 (lv_at hl 0 rfl) ?_
                    refine lv_isub hx hb dX12_run_323 ?_
                    exact W.iret (v := r55 - (M11 112 0 x1.toNatClampNeg)) hx hb hr (fun t ht hWm => ⟨⟨_, M54, rfl, h, tq_pe ht hW⟩, hS.F ht⟩) hS.2.2 dX12_run_324
set_option maxHeartbeats 4000000 in
set_option maxRecDepth 100000 in
theorem bX12_run_3 {dd : Nat} {p : Program} {e : Env} {s : State} {m : MethodId} {args : Array Value} {below : List Frame} {meth : Method} {c : Code} {post : tq_St → Int32 → Prop} (C : tq_At p s m meth c args cX12_run 9 ((some .int)) ((tq_ws yX12_run cX12_run 9 (some .int))) RX12 D cy z ad) {Rc : (tq_St → Int32 → Prop) → tq_St → Int32 → Int32 → Int32 → Int32 → Prop} (hRc : ∀ (post : tq_St → Int32 → Prop) (M : tq_St) (p0 p1 p2 p3 : Int32), Rc post M p0 p1 p2 p3 → tq_mI l yX12_run (tq_ws yX12_run cX12_run 9 (some .int)) (dd + 2) (40 * dd + 60) D cy z H0 ad N S M [.ref (ad 64 0), .int p0, .int p1, .int p2, .int p3] post)  : ∀ n : Nat, ∀ (M : tq_St) (x1 : Int32) (x3 : Int32) (x4 : Int32) (x5 : Int32) (H : Heap) (locs : List Loc) (ls : Array Slot), wbX12_run_3 post Rc  n M x1 x3 x4 x5 → tq_wd D cy z H0 ad N (tq_mix S M) H → va_S (fun q => z ≤ q) s.heap H locs → lv_has ls 9 [(0, .ref (ad 64 0)), (1, .int x1), (3, .int x3), (4, .int x4), (5, .int x5)] → W p l e (tq_rm (dd + 1 + 2) (40 * (dd + 1) + 60)) s m args below meth c H locs 0 0 (MQ below (va_Qi (fun r u => post u r) (tq_P D cy z H0 ad N S) (fun q => z ≤ q)) args s 0 0 (fun q => z ≤ q)) (F0 m 3 ls []) := by
  obtain ⟨hx, hb, hr, hml, hown, hts, hlocks, hK, hG⟩ := id C
  have hw : ∀ w ∈ tq_W, w.before args s = true := fun w h => hts w (List.mem_cons_of_mem _ h)
  intro n
  induction n with
  | zero =>
    intro M x1 x3 x4 x5 H locs ls h
    exact absurd h (by unfold wbX12_run_3; exact id)
  | succ n ih =>
    intro M x1 x3 x4 x5 H locs ls h hW hS hl
    unfold wbX12_run_3 at h
    refine lv_iload hx hb dX12_run_3 (lv_at hl 4 rfl) ?_
    refine lv_iload_n hx hb dX12_run_5 rfl (lv_at hl 2 rfl) ?_
    refine tq_callSi (As := [.int x5, .int x3]) (rest := []) (kX12_bodyOf h) ⟨hx, hb, hml, hown, hts⟩ (va_cwS 2 hts (tq_goodS tw_2099 tw_2100 tw_125 tw_2101) rfl rfl rfl (by decide +kernel) ⟨by simp only [tq_rm, headSpec]; omega, by simp only [tq_rm, headSpec]; omega⟩) hK hG hW hS rfl hl.1 rfl (Nat.le_of_ble_eq_true rfl) dX12_run_6 ⟨Nat.le_of_ble_eq_true rfl, Nat.le_of_ble_eq_true rfl⟩ (fun r2 M1 H locs h hW hS => ?_)
    refine lv_if_ne (tgt := 22) hx hb dX12_run_9 (by decide) (fun c3 => ?_) (fun c3 => ?_)
    · have h := h.1 c3
      refine lv_iload hx hb dX12_run_22 (lv_at hl 4 rfl) ?_
      refine lv_iload_n hx hb dX12_run_24 rfl (lv_at hl 2 rfl) ?_
      refine tq_callSi (As := [.int x5, .int x3]) (rest := []) (kX12_bodyOf h) ⟨hx, hb, hml, hown, hts⟩ (va_cwS 2 hts (tq_goodS tw_2099 tw_2100 tw_125 tw_2101) rfl rfl rfl (by decide +kernel) ⟨by simp only [tq_rm, headSpec]; omega, by simp only [tq_rm, headSpec]; omega⟩) hK hG hW hS rfl hl.1 rfl (Nat.le_of_ble_eq_true rfl) dX12_run_25 ⟨Nat.le_of_ble_eq_true rfl, Nat.le_of_ble_eq_true rfl⟩ (fun r5 M4 H locs h hW hS => ?_)
      refine lv_istore (lv' := [(6, .int r5), (0, .ref (ad 64 0)), (1, .int x1), (3, .int x3), (4, .int x4), (5, .int x5)]) hx hb dX12_run_28 hl (by decide) rfl (fun ls hl => ?_)
      refine lv_aload_n hx hb dX12_run_30 rfl (lv_at hl 1 rfl) ?_
      refine tqm_get (v := .int (M4 64 0 66)) hx hb hw tq_inX12 hown hK hW (by decide) (tq_mk_64 (by decide)) rfl 66 (by decide) (hw _ tw_1474) (fun _ h9 => h9) rfl dX12_run_31 ?_
      refine lv_bipush (v := 20) hx hb dX12_run_34 (by decide) ?_
      refine lv_icmp_ge (tgt := 50) hx hb dX12_run_36 (by decide) (fun c6 => ?_) (fun c6 => ?_)
      · have h := h.1 c6
        exact bX12_run_50 C hRc  _ _ _ _ _ _ _ _ h hW hS (lv_sub hl [1, 2, 4, 5, 0] rfl)
      · have h := h.2 c6
        refine lv_aload_n hx hb dX12_run_39 rfl (lv_at hl 1 rfl) ?_
        refine tqm_get (v := .ref (ad 165 0)) hx hb hw tq_inX12 hown hK hW (by decide) (tq_mk_64 (by decide)) rfl 65 (by decide) (hw _ tw_1473) (fun _ h9 => h9) rfl dX12_run_40 ?_
        refine lv_aload_n hx hb dX12_run_43 rfl (lv_at hl 1 rfl) ?_
        refine tqm_get (v := .int (M4 64 0 66)) hx hb hw tq_inX12 hown hK hW (by decide) (tq_mk_64 (by decide)) rfl 66 (by decide) (hw _ tw_1474) (fun _ h9 => h9) rfl dX12_run_44 ?_
        refine lv_iload hx hb dX12_run_47 (lv_at hl 0 rfl) ?_
        obtain ⟨b7, h⟩ := h
        refine tqm_iast (jn := (M4 64 0 66).toNatClampNeg) hx hb hK hW hS (by decide) (tq_mk_165 (by decide)) b7 rfl (tq_mk_165 (by decide)) dX12_run_49 (fun H locs hW hS => ?_)
        generalize eM8 : tq_up M4 165 0 ((M4 64 0 66).toNatClampNeg) r5 = M8 at hW
        have h := h M8 eM8.symm
        exact bX12_run_50 C hRc  _ _ _ _ _ _ _ _ h hW hS (lv_sub hl [1, 2, 4, 5, 0] rfl)
    · have h := h.2 c3
      refine lv_iload hx hb dX12_run_12 (lv_at hl 4 rfl) ?_
      refine tq_callSi (As := [.int x5]) (rest := []) (kX12_above h) ⟨hx, hb, hml, hown, hts⟩ (va_cwS 1 hts (tq_goodS tw_2102 tw_2103 tw_125 tw_2104) rfl rfl rfl (by decide +kernel) ⟨by simp only [tq_rm, headSpec]; omega, by simp only [tq_rm, headSpec]; omega⟩) hK hG hW hS rfl hl.1 rfl (Nat.le_of_ble_eq_true rfl) dX12_run_14 ⟨Nat.le_of_ble_eq_true rfl, Nat.le_of_ble_eq_true rfl⟩ (fun r10 M9 H locs h hW hS => ?_)
      refine lv_istore (lv' := [(5, .int r10), (0, .ref (ad 64 0)), (1, .int x1), (3, .int x3), (4, .int x4)]) hx hb dX12_run_17 hl (by decide) rfl (fun ls hl => ?_)
      refine lv_goto (tgt := 3) hx hb dX12_run_19 (by decide) ?_
      exact ih _ _ _ _ _ _ _ _ h hW hS (lv_sub hl [1, 2, 3, 4, 0] rfl)
set_option maxHeartbeats 4000000 in
set_option maxRecDepth 100000 in
theorem kX12_run : ∀ (d : Nat) {post : tq_St → Int32 → Prop} {M : tq_St} {p0 p1 p2 p3 : Int32}, wpX12_run d post M p0 p1 p2 p3 → tq_mI l yX12_run (tq_ws yX12_run cX12_run 9 (some .int)) (d + 2) (40 * d + 60) D cy z H0 ad N S M [.ref (ad 64 0), .int p0, .int p1, .int p2, .int p3] post := by
  intro d
  induction d with
  | zero =>
    intro post M p0 p1 p2 p3 h
    exact absurd h (by unfold wpX12_run; exact id)
  | succ dd ih =>
  intro post M p0 p1 p2 p3 h
  unfold wpX12_run at h
  have hRc := @ih
  refine Met.ofW (cc := cX12_run) (maxL := 9) (ret := (some .int)) (by decide) rfl ?_
  intro p e s m args below meth c s₁ B hml hv
  obtain ⟨rfl, hW, hK, hG⟩ := hv
  have hx := B.exec
  have hb := B.bytes
  have hr := B.returns
  have hts := atoms_spec (ws := (tq_ws yX12_run cX12_run 9 (some .int))) B.pre
  have hw : ∀ w ∈ tq_W, w.before _ s = true := fun w h => hts w (List.mem_cons_of_mem _ h)
  have hown : s.vm.findClass RX12 = some m.cls := findClass_of_methodNamed B.named
  have hlocks := B.notSynchronized
  have C : tq_At p s m meth c [.ref (ad 64 0), .int p0, .int p1, .int p2, .int p3].toArray cX12_run 9 ((some .int)) ((tq_ws yX12_run cX12_run 9 (some .int))) RX12 D cy z ad := ⟨hx, hb, hr, hml, hown, hts, hlocks, hK, hG⟩
  have hS : va_S (fun q => z ≤ q) s.heap s.heap [] := va_S.rf
  have hl := lv_entry ([.ref (ad 64 0), .int p0, .int p1, .int p2, .int p3]) (n := 9) (Nat.le_of_ble_eq_true rfl)
  rw [lg_entry_eq]
  generalize (lg_sl ([.ref (ad 64 0), .int p0, .int p1, .int p2, .int p3]) ++ List.replicate (9 - (lg_sl ([.ref (ad 64 0), .int p0, .int p1, .int p2, .int p3])).length) Slot.unset).toArray = ls at hl ⊢
  have hl : lv_has ls 9 [(0, .ref (ad 64 0)), (1, .int p0), (2, .int p1), (3, .int p2), (4, .int p3)] := hl
  have hW : tq_wd D cy z H0 ad N (tq_mix S M) s.heap := hW
  refine lv_iload_n hx hb dX12_run_0 rfl (lv_at hl 2 rfl) ?_
  refine lv_istore (lv' := [(5, .int p1), (0, .ref (ad 64 0)), (1, .int p0), (2, .int p1), (3, .int p2), (4, .int p3)]) hx hb dX12_run_1 hl (by decide) rfl (fun ls hl => ?_)
  obtain ⟨nq, h⟩ := h
  exact bX12_run_3 C (fun post M p0 p1 p2 p3 h9 => hRc h9)  nq _ _ _ _ _ _ _ _ h hW hS (lv_sub hl [1, 2, 4, 5, 0] rfl)
