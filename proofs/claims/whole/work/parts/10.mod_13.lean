variable {l : Launch} {D : va_G} {cy : Nat → ClassId} {z : Nat} {H0 : Heap} {ad : Nat → Nat → Nat} {N : tq_Nn} {S : tq_St}
-- billsFallDue
def wbX12_billsFallDue_117 (post : tq_St → Prop) (L2 : tq_St → Int32 → Prop) (M : tq_St) (x1 : Int32) : Prop :=
  L2 M (x1 + 1)
def wbX12_billsFallDue_2 (post : tq_St → Prop) : Nat → tq_St → Int32 → Prop
  | 0, _, _ => False
  | n + 1, M, x1 =>
    ((M 64 0 9) ≤ x1 → (post M)) ∧ (¬ (M 64 0 9) ≤ x1 → (vp_in x1 150 ∧ ((¬ (M 110 0 x1.toNatClampNeg) = 5 → (wbX12_billsFallDue_117 post  (wbX12_billsFallDue_2 post n) M x1)) ∧ ((M 110 0 x1.toNatClampNeg) = 5 → ((¬ (M 116 x1.toNatClampNeg 1) = 1 → (wbX12_billsFallDue_117 post  (wbX12_billsFallDue_2 post n) M x1)) ∧ ((M 116 x1.toNatClampNeg 1) = 1 → ((((M 116 x1.toNatClampNeg 2) - 1) = (M 64 0 0) → (wpX12_interest (fun M6 r7 => ∀ M8, M8 = tq_up M6 116 x1.toNatClampNeg 3 ((M 116 x1.toNatClampNeg 0) + r7) → (((M8 101 0 0) < ((M 116 x1.toNatClampNeg 0) + r7) → (∀ M10, M10 = tq_up M8 116 x1.toNatClampNeg 1 3 → (wbX12_billsFallDue_117 post  (wbX12_billsFallDue_2 post n) M10 x1))) ∧ (¬ (M8 101 0 0) < ((M 116 x1.toNatClampNeg 0) + r7) → (∀ M11, M11 = tq_up M8 101 0 0 ((M8 101 0 0) - ((M 116 x1.toNatClampNeg 0) + r7)) → (∀ M12, M12 = tq_up M11 116 x1.toNatClampNeg 1 2 → (wbX12_billsFallDue_117 post  (wbX12_billsFallDue_2 post n) M12 x1)))))) M x1)) ∧ (¬ ((M 116 x1.toNatClampNeg 2) - 1) = (M 64 0 0) → (wbX12_billsFallDue_117 post  (wbX12_billsFallDue_2 post n) M x1)))))))))
def wpX12_billsFallDue (post : tq_St → Prop) (M : tq_St)  : Prop :=
  ∃ nq, wbX12_billsFallDue_2 post nq M 0
set_option maxHeartbeats 4000000 in
set_option maxRecDepth 100000 in
theorem bX12_billsFallDue_117 {p : Program} {e : Env} {s : State} {m : MethodId} {args : Array Value} {below : List Frame} {meth : Method} {c : Code} {post : tq_St → Prop} (C : tq_At p s m meth c args cX12_billsFallDue 3 (none) ((tq_ws yX12_billsFallDue cX12_billsFallDue 3 none)) RX12 D cy z ad) {L2 : tq_St → Int32 → Prop} (hL2 : ∀ (M : tq_St) (x1 : Int32) (H : Heap) (locs : List Loc) (ls : Array Slot), L2 M x1 → tq_wd D cy z H0 ad N (tq_mix S M) H → va_S (fun q => z ≤ q) s.heap H locs → lv_has ls 3 [(0, .ref (ad 64 0)), (1, .int x1)] → W p l e (tq_rm 1 22) s m args below meth c H locs 0 0 (MQ below (va_Qv (fun u => post u) (tq_P D cy z H0 ad N S) (fun q => z ≤ q)) args s 0 0 (fun q => z ≤ q)) (F0 m 2 ls [])) : ∀ (M : tq_St) (x1 : Int32) (H : Heap) (locs : List Loc) (ls : Array Slot), wbX12_billsFallDue_117 post  L2 M x1 → tq_wd D cy z H0 ad N (tq_mix S M) H → va_S (fun q => z ≤ q) s.heap H locs → lv_has ls 3 [(0, .ref (ad 64 0)), (1, .int x1)] → W p l e (tq_rm 1 22) s m args below meth c H locs 0 0 (MQ below (va_Qv (fun u => post u) (tq_P D cy z H0 ad N S) (fun q => z ≤ q)) args s 0 0 (fun q => z ≤ q)) (F0 m 117 ls []) := by
  obtain ⟨hx, hb, hr, hml, hown, hts, hlocks, hK, hG⟩ := id C
  have hw : ∀ w ∈ tq_W, w.before args s = true := fun w h => hts w (List.mem_cons_of_mem _ h)
  intro M x1 H locs ls h hW hS hl
  unfold wbX12_billsFallDue_117 at h
  refine lv_iinc (v := x1 + 1) (lv' := [(1, .int (x1 + 1)), (0, .ref (ad 64 0))]) hx hb dX12_billsFallDue_117 hl (k := 1) rfl rfl (by decide) rfl (fun ls hl => ?_)
  refine lv_goto (tgt := 2) hx hb dX12_billsFallDue_120 (by decide) ?_
  exact hL2 _ _ _ _ _ h hW hS (lv_sub hl [1, 0] rfl)
set_option maxHeartbeats 4000000 in
set_option maxRecDepth 100000 in
theorem bX12_billsFallDue_2 {p : Program} {e : Env} {s : State} {m : MethodId} {args : Array Value} {below : List Frame} {meth : Method} {c : Code} {post : tq_St → Prop} (C : tq_At p s m meth c args cX12_billsFallDue 3 (none) ((tq_ws yX12_billsFallDue cX12_billsFallDue 3 none)) RX12 D cy z ad)  : ∀ n : Nat, ∀ (M : tq_St) (x1 : Int32) (H : Heap) (locs : List Loc) (ls : Array Slot), wbX12_billsFallDue_2 post   n M x1 → tq_wd D cy z H0 ad N (tq_mix S M) H → va_S (fun q => z ≤ q) s.heap H locs → lv_has ls 3 [(0, .ref (ad 64 0)), (1, .int x1)] → W p l e (tq_rm 1 22) s m args below meth c H locs 0 0 (MQ below (va_Qv (fun u => post u) (tq_P D cy z H0 ad N S) (fun q => z ≤ q)) args s 0 0 (fun q => z ≤ q)) (F0 m 2 ls []) := by
  obtain ⟨hx, hb, hr, hml, hown, hts, hlocks, hK, hG⟩ := id C
  have hw : ∀ w ∈ tq_W, w.before args s = true := fun w h => hts w (List.mem_cons_of_mem _ h)
  intro n
  induction n with
  | zero =>
    intro M x1 H locs ls h
    exact absurd h (by unfold wbX12_billsFallDue_2; exact id)
  | succ n ih =>
    intro M x1 H locs ls h hW hS hl
    unfold wbX12_billsFallDue_2 at h
    refine lv_iload_n hx hb dX12_billsFallDue_2 rfl (lv_at hl 1 rfl) ?_
    refine lv_aload_n hx hb dX12_billsFallDue_3 rfl (lv_at hl 0 rfl) ?_
    refine tqm_get (v := .int (M 64 0 9)) hx hb hw tq_inX12 hown hK hW (by decide) (tq_mk_64 (by decide)) rfl 9 (by decide) (hw _ tw_1417) (fun _ h9 => h9) rfl dX12_billsFallDue_4 ?_
    refine lv_icmp_ge (tgt := 123) hx hb dX12_billsFallDue_7 (by decide) (fun c1 => ?_) (fun c1 => ?_)
    · have h := h.1 c1
      exact W.vret hx hb hr (fun t ht hWm => ⟨⟨M, rfl, h, tq_pe ht hW⟩, hS.F ht⟩) hS.2.2 dX12_billsFallDue_123
    · have h := h.2 c1
      refine lv_aload_n hx hb dX12_billsFallDue_10 rfl (lv_at hl 0 rfl) ?_
      refine tqm_get (v := .ref (ad 110 0)) hx hb hw tq_inX12 hown hK hW (by decide) (tq_mk_64 (by decide)) rfl 10 (by decide) (hw _ tw_1418) (fun _ h9 => h9) rfl dX12_billsFallDue_11 ?_
      refine lv_iload_n hx hb dX12_billsFallDue_14 rfl (lv_at hl 1 rfl) ?_
      obtain ⟨b2, h⟩ := h
      refine tqm_iald (jn := x1.toNatClampNeg) hx hb hK hW (by decide) (tq_mk_110 (by decide)) b2 rfl dX12_billsFallDue_15 ?_
      refine lv_iconst (v := 5) hx hb dX12_billsFallDue_16 (by decide) ?_
      refine lv_icmp_ne (tgt := 117) hx hb dX12_billsFallDue_17 (by decide) (fun c3 => ?_) (fun c3 => ?_)
      · have h := h.1 c3
        exact bX12_billsFallDue_117 C (fun M9 a09 H9 q9 ls9 h9 hW9 hS9 hl9 => ih M9 a09 H9 q9 ls9 h9 hW9 hS9 hl9) _ _ _ _ _ h hW hS (lv_sub hl [0, 1] rfl)
      · have h := h.2 c3
        refine lv_aload_n hx hb dX12_billsFallDue_20 rfl (lv_at hl 0 rfl) ?_
        refine tqm_get (v := .ref (ad 216 0)) hx hb hw tq_inX12 hown hK hW (by decide) (tq_mk_64 (by decide)) rfl 16 (by decide) (hw _ tw_1424) (fun _ h9 => h9) rfl dX12_billsFallDue_21 ?_
        refine lv_iload_n hx hb dX12_billsFallDue_24 rfl (lv_at hl 1 rfl) ?_
        refine tqm_aald (jn := x1.toNatClampNeg) (v := .ref (ad 116 x1.toNatClampNeg)) hx hb hK hW (by decide) (tq_mk_216 (by decide)) 2 rfl rfl b2 rfl rfl dX12_billsFallDue_25 ?_
        refine lv_iconst (v := 1) hx hb dX12_billsFallDue_26 (by decide) ?_
        refine tqm_iald (jn := 1) hx hb hK hW (by decide) (tq_mk_116 (tq_lt b2)) (by unfold vp_in; decide) (by decide) dX12_billsFallDue_27 ?_
        refine lv_iconst (v := 1) hx hb dX12_billsFallDue_28 (by decide) ?_
        refine lv_icmp_ne (tgt := 117) hx hb dX12_billsFallDue_29 (by decide) (fun c4 => ?_) (fun c4 => ?_)
        · have h := h.1 c4
          exact bX12_billsFallDue_117 C (fun M9 a09 H9 q9 ls9 h9 hW9 hS9 hl9 => ih M9 a09 H9 q9 ls9 h9 hW9 hS9 hl9) _ _ _ _ _ h hW hS (lv_sub hl [0, 1] rfl)
        · have h := h.2 c4
          refine lv_aload_n hx hb dX12_billsFallDue_32 rfl (lv_at hl 0 rfl) ?_
          refine tqm_get (v := .ref (ad 216 0)) hx hb hw tq_inX12 hown hK hW (by decide) (tq_mk_64 (by decide)) rfl 16 (by decide) (hw _ tw_1424) (fun _ h9 => h9) rfl dX12_billsFallDue_33 ?_
          refine lv_iload_n hx hb dX12_billsFallDue_36 rfl (lv_at hl 1 rfl) ?_
          refine tqm_aald (jn := x1.toNatClampNeg) (v := .ref (ad 116 x1.toNatClampNeg)) hx hb hK hW (by decide) (tq_mk_216 (by decide)) 2 rfl rfl b2 rfl rfl dX12_billsFallDue_37 ?_
          refine lv_iconst (v := 2) hx hb dX12_billsFallDue_38 (by decide) ?_
          refine tqm_iald (jn := 2) hx hb hK hW (by decide) (tq_mk_116 (tq_lt b2)) (by unfold vp_in; decide) (by decide) dX12_billsFallDue_39 ?_
          refine lv_iconst (v := 1) hx hb dX12_billsFallDue_40 (by decide) ?_
          refine lv_isub hx hb dX12_billsFallDue_41 ?_
          refine lv_aload_n hx hb dX12_billsFallDue_42 rfl (lv_at hl 0 rfl) ?_
          refine tqm_get (v := .int (M 64 0 0)) hx hb hw tq_inX12 hown hK hW (by decide) (tq_mk_64 (by decide)) rfl 0 (by decide) (hw _ tw_1408) (fun _ h9 => h9) rfl dX12_billsFallDue_43 ?_
          refine lv_icmp_eq (tgt := 52) hx hb dX12_billsFallDue_46 (by decide) (fun c5 => ?_) (fun c5 => ?_)
          · have h := h.1 c5
            refine lv_aload_n hx hb dX12_billsFallDue_52 rfl (lv_at hl 0 rfl) ?_
            refine tqm_get (v := .ref (ad 216 0)) hx hb hw tq_inX12 hown hK hW (by decide) (tq_mk_64 (by decide)) rfl 16 (by decide) (hw _ tw_1424) (fun _ h9 => h9) rfl dX12_billsFallDue_53 ?_
            refine lv_iload_n hx hb dX12_billsFallDue_56 rfl (lv_at hl 1 rfl) ?_
            refine tqm_aald (jn := x1.toNatClampNeg) (v := .ref (ad 116 x1.toNatClampNeg)) hx hb hK hW (by decide) (tq_mk_216 (by decide)) 2 rfl rfl b2 rfl rfl dX12_billsFallDue_57 ?_
            refine lv_iconst (v := 0) hx hb dX12_billsFallDue_58 (by decide) ?_
            refine tqm_iald (jn := 0) hx hb hK hW (by decide) (tq_mk_116 (tq_lt b2)) (by unfold vp_in; decide) (by decide) dX12_billsFallDue_59 ?_
            refine lv_aload_n hx hb dX12_billsFallDue_60 rfl (lv_at hl 0 rfl) ?_
            refine lv_iload_n hx hb dX12_billsFallDue_61 rfl (lv_at hl 1 rfl) ?_
            refine tq_callVi (As := [.int x1]) (rest := [.int (M 116 x1.toNatClampNeg 0)]) (kX12_interest h) ⟨hx, hb, hml, hown, hts⟩ (cwV 1 hts (tq_goodV tw_1937 tw_1939 tw_93 tw_125 tw_1940) rfl rfl rfl (by decide +kernel) ⟨Nat.le_of_ble_eq_true rfl, Nat.le_of_ble_eq_true rfl⟩) hK hG hW hS rfl hl.1 rfl (Nat.le_of_ble_eq_true rfl) dX12_billsFallDue_62 ⟨Nat.le_of_ble_eq_true rfl, Nat.le_of_ble_eq_true rfl⟩ (fun r7 M6 H locs h hW hS => ?_)
            refine lv_iadd hx hb dX12_billsFallDue_65 ?_
            refine lv_istore_n (lv' := [(2, .int ((M 116 x1.toNatClampNeg 0) + r7)), (0, .ref (ad 64 0)), (1, .int x1)]) hx hb dX12_billsFallDue_66 rfl hl (by decide) rfl (fun ls hl => ?_)
            refine lv_aload_n hx hb dX12_billsFallDue_67 rfl (lv_at hl 1 rfl) ?_
            refine tqm_get (v := .ref (ad 216 0)) hx hb hw tq_inX12 hown hK hW (by decide) (tq_mk_64 (by decide)) rfl 16 (by decide) (hw _ tw_1424) (fun _ h9 => h9) rfl dX12_billsFallDue_68 ?_
            refine lv_iload_n hx hb dX12_billsFallDue_71 rfl (lv_at hl 2 rfl) ?_
            refine tqm_aald (jn := x1.toNatClampNeg) (v := .ref (ad 116 x1.toNatClampNeg)) hx hb hK hW (by decide) (tq_mk_216 (by decide)) 2 rfl rfl b2 rfl rfl dX12_billsFallDue_72 ?_
            refine lv_iconst (v := 3) hx hb dX12_billsFallDue_73 (by decide) ?_
            refine lv_iload_n hx hb dX12_billsFallDue_74 rfl (lv_at hl 0 rfl) ?_
            refine tqm_iast (jn := 3) hx hb hK hW hS (by decide) (tq_mk_116 (tq_lt b2)) (by unfold vp_in; decide) (by decide) (tq_mk_116 (tq_lt b2)) dX12_billsFallDue_75 (fun H locs hW hS => ?_)
            generalize eM8 : tq_up M6 116 x1.toNatClampNeg 3 ((M 116 x1.toNatClampNeg 0) + r7) = M8 at hW
            have h := h M8 eM8.symm
            refine lv_aload_n hx hb dX12_billsFallDue_76 rfl (lv_at hl 1 rfl) ?_
            refine tqm_get (v := .ref (ad 101 0)) hx hb hw tq_inX12 hown hK hW (by decide) (tq_mk_64 (by decide)) rfl 1 (by decide) (hw _ tw_1409) (fun _ h9 => h9) rfl dX12_billsFallDue_77 ?_
            refine lv_iconst (v := 0) hx hb dX12_billsFallDue_80 (by decide) ?_
            refine tqm_iald (jn := 0) hx hb hK hW (by decide) (tq_mk_101 (by decide)) (by unfold vp_in; decide) (by decide) dX12_billsFallDue_81 ?_
            refine lv_iload_n hx hb dX12_billsFallDue_82 rfl (lv_at hl 0 rfl) ?_
            refine lv_icmp_lt (tgt := 108) hx hb dX12_billsFallDue_83 (by decide) (fun c9 => ?_) (fun c9 => ?_)
            · have h := h.1 c9
              refine lv_aload_n hx hb dX12_billsFallDue_108 rfl (lv_at hl 1 rfl) ?_
              refine tqm_get (v := .ref (ad 216 0)) hx hb hw tq_inX12 hown hK hW (by decide) (tq_mk_64 (by decide)) rfl 16 (by decide) (hw _ tw_1424) (fun _ h9 => h9) rfl dX12_billsFallDue_109 ?_
              refine lv_iload_n hx hb dX12_billsFallDue_112 rfl (lv_at hl 2 rfl) ?_
              refine tqm_aald (jn := x1.toNatClampNeg) (v := .ref (ad 116 x1.toNatClampNeg)) hx hb hK hW (by decide) (tq_mk_216 (by decide)) 2 rfl rfl b2 rfl rfl dX12_billsFallDue_113 ?_
              refine lv_iconst (v := 1) hx hb dX12_billsFallDue_114 (by decide) ?_
              refine lv_iconst (v := 3) hx hb dX12_billsFallDue_115 (by decide) ?_
              refine tqm_iast (jn := 1) hx hb hK hW hS (by decide) (tq_mk_116 (tq_lt b2)) (by unfold vp_in; decide) (by decide) (tq_mk_116 (tq_lt b2)) dX12_billsFallDue_116 (fun H locs hW hS => ?_)
              generalize eM10 : tq_up M8 116 x1.toNatClampNeg 1 3 = M10 at hW
              have h := h M10 eM10.symm
              exact bX12_billsFallDue_117 C (fun M9 a09 H9 q9 ls9 h9 hW9 hS9 hl9 => ih M9 a09 H9 q9 ls9 h9 hW9 hS9 hl9) _ _ _ _ _ h hW hS (lv_sub hl [1, 2] rfl)
            · have h := h.2 c9
              refine lv_aload_n hx hb dX12_billsFallDue_86 rfl (lv_at hl 1 rfl) ?_
              refine tqm_get (v := .ref (ad 101 0)) hx hb hw tq_inX12 hown hK hW (by decide) (tq_mk_64 (by decide)) rfl 1 (by decide) (hw _ tw_1409) (fun _ h9 => h9) rfl dX12_billsFallDue_87 ?_
              refine lv_iconst (v := 0) hx hb dX12_billsFallDue_90 (by decide) ?_
              refine lv_dup2_11 hx hb dX12_billsFallDue_91 rfl rfl ?_
              refine tqm_iald (jn := 0) hx hb hK hW (by decide) (tq_mk_101 (by decide)) (by unfold vp_in; decide) (by decide) dX12_billsFallDue_92 ?_
              refine lv_iload_n hx hb dX12_billsFallDue_93 rfl (lv_at hl 0 rfl) ?_
              refine lv_isub hx hb dX12_billsFallDue_94 ?_
              refine tqm_iast (jn := 0) hx hb hK hW hS (by decide) (tq_mk_101 (by decide)) (by unfold vp_in; decide) (by decide) (tq_mk_101 (by decide)) dX12_billsFallDue_95 (fun H locs hW hS => ?_)
              generalize eM11 : tq_up M8 101 0 0 ((M8 101 0 0) - ((M 116 x1.toNatClampNeg 0) + r7)) = M11 at hW
              have h := h M11 eM11.symm
              refine lv_aload_n hx hb dX12_billsFallDue_96 rfl (lv_at hl 1 rfl) ?_
              refine tqm_get (v := .ref (ad 216 0)) hx hb hw tq_inX12 hown hK hW (by decide) (tq_mk_64 (by decide)) rfl 16 (by decide) (hw _ tw_1424) (fun _ h9 => h9) rfl dX12_billsFallDue_97 ?_
              refine lv_iload_n hx hb dX12_billsFallDue_100 rfl (lv_at hl 2 rfl) ?_
              refine tqm_aald (jn := x1.toNatClampNeg) (v := .ref (ad 116 x1.toNatClampNeg)) hx hb hK hW (by decide) (tq_mk_216 (by decide)) 2 rfl rfl b2 rfl rfl dX12_billsFallDue_101 ?_
              refine lv_iconst (v := 1) hx hb dX12_billsFallDue_102 (by decide) ?_
              refine lv_iconst (v := 2) hx hb dX12_billsFallDue_103 (by decide) ?_
              refine tqm_iast (jn := 1) hx hb hK hW hS (by decide) (tq_mk_116 (tq_lt b2)) (by unfold vp_in; decide) (by decide) (tq_mk_116 (tq_lt b2)) dX12_billsFallDue_104 (fun H locs hW hS => ?_)
              generalize eM12 : tq_up M11 116 x1.toNatClampNeg 1 2 = M12 at hW
              have h := h M12 eM12.symm
              refine lv_goto (tgt := 117) hx hb dX12_billsFallDue_105 (by decide) ?_
              exact bX12_billsFallDue_117 C (fun M9 a09 H9 q9 ls9 h9 hW9 hS9 hl9 => ih M9 a09 H9 q9 ls9 h9 hW9 hS9 hl9) _ _ _ _ _ h hW hS (lv_sub hl [1, 2] rfl)
          · have h := h.2 c5
            refine lv_goto (tgt := 117) hx hb dX12_billsFallDue_49 (by decide) ?_
            exact bX12_billsFallDue_117 C (fun M9 a09 H9 q9 ls9 h9 hW9 hS9 hl9 => ih M9 a09 H9 q9 ls9 h9 hW9 hS9 hl9) _ _ _ _ _ h hW hS (lv_sub hl [0, 1] rfl)
set_option maxHeartbeats 4000000 in
set_option maxRecDepth 100000 in
theorem kX12_billsFallDue {post : tq_St → Prop} {M : tq_St}  (h : wpX12_billsFallDue post M ) : tq_mV l yX12_billsFallDue (tq_ws yX12_billsFallDue cX12_billsFallDue 3 none) 1 22 D cy z H0 ad N S M [.ref (ad 64 0)] post := by
  unfold wpX12_billsFallDue at h
  refine Met.ofW (cc := cX12_billsFallDue) (maxL := 3) (ret := none) (by decide) rfl ?_
  intro p e s m args below meth c s₁ B hml hv
  obtain ⟨rfl, hW, hK, hG⟩ := hv
  have hx := B.exec
  have hb := B.bytes
  have hr := B.returns
  have hts := atoms_spec (ws := (tq_ws yX12_billsFallDue cX12_billsFallDue 3 none)) B.pre
  have hw : ∀ w ∈ tq_W, w.before _ s = true := fun w h => hts w (List.mem_cons_of_mem _ h)
  have hown : s.vm.findClass RX12 = some m.cls := findClass_of_methodNamed B.named
  have hlocks := B.notSynchronized
  have C : tq_At p s m meth c [.ref (ad 64 0)].toArray cX12_billsFallDue 3 (none) ((tq_ws yX12_billsFallDue cX12_billsFallDue 3 none)) RX12 D cy z ad := ⟨hx, hb, hr, hml, hown, hts, hlocks, hK, hG⟩
  have hS : va_S (fun q => z ≤ q) s.heap s.heap [] := va_S.rf
  have hl := lv_entry ([.ref (ad 64 0)]) (n := 3) (Nat.le_of_ble_eq_true rfl)
  rw [lg_entry_eq]
  generalize (lg_sl ([.ref (ad 64 0)]) ++ List.replicate (3 - (lg_sl ([.ref (ad 64 0)])).length) Slot.unset).toArray = ls at hl ⊢
  have hl : lv_has ls 3 [(0, .ref (ad 64 0))] := hl
  have hW : tq_wd D cy z H0 ad N (tq_mix S M) s.heap := hW
  refine lv_iconst (v := 0) hx hb dX12_billsFallDue_0 (by decide) ?_
  refine lv_istore_n (lv' := [(1, .int 0), (0, .ref (ad 64 0))]) hx hb dX12_billsFallDue_1 rfl hl (by decide) rfl (fun ls hl => ?_)
  obtain ⟨nq, h⟩ := h
  exact bX12_billsFallDue_2 C  nq _ _ _ _ _ h hW hS (lv_sub hl [1, 0] rfl)
-- leftOf
def wpX12_leftOf (post : tq_St → Int32 → Prop) (M : tq_St) (p0 : Int32) : Prop :=
  vp_in p0 64 ∧ (post M ((M 148 0 p0.toNatClampNeg) - ((M 150 0 p0.toNatClampNeg) * ((M 148 0 p0.toNatClampNeg) / 5))))
set_option maxHeartbeats 4000000 in
set_option maxRecDepth 100000 in
theorem kX12_leftOf {post : tq_St → Int32 → Prop} {M : tq_St} {p0 : Int32} (h : wpX12_leftOf post M p0) : tq_mI l yX12_leftOf (tq_ws yX12_leftOf cX12_leftOf 2 (some .int)) 0 0 D cy z H0 ad N S M [.ref (ad 64 0), .int p0] post := by
  unfold wpX12_leftOf at h
  refine Met.ofW (cc := cX12_leftOf) (maxL := 2) (ret := (some .int)) (by decide) rfl ?_
  intro p e s m args below meth c s₁ B hml hv
  obtain ⟨rfl, hW, hK, hG⟩ := hv
  have hx := B.exec
  have hb := B.bytes
  have hr := B.returns
  have hts := atoms_spec (ws := (tq_ws yX12_leftOf cX12_leftOf 2 (some .int))) B.pre
  have hw : ∀ w ∈ tq_W, w.before _ s = true := fun w h => hts w (List.mem_cons_of_mem _ h)
  have hown : s.vm.findClass RX12 = some m.cls := findClass_of_methodNamed B.named
  have hlocks := B.notSynchronized
  have C : tq_At p s m meth c [.ref (ad 64 0), .int p0].toArray cX12_leftOf 2 ((some .int)) ((tq_ws yX12_leftOf cX12_leftOf 2 (some .int))) RX12 D cy z ad := ⟨hx, hb, hr, hml, hown, hts, hlocks, hK, hG⟩
  have hS : va_S (fun q => z ≤ q) s.heap s.heap [] := va_S.rf
  have hl := lv_entry ([.ref (ad 64 0), .int p0]) (n := 2) (Nat.le_of_ble_eq_true rfl)
  rw [lg_entry_eq]
  generalize (lg_sl ([.ref (ad 64 0), .int p0]) ++ List.replicate (2 - (lg_sl ([.ref (ad 64 0), .int p0])).length) Slot.unset).toArray = ls at hl ⊢
  have hl : lv_has ls 2 [(0, .ref (ad 64 0)), (1, .int p0)] := hl
  have hW : tq_wd D cy z H0 ad N (tq_mix S M) s.heap := hW
  refine lv_aload_n hx hb dX12_leftOf_0 rfl (lv_at hl 0 rfl) ?_
  refine tqm_get (v := .ref (ad 148 0)) hx hb hw tq_inX12 hown hK hW (by decide) (tq_mk_64 (by decide)) rfl 48 (by decide) (hw _ tw_1456) (fun _ h9 => h9) rfl dX12_leftOf_1 ?_
  refine lv_iload_n hx hb dX12_leftOf_4 rfl (lv_at hl 1 rfl) ?_
  obtain ⟨b1, h⟩ := h
  refine tqm_iald (jn := p0.toNatClampNeg) hx hb hK hW (by decide) (tq_mk_148 (by decide)) b1 rfl dX12_leftOf_5 ?_
  refine lv_aload_n hx hb dX12_leftOf_6 rfl (lv_at hl 0 rfl) ?_
  refine tqm_get (v := .ref (ad 150 0)) hx hb hw tq_inX12 hown hK hW (by decide) (tq_mk_64 (by decide)) rfl 50 (by decide) (hw _ tw_1458) (fun _ h9 => h9) rfl dX12_leftOf_7 ?_
  refine lv_iload_n hx hb dX12_leftOf_10 rfl (lv_at hl 1 rfl) ?_
  refine tqm_iald (jn := p0.toNatClampNeg) hx hb hK hW (by decide) (tq_mk_150 (by decide)) b1 rfl dX12_leftOf_11 ?_
  refine lv_aload_n hx hb dX12_leftOf_12 rfl (lv_at hl 0 rfl) ?_
  refine tqm_get (v := .ref (ad 148 0)) hx hb hw tq_inX12 hown hK hW (by decide) (tq_mk_64 (by decide)) rfl 48 (by decide) (hw _ tw_1456) (fun _ h9 => h9) rfl dX12_leftOf_13 ?_
  refine lv_iload_n hx hb dX12_leftOf_16 rfl (lv_at hl 1 rfl) ?_
  refine tqm_iald (jn := p0.toNatClampNeg) hx hb hK hW (by decide) (tq_mk_148 (by decide)) b1 rfl dX12_leftOf_17 ?_
  refine lv_iconst (v := 5) hx hb dX12_leftOf_18 (by decide) ?_
  refine lv_idiv hx hb dX12_leftOf_19 (by decide) ?_
  refine lv_imul hx hb dX12_leftOf_20 ?_
  refine lv_isub hx hb dX12_leftOf_21 ?_
  exact W.iret (v := (M 148 0 p0.toNatClampNeg) - ((M 150 0 p0.toNatClampNeg) * ((M 148 0 p0.toNatClampNeg) / 5))) hx hb hr (fun t ht hWm => ⟨⟨_, M, rfl, h, tq_pe ht hW⟩, hS.F ht⟩) hS.2.2 dX12_leftOf_22
-- advancesCome
def wbX12_advancesCome_131 (post : tq_St → Prop) (L2 : tq_St → Int32 → Int32 → Prop) (M : tq_St) (x1 : Int32) (x2 : Int32) : Prop :=
  L2 M x1 (x2 + 1)
def wbX12_advancesCome_89 (post : tq_St → Prop) (L2 : tq_St → Int32 → Int32 → Prop) (M : tq_St) (x1 : Int32) (x2 : Int32) (y0 : Int32) : Prop :=
  vp_in x2 64 ∧ (∀ M11, M11 = tq_up M 150 0 x2.toNatClampNeg ((M 150 0 x2.toNatClampNeg) + 1) → (vp_in x1 5 ∧ (vp_in (M11 147 0 x2.toNatClampNeg) 4 ∧ (∀ M14, M14 = tq_up M11 102 x1.toNatClampNeg ((M11 147 0 x2.toNatClampNeg).toNatClampNeg) ((M11 102 x1.toNatClampNeg ((M11 147 0 x2.toNatClampNeg).toNatClampNeg)) + (y0 - ((y0 * (M11 103 x1.toNatClampNeg 2)) / 100))) → (wbX12_advancesCome_131 post  L2 M14 x1 x2)))))
def wbX12_advancesCome_2 (post : tq_St → Prop) : Nat → tq_St → Int32 → Int32 → Prop
  | 0, _, _, _ => False
  | n + 1, M, x1, x2 =>
    ((M 64 0 45) ≤ x2 → (post M)) ∧ (¬ (M 64 0 45) ≤ x2 → (vp_in x2 64 ∧ ((¬ (M 146 0 x2.toNatClampNeg) = x1 → (wbX12_advancesCome_131 post  (wbX12_advancesCome_2 post n) M x1 x2)) ∧ ((M 146 0 x2.toNatClampNeg) = x1 → (((M 150 0 x2.toNatClampNeg) = 5 → (wbX12_advancesCome_131 post  (wbX12_advancesCome_2 post n) M x1 x2)) ∧ (¬ (M 150 0 x2.toNatClampNeg) = 5 → (((M 64 0 0) = (M 149 0 x2.toNatClampNeg) → (wbX12_advancesCome_131 post  (wbX12_advancesCome_2 post n) M x1 x2)) ∧ (¬ (M 64 0 0) = (M 149 0 x2.toNatClampNeg) → (((((M 64 0 0) - (M 149 0 x2.toNatClampNeg)) - ((M 64 0 0) - (M 149 0 x2.toNatClampNeg)) / 10 * 10) = 0 → ((¬ (M 150 0 x2.toNatClampNeg) = 4 → (wbX12_advancesCome_89 post  (wbX12_advancesCome_2 post n) M x1 x2 ((M 148 0 x2.toNatClampNeg) / 5))) ∧ ((M 150 0 x2.toNatClampNeg) = 4 → (wpX12_leftOf (fun M8 r9 => wbX12_advancesCome_89 post  (wbX12_advancesCome_2 post n) M8 x1 x2 r9) M x2)))) ∧ (¬ (((M 64 0 0) - (M 149 0 x2.toNatClampNeg)) - ((M 64 0 0) - (M 149 0 x2.toNatClampNeg)) / 10 * 10) = 0 → (wbX12_advancesCome_131 post  (wbX12_advancesCome_2 post n) M x1 x2)))))))))))
def wpX12_advancesCome (post : tq_St → Prop) (M : tq_St) (p0 : Int32) : Prop :=
  ∃ nq, wbX12_advancesCome_2 post nq M p0 0
set_option maxHeartbeats 4000000 in
set_option maxRecDepth 100000 in
theorem bX12_advancesCome_131 {p : Program} {e : Env} {s : State} {m : MethodId} {args : Array Value} {below : List Frame} {meth : Method} {c : Code} {post : tq_St → Prop} (C : tq_At p s m meth c args cX12_advancesCome 4 (none) ((tq_ws yX12_advancesCome cX12_advancesCome 4 none)) RX12 D cy z ad) {L2 : tq_St → Int32 → Int32 → Prop} (hL2 : ∀ (M : tq_St) (x1 : Int32) (x2 : Int32) (H : Heap) (locs : List Loc) (ls : Array Slot), L2 M x1 x2 → tq_wd D cy z H0 ad N (tq_mix S M) H → va_S (fun q => z ≤ q) s.heap H locs → lv_has ls 4 [(0, .ref (ad 64 0)), (1, .int x1), (2, .int x2)] → W p l e (tq_rm 1 21) s m args below meth c H locs 0 0 (MQ below (va_Qv (fun u => post u) (tq_P D cy z H0 ad N S) (fun q => z ≤ q)) args s 0 0 (fun q => z ≤ q)) (F0 m 2 ls [])) : ∀ (M : tq_St) (x1 : Int32) (x2 : Int32) (H : Heap) (locs : List Loc) (ls : Array Slot), wbX12_advancesCome_131 post  L2 M x1 x2 → tq_wd D cy z H0 ad N (tq_mix S M) H → va_S (fun q => z ≤ q) s.heap H locs → lv_has ls 4 [(0, .ref (ad 64 0)), (1, .int x1), (2, .int x2)] → W p l e (tq_rm 1 21) s m args below meth c H locs 0 0 (MQ below (va_Qv (fun u => post u) (tq_P D cy z H0 ad N S) (fun q => z ≤ q)) args s 0 0 (fun q => z ≤ q)) (F0 m 131 ls []) := by
  obtain ⟨hx, hb, hr, hml, hown, hts, hlocks, hK, hG⟩ := id C
  have hw : ∀ w ∈ tq_W, w.before args s = true := fun w h => hts w (List.mem_cons_of_mem _ h)
  intro M x1 x2 H locs ls h hW hS hl
  unfold wbX12_advancesCome_131 at h
  refine lv_iinc (v := x2 + 1) (lv' := [(2, .int (x2 + 1)), (0, .ref (ad 64 0)), (1, .int x1)]) hx hb dX12_advancesCome_131 hl (k := 2) rfl rfl (by decide) rfl (fun ls hl => ?_)
  refine lv_goto (tgt := 2) hx hb dX12_advancesCome_134 (by decide) ?_
  exact hL2 _ _ _ _ _ _ h hW hS (lv_sub hl [1, 2, 0] rfl)
set_option maxHeartbeats 4000000 in
set_option maxRecDepth 100000 in
theorem bX12_advancesCome_89 {p : Program} {e : Env} {s : State} {m : MethodId} {args : Array Value} {below : List Frame} {meth : Method} {c : Code} {post : tq_St → Prop} (C : tq_At p s m meth c args cX12_advancesCome 4 (none) ((tq_ws yX12_advancesCome cX12_advancesCome 4 none)) RX12 D cy z ad) {L2 : tq_St → Int32 → Int32 → Prop} (hL2 : ∀ (M : tq_St) (x1 : Int32) (x2 : Int32) (H : Heap) (locs : List Loc) (ls : Array Slot), L2 M x1 x2 → tq_wd D cy z H0 ad N (tq_mix S M) H → va_S (fun q => z ≤ q) s.heap H locs → lv_has ls 4 [(0, .ref (ad 64 0)), (1, .int x1), (2, .int x2)] → W p l e (tq_rm 1 21) s m args below meth c H locs 0 0 (MQ below (va_Qv (fun u => post u) (tq_P D cy z H0 ad N S) (fun q => z ≤ q)) args s 0 0 (fun q => z ≤ q)) (F0 m 2 ls [])) : ∀ (M : tq_St) (x1 : Int32) (x2 : Int32) (y0 : Int32) (H : Heap) (locs : List Loc) (ls : Array Slot), wbX12_advancesCome_89 post  L2 M x1 x2 y0 → tq_wd D cy z H0 ad N (tq_mix S M) H → va_S (fun q => z ≤ q) s.heap H locs → lv_has ls 4 [(0, .ref (ad 64 0)), (1, .int x1), (2, .int x2)] → W p l e (tq_rm 1 21) s m args below meth c H locs 0 0 (MQ below (va_Qv (fun u => post u) (tq_P D cy z H0 ad N S) (fun q => z ≤ q)) args s 0 0 (fun q => z ≤ q)) (F0 m 89 ls [.int y0]) := by
  obtain ⟨hx, hb, hr, hml, hown, hts, hlocks, hK, hG⟩ := id C
  have hw : ∀ w ∈ tq_W, w.before args s = true := fun w h => hts w (List.mem_cons_of_mem _ h)
  intro M x1 x2 y0 H locs ls h hW hS hl
  unfold wbX12_advancesCome_89 at h
  refine lv_istore_n (lv' := [(3, .int y0), (0, .ref (ad 64 0)), (1, .int x1), (2, .int x2)]) hx hb dX12_advancesCome_89 rfl hl (by decide) rfl (fun ls hl => ?_)
  refine lv_aload_n hx hb dX12_advancesCome_90 rfl (lv_at hl 1 rfl) ?_
  refine tqm_get (v := .ref (ad 150 0)) hx hb hw tq_inX12 hown hK hW (by decide) (tq_mk_64 (by decide)) rfl 50 (by decide) (hw _ tw_1458) (fun _ h9 => h9) rfl dX12_advancesCome_91 ?_
  refine lv_iload_n hx hb dX12_advancesCome_94 rfl (lv_at hl 3 rfl) ?_
  refine lv_dup2_11 hx hb dX12_advancesCome_95 rfl rfl ?_
  obtain ⟨b10, h⟩ := h
  refine tqm_iald (jn := x2.toNatClampNeg) hx hb hK hW (by decide) (tq_mk_150 (by decide)) b10 rfl dX12_advancesCome_96 ?_
  refine lv_iconst (v := 1) hx hb dX12_advancesCome_97 (by decide) ?_
  refine lv_iadd hx hb dX12_advancesCome_98 ?_
  refine tqm_iast (jn := x2.toNatClampNeg) hx hb hK hW hS (by decide) (tq_mk_150 (by decide)) b10 rfl (tq_mk_150 (by decide)) dX12_advancesCome_99 (fun H locs hW hS => ?_)
  generalize eM11 : tq_up M 150 0 x2.toNatClampNeg ((M 150 0 x2.toNatClampNeg) + 1) = M11 at hW
  have h := h M11 eM11.symm
  refine lv_aload_n hx hb dX12_advancesCome_100 rfl (lv_at hl 1 rfl) ?_
  refine tqm_get (v := .ref (ad 202 0)) hx hb hw tq_inX12 hown hK hW (by decide) (tq_mk_64 (by decide)) rfl 2 (by decide) (hw _ tw_1410) (fun _ h9 => h9) rfl dX12_advancesCome_101 ?_
  refine lv_iload_n hx hb dX12_advancesCome_104 rfl (lv_at hl 2 rfl) ?_
  obtain ⟨b12, h⟩ := h
  refine tqm_aald (jn := x1.toNatClampNeg) (v := .ref (ad 102 x1.toNatClampNeg)) hx hb hK hW (by decide) (tq_mk_202 (by decide)) 2 rfl rfl b12 rfl rfl dX12_advancesCome_105 ?_
  refine lv_aload_n hx hb dX12_advancesCome_106 rfl (lv_at hl 1 rfl) ?_
  refine tqm_get (v := .ref (ad 147 0)) hx hb hw tq_inX12 hown hK hW (by decide) (tq_mk_64 (by decide)) rfl 47 (by decide) (hw _ tw_1455) (fun _ h9 => h9) rfl dX12_advancesCome_107 ?_
  refine lv_iload_n hx hb dX12_advancesCome_110 rfl (lv_at hl 3 rfl) ?_
  refine tqm_iald (jn := x2.toNatClampNeg) hx hb hK hW (by decide) (tq_mk_147 (by decide)) b10 rfl dX12_advancesCome_111 ?_
  refine lv_dup2_11 hx hb dX12_advancesCome_112 rfl rfl ?_
  obtain ⟨b13, h⟩ := h
  refine tqm_iald (jn := (M11 147 0 x2.toNatClampNeg).toNatClampNeg) hx hb hK hW (by decide) (tq_mk_102 (tq_lt b12)) b13 rfl dX12_advancesCome_113 ?_
  refine lv_iload_n hx hb dX12_advancesCome_114 rfl (lv_at hl 0 rfl) ?_
  refine lv_iload_n hx hb dX12_advancesCome_115 rfl (lv_at hl 0 rfl) ?_
  refine lv_aload_n hx hb dX12_advancesCome_116 rfl (lv_at hl 1 rfl) ?_
  refine tqm_get (v := .ref (ad 203 0)) hx hb hw tq_inX12 hown hK hW (by decide) (tq_mk_64 (by decide)) rfl 3 (by decide) (hw _ tw_1411) (fun _ h9 => h9) rfl dX12_advancesCome_117 ?_
  refine lv_iload_n hx hb dX12_advancesCome_120 rfl (lv_at hl 2 rfl) ?_
  refine tqm_aald (jn := x1.toNatClampNeg) (v := .ref (ad 103 x1.toNatClampNeg)) hx hb hK hW (by decide) (tq_mk_203 (by decide)) 2 rfl rfl b12 rfl rfl dX12_advancesCome_121 ?_
  refine lv_iconst (v := 2) hx hb dX12_advancesCome_122 (by decide) ?_
  refine tqm_iald (jn := 2) hx hb hK hW (by decide) (tq_mk_103 (tq_lt b12)) (by unfold vp_in; decide) (by decide) dX12_advancesCome_123 ?_
  refine lv_imul hx hb dX12_advancesCome_124 ?_
  refine lv_bipush (v := 100) hx hb dX12_advancesCome_125 (by decide) ?_
  refine lv_idiv hx hb dX12_advancesCome_127 (by decide) ?_
  refine lv_isub hx hb dX12_advancesCome_128 ?_
  refine lv_iadd hx hb dX12_advancesCome_129 ?_
  refine tqm_iast (jn := (M11 147 0 x2.toNatClampNeg).toNatClampNeg) hx hb hK hW hS (by decide) (tq_mk_102 (tq_lt b12)) b13 rfl (tq_mk_102 (tq_lt b12)) dX12_advancesCome_130 (fun H locs hW hS => ?_)
  generalize eM14 : tq_up M11 102 x1.toNatClampNeg ((M11 147 0 x2.toNatClampNeg).toNatClampNeg) ((M11 102 x1.toNatClampNeg ((M11 147 0 x2.toNatClampNeg).toNatClampNeg)) + (y0 - ((y0 * (M11 103 x1.toNatClampNeg 2)) / 100))) = M14 at hW
  have h := h M14 eM14.symm
  exact bX12_advancesCome_131 C (fun M9 a09 a19 H9 q9 ls9 h9 hW9 hS9 hl9 => hL2 M9 a09 a19 H9 q9 ls9 h9 hW9 hS9 hl9) _ _ _ _ _ _ h hW hS (lv_sub hl [1, 2, 3] rfl)
set_option maxHeartbeats 4000000 in
set_option maxRecDepth 100000 in
theorem bX12_advancesCome_2 {p : Program} {e : Env} {s : State} {m : MethodId} {args : Array Value} {below : List Frame} {meth : Method} {c : Code} {post : tq_St → Prop} (C : tq_At p s m meth c args cX12_advancesCome 4 (none) ((tq_ws yX12_advancesCome cX12_advancesCome 4 none)) RX12 D cy z ad)  : ∀ n : Nat, ∀ (M : tq_St) (x1 : Int32) (x2 : Int32) (H : Heap) (locs : List Loc) (ls : Array Slot), wbX12_advancesCome_2 post   n M x1 x2 → tq_wd D cy z H0 ad N (tq_mix S M) H → va_S (fun q => z ≤ q) s.heap H locs → lv_has ls 4 [(0, .ref (ad 64 0)), (1, .int x1), (2, .int x2)] → W p l e (tq_rm 1 21) s m args below meth c H locs 0 0 (MQ below (va_Qv (fun u => post u) (tq_P D cy z H0 ad N S) (fun q => z ≤ q)) args s 0 0 (fun q => z ≤ q)) (F0 m 2 ls []) := by
  obtain ⟨hx, hb, hr, hml, hown, hts, hlocks, hK, hG⟩ := id C
  have hw : ∀ w ∈ tq_W, w.before args s = true := fun w h => hts w (List.mem_cons_of_mem _ h)
  intro n
  induction n with
  | zero =>
    intro M x1 x2 H locs ls h
    exact absurd h (by unfold wbX12_advancesCome_2; exact id)
  | succ n ih =>
    intro M x1 x2 H locs ls h hW hS hl
    unfold wbX12_advancesCome_2 at h
    refine lv_iload_n hx hb dX12_advancesCome_2 rfl (lv_at hl 2 rfl) ?_
    refine lv_aload_n hx hb dX12_advancesCome_3 rfl (lv_at hl 0 rfl) ?_
    refine tqm_get (v := .int (M 64 0 45)) hx hb hw tq_inX12 hown hK hW (by decide) (tq_mk_64 (by decide)) rfl 45 (by decide) (hw _ tw_1453) (fun _ h9 => h9) rfl dX12_advancesCome_4 ?_
    refine lv_icmp_ge (tgt := 137) hx hb dX12_advancesCome_7 (by decide) (fun c1 => ?_) (fun c1 => ?_)
    · have h := h.1 c1
      exact W.vret hx hb hr (fun t ht hWm => ⟨⟨M, rfl, h, tq_pe ht hW⟩, hS.F ht⟩) hS.2.2 dX12_advancesCome_137
    · have h := h.2 c1
      refine lv_aload_n hx hb dX12_advancesCome_10 rfl (lv_at hl 0 rfl) ?_
      refine tqm_get (v := .ref (ad 146 0)) hx hb hw tq_inX12 hown hK hW (by decide) (tq_mk_64 (by decide)) rfl 46 (by decide) (hw _ tw_1454) (fun _ h9 => h9) rfl dX12_advancesCome_11 ?_
      refine lv_iload_n hx hb dX12_advancesCome_14 rfl (lv_at hl 2 rfl) ?_
      obtain ⟨b2, h⟩ := h
      refine tqm_iald (jn := x2.toNatClampNeg) hx hb hK hW (by decide) (tq_mk_146 (by decide)) b2 rfl dX12_advancesCome_15 ?_
      refine lv_iload_n hx hb dX12_advancesCome_16 rfl (lv_at hl 1 rfl) ?_
      refine lv_icmp_ne (tgt := 131) hx hb dX12_advancesCome_17 (by decide) (fun c3 => ?_) (fun c3 => ?_)
      · have h := h.1 c3
        exact bX12_advancesCome_131 C (fun M9 a09 a19 H9 q9 ls9 h9 hW9 hS9 hl9 => ih M9 a09 a19 H9 q9 ls9 h9 hW9 hS9 hl9) _ _ _ _ _ _ h hW hS (lv_sub hl [0, 1, 2] rfl)
      · have h := h.2 c3
        refine lv_aload_n hx hb dX12_advancesCome_20 rfl (lv_at hl 0 rfl) ?_
        refine tqm_get (v := .ref (ad 150 0)) hx hb hw tq_inX12 hown hK hW (by decide) (tq_mk_64 (by decide)) rfl 50 (by decide) (hw _ tw_1458) (fun _ h9 => h9) rfl dX12_advancesCome_21 ?_
        refine lv_iload_n hx hb dX12_advancesCome_24 rfl (lv_at hl 2 rfl) ?_
        refine tqm_iald (jn := x2.toNatClampNeg) hx hb hK hW (by decide) (tq_mk_150 (by decide)) b2 rfl dX12_advancesCome_25 ?_
        refine lv_iconst (v := 5) hx hb dX12_advancesCome_26 (by decide) ?_
        refine lv_icmp_eq (tgt := 131) hx hb dX12_advancesCome_27 (by decide) (fun c4 => ?_) (fun c4 => ?_)
        · have h := h.1 c4
          exact bX12_advancesCome_131 C (fun M9 a09 a19 H9 q9 ls9 h9 hW9 hS9 hl9 => ih M9 a09 a19 H9 q9 ls9 h9 hW9 hS9 hl9) _ _ _ _ _ _ h hW hS (lv_sub hl [0, 1, 2] rfl)
        · have h := h.2 c4
          refine lv_aload_n hx hb dX12_advancesCome_30 rfl (lv_at hl 0 rfl) ?_
          refine tqm_get (v := .int (M 64 0 0)) hx hb hw tq_inX12 hown hK hW (by decide) (tq_mk_64 (by decide)) rfl 0 (by decide) (hw _ tw_1408) (fun _ h9 => h9) rfl dX12_advancesCome_31 ?_
          refine lv_aload_n hx hb dX12_advancesCome_34 rfl (lv_at hl 0 rfl) ?_
          refine tqm_get (v := .ref (ad 149 0)) hx hb hw tq_inX12 hown hK hW (by decide) (tq_mk_64 (by decide)) rfl 49 (by decide) (hw _ tw_1457) (fun _ h9 => h9) rfl dX12_advancesCome_35 ?_
          refine lv_iload_n hx hb dX12_advancesCome_38 rfl (lv_at hl 2 rfl) ?_
          refine tqm_iald (jn := x2.toNatClampNeg) hx hb hK hW (by decide) (tq_mk_149 (by decide)) b2 rfl dX12_advancesCome_39 ?_
          refine lv_icmp_eq (tgt := 131) hx hb dX12_advancesCome_40 (by decide) (fun c5 => ?_) (fun c5 => ?_)
          · have h := h.1 c5
            exact bX12_advancesCome_131 C (fun M9 a09 a19 H9 q9 ls9 h9 hW9 hS9 hl9 => ih M9 a09 a19 H9 q9 ls9 h9 hW9 hS9 hl9) _ _ _ _ _ _ h hW hS (lv_sub hl [0, 1, 2] rfl)
          · have h := h.2 c5
            refine lv_aload_n hx hb dX12_advancesCome_43 rfl (lv_at hl 0 rfl) ?_
            refine tqm_get (v := .int (M 64 0 0)) hx hb hw tq_inX12 hown hK hW (by decide) (tq_mk_64 (by decide)) rfl 0 (by decide) (hw _ tw_1408) (fun _ h9 => h9) rfl dX12_advancesCome_44 ?_
            refine lv_aload_n hx hb dX12_advancesCome_47 rfl (lv_at hl 0 rfl) ?_
            refine tqm_get (v := .ref (ad 149 0)) hx hb hw tq_inX12 hown hK hW (by decide) (tq_mk_64 (by decide)) rfl 49 (by decide) (hw _ tw_1457) (fun _ h9 => h9) rfl dX12_advancesCome_48 ?_
            refine lv_iload_n hx hb dX12_advancesCome_51 rfl (lv_at hl 2 rfl) ?_
            refine tqm_iald (jn := x2.toNatClampNeg) hx hb hK hW (by decide) (tq_mk_149 (by decide)) b2 rfl dX12_advancesCome_52 ?_
            refine lv_isub hx hb dX12_advancesCome_53 ?_
            refine lv_bipush (v := 10) hx hb dX12_advancesCome_54 (by decide) ?_
            refine lv_irem hx hb dX12_advancesCome_56 (by decide) ?_
            refine lv_if_eq (tgt := 63) hx hb dX12_advancesCome_57 (by decide) (fun c6 => ?_) (fun c6 => ?_)
            · have h := h.1 c6
              refine lv_aload_n hx hb dX12_advancesCome_63 rfl (lv_at hl 0 rfl) ?_
              refine tqm_get (v := .ref (ad 150 0)) hx hb hw tq_inX12 hown hK hW (by decide) (tq_mk_64 (by decide)) rfl 50 (by decide) (hw _ tw_1458) (fun _ h9 => h9) rfl dX12_advancesCome_64 ?_
              refine lv_iload_n hx hb dX12_advancesCome_67 rfl (lv_at hl 2 rfl) ?_
              refine tqm_iald (jn := x2.toNatClampNeg) hx hb hK hW (by decide) (tq_mk_150 (by decide)) b2 rfl dX12_advancesCome_68 ?_
              refine lv_iconst (v := 4) hx hb dX12_advancesCome_69 (by decide) ?_
              refine lv_icmp_ne (tgt := 81) hx hb dX12_advancesCome_70 (by decide) (fun c7 => ?_) (fun c7 => ?_)
              · have h := h.1 c7
                refine lv_aload_n hx hb dX12_advancesCome_81 rfl (lv_at hl 0 rfl) ?_
                refine tqm_get (v := .ref (ad 148 0)) hx hb hw tq_inX12 hown hK hW (by decide) (tq_mk_64 (by decide)) rfl 48 (by decide) (hw _ tw_1456) (fun _ h9 => h9) rfl dX12_advancesCome_82 ?_
                refine lv_iload_n hx hb dX12_advancesCome_85 rfl (lv_at hl 2 rfl) ?_
                refine tqm_iald (jn := x2.toNatClampNeg) hx hb hK hW (by decide) (tq_mk_148 (by decide)) b2 rfl dX12_advancesCome_86 ?_
                refine lv_iconst (v := 5) hx hb dX12_advancesCome_87 (by decide) ?_
                refine lv_idiv hx hb dX12_advancesCome_88 (by decide) ?_
                exact bX12_advancesCome_89 C (fun M9 a09 a19 H9 q9 ls9 h9 hW9 hS9 hl9 => ih M9 a09 a19 H9 q9 ls9 h9 hW9 hS9 hl9) _ _ _ _ _ _ _ h hW hS (lv_sub hl [0, 1, 2] rfl)
              · have h := h.2 c7
                refine lv_aload_n hx hb dX12_advancesCome_73 rfl (lv_at hl 0 rfl) ?_
                refine lv_iload_n hx hb dX12_advancesCome_74 rfl (lv_at hl 2 rfl) ?_
                refine tq_callVi (As := [.int x2]) (rest := []) (kX12_leftOf h) ⟨hx, hb, hml, hown, hts⟩ (cwV 1 hts (tq_goodV tw_1909 tw_1911 tw_87 tw_125 tw_1912) rfl rfl rfl (by decide +kernel) ⟨Nat.le_of_ble_eq_true rfl, Nat.le_of_ble_eq_true rfl⟩) hK hG hW hS rfl hl.1 rfl (Nat.le_of_ble_eq_true rfl) dX12_advancesCome_75 ⟨Nat.le_of_ble_eq_true rfl, Nat.le_of_ble_eq_true rfl⟩ (fun r9 M8 H locs h hW hS => ?_)
                refine lv_goto (tgt := 89) hx hb dX12_advancesCome_78 (by decide) ?_
                exact bX12_advancesCome_89 C (fun M9 a09 a19 H9 q9 ls9 h9 hW9 hS9 hl9 => ih M9 a09 a19 H9 q9 ls9 h9 hW9 hS9 hl9) _ _ _ _ _ _ _ h hW hS (lv_sub hl [0, 1, 2] rfl)
            · have h := h.2 c6
              refine lv_goto (tgt := 131) hx hb dX12_advancesCome_60 (by decide) ?_
              exact bX12_advancesCome_131 C (fun M9 a09 a19 H9 q9 ls9 h9 hW9 hS9 hl9 => ih M9 a09 a19 H9 q9 ls9 h9 hW9 hS9 hl9) _ _ _ _ _ _ h hW hS (lv_sub hl [0, 1, 2] rfl)
set_option maxHeartbeats 4000000 in
set_option maxRecDepth 100000 in
theorem kX12_advancesCome {post : tq_St → Prop} {M : tq_St} {p0 : Int32} (h : wpX12_advancesCome post M p0) : tq_mV l yX12_advancesCome (tq_ws yX12_advancesCome cX12_advancesCome 4 none) 1 21 D cy z H0 ad N S M [.ref (ad 64 0), .int p0] post := by
  unfold wpX12_advancesCome at h
  refine Met.ofW (cc := cX12_advancesCome) (maxL := 4) (ret := none) (by decide) rfl ?_
  intro p e s m args below meth c s₁ B hml hv
  obtain ⟨rfl, hW, hK, hG⟩ := hv
  have hx := B.exec
  have hb := B.bytes
  have hr := B.returns
  have hts := atoms_spec (ws := (tq_ws yX12_advancesCome cX12_advancesCome 4 none)) B.pre
  have hw : ∀ w ∈ tq_W, w.before _ s = true := fun w h => hts w (List.mem_cons_of_mem _ h)
  have hown : s.vm.findClass RX12 = some m.cls := findClass_of_methodNamed B.named
  have hlocks := B.notSynchronized
  have C : tq_At p s m meth c [.ref (ad 64 0), .int p0].toArray cX12_advancesCome 4 (none) ((tq_ws yX12_advancesCome cX12_advancesCome 4 none)) RX12 D cy z ad := ⟨hx, hb, hr, hml, hown, hts, hlocks, hK, hG⟩
  have hS : va_S (fun q => z ≤ q) s.heap s.heap [] := va_S.rf
  have hl := lv_entry ([.ref (ad 64 0), .int p0]) (n := 4) (Nat.le_of_ble_eq_true rfl)
  rw [lg_entry_eq]
  generalize (lg_sl ([.ref (ad 64 0), .int p0]) ++ List.replicate (4 - (lg_sl ([.ref (ad 64 0), .int p0])).length) Slot.unset).toArray = ls at hl ⊢
  have hl : lv_has ls 4 [(0, .ref (ad 64 0)), (1, .int p0)] := hl
  have hW : tq_wd D cy z H0 ad N (tq_mix S M) s.heap := hW
  refine lv_iconst (v := 0) hx hb dX12_advancesCome_0 (by decide) ?_
  refine lv_istore_n (lv' := [(2, .int 0), (0, .ref (ad 64 0)), (1, .int p0)]) hx hb dX12_advancesCome_1 rfl hl (by decide) rfl (fun ls hl => ?_)
  obtain ⟨nq, h⟩ := h
  exact bX12_advancesCome_2 C  nq _ _ _ _ _ _ h hW hS (lv_sub hl [1, 2, 0] rfl)
-- openOf
def wbX12_openOf_56 (post : tq_St → Int32 → Prop) (L5 : tq_St → Int32 → Int32 → Int32 → Int32 → Prop) (M : tq_St) (x1 : Int32) (x2 : Int32) (x3 : Int32) (x4 : Int32) : Prop :=
  L5 M x1 x2 x3 (x4 + 1)
def wbX12_openOf_5 (post : tq_St → Int32 → Prop) : Nat → tq_St → Int32 → Int32 → Int32 → Int32 → Prop
  | 0, _, _, _, _, _ => False
  | n + 1, M, x1, x2, x3, x4 =>
    ((M 64 0 45) ≤ x4 → (post M x3)) ∧ (¬ (M 64 0 45) ≤ x4 → (vp_in x4 64 ∧ ((¬ (M 146 0 x4.toNatClampNeg) = x1 → (wbX12_openOf_56 post  (wbX12_openOf_5 post n) M x1 x2 x3 x4)) ∧ ((M 146 0 x4.toNatClampNeg) = x1 → ((¬ (M 147 0 x4.toNatClampNeg) = x2 → (wbX12_openOf_56 post  (wbX12_openOf_5 post n) M x1 x2 x3 x4)) ∧ ((M 147 0 x4.toNatClampNeg) = x2 → ((5 ≤ (M 150 0 x4.toNatClampNeg) → (wbX12_openOf_56 post  (wbX12_openOf_5 post n) M x1 x2 x3 x4)) ∧ (¬ 5 ≤ (M 150 0 x4.toNatClampNeg) → (wpX12_leftOf (fun M6 r7 => wbX12_openOf_56 post  (wbX12_openOf_5 post n) M6 x1 x2 (x3 + r7) x4) M x4)))))))))
def wpX12_openOf (post : tq_St → Int32 → Prop) (M : tq_St) (p0 : Int32) (p1 : Int32) : Prop :=
  ∃ nq, wbX12_openOf_5 post nq M p0 p1 0 0
set_option maxHeartbeats 4000000 in
set_option maxRecDepth 100000 in
theorem bX12_openOf_56 {p : Program} {e : Env} {s : State} {m : MethodId} {args : Array Value} {below : List Frame} {meth : Method} {c : Code} {post : tq_St → Int32 → Prop} (C : tq_At p s m meth c args cX12_openOf 5 ((some .int)) ((tq_ws yX12_openOf cX12_openOf 5 (some .int))) RX12 D cy z ad) {L5 : tq_St → Int32 → Int32 → Int32 → Int32 → Prop} (hL5 : ∀ (M : tq_St) (x1 : Int32) (x2 : Int32) (x3 : Int32) (x4 : Int32) (H : Heap) (locs : List Loc) (ls : Array Slot), L5 M x1 x2 x3 x4 → tq_wd D cy z H0 ad N (tq_mix S M) H → va_S (fun q => z ≤ q) s.heap H locs → lv_has ls 5 [(0, .ref (ad 64 0)), (1, .int x1), (2, .int x2), (3, .int x3), (4, .int x4)] → W p l e (tq_rm 1 21) s m args below meth c H locs 0 0 (MQ below (va_Qi (fun r u => post u r) (tq_P D cy z H0 ad N S) (fun q => z ≤ q)) args s 0 0 (fun q => z ≤ q)) (F0 m 5 ls [])) : ∀ (M : tq_St) (x1 : Int32) (x2 : Int32) (x3 : Int32) (x4 : Int32) (H : Heap) (locs : List Loc) (ls : Array Slot), wbX12_openOf_56 post  L5 M x1 x2 x3 x4 → tq_wd D cy z H0 ad N (tq_mix S M) H → va_S (fun q => z ≤ q) s.heap H locs → lv_has ls 5 [(0, .ref (ad 64 0)), (1, .int x1), (2, .int x2), (3, .int x3), (4, .int x4)] → W p l e (tq_rm 1 21) s m args below meth c H locs 0 0 (MQ below (va_Qi (fun r u => post u r) (tq_P D cy z H0 ad N S) (fun q => z ≤ q)) args s 0 0 (fun q => z ≤ q)) (F0 m 56 ls []) := by
  obtain ⟨hx, hb, hr, hml, hown, hts, hlocks, hK, hG⟩ := id C
  have hw : ∀ w ∈ tq_W, w.before args s = true := fun w h => hts w (List.mem_cons_of_mem _ h)
  intro M x1 x2 x3 x4 H locs ls h hW hS hl
  unfold wbX12_openOf_56 at h
  refine lv_iinc (v := x4 + 1) (lv' := [(4, .int (x4 + 1)), (0, .ref (ad 64 0)), (1, .int x1), (2, .int x2), (3, .int x3)]) hx hb dX12_openOf_56 hl (k := 4) rfl rfl (by decide) rfl (fun ls hl => ?_)
  refine lv_goto (tgt := 5) hx hb dX12_openOf_59 (by decide) ?_
  exact hL5 _ _ _ _ _ _ _ _ h hW hS (lv_sub hl [1, 2, 3, 4, 0] rfl)
set_option maxHeartbeats 4000000 in
set_option maxRecDepth 100000 in
theorem bX12_openOf_5 {p : Program} {e : Env} {s : State} {m : MethodId} {args : Array Value} {below : List Frame} {meth : Method} {c : Code} {post : tq_St → Int32 → Prop} (C : tq_At p s m meth c args cX12_openOf 5 ((some .int)) ((tq_ws yX12_openOf cX12_openOf 5 (some .int))) RX12 D cy z ad)  : ∀ n : Nat, ∀ (M : tq_St) (x1 : Int32) (x2 : Int32) (x3 : Int32) (x4 : Int32) (H : Heap) (locs : List Loc) (ls : Array Slot), wbX12_openOf_5 post   n M x1 x2 x3 x4 → tq_wd D cy z H0 ad N (tq_mix S M) H → va_S (fun q => z ≤ q) s.heap H locs → lv_has ls 5 [(0, .ref (ad 64 0)), (1, .int x1), (2, .int x2), (3, .int x3), (4, .int x4)] → W p l e (tq_rm 1 21) s m args below meth c H locs 0 0 (MQ below (va_Qi (fun r u => post u r) (tq_P D cy z H0 ad N S) (fun q => z ≤ q)) args s 0 0 (fun q => z ≤ q)) (F0 m 5 ls []) := by
  obtain ⟨hx, hb, hr, hml, hown, hts, hlocks, hK, hG⟩ := id C
  have hw : ∀ w ∈ tq_W, w.before args s = true := fun w h => hts w (List.mem_cons_of_mem _ h)
  intro n
  induction n with
  | zero =>
    intro M x1 x2 x3 x4 H locs ls h
    exact absurd h (by unfold wbX12_openOf_5; exact id)
  | succ n ih =>
    intro M x1 x2 x3 x4 H locs ls h hW hS hl
    unfold wbX12_openOf_5 at h
    refine lv_iload hx hb dX12_openOf_5 (lv_at hl 4 rfl) ?_
    refine lv_aload_n hx hb dX12_openOf_7 rfl (lv_at hl 0 rfl) ?_
    refine tqm_get (v := .int (M 64 0 45)) hx hb hw tq_inX12 hown hK hW (by decide) (tq_mk_64 (by decide)) rfl 45 (by decide) (hw _ tw_1453) (fun _ h9 => h9) rfl dX12_openOf_8 ?_
    refine lv_icmp_ge (tgt := 62) hx hb dX12_openOf_11 (by decide) (fun c1 => ?_) (fun c1 => ?_)
    · have h := h.1 c1
      refine lv_iload_n hx hb dX12_openOf_62 rfl (lv_at hl 3 rfl) ?_
      exact W.iret (v := x3) hx hb hr (fun t ht hWm => ⟨⟨_, M, rfl, h, tq_pe ht hW⟩, hS.F ht⟩) hS.2.2 dX12_openOf_63
    · have h := h.2 c1
      refine lv_aload_n hx hb dX12_openOf_14 rfl (lv_at hl 0 rfl) ?_
      refine tqm_get (v := .ref (ad 146 0)) hx hb hw tq_inX12 hown hK hW (by decide) (tq_mk_64 (by decide)) rfl 46 (by decide) (hw _ tw_1454) (fun _ h9 => h9) rfl dX12_openOf_15 ?_
      refine lv_iload hx hb dX12_openOf_18 (lv_at hl 4 rfl) ?_
      obtain ⟨b2, h⟩ := h
      refine tqm_iald (jn := x4.toNatClampNeg) hx hb hK hW (by decide) (tq_mk_146 (by decide)) b2 rfl dX12_openOf_20 ?_
      refine lv_iload_n hx hb dX12_openOf_21 rfl (lv_at hl 1 rfl) ?_
      refine lv_icmp_ne (tgt := 56) hx hb dX12_openOf_22 (by decide) (fun c3 => ?_) (fun c3 => ?_)
      · have h := h.1 c3
        exact bX12_openOf_56 C (fun M9 a09 a19 a29 a39 H9 q9 ls9 h9 hW9 hS9 hl9 => ih M9 a09 a19 a29 a39 H9 q9 ls9 h9 hW9 hS9 hl9) _ _ _ _ _ _ _ _ h hW hS (lv_sub hl [0, 1, 2, 3, 4] rfl)
      · have h := h.2 c3
        refine lv_aload_n hx hb dX12_openOf_25 rfl (lv_at hl 0 rfl) ?_
        refine tqm_get (v := .ref (ad 147 0)) hx hb hw tq_inX12 hown hK hW (by decide) (tq_mk_64 (by decide)) rfl 47 (by decide) (hw _ tw_1455) (fun _ h9 => h9) rfl dX12_openOf_26 ?_
        refine lv_iload hx hb dX12_openOf_29 (lv_at hl 4 rfl) ?_
        refine tqm_iald (jn := x4.toNatClampNeg) hx hb hK hW (by decide) (tq_mk_147 (by decide)) b2 rfl dX12_openOf_31 ?_
        refine lv_iload_n hx hb dX12_openOf_32 rfl (lv_at hl 2 rfl) ?_
        refine lv_icmp_ne (tgt := 56) hx hb dX12_openOf_33 (by decide) (fun c4 => ?_) (fun c4 => ?_)
        · have h := h.1 c4
          exact bX12_openOf_56 C (fun M9 a09 a19 a29 a39 H9 q9 ls9 h9 hW9 hS9 hl9 => ih M9 a09 a19 a29 a39 H9 q9 ls9 h9 hW9 hS9 hl9) _ _ _ _ _ _ _ _ h hW hS (lv_sub hl [0, 1, 2, 3, 4] rfl)
        · have h := h.2 c4
          refine lv_aload_n hx hb dX12_openOf_36 rfl (lv_at hl 0 rfl) ?_
          refine tqm_get (v := .ref (ad 150 0)) hx hb hw tq_inX12 hown hK hW (by decide) (tq_mk_64 (by decide)) rfl 50 (by decide) (hw _ tw_1458) (fun _ h9 => h9) rfl dX12_openOf_37 ?_
          refine lv_iload hx hb dX12_openOf_40 (lv_at hl 4 rfl) ?_
          refine tqm_iald (jn := x4.toNatClampNeg) hx hb hK hW (by decide) (tq_mk_150 (by decide)) b2 rfl dX12_openOf_42 ?_
          refine lv_iconst (v := 5) hx hb dX12_openOf_43 (by decide) ?_
          refine lv_icmp_ge (tgt := 56) hx hb dX12_openOf_44 (by decide) (fun c5 => ?_) (fun c5 => ?_)
          · have h := h.1 c5
            exact bX12_openOf_56 C (fun M9 a09 a19 a29 a39 H9 q9 ls9 h9 hW9 hS9 hl9 => ih M9 a09 a19 a29 a39 H9 q9 ls9 h9 hW9 hS9 hl9) _ _ _ _ _ _ _ _ h hW hS (lv_sub hl [0, 1, 2, 3, 4] rfl)
          · have h := h.2 c5
            refine lv_iload_n hx hb dX12_openOf_47 rfl (lv_at hl 3 rfl) ?_
            refine lv_aload_n hx hb dX12_openOf_48 rfl (lv_at hl 0 rfl) ?_
            refine lv_iload hx hb dX12_openOf_49 (lv_at hl 4 rfl) ?_
            refine tq_callVi (As := [.int x4]) (rest := [.int x3]) (kX12_leftOf h) ⟨hx, hb, hml, hown, hts⟩ (cwV 1 hts (tq_goodV tw_1909 tw_1911 tw_87 tw_125 tw_1912) rfl rfl rfl (by decide +kernel) ⟨Nat.le_of_ble_eq_true rfl, Nat.le_of_ble_eq_true rfl⟩) hK hG hW hS rfl hl.1 rfl (Nat.le_of_ble_eq_true rfl) dX12_openOf_51 ⟨Nat.le_of_ble_eq_true rfl, Nat.le_of_ble_eq_true rfl⟩ (fun r7 M6 H locs h hW hS => ?_)
            refine lv_iadd hx hb dX12_openOf_54 ?_
            refine lv_istore_n (lv' := [(3, .int (x3 + r7)), (0, .ref (ad 64 0)), (1, .int x1), (2, .int x2), (4, .int x4)]) hx hb dX12_openOf_55 rfl hl (by decide) rfl (fun ls hl => ?_)
            exact bX12_openOf_56 C (fun M9 a09 a19 a29 a39 H9 q9 ls9 h9 hW9 hS9 hl9 => ih M9 a09 a19 a29 a39 H9 q9 ls9 h9 hW9 hS9 hl9) _ _ _ _ _ _ _ _ h hW hS (lv_sub hl [1, 2, 3, 0, 4] rfl)
set_option maxHeartbeats 4000000 in
set_option maxRecDepth 100000 in
theorem kX12_openOf {post : tq_St → Int32 → Prop} {M : tq_St} {p0 : Int32} {p1 : Int32} (h : wpX12_openOf post M p0 p1) : tq_mI l yX12_openOf (tq_ws yX12_openOf cX12_openOf 5 (some .int)) 1 21 D cy z H0 ad N S M [.ref (ad 64 0), .int p0, .int p1] post := by
  unfold wpX12_openOf at h
  refine Met.ofW (cc := cX12_openOf) (maxL := 5) (ret := (some .int)) (by decide) rfl ?_
  intro p e s m args below meth c s₁ B hml hv
  obtain ⟨rfl, hW, hK, hG⟩ := hv
  have hx := B.exec
  have hb := B.bytes
  have hr := B.returns
  have hts := atoms_spec (ws := (tq_ws yX12_openOf cX12_openOf 5 (some .int))) B.pre
  have hw : ∀ w ∈ tq_W, w.before _ s = true := fun w h => hts w (List.mem_cons_of_mem _ h)
  have hown : s.vm.findClass RX12 = some m.cls := findClass_of_methodNamed B.named
  have hlocks := B.notSynchronized
  have C : tq_At p s m meth c [.ref (ad 64 0), .int p0, .int p1].toArray cX12_openOf 5 ((some .int)) ((tq_ws yX12_openOf cX12_openOf 5 (some .int))) RX12 D cy z ad := ⟨hx, hb, hr, hml, hown, hts, hlocks, hK, hG⟩
  have hS : va_S (fun q => z ≤ q) s.heap s.heap [] := va_S.rf
  have hl := lv_entry ([.ref (ad 64 0), .int p0, .int p1]) (n := 5) (Nat.le_of_ble_eq_true rfl)
  rw [lg_entry_eq]
  generalize (lg_sl ([.ref (ad 64 0), .int p0, .int p1]) ++ List.replicate (5 - (lg_sl ([.ref (ad 64 0), .int p0, .int p1])).length) Slot.unset).toArray = ls at hl ⊢
  have hl : lv_has ls 5 [(0, .ref (ad 64 0)), (1, .int p0), (2, .int p1)] := hl
  have hW : tq_wd D cy z H0 ad N (tq_mix S M) s.heap := hW
  refine lv_iconst (v := 0) hx hb dX12_openOf_0 (by decide) ?_
  refine lv_istore_n (lv' := [(3, .int 0), (0, .ref (ad 64 0)), (1, .int p0), (2, .int p1)]) hx hb dX12_openOf_1 rfl hl (by decide) rfl (fun ls hl => ?_)
  refine lv_iconst (v := 0) hx hb dX12_openOf_2 (by decide) ?_
  refine lv_istore (lv' := [(4, .int 0), (3, .int 0), (0, .ref (ad 64 0)), (1, .int p0), (2, .int p1)]) hx hb dX12_openOf_3 hl (by decide) rfl (fun ls hl => ?_)
  obtain ⟨nq, h⟩ := h
  exact bX12_openOf_5 C  nq _ _ _ _ _ _ _ _ h hW hS (lv_sub hl [2, 3, 4, 1, 0] rfl)
