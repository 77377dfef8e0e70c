variable {l : Launch} {D : va_G} {cy : Nat → ClassId} {z : Nat} {H0 : Heap} {ad : Nat → Nat → Nat} {N : tq_Nn} {S : tq_St}
-- dayComes
def wbX12_dayComes_75 (post : tq_St → Prop) (L12 : tq_St → Int32 → Prop) (M : tq_St) (x1 : Int32) : Prop :=
  L12 M (x1 + 1)
def wbX12_dayComes_87 (post : tq_St → Prop) : Nat → tq_St → Int32 → Prop
  | 0, _, _ => False
  | n + 1, M, x1 =>
    (4 < x1 → (post M)) ∧ (¬ 4 < x1 → (wpX12_factoryDay (fun M12 => (wbX12_dayComes_87 post n) M12 (x1 + 1)) M x1))
def wbX12_dayComes_12 (post : tq_St → Prop) : Nat → tq_St → Int32 → Prop
  | 0, _, _ => False
  | n + 1, M, x1 =>
    ((M 64 0 21) ≤ x1 → (wpX12_billsFallDue (fun M3 => ∃ nq, wbX12_dayComes_87 post nq M3 1) M )) ∧ (¬ (M 64 0 21) ≤ x1 → (vp_in x1 8 ∧ ((¬ (M 124 0 x1.toNatClampNeg) = ((-1)) → (wbX12_dayComes_75 post  (wbX12_dayComes_12 post n) M x1)) ∧ ((M 124 0 x1.toNatClampNeg) = ((-1)) → (vp_in (M 130 0 x1.toNatClampNeg) 99 ∧ ((¬ (M 136 0 ((M 130 0 x1.toNatClampNeg).toNatClampNeg)) = (M 64 0 0) → (wbX12_dayComes_75 post  (wbX12_dayComes_12 post n) M x1)) ∧ ((M 136 0 ((M 130 0 x1.toNatClampNeg).toNatClampNeg)) = (M 64 0 0) → (((M 137 0 ((M 130 0 x1.toNatClampNeg).toNatClampNeg)) = 0 → (wpX12_comes (fun M9 => wbX12_dayComes_75 post  (wbX12_dayComes_12 post n) M9 x1) M x1)) ∧ (¬ (M 137 0 ((M 130 0 x1.toNatClampNeg).toNatClampNeg)) = 0 → (wpX12_gone (fun M10 => wbX12_dayComes_75 post  (wbX12_dayComes_12 post n) M10 x1) M x1))))))))))
def wpX12_dayComes (post : tq_St → Prop) (M : tq_St)  : Prop :=
  ∀ M1, M1 = tq_up M 64 0 0 ((M 64 0 0) + 1) → (∃ nq, wbX12_dayComes_12 post nq M1 0)
set_option maxHeartbeats 4000000 in
set_option maxRecDepth 100000 in
theorem bX12_dayComes_75 {p : Program} {e : Env} {s : State} {m : MethodId} {args : Array Value} {below : List Frame} {meth : Method} {c : Code} {post : tq_St → Prop} (C : tq_At p s m meth c args cX12_dayComes 2 (none) ((tq_ws yX12_dayComes cX12_dayComes 2 none)) RX12 D cy z ad) {L12 : tq_St → Int32 → Prop} (hL12 : ∀ (M : tq_St) (x1 : Int32) (H : Heap) (locs : List Loc) (ls : Array Slot), L12 M x1 → tq_wd D cy z H0 ad N (tq_mix S M) H → va_S (fun q => z ≤ q) s.heap H locs → lv_has ls 2 [(0, .ref (ad 64 0)), (1, .int x1)] → W p l e (tq_rm 5 128) s m args below meth c H locs 0 0 (MQ below (va_Qv (fun u => post u) (tq_P D cy z H0 ad N S) (fun q => z ≤ q)) args s 0 0 (fun q => z ≤ q)) (F0 m 12 ls [])) : ∀ (M : tq_St) (x1 : Int32) (H : Heap) (locs : List Loc) (ls : Array Slot), wbX12_dayComes_75 post  L12 M x1 → tq_wd D cy z H0 ad N (tq_mix S M) H → va_S (fun q => z ≤ q) s.heap H locs → lv_has ls 2 [(0, .ref (ad 64 0)), (1, .int x1)] → W p l e (tq_rm 5 128) s m args below meth c H locs 0 0 (MQ below (va_Qv (fun u => post u) (tq_P D cy z H0 ad N S) (fun q => z ≤ q)) args s 0 0 (fun q => z ≤ q)) (F0 m 75 ls []) := by
  obtain ⟨hx, hb, hr, hml, hown, hts, hlocks, hK, hG⟩ := id C
  have hw : ∀ w ∈ tq_W, w.before args s = true := fun w h => hts w (List.mem_cons_of_mem _ h)
  intro M x1 H locs ls h hW hS hl
  unfold wbX12_dayComes_75 at h
  refine lv_iinc (v := x1 + 1) (lv' := [(1, .int (x1 + 1)), (0, .ref (ad 64 0))]) hx hb dX12_dayComes_75 hl (k := 1) rfl rfl (by decide) rfl (fun ls hl => ?_)
  refine lv_goto (tgt := 12) hx hb dX12_dayComes_78 (by decide) ?_
  exact hL12 _ _ _ _ _ h hW hS (lv_sub hl [1, 0] rfl)
set_option maxHeartbeats 4000000 in
set_option maxRecDepth 100000 in
theorem bX12_dayComes_87 {p : Program} {e : Env} {s : State} {m : MethodId} {args : Array Value} {below : List Frame} {meth : Method} {c : Code} {post : tq_St → Prop} (C : tq_At p s m meth c args cX12_dayComes 2 (none) ((tq_ws yX12_dayComes cX12_dayComes 2 none)) RX12 D cy z ad)  : ∀ n : Nat, ∀ (M : tq_St) (x1 : Int32) (H : Heap) (locs : List Loc) (ls : Array Slot), wbX12_dayComes_87 post   n M x1 → tq_wd D cy z H0 ad N (tq_mix S M) H → va_S (fun q => z ≤ q) s.heap H locs → lv_has ls 2 [(0, .ref (ad 64 0)), (1, .int x1)] → W p l e (tq_rm 5 128) s m args below meth c H locs 0 0 (MQ below (va_Qv (fun u => post u) (tq_P D cy z H0 ad N S) (fun q => z ≤ q)) args s 0 0 (fun q => z ≤ q)) (F0 m 87 ls []) := by
  obtain ⟨hx, hb, hr, hml, hown, hts, hlocks, hK, hG⟩ := id C
  have hw : ∀ w ∈ tq_W, w.before args s = true := fun w h => hts w (List.mem_cons_of_mem _ h)
  intro n
  induction n with
  | zero =>
    intro M x1 H locs ls h
    exact absurd h (by unfold wbX12_dayComes_87; exact id)
  | succ n ih =>
    intro M x1 H locs ls h hW hS hl
    unfold wbX12_dayComes_87 at h
    refine lv_iload_n hx hb dX12_dayComes_87 rfl (lv_at hl 1 rfl) ?_
    refine lv_iconst (v := 4) hx hb dX12_dayComes_88 (by decide) ?_
    refine lv_icmp_gt (tgt := 103) hx hb dX12_dayComes_89 (by decide) (fun c11 => ?_) (fun c11 => ?_)
    · have h := h.1 c11
      exact W.vret hx hb hr (fun t ht hWm => ⟨⟨M, rfl, h, tq_pe ht hW⟩, hS.F ht⟩) hS.2.2 dX12_dayComes_103
    · have h := h.2 c11
      refine lv_aload_n hx hb dX12_dayComes_92 rfl (lv_at hl 0 rfl) ?_
      refine lv_iload_n hx hb dX12_dayComes_93 rfl (lv_at hl 1 rfl) ?_
      refine tq_callVv (As := [.int x1]) (rest := []) (kX12_factoryDay h) ⟨hx, hb, hml, hown, hts⟩ (cwV 1 hts (tq_goodV tw_1942 tw_1944 tw_94 tw_125 tw_1945) rfl rfl rfl (by decide +kernel) ⟨Nat.le_of_ble_eq_true rfl, Nat.le_of_ble_eq_true rfl⟩) hK hG hW hS rfl hl.1 rfl (Nat.le_of_ble_eq_true rfl) dX12_dayComes_94 ⟨Nat.le_of_ble_eq_true rfl, Nat.le_of_ble_eq_true rfl⟩ (fun M12 H locs h hW hS => ?_)
      refine lv_iinc (v := x1 + 1) (lv' := [(1, .int (x1 + 1)), (0, .ref (ad 64 0))]) hx hb dX12_dayComes_97 hl (k := 1) rfl rfl (by decide) rfl (fun ls hl => ?_)
      refine lv_goto (tgt := 87) hx hb dX12_dayComes_100 (by decide) ?_
      exact ih _ _ _ _ _ h hW hS (lv_sub hl [1, 0] rfl)
set_option maxHeartbeats 4000000 in
set_option maxRecDepth 100000 in
theorem bX12_dayComes_12 {p : Program} {e : Env} {s : State} {m : MethodId} {args : Array Value} {below : List Frame} {meth : Method} {c : Code} {post : tq_St → Prop} (C : tq_At p s m meth c args cX12_dayComes 2 (none) ((tq_ws yX12_dayComes cX12_dayComes 2 none)) RX12 D cy z ad)  : ∀ n : Nat, ∀ (M : tq_St) (x1 : Int32) (H : Heap) (locs : List Loc) (ls : Array Slot), wbX12_dayComes_12 post   n M x1 → tq_wd D cy z H0 ad N (tq_mix S M) H → va_S (fun q => z ≤ q) s.heap H locs → lv_has ls 2 [(0, .ref (ad 64 0)), (1, .int x1)] → W p l e (tq_rm 5 128) s m args below meth c H locs 0 0 (MQ below (va_Qv (fun u => post u) (tq_P D cy z H0 ad N S) (fun q => z ≤ q)) args s 0 0 (fun q => z ≤ q)) (F0 m 12 ls []) := by
  obtain ⟨hx, hb, hr, hml, hown, hts, hlocks, hK, hG⟩ := id C
  have hw : ∀ w ∈ tq_W, w.before args s = true := fun w h => hts w (List.mem_cons_of_mem _ h)
  intro n
  induction n with
  | zero =>
    intro M x1 H locs ls h
    exact absurd h (by unfold wbX12_dayComes_12; exact id)
  | succ n ih =>
    intro M x1 H locs ls h hW hS hl
    unfold wbX12_dayComes_12 at h
    refine lv_iload_n hx hb dX12_dayComes_12 rfl (lv_at hl 1 rfl) ?_
    refine lv_aload_n hx hb dX12_dayComes_13 rfl (lv_at hl 0 rfl) ?_
    refine tqm_get (v := .int (M 64 0 21)) hx hb hw tq_inX12 hown hK hW (by decide) (tq_mk_64 (by decide)) rfl 21 (by decide) (hw _ tw_1429) (fun _ h9 => h9) rfl dX12_dayComes_14 ?_
    refine lv_icmp_ge (tgt := 81) hx hb dX12_dayComes_17 (by decide) (fun c2 => ?_) (fun c2 => ?_)
    · have h := h.1 c2
      refine lv_aload_n hx hb dX12_dayComes_81 rfl (lv_at hl 0 rfl) ?_
      refine tq_callVv (As := []) (rest := []) (kX12_billsFallDue h) ⟨hx, hb, hml, hown, hts⟩ (cwV 0 hts (tq_goodV tw_1933 tw_1935 tw_92 tw_125 tw_1936) rfl rfl rfl (by decide +kernel) ⟨Nat.le_of_ble_eq_true rfl, Nat.le_of_ble_eq_true rfl⟩) hK hG hW hS rfl hl.1 rfl (Nat.le_of_ble_eq_true rfl) dX12_dayComes_82 ⟨Nat.le_of_ble_eq_true rfl, Nat.le_of_ble_eq_true rfl⟩ (fun M3 H locs h hW hS => ?_)
      refine lv_iconst (v := 1) hx hb dX12_dayComes_85 (by decide) ?_
      refine lv_istore_n (lv' := [(1, .int 1), (0, .ref (ad 64 0))]) hx hb dX12_dayComes_86 rfl hl (by decide) rfl (fun ls hl => ?_)
      obtain ⟨nq, h⟩ := h
      exact bX12_dayComes_87 C  nq _ _ _ _ _ h hW hS (lv_sub hl [1, 0] rfl)
    · have h := h.2 c2
      refine lv_aload_n hx hb dX12_dayComes_20 rfl (lv_at hl 0 rfl) ?_
      refine tqm_get (v := .ref (ad 124 0)) hx hb hw tq_inX12 hown hK hW (by decide) (tq_mk_64 (by decide)) rfl 24 (by decide) (hw _ tw_1432) (fun _ h9 => h9) rfl dX12_dayComes_21 ?_
      refine lv_iload_n hx hb dX12_dayComes_24 rfl (lv_at hl 1 rfl) ?_
      obtain ⟨b4, h⟩ := h
      refine tqm_iald (jn := x1.toNatClampNeg) hx hb hK hW (by decide) (tq_mk_124 (by decide)) b4 rfl dX12_dayComes_25 ?_
      refine lv_iconst (v := (-1)) hx hb dX12_dayComes_26 (by decide) ?_
      refine lv_icmp_ne (tgt := 75) hx hb dX12_dayComes_27 (by decide) (fun c5 => ?_) (fun c5 => ?_)
      · have h := h.1 c5
        exact bX12_dayComes_75 C (fun M9 a09 H9 q9 ls9 h9 hW9 hS9 hl9 => ih M9 a09 H9 q9 ls9 h9 hW9 hS9 hl9) _ _ _ _ _ h hW hS (lv_sub hl [0, 1] rfl)
      · have h := h.2 c5
        refine lv_aload_n hx hb dX12_dayComes_30 rfl (lv_at hl 0 rfl) ?_
        refine tqm_get (v := .ref (ad 136 0)) hx hb hw tq_inX12 hown hK hW (by decide) (tq_mk_64 (by decide)) rfl 36 (by decide) (hw _ tw_1444) (fun _ h9 => h9) rfl dX12_dayComes_31 ?_
        refine lv_aload_n hx hb dX12_dayComes_34 rfl (lv_at hl 0 rfl) ?_
        refine tqm_get (v := .ref (ad 130 0)) hx hb hw tq_inX12 hown hK hW (by decide) (tq_mk_64 (by decide)) rfl 30 (by decide) (hw _ tw_1438) (fun _ h9 => h9) rfl dX12_dayComes_35 ?_
        refine lv_iload_n hx hb dX12_dayComes_38 rfl (lv_at hl 1 rfl) ?_
        refine tqm_iald (jn := x1.toNatClampNeg) hx hb hK hW (by decide) (tq_mk_130 (by decide)) b4 rfl dX12_dayComes_39 ?_
        obtain ⟨b6, h⟩ := h
        refine tqm_iald (jn := (M 130 0 x1.toNatClampNeg).toNatClampNeg) hx hb hK hW (by decide) (tq_mk_136 (by decide)) b6 rfl dX12_dayComes_40 ?_
        refine lv_aload_n hx hb dX12_dayComes_41 rfl (lv_at hl 0 rfl) ?_
        refine tqm_get (v := .int (M 64 0 0)) hx hb hw tq_inX12 hown hK hW (by decide) (tq_mk_64 (by decide)) rfl 0 (by decide) (hw _ tw_1408) (fun _ h9 => h9) rfl dX12_dayComes_42 ?_
        refine lv_icmp_ne (tgt := 75) hx hb dX12_dayComes_45 (by decide) (fun c7 => ?_) (fun c7 => ?_)
        · have h := h.1 c7
          exact bX12_dayComes_75 C (fun M9 a09 H9 q9 ls9 h9 hW9 hS9 hl9 => ih M9 a09 H9 q9 ls9 h9 hW9 hS9 hl9) _ _ _ _ _ h hW hS (lv_sub hl [0, 1] rfl)
        · have h := h.2 c7
          refine lv_aload_n hx hb dX12_dayComes_48 rfl (lv_at hl 0 rfl) ?_
          refine tqm_get (v := .ref (ad 137 0)) hx hb hw tq_inX12 hown hK hW (by decide) (tq_mk_64 (by decide)) rfl 37 (by decide) (hw _ tw_1445) (fun _ h9 => h9) rfl dX12_dayComes_49 ?_
          refine lv_aload_n hx hb dX12_dayComes_52 rfl (lv_at hl 0 rfl) ?_
          refine tqm_get (v := .ref (ad 130 0)) hx hb hw tq_inX12 hown hK hW (by decide) (tq_mk_64 (by decide)) rfl 30 (by decide) (hw _ tw_1438) (fun _ h9 => h9) rfl dX12_dayComes_53 ?_
          refine lv_iload_n hx hb dX12_dayComes_56 rfl (lv_at hl 1 rfl) ?_
          refine tqm_iald (jn := x1.toNatClampNeg) hx hb hK hW (by decide) (tq_mk_130 (by decide)) b4 rfl dX12_dayComes_57 ?_
          refine tqm_zald (jn := (M 130 0 x1.toNatClampNeg).toNatClampNeg) hx hb hK hW (by decide) (tq_mk_137 (by decide)) b6 rfl dX12_dayComes_58 ?_
          refine lv_if_eq (tgt := 70) hx hb dX12_dayComes_59 (by decide) (fun c8 => ?_) (fun c8 => ?_)
          · have h := h.1 c8
            refine lv_aload_n hx hb dX12_dayComes_70 rfl (lv_at hl 0 rfl) ?_
            refine lv_iload_n hx hb dX12_dayComes_71 rfl (lv_at hl 1 rfl) ?_
            refine tq_callVv (As := [.int x1]) (rest := []) (kX12_comes h) ⟨hx, hb, hml, hown, hts⟩ (cwV 1 hts (tq_goodV tw_1929 tw_1931 tw_91 tw_125 tw_1932) rfl rfl rfl (by decide +kernel) ⟨Nat.le_of_ble_eq_true rfl, Nat.le_of_ble_eq_true rfl⟩) hK hG hW hS rfl hl.1 rfl (Nat.le_of_ble_eq_true rfl) dX12_dayComes_72 ⟨Nat.le_of_ble_eq_true rfl, Nat.le_of_ble_eq_true rfl⟩ (fun M9 H locs h hW hS => ?_)
            exact bX12_dayComes_75 C (fun M9 a09 H9 q9 ls9 h9 hW9 hS9 hl9 => ih M9 a09 H9 q9 ls9 h9 hW9 hS9 hl9) _ _ _ _ _ h hW hS (lv_sub hl [0, 1] rfl)
          · have h := h.2 c8
            refine lv_aload_n hx hb dX12_dayComes_62 rfl (lv_at hl 0 rfl) ?_
            refine lv_iload_n hx hb dX12_dayComes_63 rfl (lv_at hl 1 rfl) ?_
            refine tq_callVv (As := [.int x1]) (rest := []) (kX12_gone h) ⟨hx, hb, hml, hown, hts⟩ (cwV 1 hts (tq_goodV tw_1921 tw_1923 tw_89 tw_125 tw_1924) rfl rfl rfl (by decide +kernel) ⟨Nat.le_of_ble_eq_true rfl, Nat.le_of_ble_eq_true rfl⟩) hK hG hW hS rfl hl.1 rfl (Nat.le_of_ble_eq_true rfl) dX12_dayComes_64 ⟨Nat.le_of_ble_eq_true rfl, Nat.le_of_ble_eq_true rfl⟩ (fun M10 H locs h hW hS => ?_)
            refine lv_goto (tgt := 75) hx hb dX12_dayComes_67 (by decide) ?_
            exact bX12_dayComes_75 C (fun M9 a09 H9 q9 ls9 h9 hW9 hS9 hl9 => ih M9 a09 H9 q9 ls9 h9 hW9 hS9 hl9) _ _ _ _ _ h hW hS (lv_sub hl [0, 1] rfl)
set_option maxHeartbeats 4000000 in
set_option maxRecDepth 100000 in
theorem kX12_dayComes {post : tq_St → Prop} {M : tq_St}  (h : wpX12_dayComes post M ) : tq_mV l yX12_dayComes (tq_ws yX12_dayComes cX12_dayComes 2 none) 5 128 D cy z H0 ad N S M [.ref (ad 64 0)] post := by
  unfold wpX12_dayComes at h
  refine Met.ofW (cc := cX12_dayComes) (maxL := 2) (ret := none) (by decide) rfl ?_
  intro p e s m args below meth c s₁ B hml hv
  obtain ⟨rfl, hW, hK, hG⟩ := hv
  have hx := B.exec
  have hb := B.bytes
  have hr := B.returns
  have hts := atoms_spec (ws := (tq_ws yX12_dayComes cX12_dayComes 2 none)) B.pre
  have hw : ∀ w ∈ tq_W, w.before _ s = true := fun w h => hts w (List.mem_cons_of_mem _ h)
  have hown : s.vm.findClass RX12 = some m.cls := findClass_of_methodNamed B.named
  have hlocks := B.notSynchronized
  have C : tq_At p s m meth c [.ref (ad 64 0)].toArray cX12_dayComes 2 (none) ((tq_ws yX12_dayComes cX12_dayComes 2 none)) RX12 D cy z ad := ⟨hx, hb, hr, hml, hown, hts, hlocks, hK, hG⟩
  have hS : va_S (fun q => z ≤ q) s.heap s.heap [] := va_S.rf
  have hl := lv_entry ([.ref (ad 64 0)]) (n := 2) (Nat.le_of_ble_eq_true rfl)
  rw [lg_entry_eq]
  generalize (lg_sl ([.ref (ad 64 0)]) ++ List.replicate (2 - (lg_sl ([.ref (ad 64 0)])).length) Slot.unset).toArray = ls at hl ⊢
  have hl : lv_has ls 2 [(0, .ref (ad 64 0))] := hl
  have hW : tq_wd D cy z H0 ad N (tq_mix S M) s.heap := hW
  refine lv_aload_n hx hb dX12_dayComes_0 rfl (lv_at hl 0 rfl) ?_
  refine lv_dup hx hb dX12_dayComes_1 rfl ?_
  refine tqm_get (v := .int (M 64 0 0)) hx hb hw tq_inX12 hown hK hW (by decide) (tq_mk_64 (by decide)) rfl 0 (by decide) (hw _ tw_1408) (fun _ h9 => h9) rfl dX12_dayComes_2 ?_
  refine lv_iconst (v := 1) hx hb dX12_dayComes_5 (by decide) ?_
  refine lv_iadd hx hb dX12_dayComes_6 ?_
  refine tqm_put hx hb hw tq_inX12 tyX12 tyX12_ok nmX12 hown hK hW hS (by decide) (tq_mk_64 (by decide)) rfl 0 (by decide) (hw _ tw_1408) (fun _ h9 => h9) rfl rfl rfl rfl (tq_mk_64 (by decide)) dX12_dayComes_7 (fun H locs hW hS => ?_)
  generalize eM1 : tq_up M 64 0 0 ((M 64 0 0) + 1) = M1 at hW
  have h := h M1 eM1.symm
  refine lv_iconst (v := 0) hx hb dX12_dayComes_10 (by decide) ?_
  refine lv_istore_n (lv' := [(1, .int 0), (0, .ref (ad 64 0))]) hx hb dX12_dayComes_11 rfl hl (by decide) rfl (fun ls hl => ?_)
  obtain ⟨nq, h⟩ := h
  exact bX12_dayComes_12 C  nq _ _ _ _ _ h hW hS (lv_sub hl [1, 0] rfl)
-- days
def wbX12_days_23 (post : tq_St → Int32 → Prop)  (M : tq_St) : Prop :=
  post M ((-2))
def wbX12_days_28 (post : tq_St → Int32 → Prop) : Nat → tq_St → Int32 → Int32 → Prop
  | 0, _, _, _ => False
  | n + 1, M, x1, x2 =>
    (x1 ≤ x2 → (post M (M 64 0 0))) ∧ (¬ x1 ≤ x2 → (wpX12_dayComes (fun M6 => (wbX12_days_28 post n) M6 x1 (x2 + 1)) M ))
def wpX12_days (post : tq_St → Int32 → Prop) (M : tq_St) (p0 : Int32) : Prop :=
  wpX12_in (fun M1 r2 => (r2 = 0 → (wbX12_days_23 post M1 )) ∧ (¬ r2 = 0 → ((((M1 64 0 0) + p0) ≤ 2999 → (∃ nq, wbX12_days_28 post nq M1 p0 0)) ∧ (¬ ((M1 64 0 0) + p0) ≤ 2999 → (wbX12_days_23 post M1 ))))) M p0 1 200
set_option maxHeartbeats 4000000 in
set_option maxRecDepth 100000 in
theorem bX12_days_23 {p : Program} {e : Env} {s : State} {m : MethodId} {args : Array Value} {below : List Frame} {meth : Method} {c : Code} {post : tq_St → Int32 → Prop} (C : tq_At p s m meth c args cX12_days 3 ((some .int)) ((tq_ws yX12_days cX12_days 3 (some .int))) RX12 D cy z ad)  : ∀ (M : tq_St)  (H : Heap) (locs : List Loc) (ls : Array Slot), wbX12_days_23 post   M  → tq_wd D cy z H0 ad N (tq_mix S M) H → va_S (fun q => z ≤ q) s.heap H locs → lv_has ls 3 [] → W p l e (tq_rm 6 149) s m args below meth c H locs 0 0 (MQ below (va_Qi (fun r u => post u r) (tq_P D cy z H0 ad N S) (fun q => z ≤ q)) args s 0 0 (fun q => z ≤ q)) (F0 m 23 ls []) := by
  obtain ⟨hx, hb, hr, hml, hown, hts, hlocks, hK, hG⟩ := id C
  have hw : ∀ w ∈ tq_W, w.before args s = true := fun w h => hts w (List.mem_cons_of_mem _ h)
  intro M  H locs ls h hW hS hl
  unfold wbX12_days_23 at h
  refine lv_bipush (v := (-2)) hx hb dX12_days_23 (by decide) ?_
  exact W.iret (v := (-2)) hx hb hr (fun t ht hWm => ⟨⟨_, M, rfl, h, tq_pe ht hW⟩, hS.F ht⟩) hS.2.2 dX12_days_25
set_option maxHeartbeats 4000000 in
set_option maxRecDepth 100000 in
theorem bX12_days_28 {p : Program} {e : Env} {s : State} {m : MethodId} {args : Array Value} {below : List Frame} {meth : Method} {c : Code} {post : tq_St → Int32 → Prop} (C : tq_At p s m meth c args cX12_days 3 ((some .int)) ((tq_ws yX12_days cX12_days 3 (some .int))) RX12 D cy z ad)  : ∀ n : Nat, ∀ (M : tq_St) (x1 : Int32) (x2 : Int32) (H : Heap) (locs : List Loc) (ls : Array Slot), wbX12_days_28 post   n M x1 x2 → tq_wd D cy z H0 ad N (tq_mix S M) H → va_S (fun q => z ≤ q) s.heap H locs → lv_has ls 3 [(0, .ref (ad 64 0)), (1, .int x1), (2, .int x2)] → W p l e (tq_rm 6 149) s m args below meth c H locs 0 0 (MQ below (va_Qi (fun r u => post u r) (tq_P D cy z H0 ad N S) (fun q => z ≤ q)) args s 0 0 (fun q => z ≤ q)) (F0 m 28 ls []) := by
  obtain ⟨hx, hb, hr, hml, hown, hts, hlocks, hK, hG⟩ := id C
  have hw : ∀ w ∈ tq_W, w.before args s = true := fun w h => hts w (List.mem_cons_of_mem _ h)
  intro n
  induction n with
  | zero =>
    intro M x1 x2 H locs ls h
    exact absurd h (by unfold wbX12_days_28; exact id)
  | succ n ih =>
    intro M x1 x2 H locs ls h hW hS hl
    unfold wbX12_days_28 at h
    refine lv_iload_n hx hb dX12_days_28 rfl (lv_at hl 2 rfl) ?_
    refine lv_iload_n hx hb dX12_days_29 rfl (lv_at hl 1 rfl) ?_
    refine lv_icmp_ge (tgt := 43) hx hb dX12_days_30 (by decide) (fun c5 => ?_) (fun c5 => ?_)
    · have h := h.1 c5
      refine lv_aload_n hx hb dX12_days_43 rfl (lv_at hl 0 rfl) ?_
      refine tqm_get (v := .int (M 64 0 0)) hx hb hw tq_inX12 hown hK hW (by decide) (tq_mk_64 (by decide)) rfl 0 (by decide) (hw _ tw_1408) (fun _ h9 => h9) rfl dX12_days_44 ?_
      exact W.iret (v := M 64 0 0) hx hb hr (fun t ht hWm => ⟨⟨_, M, rfl, h, tq_pe ht hW⟩, hS.F ht⟩) hS.2.2 dX12_days_47
    · have h := h.2 c5
      refine lv_aload_n hx hb dX12_days_33 rfl (lv_at hl 0 rfl) ?_
      refine tq_callVv (As := []) (rest := []) (kX12_dayComes h) ⟨hx, hb, hml, hown, hts⟩ (cwV 0 hts (tq_goodV tw_1917 tw_1919 tw_88 tw_125 tw_1920) rfl rfl rfl (by decide +kernel) ⟨Nat.le_of_ble_eq_true rfl, Nat.le_of_ble_eq_true rfl⟩) hK hG hW hS rfl hl.1 rfl (Nat.le_of_ble_eq_true rfl) dX12_days_34 ⟨Nat.le_of_ble_eq_true rfl, Nat.le_of_ble_eq_true rfl⟩ (fun M6 H locs h hW hS => ?_)
      refine lv_iinc (v := x2 + 1) (lv' := [(2, .int (x2 + 1)), (0, .ref (ad 64 0)), (1, .int x1)]) hx hb dX12_days_37 hl (k := 2) rfl rfl (by decide) rfl (fun ls hl => ?_)
      refine lv_goto (tgt := 28) hx hb dX12_days_40 (by decide) ?_
      exact ih _ _ _ _ _ _ h hW hS (lv_sub hl [1, 2, 0] rfl)
set_option maxHeartbeats 4000000 in
set_option maxRecDepth 100000 in
theorem kX12_days {post : tq_St → Int32 → Prop} {M : tq_St} {p0 : Int32} (h : wpX12_days post M p0) : tq_mI l yX12_days (tq_ws yX12_days cX12_days 3 (some .int)) 6 149 D cy z H0 ad N S M [.ref (ad 64 0), .int p0] post := by
  unfold wpX12_days at h
  refine Met.ofW (cc := cX12_days) (maxL := 3) (ret := (some .int)) (by decide) rfl ?_
  intro p e s m args below meth c s₁ B hml hv
  obtain ⟨rfl, hW, hK, hG⟩ := hv
  have hx := B.exec
  have hb := B.bytes
  have hr := B.returns
  have hts := atoms_spec (ws := (tq_ws yX12_days cX12_days 3 (some .int))) B.pre
  have hw : ∀ w ∈ tq_W, w.before _ s = true := fun w h => hts w (List.mem_cons_of_mem _ h)
  have hown : s.vm.findClass RX12 = some m.cls := findClass_of_methodNamed B.named
  have hlocks := B.notSynchronized
  have C : tq_At p s m meth c [.ref (ad 64 0), .int p0].toArray cX12_days 3 ((some .int)) ((tq_ws yX12_days cX12_days 3 (some .int))) RX12 D cy z ad := ⟨hx, hb, hr, hml, hown, hts, hlocks, hK, hG⟩
  have hS : va_S (fun q => z ≤ q) s.heap s.heap [] := va_S.rf
  have hl := lv_entry ([.ref (ad 64 0), .int p0]) (n := 3) (Nat.le_of_ble_eq_true rfl)
  rw [lg_entry_eq]
  generalize (lg_sl ([.ref (ad 64 0), .int p0]) ++ List.replicate (3 - (lg_sl ([.ref (ad 64 0), .int p0])).length) Slot.unset).toArray = ls at hl ⊢
  have hl : lv_has ls 3 [(0, .ref (ad 64 0)), (1, .int p0)] := hl
  have hW : tq_wd D cy z H0 ad N (tq_mix S M) s.heap := hW
  refine lv_iload_n hx hb dX12_days_0 rfl (lv_at hl 1 rfl) ?_
  refine lv_iconst (v := 1) hx hb dX12_days_1 (by decide) ?_
  refine lv_sipush (v := 200) hx hb dX12_days_2 (by decide) ?_
  refine tq_callSi (As := [.int p0, .int 1, .int 200]) (rest := []) (kX12_in h) ⟨hx, hb, hml, hown, hts⟩ (va_cwS 3 hts (tq_goodS tw_1648 tw_1649 tw_125 tw_1650) rfl rfl rfl (by decide +kernel) ⟨Nat.le_of_ble_eq_true rfl, Nat.le_of_ble_eq_true rfl⟩) hK hG hW hS rfl hl.1 rfl (Nat.le_of_ble_eq_true rfl) dX12_days_5 ⟨Nat.le_of_ble_eq_true rfl, Nat.le_of_ble_eq_true rfl⟩ (fun r2 M1 H locs h hW hS => ?_)
  refine lv_if_eq (tgt := 23) hx hb dX12_days_8 (by decide) (fun c3 => ?_) (fun c3 => ?_)
  · have h := h.1 c3
    exact bX12_days_23 C  _  _ _ _ h hW hS (lv_sub hl [] rfl)
  · have h := h.2 c3
    refine lv_aload_n hx hb dX12_days_11 rfl (lv_at hl 0 rfl) ?_
    refine tqm_get (v := .int (M1 64 0 0)) hx hb hw tq_inX12 hown hK hW (by decide) (tq_mk_64 (by decide)) rfl 0 (by decide) (hw _ tw_1408) (fun _ h9 => h9) rfl dX12_days_12 ?_
    refine lv_iload_n hx hb dX12_days_15 rfl (lv_at hl 1 rfl) ?_
    refine lv_iadd hx hb dX12_days_16 ?_
    refine lv_sipush (v := 2999) hx hb dX12_days_17 (by decide) ?_
    refine lv_icmp_le (tgt := 26) hx hb dX12_days_20 (by decide) (fun c4 => ?_) (fun c4 => ?_)
    · have h := h.1 c4
      refine lv_iconst (v := 0) hx hb dX12_days_26 (by decide) ?_
      refine lv_istore_n (lv' := [(2, .int 0), (0, .ref (ad 64 0)), (1, .int p0)]) hx hb dX12_days_27 rfl hl (by decide) rfl (fun ls hl => ?_)
      obtain ⟨nq, h⟩ := h
      exact bX12_days_28 C  nq _ _ _ _ _ _ h hW hS (lv_sub hl [1, 2, 0] rfl)
    · have h := h.2 c4
      exact bX12_days_23 C  _  _ _ _ h hW hS (lv_sub hl [] rfl)
-- entry
def wbX12_entry_43 (post : tq_St → Int32 → Prop)  (M : tq_St) (y0 : Int32) : Prop :=
  post M y0
def wbX12_entry_41 (post : tq_St → Int32 → Prop)  (M : tq_St) : Prop :=
  wbX12_entry_43 post M ((-5))
def wpX12_entry (post : tq_St → Int32 → Prop) (M : tq_St) (p0 : Int32) (p1 : Int32) : Prop :=
  wpX12_in (fun M1 r2 => (r2 = 0 → (wbX12_entry_41 post M1 )) ∧ (¬ r2 = 0 → (wpX12_in (fun M4 r5 => (r5 = 0 → (wbX12_entry_41 post M4 )) ∧ (¬ r5 = 0 → (vp_in p0 500 ∧ (vp_in p1 8 ∧ (wbX12_entry_43 post M4 (M4 144 p0.toNatClampNeg p1.toNatClampNeg)))))) M1 p1 0 7))) M p0 0 ((if 500 < (M 64 0 43) then 500 else (M 64 0 43)) - 1)
set_option maxHeartbeats 4000000 in
set_option maxRecDepth 100000 in
theorem bX12_entry_43 {p : Program} {e : Env} {s : State} {m : MethodId} {args : Array Value} {below : List Frame} {meth : Method} {c : Code} {post : tq_St → Int32 → Prop} (C : tq_At p s m meth c args cX12_entry 3 ((some .int)) ((tq_ws yX12_entry cX12_entry 3 (some .int))) RX12 D cy z ad)  : ∀ (M : tq_St) (y0 : Int32) (H : Heap) (locs : List Loc) (ls : Array Slot), wbX12_entry_43 post   M y0 → tq_wd D cy z H0 ad N (tq_mix S M) H → va_S (fun q => z ≤ q) s.heap H locs → lv_has ls 3 [] → W p l e (tq_rm 1 22) s m args below meth c H locs 0 0 (MQ below (va_Qi (fun r u => post u r) (tq_P D cy z H0 ad N S) (fun q => z ≤ q)) args s 0 0 (fun q => z ≤ q)) (F0 m 43 ls [.int y0]) := by
  obtain ⟨hx, hb, hr, hml, hown, hts, hlocks, hK, hG⟩ := id C
  have hw : ∀ w ∈ tq_W, w.before args s = true := fun w h => hts w (List.mem_cons_of_mem _ h)
  intro M y0 H locs ls h hW hS hl
  unfold wbX12_entry_43 at h
  exact W.iret (v := y0) hx hb hr (fun t ht hWm => ⟨⟨_, M, rfl, h, tq_pe ht hW⟩, hS.F ht⟩) hS.2.2 dX12_entry_43
set_option maxHeartbeats 4000000 in
set_option maxRecDepth 100000 in
theorem bX12_entry_41 {p : Program} {e : Env} {s : State} {m : MethodId} {args : Array Value} {below : List Frame} {meth : Method} {c : Code} {post : tq_St → Int32 → Prop} (C : tq_At p s m meth c args cX12_entry 3 ((some .int)) ((tq_ws yX12_entry cX12_entry 3 (some .int))) RX12 D cy z ad)  : ∀ (M : tq_St)  (H : Heap) (locs : List Loc) (ls : Array Slot), wbX12_entry_41 post   M  → tq_wd D cy z H0 ad N (tq_mix S M) H → va_S (fun q => z ≤ q) s.heap H locs → lv_has ls 3 [] → W p l e (tq_rm 1 22) s m args below meth c H locs 0 0 (MQ below (va_Qi (fun r u => post u r) (tq_P D cy z H0 ad N S) (fun q => z ≤ q)) args s 0 0 (fun q => z ≤ q)) (F0 m 41 ls []) := by
  obtain ⟨hx, hb, hr, hml, hown, hts, hlocks, hK, hG⟩ := id C
  have hw : ∀ w ∈ tq_W, w.before args s = true := fun w h => hts w (List.mem_cons_of_mem _ h)
  intro M  H locs ls h hW hS hl
  unfold wbX12_entry_41 at h
  refine lv_bipush (v := (-5)) hx hb dX12_entry_41 (by decide) ?_
  exact bX12_entry_43 C  _ _ _ _ _ h hW hS (lv_sub hl [] rfl)
set_option maxHeartbeats 4000000 in
set_option maxRecDepth 100000 in
theorem kX12_entry {post : tq_St → Int32 → Prop} {M : tq_St} {p0 : Int32} {p1 : Int32} (h : wpX12_entry post M p0 p1) : tq_mI l yX12_entry (tq_ws yX12_entry cX12_entry 3 (some .int)) 1 22 D cy z H0 ad N S M [.ref (ad 64 0), .int p0, .int p1] post := by
  unfold wpX12_entry at h
  refine Met.ofW (cc := cX12_entry) (maxL := 3) (ret := (some .int)) (by decide) rfl ?_
  intro p e s m args below meth c s₁ B hml hv
  obtain ⟨rfl, hW, hK, hG⟩ := hv
  have hx := B.exec
  have hb := B.bytes
  have hr := B.returns
  have hts := atoms_spec (ws := (tq_ws yX12_entry cX12_entry 3 (some .int))) B.pre
  have hw : ∀ w ∈ tq_W, w.before _ s = true := fun w h => hts w (List.mem_cons_of_mem _ h)
  have hown : s.vm.findClass RX12 = some m.cls := findClass_of_methodNamed B.named
  have hlocks := B.notSynchronized
  have C : tq_At p s m meth c [.ref (ad 64 0), .int p0, .int p1].toArray cX12_entry 3 ((some .int)) ((tq_ws yX12_entry cX12_entry 3 (some .int))) RX12 D cy z ad := ⟨hx, hb, hr, hml, hown, hts, hlocks, hK, hG⟩
  have hS : va_S (fun q => z ≤ q) s.heap s.heap [] := va_S.rf
  have hl := lv_entry ([.ref (ad 64 0), .int p0, .int p1]) (n := 3) (Nat.le_of_ble_eq_true rfl)
  rw [lg_entry_eq]
  generalize (lg_sl ([.ref (ad 64 0), .int p0, .int p1]) ++ List.replicate (3 - (lg_sl ([.ref (ad 64 0), .int p0, .int p1])).length) Slot.unset).toArray = ls at hl ⊢
  have hl : lv_has ls 3 [(0, .ref (ad 64 0)), (1, .int p0), (2, .int p1)] := hl
  have hW : tq_wd D cy z H0 ad N (tq_mix S M) s.heap := hW
  refine lv_iload_n hx hb dX12_entry_0 rfl (lv_at hl 1 rfl) ?_
  refine lv_iconst (v := 0) hx hb dX12_entry_1 (by decide) ?_
  refine lv_aload_n hx hb dX12_entry_2 rfl (lv_at hl 0 rfl) ?_
  refine tqm_get (v := .int (M 64 0 43)) hx hb hw tq_inX12 hown hK hW (by decide) (tq_mk_64 (by decide)) rfl 43 (by decide) (hw _ tw_1451) (fun _ h9 => h9) rfl dX12_entry_3 ?_
  refine lv_sipush (v := 500) hx hb dX12_entry_6 (by decide) ?_
  refine va_mmin hx hb (hml.trans hl.1.symm) hown (hw _ tw_1981) (hw _ tw_797) (hw _ tw_132) (hw _ tw_798) (Nat.le_of_ble_eq_true rfl) (Nat.le_of_ble_eq_true rfl) (Nat.zero_le _) (Nat.zero_le _) dX12_entry_9 ?_
  refine lv_iconst (v := 1) hx hb dX12_entry_12 (by decide) ?_
  refine lv_isub hx hb dX12_entry_13 ?_
  refine tq_callSi (As := [.int p0, .int 0, .int ((if 500 < (M 64 0 43) then 500 else (M 64 0 43)) - 1)]) (rest := []) (kX12_in h) ⟨hx, hb, hml, hown, hts⟩ (va_cwS 3 hts (tq_goodS tw_1648 tw_1649 tw_125 tw_1650) rfl rfl rfl (by decide +kernel) ⟨Nat.le_of_ble_eq_true rfl, Nat.le_of_ble_eq_true rfl⟩) hK hG hW hS rfl hl.1 rfl (Nat.le_of_ble_eq_true rfl) dX12_entry_14 ⟨Nat.le_of_ble_eq_true rfl, Nat.le_of_ble_eq_true rfl⟩ (fun r2 M1 H locs h hW hS => ?_)
  refine lv_if_eq (tgt := 41) hx hb dX12_entry_17 (by decide) (fun c3 => ?_) (fun c3 => ?_)
  · have h := h.1 c3
    exact bX12_entry_41 C  _  _ _ _ h hW hS (lv_sub hl [] rfl)
  · have h := h.2 c3
    refine lv_iload_n hx hb dX12_entry_20 rfl (lv_at hl 2 rfl) ?_
    refine lv_iconst (v := 0) hx hb dX12_entry_21 (by decide) ?_
    refine lv_bipush (v := 7) hx hb dX12_entry_22 (by decide) ?_
    refine tq_callSi (As := [.int p1, .int 0, .int 7]) (rest := []) (kX12_in h) ⟨hx, hb, hml, hown, hts⟩ (va_cwS 3 hts (tq_goodS tw_1648 tw_1649 tw_125 tw_1650) rfl rfl rfl (by decide +kernel) ⟨Nat.le_of_ble_eq_true rfl, Nat.le_of_ble_eq_true rfl⟩) hK hG hW hS rfl hl.1 rfl (Nat.le_of_ble_eq_true rfl) dX12_entry_24 ⟨Nat.le_of_ble_eq_true rfl, Nat.le_of_ble_eq_true rfl⟩ (fun r5 M4 H locs h hW hS => ?_)
    refine lv_if_eq (tgt := 41) hx hb dX12_entry_27 (by decide) (fun c6 => ?_) (fun c6 => ?_)
    · have h := h.1 c6
      exact bX12_entry_41 C  _  _ _ _ h hW hS (lv_sub hl [] rfl)
    · have h := h.2 c6
      refine lv_aload_n hx hb dX12_entry_30 rfl (lv_at hl 0 rfl) ?_
      refine tqm_get (v := .ref (ad 244 0)) hx hb hw tq_inX12 hown hK hW (by decide) (tq_mk_64 (by decide)) rfl 44 (by decide) (hw _ tw_1452) (fun _ h9 => h9) rfl dX12_entry_31 ?_
      refine lv_iload_n hx hb dX12_entry_34 rfl (lv_at hl 1 rfl) ?_
      obtain ⟨b7, h⟩ := h
      refine tqm_aald (jn := p0.toNatClampNeg) (v := .ref (ad 144 p0.toNatClampNeg)) hx hb hK hW (by decide) (tq_mk_244 (by decide)) 2 rfl rfl b7 rfl rfl dX12_entry_35 ?_
      refine lv_iload_n hx hb dX12_entry_36 rfl (lv_at hl 2 rfl) ?_
      obtain ⟨b8, h⟩ := h
      refine tqm_iald (jn := p1.toNatClampNeg) hx hb hK hW (by decide) (tq_mk_144 (tq_lt b7)) b8 rfl dX12_entry_37 ?_
      refine lv_goto (tgt := 43) hx hb dX12_entry_38 (by decide) ?_
      exact bX12_entry_43 C  _ _ _ _ _ h hW hS (lv_sub hl [] rfl)
-- isBill
def wbX12_isBill_23 (post : tq_St → Int32 → Prop)  (M : tq_St) (y0 : Int32) : Prop :=
  narrow .boolean (.int y0) = .int y0 ∧ post M y0
def wbX12_isBill_22 (post : tq_St → Int32 → Prop)  (M : tq_St) : Prop :=
  wbX12_isBill_23 post M 0
def wpX12_isBill (post : tq_St → Int32 → Prop) (M : tq_St) (p0 : Int32) : Prop :=
  wpX12_isPaper (fun M1 r2 => (r2 = 0 → (wbX12_isBill_22 post M1 )) ∧ (¬ r2 = 0 → (vp_in p0 150 ∧ ((¬ (M1 110 0 p0.toNatClampNeg) = 5 → (wbX12_isBill_22 post M1 )) ∧ ((M1 110 0 p0.toNatClampNeg) = 5 → (wbX12_isBill_23 post M1 1)))))) M p0
set_option maxHeartbeats 4000000 in
set_option maxRecDepth 100000 in
theorem bX12_isBill_23 {p : Program} {e : Env} {s : State} {m : MethodId} {args : Array Value} {below : List Frame} {meth : Method} {c : Code} {post : tq_St → Int32 → Prop} (C : tq_At p s m meth c args cX12_isBill 2 ((some .boolean)) ((tq_ws yX12_isBill cX12_isBill 2 (some .boolean))) RX12 D cy z ad)  : ∀ (M : tq_St) (y0 : Int32) (H : Heap) (locs : List Loc) (ls : Array Slot), wbX12_isBill_23 post   M y0 → tq_wd D cy z H0 ad N (tq_mix S M) H → va_S (fun q => z ≤ q) s.heap H locs → lv_has ls 2 [] → W p l e (tq_rm 2 43) s m args below meth c H locs 0 0 (MQ below (va_Qi (fun r u => post u r) (tq_P D cy z H0 ad N S) (fun q => z ≤ q)) args s 0 0 (fun q => z ≤ q)) (F0 m 23 ls [.int y0]) := by
  obtain ⟨hx, hb, hr, hml, hown, hts, hlocks, hK, hG⟩ := id C
  have hw : ∀ w ∈ tq_W, w.before args s = true := fun w h => hts w (List.mem_cons_of_mem _ h)
  intro M y0 H locs ls h hW hS hl
  unfold wbX12_isBill_23 at h
  obtain ⟨b6, h⟩ := h
  exact W.zret (v := y0) hx hb hr b6 (fun t ht hWm => ⟨⟨_, M, rfl, h, tq_pe ht hW⟩, hS.F ht⟩) hS.2.2 dX12_isBill_23
set_option maxHeartbeats 4000000 in
set_option maxRecDepth 100000 in
theorem bX12_isBill_22 {p : Program} {e : Env} {s : State} {m : MethodId} {args : Array Value} {below : List Frame} {meth : Method} {c : Code} {post : tq_St → Int32 → Prop} (C : tq_At p s m meth c args cX12_isBill 2 ((some .boolean)) ((tq_ws yX12_isBill cX12_isBill 2 (some .boolean))) RX12 D cy z ad)  : ∀ (M : tq_St)  (H : Heap) (locs : List Loc) (ls : Array Slot), wbX12_isBill_22 post   M  → tq_wd D cy z H0 ad N (tq_mix S M) H → va_S (fun q => z ≤ q) s.heap H locs → lv_has ls 2 [] → W p l e (tq_rm 2 43) s m args below meth c H locs 0 0 (MQ below (va_Qi (fun r u => post u r) (tq_P D cy z H0 ad N S) (fun q => z ≤ q)) args s 0 0 (fun q => z ≤ q)) (F0 m 22 ls []) := by
  obtain ⟨hx, hb, hr, hml, hown, hts, hlocks, hK, hG⟩ := id C
  have hw : ∀ w ∈ tq_W, w.before args s = true := fun w h => hts w (List.mem_cons_of_mem _ h)
  intro M  H locs ls h hW hS hl
  unfold wbX12_isBill_22 at h
  refine lv_iconst (v := 0) hx hb dX12_isBill_22 (by decide) ?_
  exact bX12_isBill_23 C  _ _ _ _ _ h hW hS (lv_sub hl [] rfl)
set_option maxHeartbeats 4000000 in
set_option maxRecDepth 100000 in
theorem kX12_isBill {post : tq_St → Int32 → Prop} {M : tq_St} {p0 : Int32} (h : wpX12_isBill post M p0) : tq_mI l yX12_isBill (tq_ws yX12_isBill cX12_isBill 2 (some .boolean)) 2 43 D cy z H0 ad N S M [.ref (ad 64 0), .int p0] post := by
  unfold wpX12_isBill at h
  refine Met.ofW (cc := cX12_isBill) (maxL := 2) (ret := (some .boolean)) (by decide) rfl ?_
  intro p e s m args below meth c s₁ B hml hv
  obtain ⟨rfl, hW, hK, hG⟩ := hv
  have hx := B.exec
  have hb := B.bytes
  have hr := B.returns
  have hts := atoms_spec (ws := (tq_ws yX12_isBill cX12_isBill 2 (some .boolean))) B.pre
  have hw : ∀ w ∈ tq_W, w.before _ s = true := fun w h => hts w (List.mem_cons_of_mem _ h)
  have hown : s.vm.findClass RX12 = some m.cls := findClass_of_methodNamed B.named
  have hlocks := B.notSynchronized
  have C : tq_At p s m meth c [.ref (ad 64 0), .int p0].toArray cX12_isBill 2 ((some .boolean)) ((tq_ws yX12_isBill cX12_isBill 2 (some .boolean))) RX12 D cy z ad := ⟨hx, hb, hr, hml, hown, hts, hlocks, hK, hG⟩
  have hS : va_S (fun q => z ≤ q) s.heap s.heap [] := va_S.rf
  have hl := lv_entry ([.ref (ad 64 0), .int p0]) (n := 2) (Nat.le_of_ble_eq_true rfl)
  rw [lg_entry_eq]
  generalize (lg_sl ([.ref (ad 64 0), .int p0]) ++ List.replicate (2 - (lg_sl ([.ref (ad 64 0), .int p0])).length) Slot.unset).toArray = ls at hl ⊢
  have hl : lv_has ls 2 [(0, .ref (ad 64 0)), (1, .int p0)] := hl
  have hW : tq_wd D cy z H0 ad N (tq_mix S M) s.heap := hW
  refine lv_aload_n hx hb dX12_isBill_0 rfl (lv_at hl 0 rfl) ?_
  refine lv_iload_n hx hb dX12_isBill_1 rfl (lv_at hl 1 rfl) ?_
  refine tq_callVi (As := [.int p0]) (rest := []) (kX12_isPaper h) ⟨hx, hb, hml, hown, hts⟩ (cwV 1 hts (tq_goodV tw_1771 tw_1773 tw_68 tw_125 tw_1774) rfl rfl rfl (by decide +kernel) ⟨Nat.le_of_ble_eq_true rfl, Nat.le_of_ble_eq_true rfl⟩) hK hG hW hS rfl hl.1 rfl (Nat.le_of_ble_eq_true rfl) dX12_isBill_2 ⟨Nat.le_of_ble_eq_true rfl, Nat.le_of_ble_eq_true rfl⟩ (fun r2 M1 H locs h hW hS => ?_)
  refine lv_if_eq (tgt := 22) hx hb dX12_isBill_5 (by decide) (fun c3 => ?_) (fun c3 => ?_)
  · have h := h.1 c3
    exact bX12_isBill_22 C  _  _ _ _ h hW hS (lv_sub hl [] rfl)
  · have h := h.2 c3
    refine lv_aload_n hx hb dX12_isBill_8 rfl (lv_at hl 0 rfl) ?_
    refine tqm_get (v := .ref (ad 110 0)) hx hb hw tq_inX12 hown hK hW (by decide) (tq_mk_64 (by decide)) rfl 10 (by decide) (hw _ tw_1418) (fun _ h9 => h9) rfl dX12_isBill_9 ?_
    refine lv_iload_n hx hb dX12_isBill_12 rfl (lv_at hl 1 rfl) ?_
    obtain ⟨b4, h⟩ := h
    refine tqm_iald (jn := p0.toNatClampNeg) hx hb hK hW (by decide) (tq_mk_110 (by decide)) b4 rfl dX12_isBill_13 ?_
    refine lv_iconst (v := 5) hx hb dX12_isBill_14 (by decide) ?_
    refine lv_icmp_ne (tgt := 22) hx hb dX12_isBill_15 (by decide) (fun c5 => ?_) (fun c5 => ?_)
    · have h := h.1 c5
      exact bX12_isBill_22 C  _  _ _ _ h hW hS (lv_sub hl [] rfl)
    · have h := h.2 c5
      refine lv_iconst (v := 1) hx hb dX12_isBill_18 (by decide) ?_
      refine lv_goto (tgt := 23) hx hb dX12_isBill_19 (by decide) ?_
      exact bX12_isBill_23 C  _ _ _ _ _ h hW hS (lv_sub hl [] rfl)
-- accept
def wbX12_accept_32 (post : tq_St → Int32 → Prop)  (M : tq_St) : Prop :=
  post M ((-3))
def wpX12_accept (post : tq_St → Int32 → Prop) (M : tq_St) (p0 : Int32) : Prop :=
  wpX12_isBill (fun M1 r2 => (¬ r2 = 0 → (vp_in p0 150 ∧ (((M1 115 p0.toNatClampNeg 0) < 0 → (wbX12_accept_32 post M1 )) ∧ (¬ (M1 115 p0.toNatClampNeg 0) < 0 → (((M1 116 p0.toNatClampNeg 1) = 0 → (∀ M7, M7 = tq_up M1 116 p0.toNatClampNeg 1 1 → (∀ M8, M8 = tq_up M7 116 p0.toNatClampNeg 2 (((M7 64 0 0) + 60) + 1) → (post M8 ((M8 64 0 0) + 60))))) ∧ (¬ (M1 116 p0.toNatClampNeg 1) = 0 → (wbX12_accept_32 post M1 ))))))) ∧ (r2 = 0 → (post M1 ((-1))))) M p0
set_option maxHeartbeats 4000000 in
set_option maxRecDepth 100000 in
theorem bX12_accept_32 {p : Program} {e : Env} {s : State} {m : MethodId} {args : Array Value} {below : List Frame} {meth : Method} {c : Code} {post : tq_St → Int32 → Prop} (C : tq_At p s m meth c args cX12_accept 2 ((some .int)) ((tq_ws yX12_accept cX12_accept 2 (some .int))) RX12 D cy z ad)  : ∀ (M : tq_St)  (H : Heap) (locs : List Loc) (ls : Array Slot), wbX12_accept_32 post   M  → tq_wd D cy z H0 ad N (tq_mix S M) H → va_S (fun q => z ≤ q) s.heap H locs → lv_has ls 2 [] → W p l e (tq_rm 3 64) s m args below meth c H locs 0 0 (MQ below (va_Qi (fun r u => post u r) (tq_P D cy z H0 ad N S) (fun q => z ≤ q)) args s 0 0 (fun q => z ≤ q)) (F0 m 32 ls []) := by
  obtain ⟨hx, hb, hr, hml, hown, hts, hlocks, hK, hG⟩ := id C
  have hw : ∀ w ∈ tq_W, w.before args s = true := fun w h => hts w (List.mem_cons_of_mem _ h)
  intro M  H locs ls h hW hS hl
  unfold wbX12_accept_32 at h
  refine lv_bipush (v := (-3)) hx hb dX12_accept_32 (by decide) ?_
  exact W.iret (v := (-3)) hx hb hr (fun t ht hWm => ⟨⟨_, M, rfl, h, tq_pe ht hW⟩, hS.F ht⟩) hS.2.2 dX12_accept_34
set_option maxHeartbeats 4000000 in
set_option maxRecDepth 100000 in
theorem kX12_accept {post : tq_St → Int32 → Prop} {M : tq_St} {p0 : Int32} (h : wpX12_accept post M p0) : tq_mI l yX12_accept (tq_ws yX12_accept cX12_accept 2 (some .int)) 3 64 D cy z H0 ad N S M [.ref (ad 64 0), .int p0] post := by
  unfold wpX12_accept at h
  refine Met.ofW (cc := cX12_accept) (maxL := 2) (ret := (some .int)) (by decide) rfl ?_
  intro p e s m args below meth c s₁ B hml hv
  obtain ⟨rfl, hW, hK, hG⟩ := hv
  have hx := B.exec
  have hb := B.bytes
  have hr := B.returns
  have hts := atoms_spec (ws := (tq_ws yX12_accept cX12_accept 2 (some .int))) B.pre
  have hw : ∀ w ∈ tq_W, w.before _ s = true := fun w h => hts w (List.mem_cons_of_mem _ h)
  have hown : s.vm.findClass RX12 = some m.cls := findClass_of_methodNamed B.named
  have hlocks := B.notSynchronized
  have C : tq_At p s m meth c [.ref (ad 64 0), .int p0].toArray cX12_accept 2 ((some .int)) ((tq_ws yX12_accept cX12_accept 2 (some .int))) RX12 D cy z ad := ⟨hx, hb, hr, hml, hown, hts, hlocks, hK, hG⟩
  have hS : va_S (fun q => z ≤ q) s.heap s.heap [] := va_S.rf
  have hl := lv_entry ([.ref (ad 64 0), .int p0]) (n := 2) (Nat.le_of_ble_eq_true rfl)
  rw [lg_entry_eq]
  generalize (lg_sl ([.ref (ad 64 0), .int p0]) ++ List.replicate (2 - (lg_sl ([.ref (ad 64 0), .int p0])).length) Slot.unset).toArray = ls at hl ⊢
  have hl : lv_has ls 2 [(0, .ref (ad 64 0)), (1, .int p0)] := hl
  have hW : tq_wd D cy z H0 ad N (tq_mix S M) s.heap := hW
  refine lv_aload_n hx hb dX12_accept_0 rfl (lv_at hl 0 rfl) ?_
  refine lv_iload_n hx hb dX12_accept_1 rfl (lv_at hl 1 rfl) ?_
  refine tq_callVi (As := [.int p0]) (rest := []) (kX12_isBill h) ⟨hx, hb, hml, hown, hts⟩ (cwV 1 hts (tq_goodV tw_1998 tw_2000 tw_105 tw_125 tw_2001) rfl rfl rfl (by decide +kernel) ⟨Nat.le_of_ble_eq_true rfl, Nat.le_of_ble_eq_true rfl⟩) hK hG hW hS rfl hl.1 rfl (Nat.le_of_ble_eq_true rfl) dX12_accept_2 ⟨Nat.le_of_ble_eq_true rfl, Nat.le_of_ble_eq_true rfl⟩ (fun r2 M1 H locs h hW hS => ?_)
  refine lv_if_ne (tgt := 10) hx hb dX12_accept_5 (by decide) (fun c3 => ?_) (fun c3 => ?_)
  · have h := h.1 c3
    refine lv_aload_n hx hb dX12_accept_10 rfl (lv_at hl 0 rfl) ?_
    refine tqm_get (v := .ref (ad 215 0)) hx hb hw tq_inX12 hown hK hW (by decide) (tq_mk_64 (by decide)) rfl 15 (by decide) (hw _ tw_1423) (fun _ h9 => h9) rfl dX12_accept_11 ?_
    refine lv_iload_n hx hb dX12_accept_14 rfl (lv_at hl 1 rfl) ?_
    obtain ⟨b4, h⟩ := h
    refine tqm_aald (jn := p0.toNatClampNeg) (v := .ref (ad 115 p0.toNatClampNeg)) hx hb hK hW (by decide) (tq_mk_215 (by decide)) 2 rfl rfl b4 rfl rfl dX12_accept_15 ?_
    refine lv_iconst (v := 0) hx hb dX12_accept_16 (by decide) ?_
    refine tqm_iald (jn := 0) hx hb hK hW (by decide) (tq_mk_115 (tq_lt b4)) (by unfold vp_in; decide) (by decide) dX12_accept_17 ?_
    refine lv_if_lt (tgt := 32) hx hb dX12_accept_18 (by decide) (fun c5 => ?_) (fun c5 => ?_)
    · have h := h.1 c5
      exact bX12_accept_32 C  _  _ _ _ h hW hS (lv_sub hl [] rfl)
    · have h := h.2 c5
      refine lv_aload_n hx hb dX12_accept_21 rfl (lv_at hl 0 rfl) ?_
      refine tqm_get (v := .ref (ad 216 0)) hx hb hw tq_inX12 hown hK hW (by decide) (tq_mk_64 (by decide)) rfl 16 (by decide) (hw _ tw_1424) (fun _ h9 => h9) rfl dX12_accept_22 ?_
      refine lv_iload_n hx hb dX12_accept_25 rfl (lv_at hl 1 rfl) ?_
      refine tqm_aald (jn := p0.toNatClampNeg) (v := .ref (ad 116 p0.toNatClampNeg)) hx hb hK hW (by decide) (tq_mk_216 (by decide)) 2 rfl rfl b4 rfl rfl dX12_accept_26 ?_
      refine lv_iconst (v := 1) hx hb dX12_accept_27 (by decide) ?_
      refine tqm_iald (jn := 1) hx hb hK hW (by decide) (tq_mk_116 (tq_lt b4)) (by unfold vp_in; decide) (by decide) dX12_accept_28 ?_
      refine lv_if_eq (tgt := 35) hx hb dX12_accept_29 (by decide) (fun c6 => ?_) (fun c6 => ?_)
      · have h := h.1 c6
        refine lv_aload_n hx hb dX12_accept_35 rfl (lv_at hl 0 rfl) ?_
        refine tqm_get (v := .ref (ad 216 0)) hx hb hw tq_inX12 hown hK hW (by decide) (tq_mk_64 (by decide)) rfl 16 (by decide) (hw _ tw_1424) (fun _ h9 => h9) rfl dX12_accept_36 ?_
        refine lv_iload_n hx hb dX12_accept_39 rfl (lv_at hl 1 rfl) ?_
        refine tqm_aald (jn := p0.toNatClampNeg) (v := .ref (ad 116 p0.toNatClampNeg)) hx hb hK hW (by decide) (tq_mk_216 (by decide)) 2 rfl rfl b4 rfl rfl dX12_accept_40 ?_
        refine lv_iconst (v := 1) hx hb dX12_accept_41 (by decide) ?_
        refine lv_iconst (v := 1) hx hb dX12_accept_42 (by decide) ?_
        refine tqm_iast (jn := 1) hx hb hK hW hS (by decide) (tq_mk_116 (tq_lt b4)) (by unfold vp_in; decide) (by decide) (tq_mk_116 (tq_lt b4)) dX12_accept_43 (fun H locs hW hS => ?_)
        generalize eM7 : tq_up M1 116 p0.toNatClampNeg 1 1 = M7 at hW
        have h := h M7 eM7.symm
        refine lv_aload_n hx hb dX12_accept_44 rfl (lv_at hl 0 rfl) ?_
        refine tqm_get (v := .ref (ad 216 0)) hx hb hw tq_inX12 hown hK hW (by decide) (tq_mk_64 (by decide)) rfl 16 (by decide) (hw _ tw_1424) (fun _ h9 => h9) rfl dX12_accept_45 ?_
        refine lv_iload_n hx hb dX12_accept_48 rfl (lv_at hl 1 rfl) ?_
        refine tqm_aald (jn := p0.toNatClampNeg) (v := .ref (ad 116 p0.toNatClampNeg)) hx hb hK hW (by decide) (tq_mk_216 (by decide)) 2 rfl rfl b4 rfl rfl dX12_accept_49 ?_
        refine lv_iconst (v := 2) hx hb dX12_accept_50 (by decide) ?_
        refine lv_aload_n hx hb dX12_accept_51 rfl (lv_at hl 0 rfl) ?_
        refine tqm_get (v := .int (M7 64 0 0)) hx hb hw tq_inX12 hown hK hW (by decide) (tq_mk_64 (by decide)) rfl 0 (by decide) (hw _ tw_1408) (fun _ h9 => h9) rfl dX12_accept_52 ?_
        refine lv_bipush (v := 60) hx hb dX12_accept_55 (by decide) ?_
        refine lv_iadd hx hb dX12_accept_57 ?_
        refine lv_iconst (v := 1) hx hb dX12_accept_58 (by decide) ?_
        refine lv_iadd hx hb dX12_accept_59 ?_
        refine tqm_iast (jn := 2) hx hb hK hW hS (by decide) (tq_mk_116 (tq_lt b4)) (by unfold vp_in; decide) (by decide) (tq_mk_116 (tq_lt b4)) dX12_accept_60 (fun H locs hW hS => ?_)
        generalize eM8 : tq_up M7 116 p0.toNatClampNeg 2 (((M7 64 0 0) + 60) + 1) = M8 at hW
        have h := h M8 eM8.symm
        refine lv_aload_n hx hb dX12_accept_61 rfl (lv_at hl 0 rfl) ?_
        refine tqm_get (v := .int (M8 64 0 0)) hx hb hw tq_inX12 hown hK hW (by decide) (tq_mk_64 (by decide)) rfl 0 (by decide) (hw _ tw_1408) (fun _ h9 => h9) rfl dX12_accept_62 ?_
        refine lv_bipush (v := 60) hx hb dX12_accept_65 (by decide) ?_
        refine lv_iadd hx hb dX12_accept_67 ?_
        exact W.iret (v := (M8 64 0 0) + 60) hx hb hr (fun t ht hWm => ⟨⟨_, M8, rfl, h, tq_pe ht hW⟩, hS.F ht⟩) hS.2.2 dX12_accept_68
      · have h := h.2 c6
        exact bX12_accept_32 C  _  _ _ _ h hW hS (lv_sub hl [] rfl)
  · have h := h.2 c3
    refine lv_iconst (v := (-1)) hx hb dX12_accept_8 (by decide) ?_
    exact W.iret (v := (-1)) hx hb hr (fun t ht hWm => ⟨⟨_, M1, rfl, h, tq_pe ht hW⟩, hS.F ht⟩) hS.2.2 dX12_accept_9
-- bill
def wpX12_bill (post : tq_St → Int32 → Prop) (M : tq_St) (p0 : Int32) (p1 : Int32) : Prop :=
  wpX12_isBill (fun M1 r2 => (¬ r2 = 0 → ((p1 = 0 → (vp_in p0 150 ∧ (post M1 (M1 116 p0.toNatClampNeg 1)))) ∧ (¬ p1 = 0 → ((p1 = 1 → (vp_in p0 150 ∧ (post M1 ((M1 116 p0.toNatClampNeg 2) - 1)))) ∧ (¬ p1 = 1 → ((p1 = 2 → (vp_in p0 150 ∧ (post M1 (M1 116 p0.toNatClampNeg 3)))) ∧ (¬ p1 = 2 → (post M1 ((-5)))))))))) ∧ (r2 = 0 → (post M1 ((-5))))) M p0
set_option maxHeartbeats 4000000 in
set_option maxRecDepth 100000 in
theorem kX12_bill {post : tq_St → Int32 → Prop} {M : tq_St} {p0 : Int32} {p1 : Int32} (h : wpX12_bill post M p0 p1) : tq_mI l yX12_bill (tq_ws yX12_bill cX12_bill 3 (some .int)) 3 64 D cy z H0 ad N S M [.ref (ad 64 0), .int p0, .int p1] post := by
  unfold wpX12_bill at h
  refine Met.ofW (cc := cX12_bill) (maxL := 3) (ret := (some .int)) (by decide) rfl ?_
  intro p e s m args below meth c s₁ B hml hv
  obtain ⟨rfl, hW, hK, hG⟩ := hv
  have hx := B.exec
  have hb := B.bytes
  have hr := B.returns
  have hts := atoms_spec (ws := (tq_ws yX12_bill cX12_bill 3 (some .int))) B.pre
  have hw : ∀ w ∈ tq_W, w.before _ s = true := fun w h => hts w (List.mem_cons_of_mem _ h)
  have hown : s.vm.findClass RX12 = some m.cls := findClass_of_methodNamed B.named
  have hlocks := B.notSynchronized
  have C : tq_At p s m meth c [.ref (ad 64 0), .int p0, .int p1].toArray cX12_bill 3 ((some .int)) ((tq_ws yX12_bill cX12_bill 3 (some .int))) RX12 D cy z ad := ⟨hx, hb, hr, hml, hown, hts, hlocks, hK, hG⟩
  have hS : va_S (fun q => z ≤ q) s.heap s.heap [] := va_S.rf
  have hl := lv_entry ([.ref (ad 64 0), .int p0, .int p1]) (n := 3) (Nat.le_of_ble_eq_true rfl)
  rw [lg_entry_eq]
  generalize (lg_sl ([.ref (ad 64 0), .int p0, .int p1]) ++ List.replicate (3 - (lg_sl ([.ref (ad 64 0), .int p0, .int p1])).length) Slot.unset).toArray = ls at hl ⊢
  have hl : lv_has ls 3 [(0, .ref (ad 64 0)), (1, .int p0), (2, .int p1)] := hl
  have hW : tq_wd D cy z H0 ad N (tq_mix S M) s.heap := hW
  refine lv_aload_n hx hb dX12_bill_0 rfl (lv_at hl 0 rfl) ?_
  refine lv_iload_n hx hb dX12_bill_1 rfl (lv_at hl 1 rfl) ?_
  refine tq_callVi (As := [.int p0]) (rest := []) (kX12_isBill h) ⟨hx, hb, hml, hown, hts⟩ (cwV 1 hts (tq_goodV tw_1998 tw_2000 tw_105 tw_125 tw_2001) rfl rfl rfl (by decide +kernel) ⟨Nat.le_of_ble_eq_true rfl, Nat.le_of_ble_eq_true rfl⟩) hK hG hW hS rfl hl.1 rfl (Nat.le_of_ble_eq_true rfl) dX12_bill_2 ⟨Nat.le_of_ble_eq_true rfl, Nat.le_of_ble_eq_true rfl⟩ (fun r2 M1 H locs h hW hS => ?_)
  refine lv_if_ne (tgt := 11) hx hb dX12_bill_5 (by decide) (fun c3 => ?_) (fun c3 => ?_)
  · have h := h.1 c3
    refine lv_iload_n hx hb dX12_bill_11 rfl (lv_at hl 2 rfl) ?_
    by_cases c4 : p1 = 0
    · have h := h.1 c4
      refine W.eq (g2 := F0 m 12 ls (.int 0 :: [])) (by rw [c4]) ?_
      refine lv_tableIn (tgt := 40) hx hb dX12_bill_12 (by decide) (by decide) rfl (by decide) ?_
      refine lv_aload_n hx hb dX12_bill_40 rfl (lv_at hl 0 rfl) ?_
      refine tqm_get (v := .ref (ad 216 0)) hx hb hw tq_inX12 hown hK hW (by decide) (tq_mk_64 (by decide)) rfl 16 (by decide) (hw _ tw_1424) (fun _ h9 => h9) rfl dX12_bill_41 ?_
      refine lv_iload_n hx hb dX12_bill_44 rfl (lv_at hl 1 rfl) ?_
      obtain ⟨b5, h⟩ := h
      refine tqm_aald (jn := p0.toNatClampNeg) (v := .ref (ad 116 p0.toNatClampNeg)) hx hb hK hW (by decide) (tq_mk_216 (by decide)) 2 rfl rfl b5 rfl rfl dX12_bill_45 ?_
      refine lv_iconst (v := 1) hx hb dX12_bill_46 (by decide) ?_
      refine tqm_iald (jn := 1) hx hb hK hW (by decide) (tq_mk_116 (tq_lt b5)) (by unfold vp_in; decide) (by decide) dX12_bill_47 ?_
      exact W.iret (v := M1 116 p0.toNatClampNeg 1) hx hb hr (fun t ht hWm => ⟨⟨_, M1, rfl, h, tq_pe ht hW⟩, hS.F ht⟩) hS.2.2 dX12_bill_48
    · have h := h.2 c4
      by_cases c6 : p1 = 1
      · have h := h.1 c6
        refine W.eq (g2 := F0 m 12 ls (.int 1 :: [])) (by rw [c6]) ?_
        refine lv_tableIn (tgt := 49) hx hb dX12_bill_12 (by decide) (by decide) rfl (by decide) ?_
        refine lv_aload_n hx hb dX12_bill_49 rfl (lv_at hl 0 rfl) ?_
        refine tqm_get (v := .ref (ad 216 0)) hx hb hw tq_inX12 hown hK hW (by decide) (tq_mk_64 (by decide)) rfl 16 (by decide) (hw _ tw_1424) (fun _ h9 => h9) rfl dX12_bill_50 ?_
        refine lv_iload_n hx hb dX12_bill_53 rfl (lv_at hl 1 rfl) ?_
        obtain ⟨b7, h⟩ := h
        refine tqm_aald (jn := p0.toNatClampNeg) (v := .ref (ad 116 p0.toNatClampNeg)) hx hb hK hW (by decide) (tq_mk_216 (by decide)) 2 rfl rfl b7 rfl rfl dX12_bill_54 ?_
        refine lv_iconst (v := 2) hx hb dX12_bill_55 (by decide) ?_
        refine tqm_iald (jn := 2) hx hb hK hW (by decide) (tq_mk_116 (tq_lt b7)) (by unfold vp_in; decide) (by decide) dX12_bill_56 ?_
        refine lv_iconst (v := 1) hx hb dX12_bill_57 (by decide) ?_
        refine lv_isub hx hb dX12_bill_58 ?_
        exact W.iret (v := (M1 116 p0.toNatClampNeg 2) - 1) hx hb hr (fun t ht hWm => ⟨⟨_, M1, rfl, h, tq_pe ht hW⟩, hS.F ht⟩) hS.2.2 dX12_bill_59
      · have h := h.2 c6
        by_cases c8 : p1 = 2
        · have h := h.1 c8
          refine W.eq (g2 := F0 m 12 ls (.int 2 :: [])) (by rw [c8]) ?_
          refine lv_tableIn (tgt := 60) hx hb dX12_bill_12 (by decide) (by decide) rfl (by decide) ?_
          refine lv_aload_n hx hb dX12_bill_60 rfl (lv_at hl 0 rfl) ?_
          refine tqm_get (v := .ref (ad 216 0)) hx hb hw tq_inX12 hown hK hW (by decide) (tq_mk_64 (by decide)) rfl 16 (by decide) (hw _ tw_1424) (fun _ h9 => h9) rfl dX12_bill_61 ?_
          refine lv_iload_n hx hb dX12_bill_64 rfl (lv_at hl 1 rfl) ?_
          obtain ⟨b9, h⟩ := h
          refine tqm_aald (jn := p0.toNatClampNeg) (v := .ref (ad 116 p0.toNatClampNeg)) hx hb hK hW (by decide) (tq_mk_216 (by decide)) 2 rfl rfl b9 rfl rfl dX12_bill_65 ?_
          refine lv_iconst (v := 3) hx hb dX12_bill_66 (by decide) ?_
          refine tqm_iald (jn := 3) hx hb hK hW (by decide) (tq_mk_116 (tq_lt b9)) (by unfold vp_in; decide) (by decide) dX12_bill_67 ?_
          exact W.iret (v := M1 116 p0.toNatClampNeg 3) hx hb hr (fun t ht hWm => ⟨⟨_, M1, rfl, h, tq_pe ht hW⟩, hS.F ht⟩) hS.2.2 dX12_bill_68
        · have h := h.2 c8
          refine lv_tableOut (tgt := 69) hx hb dX12_bill_12 (tq_out3 c4 c6 c8) (by decide) ?_
          refine lv_bipush (v := (-5)) hx hb dX12_bill_69 (by decide) ?_
          exact W.iret (v := (-5)) hx hb hr (fun t ht hWm => ⟨⟨_, M1, rfl, h, tq_pe ht hW⟩, hS.F ht⟩) hS.2.2 dX12_bill_71
  · have h := h.2 c3
    refine lv_bipush (v := (-5)) hx hb dX12_bill_8 (by decide) ?_
    exact W.iret (v := (-5)) hx hb hr (fun t ht hWm => ⟨⟨_, M1, rfl, h, tq_pe ht hW⟩, hS.F ht⟩) hS.2.2 dX12_bill_10
