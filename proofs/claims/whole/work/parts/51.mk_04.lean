variable {l : Launch} {D : va_G} {cy : Nat → ClassId} {z A0 : Nat} {H0 : Heap} {ad : Nat → Nat → Nat} {M : tq_St}
-- X11 arrive
def wbX11_arrive_134 (post : tq_Nn → tq_St → Prop) (L63 : tq_Nn → tq_St → Nat → Nat → Int32 → Prop) (N : tq_Nn) (S : tq_St) (x1 : Nat) (x2 : Nat) (x3 : Int32) : Prop :=
  L63 N S x1 x2 (x3 + 1)
def wbX11_arrive_140 (post : tq_Nn → tq_St → Prop)  (N : tq_Nn) (S : tq_St) : Prop :=
  post N S
def wbX11_arrive_63 (post : tq_Nn → tq_St → Prop) : Nat → tq_Nn → tq_St → Nat → Nat → Int32 → Prop
  | 0, _, _, _, _, _ => False
  | n + 1, N, S, x1, x2, x3 =>
    ((S 15 0 2) ≤ x3 → (wbX11_arrive_140 post N S )) ∧ (¬ (S 15 0 2) ≤ x3 → ((150 ≤ x3 → (wbX11_arrive_140 post N S )) ∧ (¬ 150 ≤ x3 → (N 8 x1 = 1 ∧ (vp_in x3 150 ∧ N 56 x1 = 1 ∧ (((S 56 x1 x3.toNatClampNeg) ≤ 0 → (wbX11_arrive_134 post (wbX11_arrive_63 post n) N S x1 x2 x3)) ∧ (¬ (S 56 x1 x3.toNatClampNeg) ≤ 0 → (tq_gok N S 15 16 0 x3 ∧ (N 7 (tq_el S 15 16 0 x3) = 1 ∧ (x2 < 5 ∧ ((¬ (S 7 (tq_el S 15 16 0 x3) 3) = (S 2 x2 0) → (wbX11_arrive_134 post (wbX11_arrive_63 post n) N S x1 x2 x3)) ∧ ((S 7 (tq_el S 15 16 0 x3) 3) = (S 2 x2 0) → (∀ S29, S29 = tq_up S 56 x1 x3.toNatClampNeg 0 → (tq_gok N S29 15 16 0 x3 ∧ (N 7 (tq_el S29 15 16 0 x3) = 1 ∧ (wpX11_readAt (fun N34 S35  => wbX11_arrive_134 post (wbX11_arrive_63 post n) N34 S35 x1 x2 x3) N S29 (tq_el S29 15 16 0 x3) x2))))))))))))))))
def wbX11_arrive_22 (post : tq_Nn → tq_St → Prop) : Nat → tq_Nn → tq_St → Nat → Nat → Int32 → Prop
  | 0, _, _, _, _, _ => False
  | n + 1, N, S, x1, x2, x3 =>
    (4 ≤ x3 → (x2 < 5 ∧ (N 8 x1 = 1 ∧ ((∀ S9, S9 = tq_up S 2 x2 1 ((S 2 x2 1) + (S 8 x1 7)) → (∃ nq, wbX11_arrive_63 post nq N S9 x1 x2 0)))))) ∧ (¬ 4 ≤ x3 → (x2 < 5 ∧ (vp_in x3 4 ∧ (N 8 x1 = 1 ∧ (N 54 x1 = 1 ∧ (∀ S14, S14 = tq_up S 30 x2 x3.toNatClampNeg ((S 30 x2 x3.toNatClampNeg) + (S 54 x1 x3.toNatClampNeg)) → ((wbX11_arrive_22 post n) N S14 x1 x2 (x3 + 1))))))))
def wbX11_arrive_20 (post : tq_Nn → tq_St → Prop)  (N : tq_Nn) (S : tq_St) (x1 : Nat) (x2 : Nat) : Prop :=
  ∃ nq, wbX11_arrive_22 post nq N S x1 x2 0
def wpX11_arrive (post : tq_Nn → tq_St → Prop) (N : tq_Nn) (S : tq_St) (p0 : Nat) (p1 : Nat) : Prop :=
  p1 < 5 ∧ (N 8 p0 = 1 ∧ (∀ S3, S3 = tq_up S 8 p0 3 (S 2 p1 0) → ((¬ (S3 2 p1 0) = 0 → (wbX11_arrive_20 post N S3 p0 p1)) ∧ ((S3 2 p1 0) = 0 → ((∀ S5, S5 = tq_up S3 8 p0 5 0 → (wbX11_arrive_20 post N S5 p0 p1)))))))
set_option maxHeartbeats 4000000 in
set_option maxRecDepth 100000 in
theorem bX11_arrive_134 {p : Program} {e : Env} {s : State} {m : MethodId} {args : Array Value} {below : List Frame} {meth : Method} {c : Code} {post : tq_Nn → tq_St → Prop} (C : tq_At p s m meth c args cX11_arrive 4 (none) ((tq_ws yX11_arrive cX11_arrive 4 none)) RX11 D cy z ad) {L63 : tq_Nn → tq_St → Nat → Nat → Int32 → Prop} (hL63 : ∀ (N : tq_Nn) (S : tq_St) (x1 : Nat) (x2 : Nat) (x3 : Int32) (H : Heap) (locs : List Loc) (ls : Array Slot), L63 N S x1 x2 x3 → tq_nb z A0 s N → tq_wd D cy z H0 ad N (tq_mix S M) H → va_S (fun q => z ≤ q) s.heap H locs → lv_has ls 4 [(0, .ref (ad 1 0)), (1, .ref (ad 8 x1)), (2, .ref (ad 2 x2)), (3, .int x3)] → tq_Wb p l e 10 310 s m args below meth c z A0 N H locs (MQ below (va_Qv (fun (u : tq_Nn × tq_St) => post u.1 u.2) (tq_PB D cy z A0 H0 ad M) (fun q => z ≤ q)) args s (z + tq_CX - s.heap.size) (A0 + tq_CY - tq_all s.heap) (fun q => z ≤ q)) (F0 m 63 ls [])) : ∀ (N : tq_Nn) (S : tq_St) (x1 : Nat) (x2 : Nat) (x3 : Int32) (H : Heap) (locs : List Loc) (ls : Array Slot), wbX11_arrive_134 post L63 N S x1 x2 x3 → tq_nb z A0 s N → tq_wd D cy z H0 ad N (tq_mix S M) H → va_S (fun q => z ≤ q) s.heap H locs → lv_has ls 4 [(0, .ref (ad 1 0)), (1, .ref (ad 8 x1)), (2, .ref (ad 2 x2)), (3, .int x3)] → tq_Wb p l e 10 310 s m args below meth c z A0 N H locs (MQ below (va_Qv (fun (u : tq_Nn × tq_St) => post u.1 u.2) (tq_PB D cy z A0 H0 ad M) (fun q => z ≤ q)) args s (z + tq_CX - s.heap.size) (A0 + tq_CY - tq_all s.heap) (fun q => z ≤ q)) (F0 m 134 ls []) := by
  obtain ⟨hx, hb, hr, hml, hown, hts, hlocks, hK, hG⟩ := id C
  have hw : ∀ w ∈ tq_W, w.before args s = true := fun w h => hts w (List.mem_cons_of_mem _ h)
  intro N S x1 x2 x3 H locs ls h hN hW hS hl
  unfold wbX11_arrive_134 at h
  refine lv_iinc (v := x3 + 1) (lv' := [(3, .int (x3 + 1)), (0, .ref (ad 1 0)), (1, .ref (ad 8 x1)), (2, .ref (ad 2 x2))]) hx hb dX11_arrive_134 hl (k := 3) rfl rfl (by decide) rfl (fun ls hl => ?_)
  refine lv_goto (tgt := 63) hx hb dX11_arrive_137 (by decide) ?_
  exact hL63 _ _ _ _ _ _ _ _ h hN hW hS (lv_sub hl [1, 2, 3, 0] rfl)
set_option maxHeartbeats 4000000 in
set_option maxRecDepth 100000 in
theorem bX11_arrive_140 {p : Program} {e : Env} {s : State} {m : MethodId} {args : Array Value} {below : List Frame} {meth : Method} {c : Code} {post : tq_Nn → tq_St → Prop} (C : tq_At p s m meth c args cX11_arrive 4 (none) ((tq_ws yX11_arrive cX11_arrive 4 none)) RX11 D cy z ad)  : ∀ (N : tq_Nn) (S : tq_St)  (H : Heap) (locs : List Loc) (ls : Array Slot), wbX11_arrive_140 post  N S  → tq_nb z A0 s N → tq_wd D cy z H0 ad N (tq_mix S M) H → va_S (fun q => z ≤ q) s.heap H locs → lv_has ls 4 [] → tq_Wb p l e 10 310 s m args below meth c z A0 N H locs (MQ below (va_Qv (fun (u : tq_Nn × tq_St) => post u.1 u.2) (tq_PB D cy z A0 H0 ad M) (fun q => z ≤ q)) args s (z + tq_CX - s.heap.size) (A0 + tq_CY - tq_all s.heap) (fun q => z ≤ q)) (F0 m 140 ls []) := by
  obtain ⟨hx, hb, hr, hml, hown, hts, hlocks, hK, hG⟩ := id C
  have hw : ∀ w ∈ tq_W, w.before args s = true := fun w h => hts w (List.mem_cons_of_mem _ h)
  intro N S  H locs ls h hN hW hS hl
  unfold wbX11_arrive_140 at h
  exact tqb_vret hx hb hr hN h hW hS dX11_arrive_140 hlocks
set_option maxHeartbeats 4000000 in
set_option maxRecDepth 100000 in
theorem bX11_arrive_63 {p : Program} {e : Env} {s : State} {m : MethodId} {args : Array Value} {below : List Frame} {meth : Method} {c : Code} {post : tq_Nn → tq_St → Prop} (C : tq_At p s m meth c args cX11_arrive 4 (none) ((tq_ws yX11_arrive cX11_arrive 4 none)) RX11 D cy z ad)  : ∀ n : Nat, ∀ (N : tq_Nn) (S : tq_St) (x1 : Nat) (x2 : Nat) (x3 : Int32) (H : Heap) (locs : List Loc) (ls : Array Slot), wbX11_arrive_63 post  n N S x1 x2 x3 → tq_nb z A0 s N → tq_wd D cy z H0 ad N (tq_mix S M) H → va_S (fun q => z ≤ q) s.heap H locs → lv_has ls 4 [(0, .ref (ad 1 0)), (1, .ref (ad 8 x1)), (2, .ref (ad 2 x2)), (3, .int x3)] → tq_Wb p l e 10 310 s m args below meth c z A0 N H locs (MQ below (va_Qv (fun (u : tq_Nn × tq_St) => post u.1 u.2) (tq_PB D cy z A0 H0 ad M) (fun q => z ≤ q)) args s (z + tq_CX - s.heap.size) (A0 + tq_CY - tq_all s.heap) (fun q => z ≤ q)) (F0 m 63 ls []) := by
  obtain ⟨hx, hb, hr, hml, hown, hts, hlocks, hK, hG⟩ := id C
  have hw : ∀ w ∈ tq_W, w.before args s = true := fun w h => hts w (List.mem_cons_of_mem _ h)
  intro n
  induction n with
  | zero =>
    intro N S x1 x2 x3 H locs ls h
    exact absurd h (by unfold wbX11_arrive_63; exact id)
  | succ n ih =>
    intro N S x1 x2 x3 H locs ls h hN hW hS hl
    unfold wbX11_arrive_63 at h
    refine lv_iload_n hx hb dX11_arrive_63 rfl (lv_at hl 3 rfl) ?_
    refine lv_aload_n hx hb dX11_arrive_64 rfl (lv_at hl 0 rfl) ?_
    refine tqc_get (v := .ref (ad 15 0)) hx hb hw tq_inX11 hown hK hW (by decide) (tq_mk_1 (by decide)) rfl 5 (by decide) (hw _ tw_342) (fun _ h9 => h9) rfl dX11_arrive_65 ?_
    refine tqc_callVi (As := []) (rest := [.int x3]) (kJl_size (post := fun u r => u = S ∧ r = S 15 0 2) (by decide) (tq_mk_15 (by decide)) ⟨rfl, rfl⟩) ⟨hx, hb, hml, hown, hts⟩ (cwV 0 hts (tq_goodV tw_484 tw_485 tw_486 tw_118 tw_487) rfl rfl rfl (by decide +kernel) ⟨(Nat.le_of_ble_eq_true rfl), (Nat.le_of_ble_eq_true rfl)⟩) (tq_recvL hK hW (by decide) (tq_mk_15 (by decide))) hK hG hW hS rfl hl.1 rfl (Nat.le_of_ble_eq_true rfl) dX11_arrive_68 hN.f (fun r16 S15 H locs q9 hW hS => ?_)
    rw [q9.1] at hW
    rw [q9.2]
    refine lv_icmp_ge (tgt := 140) hx hb dX11_arrive_71 (by decide) (fun c17 => ?_) (fun c17 => ?_)
    · have h := h.1 c17
      exact bX11_arrive_140 C  _ _  _ _ _ h hN hW hS (lv_sub hl [] rfl)
    · have h := h.2 c17
      refine lv_iload_n hx hb dX11_arrive_74 rfl (lv_at hl 3 rfl) ?_
      refine lv_sipush (v := 150) hx hb dX11_arrive_75 (by decide) ?_
      refine lv_icmp_ge (tgt := 140) hx hb dX11_arrive_78 (by decide) (fun c18 => ?_) (fun c18 => ?_)
      · have h := h.1 c18
        exact bX11_arrive_140 C  _ _  _ _ _ h hN hW hS (lv_sub hl [] rfl)
      · have h := h.2 c18
        refine lv_aload_n hx hb dX11_arrive_81 rfl (lv_at hl 1 rfl) ?_
        obtain ⟨b19, h⟩ := h
        refine tqc_get (v := .ref (ad 56 x1)) hx hb hw tq_inX8 hown hK hW (by decide) (tq_mk_8 b19) rfl 10 (by decide) (hw _ tw_919) (fun _ h9 => h9) rfl dX11_arrive_82 ?_
        refine lv_iload_n hx hb dX11_arrive_85 rfl (lv_at hl 3 rfl) ?_
        obtain ⟨b20, h⟩ := h
        obtain ⟨b21, h⟩ := h
        refine tqc_iald (jn := x3.toNatClampNeg) hx hb hK hW (by decide) (tq_mk_56 b21) b20 rfl dX11_arrive_86 ?_
        refine lv_if_le (tgt := 134) hx hb dX11_arrive_87 (by decide) (fun c22 => ?_) (fun c22 => ?_)
        · have h := h.1 c22
          exact bX11_arrive_134 C (fun N9 M9 a09 a19 a29 H9 q9 ls9 h9 hN9 hW9 hS9 hl9 => ih N9 M9 a09 a19 a29 H9 q9 ls9 h9 hN9 hW9 hS9 hl9) _ _ _ _ _ _ _ _ h hN hW hS (lv_sub hl [0, 1, 2, 3] rfl)
        · have h := h.2 c22
          refine lv_aload_n hx hb dX11_arrive_90 rfl (lv_at hl 0 rfl) ?_
          refine tqc_get (v := .ref (ad 15 0)) hx hb hw tq_inX11 hown hK hW (by decide) (tq_mk_1 (by decide)) rfl 5 (by decide) (hw _ tw_342) (fun _ h9 => h9) rfl dX11_arrive_91 ?_
          refine lv_iload_n hx hb dX11_arrive_94 rfl (lv_at hl 3 rfl) ?_
          obtain ⟨b25, h⟩ := h
          refine tqc_callVr (kr := 7) (As := [.int x3]) (rest := []) (kJl_get (kd := 16) (post := fun u i => u = S ∧ i = tq_el S 15 16 0 x3) (by decide) (by decide) (tq_mk_15 (by decide)) (fun q9 => tq_mk_16 q9) b25 ⟨rfl, rfl⟩) ⟨hx, hb, hml, hown, hts⟩ (cwV 1 hts (tq_goodV tw_827 tw_828 tw_829 tw_118 tw_830) rfl rfl rfl (by decide +kernel) ⟨(Nat.le_of_ble_eq_true rfl), (Nat.le_of_ble_eq_true rfl)⟩) (tq_recvL hK hW (by decide) (tq_mk_15 (by decide))) hK hG hW hS rfl hl.1 rfl (Nat.le_of_ble_eq_true rfl) dX11_arrive_95 hN.f (fun i24 S23 H locs q9 hW hS => ?_)
          rw [q9.1] at hW
          rw [q9.2]
          obtain ⟨b26, h⟩ := h
          refine tqc_cast7 hx hb hown (hw _ tw_488) hK hG hW b26 dX11_arrive_98 ?_
          refine tqc_get7 (v := .int (S 7 (tq_el S 15 16 0 x3) 3)) hx hb hw tq_inX3 tq_inX1 hown hK hW b26 3 (by decide) (hw _ tw_517) (fun _ h9 => h9) rfl dX11_arrive_101 ?_
          refine lv_aload_n hx hb dX11_arrive_104 rfl (lv_at hl 2 rfl) ?_
          obtain ⟨b27, h⟩ := h
          refine tqc_get (v := .int (S 2 x2 0)) hx hb hw tq_inX5 hown hK hW (by decide) (tq_mk_2 b27) rfl 0 (by decide) (hw _ tw_253) (fun _ h9 => h9) rfl dX11_arrive_105 ?_
          refine lv_icmp_ne (tgt := 134) hx hb dX11_arrive_108 (by decide) (fun c28 => ?_) (fun c28 => ?_)
          · have h := h.1 c28
            exact bX11_arrive_134 C (fun N9 M9 a09 a19 a29 H9 q9 ls9 h9 hN9 hW9 hS9 hl9 => ih N9 M9 a09 a19 a29 H9 q9 ls9 h9 hN9 hW9 hS9 hl9) _ _ _ _ _ _ _ _ h hN hW hS (lv_sub hl [0, 1, 2, 3] rfl)
          · have h := h.2 c28
            refine lv_aload_n hx hb dX11_arrive_111 rfl (lv_at hl 1 rfl) ?_
            refine tqc_get (v := .ref (ad 56 x1)) hx hb hw tq_inX8 hown hK hW (by decide) (tq_mk_8 b19) rfl 10 (by decide) (hw _ tw_919) (fun _ h9 => h9) rfl dX11_arrive_112 ?_
            refine lv_iload_n hx hb dX11_arrive_115 rfl (lv_at hl 3 rfl) ?_
            refine lv_iconst (v := 0) hx hb dX11_arrive_116 (by decide) ?_
            refine tqc_iast (jn := x3.toNatClampNeg) hx hb hK hW hS (by decide) (tq_mk_56 b21) b20 rfl (tq_mk_56 b21) dX11_arrive_117 (fun H locs hW hS => ?_)
            generalize eS29 : tq_up S 56 x1 x3.toNatClampNeg 0 = S29 at hW
            have h := h S29 eS29.symm
            refine lv_aload_n hx hb dX11_arrive_118 rfl (lv_at hl 0 rfl) ?_
            refine lv_aload_n hx hb dX11_arrive_119 rfl (lv_at hl 0 rfl) ?_
            refine tqc_get (v := .ref (ad 15 0)) hx hb hw tq_inX11 hown hK hW (by decide) (tq_mk_1 (by decide)) rfl 5 (by decide) (hw _ tw_342) (fun _ h9 => h9) rfl dX11_arrive_120 ?_
            refine lv_iload_n hx hb dX11_arrive_123 rfl (lv_at hl 3 rfl) ?_
            obtain ⟨b32, h⟩ := h
            refine tqc_callVr (kr := 7) (As := [.int x3]) (rest := [.ref (ad 1 0)]) (kJl_get (kd := 16) (post := fun u i => u = S29 ∧ i = tq_el S29 15 16 0 x3) (by decide) (by decide) (tq_mk_15 (by decide)) (fun q9 => tq_mk_16 q9) b32 ⟨rfl, rfl⟩) ⟨hx, hb, hml, hown, hts⟩ (cwV 1 hts (tq_goodV tw_827 tw_828 tw_829 tw_118 tw_830) rfl rfl rfl (by decide +kernel) ⟨(Nat.le_of_ble_eq_true rfl), (Nat.le_of_ble_eq_true rfl)⟩) (tq_recvL hK hW (by decide) (tq_mk_15 (by decide))) hK hG hW hS rfl hl.1 rfl (Nat.le_of_ble_eq_true rfl) dX11_arrive_124 hN.f (fun i31 S30 H locs q9 hW hS => ?_)
            rw [q9.1] at hW
            rw [q9.2]
            obtain ⟨b33, h⟩ := h
            refine tqc_cast7 hx hb hown (hw _ tw_488) hK hG hW b33 dX11_arrive_127 ?_
            refine lv_aload_n hx hb dX11_arrive_130 rfl (lv_at hl 2 rfl) ?_
            refine tqb_callVv (As := [.ref (ad 7 (tq_el S29 15 16 0 x3)), .ref (ad 2 x2)]) (rest := []) (kX11_readAt h) ⟨hx, hb, hml, hown, hts⟩ (cwV 2 hts (tq_goodV tw_1074 tw_1076 tw_30 tw_115 tw_1077) rfl rfl rfl (by decide +kernel) ⟨(Nat.le_of_ble_eq_true rfl), (Nat.le_of_ble_eq_true rfl)⟩) (tq_recvC hK hW (by decide) (tq_mk_1 (by decide)) rfl) hK hG hW hS rfl hl.1 rfl (Nat.le_of_ble_eq_true rfl) dX11_arrive_131 hN (fun  N34 S35 H locs h hN hW hS => ?_)
            exact bX11_arrive_134 C (fun N9 M9 a09 a19 a29 H9 q9 ls9 h9 hN9 hW9 hS9 hl9 => ih N9 M9 a09 a19 a29 H9 q9 ls9 h9 hN9 hW9 hS9 hl9) _ _ _ _ _ _ _ _ h hN hW hS (lv_sub hl [0, 1, 2, 3] rfl)
set_option maxHeartbeats 4000000 in
set_option maxRecDepth 100000 in
theorem bX11_arrive_22 {p : Program} {e : Env} {s : State} {m : MethodId} {args : Array Value} {below : List Frame} {meth : Method} {c : Code} {post : tq_Nn → tq_St → Prop} (C : tq_At p s m meth c args cX11_arrive 4 (none) ((tq_ws yX11_arrive cX11_arrive 4 none)) RX11 D cy z ad)  : ∀ n : Nat, ∀ (N : tq_Nn) (S : tq_St) (x1 : Nat) (x2 : Nat) (x3 : Int32) (H : Heap) (locs : List Loc) (ls : Array Slot), wbX11_arrive_22 post  n N S x1 x2 x3 → tq_nb z A0 s N → tq_wd D cy z H0 ad N (tq_mix S M) H → va_S (fun q => z ≤ q) s.heap H locs → lv_has ls 4 [(0, .ref (ad 1 0)), (1, .ref (ad 8 x1)), (2, .ref (ad 2 x2)), (3, .int x3)] → tq_Wb p l e 10 310 s m args below meth c z A0 N H locs (MQ below (va_Qv (fun (u : tq_Nn × tq_St) => post u.1 u.2) (tq_PB D cy z A0 H0 ad M) (fun q => z ≤ q)) args s (z + tq_CX - s.heap.size) (A0 + tq_CY - tq_all s.heap) (fun q => z ≤ q)) (F0 m 22 ls []) := by
  obtain ⟨hx, hb, hr, hml, hown, hts, hlocks, hK, hG⟩ := id C
  have hw : ∀ w ∈ tq_W, w.before args s = true := fun w h => hts w (List.mem_cons_of_mem _ h)
  intro n
  induction n with
  | zero =>
    intro N S x1 x2 x3 H locs ls h
    exact absurd h (by unfold wbX11_arrive_22; exact id)
  | succ n ih =>
    intro N S x1 x2 x3 H locs ls h hN hW hS hl
    unfold wbX11_arrive_22 at h
    refine lv_iload_n hx hb dX11_arrive_22 rfl (lv_at hl 3 rfl) ?_
    refine lv_iconst (v := 4) hx hb dX11_arrive_23 (by decide) ?_
    refine lv_icmp_ge (tgt := 48) hx hb dX11_arrive_24 (by decide) (fun c6 => ?_) (fun c6 => ?_)
    · have h := h.1 c6
      refine lv_aload_n hx hb dX11_arrive_48 rfl (lv_at hl 2 rfl) ?_
      refine lv_dup hx hb dX11_arrive_49 rfl ?_
      obtain ⟨b7, h⟩ := h
      refine tqc_get (v := .int (S 2 x2 1)) hx hb hw tq_inX5 hown hK hW (by decide) (tq_mk_2 b7) rfl 1 (by decide) (hw _ tw_255) (fun _ h9 => h9) rfl dX11_arrive_50 ?_
      refine lv_aload_n hx hb dX11_arrive_53 rfl (lv_at hl 1 rfl) ?_
      obtain ⟨b8, h⟩ := h
      refine tqc_get (v := .int (S 8 x1 7)) hx hb hw tq_inX8 hown hK hW (by decide) (tq_mk_8 b8) rfl 7 (by decide) (hw _ tw_911) (fun _ h9 => h9) rfl dX11_arrive_54 ?_
      refine lv_iadd hx hb dX11_arrive_57 ?_
      refine tqc_put hx hb hw tq_inX5 tyX5 tyX5_ok nmX5 hown hK hW hS (by decide) (tq_mk_2 b7) rfl 1 (by decide) (hw _ tw_255) (fun _ h9 => h9) rfl rfl rfl rfl (tq_mk_2 b7) dX11_arrive_58 (fun H locs hW hS => ?_)
      generalize eS9 : tq_up S 2 x2 1 ((S 2 x2 1) + (S 8 x1 7)) = S9 at hW
      have h := h S9 eS9.symm
      refine lv_iconst (v := 0) hx hb dX11_arrive_61 (by decide) ?_
      refine lv_istore_n (lv' := [(3, .int 0), (0, .ref (ad 1 0)), (1, .ref (ad 8 x1)), (2, .ref (ad 2 x2))]) hx hb dX11_arrive_62 rfl hl (by decide) rfl (fun ls hl => ?_)
      obtain ⟨nq, h⟩ := h
      exact bX11_arrive_63 C  nq _ _ _ _ _ _ _ _ h hN hW hS (lv_sub hl [1, 2, 3, 0] rfl)
    · have h := h.2 c6
      refine lv_aload_n hx hb dX11_arrive_27 rfl (lv_at hl 2 rfl) ?_
      obtain ⟨b10, h⟩ := h
      refine tqc_get (v := .ref (ad 30 x2)) hx hb hw tq_inX5 hown hK hW (by decide) (tq_mk_2 b10) rfl 2 (by decide) (hw _ tw_258) (fun _ h9 => h9) rfl dX11_arrive_28 ?_
      refine lv_iload_n hx hb dX11_arrive_31 rfl (lv_at hl 3 rfl) ?_
      refine lv_dup2_11 hx hb dX11_arrive_32 rfl rfl ?_
      obtain ⟨b11, h⟩ := h
      refine tqc_iald (jn := x3.toNatClampNeg) hx hb hK hW (by decide) (tq_mk_30 b10) b11 rfl dX11_arrive_33 ?_
      refine lv_aload_n hx hb dX11_arrive_34 rfl (lv_at hl 1 rfl) ?_
      obtain ⟨b12, h⟩ := h
      refine tqc_get (v := .ref (ad 54 x1)) hx hb hw tq_inX8 hown hK hW (by decide) (tq_mk_8 b12) rfl 8 (by decide) (hw _ tw_914) (fun _ h9 => h9) rfl dX11_arrive_35 ?_
      refine lv_iload_n hx hb dX11_arrive_38 rfl (lv_at hl 3 rfl) ?_
      obtain ⟨b13, h⟩ := h
      refine tqc_iald (jn := x3.toNatClampNeg) hx hb hK hW (by decide) (tq_mk_54 b13) b11 rfl dX11_arrive_39 ?_
      refine lv_iadd hx hb dX11_arrive_40 ?_
      refine tqc_iast (jn := x3.toNatClampNeg) hx hb hK hW hS (by decide) (tq_mk_30 b10) b11 rfl (tq_mk_30 b10) dX11_arrive_41 (fun H locs hW hS => ?_)
      generalize eS14 : tq_up S 30 x2 x3.toNatClampNeg ((S 30 x2 x3.toNatClampNeg) + (S 54 x1 x3.toNatClampNeg)) = S14 at hW
      have h := h S14 eS14.symm
      refine lv_iinc (v := x3 + 1) (lv' := [(3, .int (x3 + 1)), (0, .ref (ad 1 0)), (1, .ref (ad 8 x1)), (2, .ref (ad 2 x2))]) hx hb dX11_arrive_42 hl (k := 3) rfl rfl (by decide) rfl (fun ls hl => ?_)
      refine lv_goto (tgt := 22) hx hb dX11_arrive_45 (by decide) ?_
      exact ih _ _ _ _ _ _ _ _ h hN hW hS (lv_sub hl [1, 2, 3, 0] rfl)
set_option maxHeartbeats 4000000 in
set_option maxRecDepth 100000 in
theorem bX11_arrive_20 {p : Program} {e : Env} {s : State} {m : MethodId} {args : Array Value} {below : List Frame} {meth : Method} {c : Code} {post : tq_Nn → tq_St → Prop} (C : tq_At p s m meth c args cX11_arrive 4 (none) ((tq_ws yX11_arrive cX11_arrive 4 none)) RX11 D cy z ad)  : ∀ (N : tq_Nn) (S : tq_St) (x1 : Nat) (x2 : Nat) (H : Heap) (locs : List Loc) (ls : Array Slot), wbX11_arrive_20 post  N S x1 x2 → tq_nb z A0 s N → tq_wd D cy z H0 ad N (tq_mix S M) H → va_S (fun q => z ≤ q) s.heap H locs → lv_has ls 4 [(0, .ref (ad 1 0)), (1, .ref (ad 8 x1)), (2, .ref (ad 2 x2))] → tq_Wb p l e 10 310 s m args below meth c z A0 N H locs (MQ below (va_Qv (fun (u : tq_Nn × tq_St) => post u.1 u.2) (tq_PB D cy z A0 H0 ad M) (fun q => z ≤ q)) args s (z + tq_CX - s.heap.size) (A0 + tq_CY - tq_all s.heap) (fun q => z ≤ q)) (F0 m 20 ls []) := by
  obtain ⟨hx, hb, hr, hml, hown, hts, hlocks, hK, hG⟩ := id C
  have hw : ∀ w ∈ tq_W, w.before args s = true := fun w h => hts w (List.mem_cons_of_mem _ h)
  intro N S x1 x2 H locs ls h hN hW hS hl
  unfold wbX11_arrive_20 at h
  refine lv_iconst (v := 0) hx hb dX11_arrive_20 (by decide) ?_
  refine lv_istore_n (lv' := [(3, .int 0), (0, .ref (ad 1 0)), (1, .ref (ad 8 x1)), (2, .ref (ad 2 x2))]) hx hb dX11_arrive_21 rfl hl (by decide) rfl (fun ls hl => ?_)
  obtain ⟨nq, h⟩ := h
  exact bX11_arrive_22 C  nq _ _ _ _ _ _ _ _ h hN hW hS (lv_sub hl [1, 2, 3, 0] rfl)
set_option maxHeartbeats 4000000 in
set_option maxRecDepth 100000 in
theorem kX11_arrive {post : tq_Nn → tq_St → Prop} {N : tq_Nn} {S : tq_St} {sz sl : Nat} {p0 : Nat} {p1 : Nat} (h : wpX11_arrive post N S p0 p1) : tq_bV l yX11_arrive (tq_ws yX11_arrive cX11_arrive 4 none) 10 310 D cy z A0 H0 ad N M S sz sl [.ref (ad 1 0), .ref (ad 8 p0), .ref (ad 2 p1)] post := by
  unfold wpX11_arrive at h
  refine Met.ofW (cc := cX11_arrive) (maxL := 4) (ret := none) (by decide) rfl ?_
  intro p e s m args below meth c s₁ B hml hv
  obtain ⟨rfl, ⟨hW, hK, hG⟩, rfl, rfl, hN1, hN2, hN3, hN4⟩ := hv
  have hN : tq_nb z A0 s N := ⟨hN1, hN2, hN3, hN4⟩
  have hx := B.exec
  have hb := B.bytes
  have hr := B.returns
  have hts := atoms_spec (ws := (tq_ws yX11_arrive cX11_arrive 4 none)) B.pre
  have hw : ∀ w ∈ tq_W, w.before _ s = true := fun w h => hts w (List.mem_cons_of_mem _ h)
  have hown : s.vm.findClass RX11 = some m.cls := findClass_of_methodNamed B.named
  have hlocks := B.notSynchronized
  have C : tq_At p s m meth c [.ref (ad 1 0), .ref (ad 8 p0), .ref (ad 2 p1)].toArray cX11_arrive 4 (none) ((tq_ws yX11_arrive cX11_arrive 4 none)) RX11 D cy z ad := ⟨hx, hb, hr, hml, hown, hts, hlocks, hK, hG⟩
  have hS : va_S (fun q => z ≤ q) s.heap s.heap [] := va_S.rf
  have hl := lv_entry ([.ref (ad 1 0), .ref (ad 8 p0), .ref (ad 2 p1)]) (n := 4) (Nat.le_of_ble_eq_true rfl)
  rw [lg_entry_eq]
  generalize (lg_sl ([.ref (ad 1 0), .ref (ad 8 p0), .ref (ad 2 p1)]) ++ List.replicate (4 - (lg_sl ([.ref (ad 1 0), .ref (ad 8 p0), .ref (ad 2 p1)])).length) Slot.unset).toArray = ls at hl ⊢
  have hl : lv_has ls 4 [(0, .ref (ad 1 0)), (1, .ref (ad 8 p0)), (2, .ref (ad 2 p1))] := hl
  have hW : tq_wd D cy z H0 ad N (tq_mix S M) s.heap := hW
  refine tq_tight (c1 := z + N 0 0 - s.heap.size) (n1 := A0 + N 0 1 - tq_all s.heap) (by omega) (by omega) ?_
  refine lv_aload_n hx hb dX11_arrive_0 rfl (lv_at hl 1 rfl) ?_
  refine lv_aload_n hx hb dX11_arrive_1 rfl (lv_at hl 2 rfl) ?_
  obtain ⟨b1, h⟩ := h
  refine tqc_get (v := .int (S 2 p1 0)) hx hb hw tq_inX5 hown hK hW (by decide) (tq_mk_2 b1) rfl 0 (by decide) (hw _ tw_253) (fun _ h9 => h9) rfl dX11_arrive_2 ?_
  obtain ⟨b2, h⟩ := h
  refine tqc_put hx hb hw tq_inX8 tyX8 tyX8_ok nmX8 hown hK hW hS (by decide) (tq_mk_8 b2) rfl 3 (by decide) (hw _ tw_904) (fun _ h9 => h9) rfl rfl rfl rfl (tq_mk_8 b2) dX11_arrive_5 (fun H locs hW hS => ?_)
  generalize eS3 : tq_up S 8 p0 3 (S 2 p1 0) = S3 at hW
  have h := h S3 eS3.symm
  refine lv_aload_n hx hb dX11_arrive_8 rfl (lv_at hl 2 rfl) ?_
  refine tqc_get (v := .int (S3 2 p1 0)) hx hb hw tq_inX5 hown hK hW (by decide) (tq_mk_2 b1) rfl 0 (by decide) (hw _ tw_253) (fun _ h9 => h9) rfl dX11_arrive_9 ?_
  refine lv_if_ne (tgt := 20) hx hb dX11_arrive_12 (by decide) (fun c4 => ?_) (fun c4 => ?_)
  · have h := h.1 c4
    exact bX11_arrive_20 C  _ _ _ _ _ _ _ h hN hW hS (lv_sub hl [0, 1, 2] rfl)
  · have h := h.2 c4
    refine lv_aload_n hx hb dX11_arrive_15 rfl (lv_at hl 1 rfl) ?_
    refine lv_iconst (v := 0) hx hb dX11_arrive_16 (by decide) ?_
    refine tqc_put hx hb hw tq_inX8 tyX8 tyX8_ok nmX8 hown hK hW hS (by decide) (tq_mk_8 b2) rfl 5 (by decide) (hw _ tw_907) (fun _ h9 => h9) rfl rfl rfl rfl (tq_mk_8 b2) dX11_arrive_17 (fun H locs hW hS => ?_)
    generalize eS5 : tq_up S3 8 p0 5 0 = S5 at hW
    have h := h S5 eS5.symm
    exact bX11_arrive_20 C  _ _ _ _ _ _ _ h hN hW hS (lv_sub hl [0, 1, 2] rfl)
-- X11 endVoyage
def wbX11_endVoyage_48 (post : tq_Nn → tq_St → Prop)  (N : tq_Nn) (S : tq_St) (x1 : Nat) : Prop :=
  N 8 x1 = 1 ∧ wpX8_clearHold N (fun S13 => post N S13) S x1
def wpX11_endVoyage (post : tq_Nn → tq_St → Prop) (N : tq_Nn) (S : tq_St) (p0 : Nat) (p1 : Nat) : Prop :=
  N 9 p1 = 1 ∧ (((S 9 p1 8) = 0 → ((∀ S3, S3 = tq_up S 9 p1 9 1 → (vp_in (S3 9 p1 3) 5 ∧ (wpX11_arrive (fun N5 S6  => wbX11_endVoyage_48 post N5 S6 p0) N S3 p0 ((S3 9 p1 3).toNatClampNeg)))))) ∧ (¬ (S 9 p1 8) = 0 → ((∀ S7, S7 = tq_up S 9 p1 9 2 → (N 8 p0 = 1 ∧ (∀ S9, S9 = tq_up S7 8 p0 3 ((-2)) → (N 56 p0 = 1 ∧ (∀ S11, S11 = tq_cp S9 56 p0 (tq_fl (S9 56 p0) 150 0) → (wbX11_endVoyage_48 post N S11 p0)))))))))
set_option maxHeartbeats 4000000 in
set_option maxRecDepth 100000 in
theorem bX11_endVoyage_48 {p : Program} {e : Env} {s : State} {m : MethodId} {args : Array Value} {below : List Frame} {meth : Method} {c : Code} {post : tq_Nn → tq_St → Prop} (C : tq_At p s m meth c args cX11_endVoyage 3 (none) ((tq_ws yX11_endVoyage cX11_endVoyage 3 none)) RX11 D cy z ad)  : ∀ (N : tq_Nn) (S : tq_St) (x1 : Nat) (H : Heap) (locs : List Loc) (ls : Array Slot), wbX11_endVoyage_48 post  N S x1 → tq_nb z A0 s N → tq_wd D cy z H0 ad N (tq_mix S M) H → va_S (fun q => z ≤ q) s.heap H locs → lv_has ls 3 [(1, .ref (ad 8 x1))] → tq_Wb p l e 11 333 s m args below meth c z A0 N H locs (MQ below (va_Qv (fun (u : tq_Nn × tq_St) => post u.1 u.2) (tq_PB D cy z A0 H0 ad M) (fun q => z ≤ q)) args s (z + tq_CX - s.heap.size) (A0 + tq_CY - tq_all s.heap) (fun q => z ≤ q)) (F0 m 48 ls []) := by
  obtain ⟨hx, hb, hr, hml, hown, hts, hlocks, hK, hG⟩ := id C
  have hw : ∀ w ∈ tq_W, w.before args s = true := fun w h => hts w (List.mem_cons_of_mem _ h)
  intro N S x1 H locs ls h hN hW hS hl
  unfold wbX11_endVoyage_48 at h
  refine lv_aload_n hx hb dX11_endVoyage_48 rfl (lv_at hl 0 rfl) ?_
  obtain ⟨b12, h⟩ := h
  refine tqc_callVv (As := []) (rest := []) (kX8_clearHold h) ⟨hx, hb, hml, hown, hts⟩ (cwV 0 hts (tq_goodV tw_1109 tw_1110 tw_1111 tw_137 tw_1112) rfl rfl rfl (by decide +kernel) ⟨(Nat.le_of_ble_eq_true rfl), (Nat.le_of_ble_eq_true rfl)⟩) (tq_recvC hK hW (by decide) (tq_mk_8 b12) rfl) hK hG hW hS rfl hl.1 rfl (Nat.le_of_ble_eq_true rfl) dX11_endVoyage_49 hN.f (fun S13 H locs h hW hS => ?_)
  exact tqb_vret hx hb hr hN h hW hS dX11_endVoyage_52 hlocks
set_option maxHeartbeats 4000000 in
set_option maxRecDepth 100000 in
theorem kX11_endVoyage {post : tq_Nn → tq_St → Prop} {N : tq_Nn} {S : tq_St} {sz sl : Nat} {p0 : Nat} {p1 : Nat} (h : wpX11_endVoyage post N S p0 p1) : tq_bV l yX11_endVoyage (tq_ws yX11_endVoyage cX11_endVoyage 3 none) 11 333 D cy z A0 H0 ad N M S sz sl [.ref (ad 1 0), .ref (ad 8 p0), .ref (ad 9 p1)] post := by
  unfold wpX11_endVoyage at h
  refine Met.ofW (cc := cX11_endVoyage) (maxL := 3) (ret := none) (by decide) rfl ?_
  intro p e s m args below meth c s₁ B hml hv
  obtain ⟨rfl, ⟨hW, hK, hG⟩, rfl, rfl, hN1, hN2, hN3, hN4⟩ := hv
  have hN : tq_nb z A0 s N := ⟨hN1, hN2, hN3, hN4⟩
  have hx := B.exec
  have hb := B.bytes
  have hr := B.returns
  have hts := atoms_spec (ws := (tq_ws yX11_endVoyage cX11_endVoyage 3 none)) B.pre
  have hw : ∀ w ∈ tq_W, w.before _ s = true := fun w h => hts w (List.mem_cons_of_mem _ h)
  have hown : s.vm.findClass RX11 = some m.cls := findClass_of_methodNamed B.named
  have hlocks := B.notSynchronized
  have C : tq_At p s m meth c [.ref (ad 1 0), .ref (ad 8 p0), .ref (ad 9 p1)].toArray cX11_endVoyage 3 (none) ((tq_ws yX11_endVoyage cX11_endVoyage 3 none)) RX11 D cy z ad := ⟨hx, hb, hr, hml, hown, hts, hlocks, hK, hG⟩
  have hS : va_S (fun q => z ≤ q) s.heap s.heap [] := va_S.rf
  have hl := lv_entry ([.ref (ad 1 0), .ref (ad 8 p0), .ref (ad 9 p1)]) (n := 3) (Nat.le_of_ble_eq_true rfl)
  rw [lg_entry_eq]
  generalize (lg_sl ([.ref (ad 1 0), .ref (ad 8 p0), .ref (ad 9 p1)]) ++ List.replicate (3 - (lg_sl ([.ref (ad 1 0), .ref (ad 8 p0), .ref (ad 9 p1)])).length) Slot.unset).toArray = ls at hl ⊢
  have hl : lv_has ls 3 [(0, .ref (ad 1 0)), (1, .ref (ad 8 p0)), (2, .ref (ad 9 p1))] := hl
  have hW : tq_wd D cy z H0 ad N (tq_mix S M) s.heap := hW
  refine tq_tight (c1 := z + N 0 0 - s.heap.size) (n1 := A0 + N 0 1 - tq_all s.heap) (by omega) (by omega) ?_
  refine lv_aload_n hx hb dX11_endVoyage_0 rfl (lv_at hl 2 rfl) ?_
  obtain ⟨b1, h⟩ := h
  refine tqc_get (v := .int (S 9 p1 8)) hx hb hw tq_inX10 hown hK hW (by decide) (tq_mk_9 b1) rfl 8 (by decide) (hw _ tw_1002) (fun _ h9 => h9) rfl dX11_endVoyage_1 ?_
  refine lv_if_eq (tgt := 29) hx hb dX11_endVoyage_4 (by decide) (fun c2 => ?_) (fun c2 => ?_)
  · have h := h.1 c2
    refine lv_aload_n hx hb dX11_endVoyage_29 rfl (lv_at hl 2 rfl) ?_
    refine lv_iconst (v := 1) hx hb dX11_endVoyage_30 (by decide) ?_
    refine tqc_put hx hb hw tq_inX10 tyX10 tyX10_ok nmX10 hown hK hW hS (by decide) (tq_mk_9 b1) rfl 9 (by decide) (hw _ tw_1004) (fun _ h9 => h9) rfl rfl rfl rfl (tq_mk_9 b1) dX11_endVoyage_31 (fun H locs hW hS => ?_)
    generalize eS3 : tq_up S 9 p1 9 1 = S3 at hW
    have h := h S3 eS3.symm
    refine lv_aload_n hx hb dX11_endVoyage_34 rfl (lv_at hl 0 rfl) ?_
    refine lv_aload_n hx hb dX11_endVoyage_35 rfl (lv_at hl 1 rfl) ?_
    refine lv_aload_n hx hb dX11_endVoyage_36 rfl (lv_at hl 0 rfl) ?_
    refine tqc_get (v := .ref (ad 12 0)) hx hb hw tq_inX11 hown hK hW (by decide) (tq_mk_1 (by decide)) rfl 1 (by decide) (hw _ tw_338) (fun _ h9 => h9) rfl dX11_endVoyage_37 ?_
    refine lv_aload_n hx hb dX11_endVoyage_40 rfl (lv_at hl 2 rfl) ?_
    refine tqc_get (v := .int (S3 9 p1 3)) hx hb hw tq_inX10 hown hK hW (by decide) (tq_mk_9 b1) rfl 3 (by decide) (hw _ tw_993) (fun _ h9 => h9) rfl dX11_endVoyage_41 ?_
    obtain ⟨b4, h⟩ := h
    refine tqc_aald (jn := (S3 9 p1 3).toNatClampNeg) (v := .ref (ad 2 ((S3 9 p1 3).toNatClampNeg))) hx hb hK hW (by decide) (tq_mk_12 (by decide)) 3 rfl rfl b4 rfl rfl dX11_endVoyage_44 ?_
    refine tqb_callVv (As := [.ref (ad 8 p0), .ref (ad 2 ((S3 9 p1 3).toNatClampNeg))]) (rest := []) (kX11_arrive h) ⟨hx, hb, hml, hown, hts⟩ (cwV 2 hts (tq_goodV tw_1070 tw_1072 tw_29 tw_115 tw_1073) rfl rfl rfl (by decide +kernel) ⟨(Nat.le_of_ble_eq_true rfl), (Nat.le_of_ble_eq_true rfl)⟩) (tq_recvC hK hW (by decide) (tq_mk_1 (by decide)) rfl) hK hG hW hS rfl hl.1 rfl (Nat.le_of_ble_eq_true rfl) dX11_endVoyage_45 hN (fun  N5 S6 H locs h hN hW hS => ?_)
    exact bX11_endVoyage_48 C  _ _ _ _ _ _ h hN hW hS (lv_sub hl [1] rfl)
  · have h := h.2 c2
    refine lv_aload_n hx hb dX11_endVoyage_7 rfl (lv_at hl 2 rfl) ?_
    refine lv_iconst (v := 2) hx hb dX11_endVoyage_8 (by decide) ?_
    refine tqc_put hx hb hw tq_inX10 tyX10 tyX10_ok nmX10 hown hK hW hS (by decide) (tq_mk_9 b1) rfl 9 (by decide) (hw _ tw_1004) (fun _ h9 => h9) rfl rfl rfl rfl (tq_mk_9 b1) dX11_endVoyage_9 (fun H locs hW hS => ?_)
    generalize eS7 : tq_up S 9 p1 9 2 = S7 at hW
    have h := h S7 eS7.symm
    refine lv_aload_n hx hb dX11_endVoyage_12 rfl (lv_at hl 1 rfl) ?_
    refine lv_bipush (v := (-2)) hx hb dX11_endVoyage_13 (by decide) ?_
    obtain ⟨b8, h⟩ := h
    refine tqc_put hx hb hw tq_inX8 tyX8 tyX8_ok nmX8 hown hK hW hS (by decide) (tq_mk_8 b8) rfl 3 (by decide) (hw _ tw_904) (fun _ h9 => h9) rfl rfl rfl rfl (tq_mk_8 b8) dX11_endVoyage_15 (fun H locs hW hS => ?_)
    generalize eS9 : tq_up S7 8 p0 3 ((-2)) = S9 at hW
    have h := h S9 eS9.symm
    refine lv_aload_n hx hb dX11_endVoyage_18 rfl (lv_at hl 1 rfl) ?_
    refine tqc_get (v := .ref (ad 56 p0)) hx hb hw tq_inX8 hown hK hW (by decide) (tq_mk_8 b8) rfl 10 (by decide) (hw _ tw_919) (fun _ h9 => h9) rfl dX11_endVoyage_19 ?_
    refine lv_iconst (v := 0) hx hb dX11_endVoyage_22 (by decide) ?_
    obtain ⟨b10, h⟩ := h
    refine tqc_callSv (As := [.ref (ad 56 p0), .int 0]) (rest := []) (kJ7_fill (n := 150) (post := fun u => u = tq_cp S9 56 p0 (tq_fl (S9 56 p0) 150 0)) (by decide) (by decide) (fun f => tq_mk_56 b10) rfl) ⟨hx, hb, hml, hown, hts⟩ (va_cwS 2 hts (tq_goodS tw_334 tw_335 tw_124 tw_336) rfl rfl rfl (by decide +kernel) ⟨(Nat.le_of_ble_eq_true rfl), (Nat.le_of_ble_eq_true rfl)⟩) hK hG hW hS rfl hl.1 rfl (Nat.le_of_ble_eq_true rfl) dX11_endVoyage_23 hN.f (fun S11 H locs q9 hW hS => ?_)
    have h := h S11 q9
    refine lv_goto (tgt := 48) hx hb dX11_endVoyage_26 (by decide) ?_
    exact bX11_endVoyage_48 C  _ _ _ _ _ _ h hN hW hS (lv_sub hl [1] rfl)
-- X11 writeInvoice
def wbX11_writeInvoice_65 (post : tq_Nn → tq_St → Prop)  (N : tq_Nn) (S : tq_St) : Prop :=
  post N S
def wpX11_writeInvoice (post : tq_Nn → tq_St → Prop) (N : tq_Nn) (S : tq_St) (p0 : Nat) (p1 : Nat) (p2 : Nat) : Prop :=
  wpX11_hasRoomForPapers N (fun S1 r2 => (r2 = 0 → (wbX11_writeInvoice_65 post N S1 )) ∧ (¬ r2 = 0 → (N 0 0 + 1 ≤ tq_CX ∧ N 0 1 + 10 ≤ tq_CY ∧ (∀ i6, ¬ i6 < 1 → i6 ≤ N 0 0 → tq_fr N i6 → ∀ N7, N7 = tq_na N (i6 + 1) 1 i6 1 10 → ∀ S8, S8 = tq_cp S1 1 i6 (fun _ => 0) → (wpX3_init (fun N12 S13 => N12 9 p0 = 1 ∧ (N12 7 i6 = 1 ∧ (∀ S16, S16 = tq_up S13 7 i6 8 (S13 9 p0 0) → (wpX3_comesAboard N12 (fun S17 => tq_aok N12 S17 15 16 7 0 i6 ∧ (∀ N18 S19, tq_added N12 S17 15 16 0 i6 N18 S19 → (N18 7 i6 = 1 ∧ (N18 9 p0 = 1 ∧ (∀ S24, S24 = tq_up S19 9 p0 10 (S19 7 i6 0) → (wbX11_writeInvoice_65 post N18 S24 )))))) S16 i6 p1)))) N7 S8 i6 (S8 15 0 2) 4 p2 0 (S8 1 0 0)))))) S 1
set_option maxHeartbeats 4000000 in
set_option maxRecDepth 100000 in
theorem bX11_writeInvoice_65 {p : Program} {e : Env} {s : State} {m : MethodId} {args : Array Value} {below : List Frame} {meth : Method} {c : Code} {post : tq_Nn → tq_St → Prop} (C : tq_At p s m meth c args cX11_writeInvoice 5 (none) ((tq_ws yX11_writeInvoice cX11_writeInvoice 5 none)) RX11 D cy z ad)  : ∀ (N : tq_Nn) (S : tq_St)  (H : Heap) (locs : List Loc) (ls : Array Slot), wbX11_writeInvoice_65 post  N S  → tq_nb z A0 s N → tq_wd D cy z H0 ad N (tq_mix S M) H → va_S (fun q => z ≤ q) s.heap H locs → lv_has ls 5 [] → tq_Wb p l e 7 241 s m args below meth c z A0 N H locs (MQ below (va_Qv (fun (u : tq_Nn × tq_St) => post u.1 u.2) (tq_PB D cy z A0 H0 ad M) (fun q => z ≤ q)) args s (z + tq_CX - s.heap.size) (A0 + tq_CY - tq_all s.heap) (fun q => z ≤ q)) (F0 m 65 ls []) := by
  obtain ⟨hx, hb, hr, hml, hown, hts, hlocks, hK, hG⟩ := id C
  have hw : ∀ w ∈ tq_W, w.before args s = true := fun w h => hts w (List.mem_cons_of_mem _ h)
  intro N S  H locs ls h hN hW hS hl
  unfold wbX11_writeInvoice_65 at h
  exact tqb_vret hx hb hr hN h hW hS dX11_writeInvoice_65 hlocks
set_option maxHeartbeats 4000000 in
set_option maxRecDepth 100000 in
theorem kX11_writeInvoice {post : tq_Nn → tq_St → Prop} {N : tq_Nn} {S : tq_St} {sz sl : Nat} {p0 : Nat} {p1 : Nat} {p2 : Nat} (h : wpX11_writeInvoice post N S p0 p1 p2) : tq_bV l yX11_writeInvoice (tq_ws yX11_writeInvoice cX11_writeInvoice 5 none) 7 241 D cy z A0 H0 ad N M S sz sl [.ref (ad 1 0), .ref (ad 9 p0), .ref (ad 8 p1), .ref (ad 2 p2)] post := by
  unfold wpX11_writeInvoice at h
  refine Met.ofW (cc := cX11_writeInvoice) (maxL := 5) (ret := none) (by decide) rfl ?_
  intro p e s m args below meth c s₁ B hml hv
  obtain ⟨rfl, ⟨hW, hK, hG⟩, rfl, rfl, hN1, hN2, hN3, hN4⟩ := hv
  have hN : tq_nb z A0 s N := ⟨hN1, hN2, hN3, hN4⟩
  have hx := B.exec
  have hb := B.bytes
  have hr := B.returns
  have hts := atoms_spec (ws := (tq_ws yX11_writeInvoice cX11_writeInvoice 5 none)) B.pre
  have hw : ∀ w ∈ tq_W, w.before _ s = true := fun w h => hts w (List.mem_cons_of_mem _ h)
  have hown : s.vm.findClass RX11 = some m.cls := findClass_of_methodNamed B.named
  have hlocks := B.notSynchronized
  have C : tq_At p s m meth c [.ref (ad 1 0), .ref (ad 9 p0), .ref (ad 8 p1), .ref (ad 2 p2)].toArray cX11_writeInvoice 5 (none) ((tq_ws yX11_writeInvoice cX11_writeInvoice 5 none)) RX11 D cy z ad := ⟨hx, hb, hr, hml, hown, hts, hlocks, hK, hG⟩
  have hS : va_S (fun q => z ≤ q) s.heap s.heap [] := va_S.rf
  have hl := lv_entry ([.ref (ad 1 0), .ref (ad 9 p0), .ref (ad 8 p1), .ref (ad 2 p2)]) (n := 5) (Nat.le_of_ble_eq_true rfl)
  rw [lg_entry_eq]
  generalize (lg_sl ([.ref (ad 1 0), .ref (ad 9 p0), .ref (ad 8 p1), .ref (ad 2 p2)]) ++ List.replicate (5 - (lg_sl ([.ref (ad 1 0), .ref (ad 9 p0), .ref (ad 8 p1), .ref (ad 2 p2)])).length) Slot.unset).toArray = ls at hl ⊢
  have hl : lv_has ls 5 [(0, .ref (ad 1 0)), (1, .ref (ad 9 p0)), (2, .ref (ad 8 p1)), (3, .ref (ad 2 p2))] := hl
  have hW : tq_wd D cy z H0 ad N (tq_mix S M) s.heap := hW
  refine tq_tight (c1 := z + N 0 0 - s.heap.size) (n1 := A0 + N 0 1 - tq_all s.heap) (by omega) (by omega) ?_
  refine lv_aload_n hx hb dX11_writeInvoice_0 rfl (lv_at hl 0 rfl) ?_
  refine lv_iconst (v := 1) hx hb dX11_writeInvoice_1 (by decide) ?_
  refine tqc_callVi (As := [.int 1]) (rest := []) (kX11_hasRoomForPapers h) ⟨hx, hb, hml, hown, hts⟩ (cwV 1 hts (tq_goodV tw_480 tw_482 tw_1 tw_115 tw_483) rfl rfl rfl (by decide +kernel) ⟨(Nat.le_of_ble_eq_true rfl), (Nat.le_of_ble_eq_true rfl)⟩) (tq_recvC hK hW (by decide) (tq_mk_1 (by decide)) rfl) hK hG hW hS rfl hl.1 rfl (Nat.le_of_ble_eq_true rfl) dX11_writeInvoice_2 hN.f (fun r2 S1 H locs h hW hS => ?_)
  refine lv_if_eq (tgt := 65) hx hb dX11_writeInvoice_5 (by decide) (fun c3 => ?_) (fun c3 => ?_)
  · have h := h.1 c3
    exact bX11_writeInvoice_65 C  _ _  _ _ _ h hN hW hS (lv_sub hl [] rfl)
  · have h := h.2 c3
    obtain ⟨b4, b5, h⟩ := h
    refine tqw_new (ci := 4) (t := 1) (fs := [.int 0, .int 0, .int 0, .int 0, .int 0, .null, .null, .null, .int 0, .int 0]) hx hb hw tq_inX3 tyX3 tyX3_ok hown (hw _ tw_488) (hw _ tw_489) (hw _ tw_126) hK hG hW hS hN rfl (by decide) (fun _ => rfl) b4 b5 dX11_writeInvoice_8 (fun i6 H hz9 hi9 hi2 hfr hN hW hS => ?_)
    generalize eN7 : tq_na N (i6 + 1) 1 i6 1 10 = N7 at hN hW ⊢
    generalize eS8 : tq_cp S1 1 i6 (fun _ => 0) = S8 at hW
    have h := h i6 hi9 hi2 hfr N7 eN7.symm S8 eS8.symm
    refine lv_dup hx hb dX11_writeInvoice_11 rfl ?_
    refine lv_aload_n hx hb dX11_writeInvoice_12 rfl (lv_at hl 0 rfl) ?_
    refine tqc_get (v := .ref (ad 15 0)) hx hb hw tq_inX11 hown hK hW (by decide) (tq_mk_1 (by decide)) rfl 5 (by decide) (hw _ tw_342) (fun _ h9 => h9) rfl dX11_writeInvoice_13 ?_
    refine tqc_callVi (As := []) (rest := [.ref (ad 1 i6), .ref (ad 1 i6)]) (kJl_size (post := fun u r => u = S8 ∧ r = S8 15 0 2) (by decide) (tq_mk_15 (by decide)) ⟨rfl, rfl⟩) ⟨hx, hb, hml, hown, hts⟩ (cwV 0 hts (tq_goodV tw_484 tw_485 tw_486 tw_118 tw_487) rfl rfl rfl (by decide +kernel) ⟨(Nat.le_of_ble_eq_true rfl), (Nat.le_of_ble_eq_true rfl)⟩) (tq_recvL hK hW (by decide) (tq_mk_15 (by decide))) hK hG hW hS rfl hl.1 rfl (Nat.le_of_ble_eq_true rfl) dX11_writeInvoice_16 hN.f (fun r11 S10 H locs q9 hW hS => ?_)
    rw [q9.1] at hW
    rw [q9.2]
    refine lv_iconst (v := 4) hx hb dX11_writeInvoice_19 (by decide) ?_
    refine lv_aload_n hx hb dX11_writeInvoice_20 rfl (lv_at hl 3 rfl) ?_
    refine lv_iconst (v := 0) hx hb dX11_writeInvoice_21 (by decide) ?_
    refine lv_aload_n hx hb dX11_writeInvoice_22 rfl (lv_at hl 0 rfl) ?_
    refine tqc_get (v := .int (S8 1 0 0)) hx hb hw tq_inX11 hown hK hW (by decide) (tq_mk_1 (by decide)) rfl 0 (by decide) (hw _ tw_337) (fun _ h9 => h9) rfl dX11_writeInvoice_23 ?_
    refine tqb_callIv (As := [.int (S8 15 0 2), .int 4, .ref (ad 2 p2), .int 0, .int (S8 1 0 0)]) (rest := [.ref (ad 1 i6)]) (kX3_init h) ⟨hx, hb, hml, hown, hts⟩ (cwI 5 hts (tq_goodO tw_492) rfl rfl rfl (hw _ tw_126) (hw _ tw_490) (hw _ tw_491) rfl (by decide +kernel) ⟨(Nat.le_of_ble_eq_true rfl), (Nat.le_of_ble_eq_true rfl)⟩) hK hG hW hS rfl hl.1 rfl (Nat.le_of_ble_eq_true rfl) dX11_writeInvoice_26 hN (fun N12 S13 H locs h hN hW hS => ?_)
    refine W.eq (g2 := F0 m 29 ls [.ref (ad 7 i6)]) (by rw [tq_ad1_7 hG.adr hi9]) ?_
    refine lv_astore (lv' := [(4, .ref (ad 7 i6)), (0, .ref (ad 1 0)), (1, .ref (ad 9 p0)), (2, .ref (ad 8 p1)), (3, .ref (ad 2 p2))]) hx hb dX11_writeInvoice_29 hl (by decide) rfl (fun ls hl => ?_)
    refine lv_aload hx hb dX11_writeInvoice_31 (lv_at hl 0 rfl) ?_
    refine lv_aload_n hx hb dX11_writeInvoice_33 rfl (lv_at hl 2 rfl) ?_
    obtain ⟨b14, h⟩ := h
    refine tqc_get (v := .int (S13 9 p0 0)) hx hb hw tq_inX10 hown hK hW (by decide) (tq_mk_9 b14) rfl 0 (by decide) (hw _ tw_987) (fun _ h9 => h9) rfl dX11_writeInvoice_34 ?_
    obtain ⟨b15, h⟩ := h
    refine tqc_put7 hx hb hw tq_inX3 tq_inX1 hown hK hW hS b15 8 (by decide) (hw _ tw_536) (fun _ h9 => h9) dX11_writeInvoice_37 (fun H locs hW hS => ?_)
    generalize eS16 : tq_up S13 7 i6 8 (S13 9 p0 0) = S16 at hW
    have h := h S16 eS16.symm
    refine lv_aload hx hb dX11_writeInvoice_40 (lv_at hl 0 rfl) ?_
    refine lv_aload_n hx hb dX11_writeInvoice_42 rfl (lv_at hl 3 rfl) ?_
    refine tqc_callV7v (As := [.ref (ad 8 p1)]) (rest := []) (kX3_comesAboard h) ⟨hx, hb, hml, hown, hts⟩ (cwV 1 hts (tq_goodV tw_840 tw_841 tw_842 tw_126 tw_845) rfl rfl rfl (by decide +kernel) ⟨(Nat.le_of_ble_eq_true rfl), (Nat.le_of_ble_eq_true rfl)⟩) (va_cwU (owner := "TwoSeas$Paper") 1 hts (tq_goodU tw_840 tw_843 tw_844 tw_841 tw_126 tw_845) rfl rfl rfl rfl (by decide +kernel) ⟨(Nat.le_of_ble_eq_true rfl), (Nat.le_of_ble_eq_true rfl)⟩) b15 hK hG hW hS rfl hl.1 rfl (Nat.le_of_ble_eq_true rfl) dX11_writeInvoice_43 hN.f (fun S17 H locs h hW hS => ?_)
    refine lv_aload_n hx hb dX11_writeInvoice_46 rfl (lv_at hl 1 rfl) ?_
    refine tqc_get (v := .ref (ad 15 0)) hx hb hw tq_inX11 hown hK hW (by decide) (tq_mk_1 (by decide)) rfl 5 (by decide) (hw _ tw_342) (fun _ h9 => h9) rfl dX11_writeInvoice_47 ?_
    refine lv_aload hx hb dX11_writeInvoice_50 (lv_at hl 0 rfl) ?_
    obtain ⟨b21, h⟩ := h
    refine tqb_callVi (C := RJx4a65c) (As := [.ref (ad 7 i6)]) (rest := []) (kJl_add (post := fun N1 S1 r => r = 1 ∧ tq_added N12 S17 15 16 0 i6 N1 S1) (tq_LK_15 hG.adr (by decide)) b21 (fun N1 S1 q => ⟨rfl, q⟩)) ⟨hx, hb, hml, hown, hts⟩ (cwV 1 hts (tq_goodV tw_806 tw_746 tw_747 tw_118 tw_748) rfl rfl rfl (by decide +kernel) ⟨(Nat.le_of_ble_eq_true rfl), (Nat.le_of_ble_eq_true rfl)⟩) (tq_recvL hK hW (by decide) (tq_mk_15 (by decide))) hK hG hW hS rfl hl.1 rfl (Nat.le_of_ble_eq_true rfl) dX11_writeInvoice_52 hN (fun r20 N18 S19 H locs q9 hN hW hS => ?_)
    rw [q9.1]
    have h := h N18 S19 q9.2
    refine lv_pop hx hb dX11_writeInvoice_55 rfl ?_
    refine lv_aload_n hx hb dX11_writeInvoice_56 rfl (lv_at hl 2 rfl) ?_
    refine lv_aload hx hb dX11_writeInvoice_57 (lv_at hl 0 rfl) ?_
    obtain ⟨b22, h⟩ := h
    refine tqc_get7 (v := .int (S19 7 i6 0)) hx hb hw tq_inX3 tq_inX1 hown hK hW b22 0 (by decide) (hw _ tw_508) (fun _ h9 => h9) rfl dX11_writeInvoice_59 ?_
    obtain ⟨b23, h⟩ := h
    refine tqc_put hx hb hw tq_inX10 tyX10 tyX10_ok nmX10 hown hK hW hS (by decide) (tq_mk_9 b23) rfl 10 (by decide) (hw _ tw_1006) (fun _ h9 => h9) rfl rfl rfl rfl (tq_mk_9 b23) dX11_writeInvoice_62 (fun H locs hW hS => ?_)
    generalize eS24 : tq_up S19 9 p0 10 (S19 7 i6 0) = S24 at hW
    have h := h S24 eS24.symm
    exact bX11_writeInvoice_65 C  _ _  _ _ _ h hN hW hS (lv_sub hl [] rfl)
