variable {l : Launch} {D : va_G} {cy : Nat → ClassId} {z : Nat} {H0 : Heap} {ad : Nat → Nat → Nat} {N : tq_Nn} {M : tq_St}
-- X11 ladeShip
def wbX11_ladeShip_118 (N : tq_Nn) (post : tq_St → Prop)  (S : tq_St) : Prop :=
  post S
def wbX11_ladeShip_119 (N : tq_Nn) (post : tq_St → Prop) (L8 : tq_St → Nat → Nat → Int32 → Int32 → Prop) (S : tq_St) (x1 : Nat) (x2 : Nat) (x3 : Int32) (x4 : Int32) : Prop :=
  L8 S x1 x2 x3 (x4 + 1)
def wbX11_ladeShip_8 (N : tq_Nn) (post : tq_St → Prop) : Nat → tq_St → Nat → Nat → Int32 → Int32 → Prop
  | 0, _, _, _, _, _ => False
  | n + 1, S, x1, x2, x3, x4 =>
    ((S 19 0 2) ≤ x4 → (post S)) ∧ (¬ (S 19 0 2) ≤ x4 → (tq_gok N S 19 20 0 x4 ∧ (N 8 (tq_el S 19 20 0 x4) = 1 ∧ (x2 < 5 ∧ ((¬ (S 8 (tq_el S 19 20 0 x4) 3) = (S 2 x2 0) → (wbX11_ladeShip_119 N post  (wbX11_ladeShip_8 N post n) S x1 x2 x3 x4)) ∧ ((S 8 (tq_el S 19 20 0 x4) 3) = (S 2 x2 0) → (((S 8 (tq_el S 19 20 0 x4) 5) = 0 → (wbX11_ladeShip_119 N post  (wbX11_ladeShip_8 N post n) S x1 x2 x3 x4)) ∧ (¬ (S 8 (tq_el S 19 20 0 x4) 5) = 0 → (vp_in x3 4 ∧ (wpX8_freeTons N (fun S13 r14 => N 10 x1 = 1 ∧ (((if (if r14 < (S 30 x2 x3.toNatClampNeg) then r14 else (S 30 x2 x3.toNatClampNeg)) < (S13 10 x1 4) then (if r14 < (S 30 x2 x3.toNatClampNeg) then r14 else (S 30 x2 x3.toNatClampNeg)) else (S13 10 x1 4)) ≤ 0 → (wbX11_ladeShip_118 N post S13 )) ∧ (¬ (if (if r14 < (S 30 x2 x3.toNatClampNeg) then r14 else (S 30 x2 x3.toNatClampNeg)) < (S13 10 x1 4) then (if r14 < (S 30 x2 x3.toNatClampNeg) then r14 else (S 30 x2 x3.toNatClampNeg)) else (S13 10 x1 4)) ≤ 0 → (∀ S17, S17 = tq_up S13 30 x2 x3.toNatClampNeg ((S13 30 x2 x3.toNatClampNeg) - (if (if r14 < (S 30 x2 x3.toNatClampNeg) then r14 else (S 30 x2 x3.toNatClampNeg)) < (S13 10 x1 4) then (if r14 < (S 30 x2 x3.toNatClampNeg) then r14 else (S 30 x2 x3.toNatClampNeg)) else (S13 10 x1 4))) → (N 54 (tq_el S 19 20 0 x4) = 1 ∧ (∀ S19, S19 = tq_up S17 54 (tq_el S 19 20 0 x4) x3.toNatClampNeg ((S17 54 (tq_el S 19 20 0 x4) x3.toNatClampNeg) + (if (if r14 < (S 30 x2 x3.toNatClampNeg) then r14 else (S 30 x2 x3.toNatClampNeg)) < (S13 10 x1 4) then (if r14 < (S 30 x2 x3.toNatClampNeg) then r14 else (S 30 x2 x3.toNatClampNeg)) else (S13 10 x1 4))) → (wpX11_enterFor N (fun S20 => wbX11_ladeShip_118 N post S20 ) S19 x1 x2 (if (if r14 < (S 30 x2 x3.toNatClampNeg) then r14 else (S 30 x2 x3.toNatClampNeg)) < (S13 10 x1 4) then (if r14 < (S 30 x2 x3.toNatClampNeg) then r14 else (S 30 x2 x3.toNatClampNeg)) else (S13 10 x1 4)) 0))))))) S (tq_el S 19 20 0 x4)))))))))))
def wpX11_ladeShip (N : tq_Nn) (post : tq_St → Prop) (S : tq_St) (p0 : Nat) (p1 : Nat) : Prop :=
  N 10 p0 = 1 ∧ (∃ nq, wbX11_ladeShip_8 N post nq S p0 p1 (S 10 p0 3) 0)
set_option maxHeartbeats 4000000 in
set_option maxRecDepth 100000 in
theorem bX11_ladeShip_118 {p : Program} {e : Env} {s : State} {m : MethodId} {args : Array Value} {below : List Frame} {meth : Method} {c : Code} {post : tq_St → Prop} (C : tq_At p s m meth c args cX11_ladeShip 8 (none) ((tq_ws yX11_ladeShip cX11_ladeShip 8 none)) RX11 D cy z ad)  : ∀ (S : tq_St)  (H : Heap) (locs : List Loc) (ls : Array Slot), wbX11_ladeShip_118 N post   S  → tq_wd D cy z H0 ad N (tq_mix S M) H → va_S (fun q => z ≤ q) s.heap H locs → lv_has ls 8 [] → W p l e (tq_rm 3 64) s m args below meth c H locs 0 0 (MQ below (va_Qv (fun u => post u) (fun u => tq_P D cy z H0 ad N u M) (fun q => z ≤ q)) args s 0 0 (fun q => z ≤ q)) (F0 m 118 ls []) := by
  obtain ⟨hx, hb, hr, hml, hown, hts, hlocks, hK, hG⟩ := id C
  have hw : ∀ w ∈ tq_W, w.before args s = true := fun w h => hts w (List.mem_cons_of_mem _ h)
  intro S  H locs ls h hW hS hl
  unfold wbX11_ladeShip_118 at h
  exact W.vret hx hb hr (fun t ht hWm => ⟨⟨S, rfl, h, tq_pe ht hW⟩, hS.F ht⟩) hS.2.2 dX11_ladeShip_118
set_option maxHeartbeats 4000000 in
set_option maxRecDepth 100000 in
theorem bX11_ladeShip_119 {p : Program} {e : Env} {s : State} {m : MethodId} {args : Array Value} {below : List Frame} {meth : Method} {c : Code} {post : tq_St → Prop} (C : tq_At p s m meth c args cX11_ladeShip 8 (none) ((tq_ws yX11_ladeShip cX11_ladeShip 8 none)) RX11 D cy z ad) {L8 : tq_St → Nat → Nat → Int32 → Int32 → Prop} (hL8 : ∀ (S : tq_St) (x1 : Nat) (x2 : Nat) (x3 : Int32) (x4 : Int32) (H : Heap) (locs : List Loc) (ls : Array Slot), L8 S x1 x2 x3 x4 → tq_wd D cy z H0 ad N (tq_mix S M) H → va_S (fun q => z ≤ q) s.heap H locs → lv_has ls 8 [(0, .ref (ad 1 0)), (1, .ref (ad 10 x1)), (2, .ref (ad 2 x2)), (3, .int x3), (4, .int x4)] → W p l e (tq_rm 3 64) s m args below meth c H locs 0 0 (MQ below (va_Qv (fun u => post u) (fun u => tq_P D cy z H0 ad N u M) (fun q => z ≤ q)) args s 0 0 (fun q => z ≤ q)) (F0 m 8 ls [])) : ∀ (S : tq_St) (x1 : Nat) (x2 : Nat) (x3 : Int32) (x4 : Int32) (H : Heap) (locs : List Loc) (ls : Array Slot), wbX11_ladeShip_119 N post  L8 S x1 x2 x3 x4 → tq_wd D cy z H0 ad N (tq_mix S M) H → va_S (fun q => z ≤ q) s.heap H locs → lv_has ls 8 [(0, .ref (ad 1 0)), (1, .ref (ad 10 x1)), (2, .ref (ad 2 x2)), (3, .int x3), (4, .int x4)] → W p l e (tq_rm 3 64) s m args below meth c H locs 0 0 (MQ below (va_Qv (fun u => post u) (fun u => tq_P D cy z H0 ad N u M) (fun q => z ≤ q)) args s 0 0 (fun q => z ≤ q)) (F0 m 119 ls []) := by
  obtain ⟨hx, hb, hr, hml, hown, hts, hlocks, hK, hG⟩ := id C
  have hw : ∀ w ∈ tq_W, w.before args s = true := fun w h => hts w (List.mem_cons_of_mem _ h)
  intro S x1 x2 x3 x4 H locs ls h hW hS hl
  unfold wbX11_ladeShip_119 at h
  refine lv_iinc (v := x4 + 1) (lv' := [(4, .int (x4 + 1)), (0, .ref (ad 1 0)), (1, .ref (ad 10 x1)), (2, .ref (ad 2 x2)), (3, .int x3)]) hx hb dX11_ladeShip_119 hl (k := 4) rfl rfl (by decide) rfl (fun ls hl => ?_)
  refine lv_goto (tgt := 8) hx hb dX11_ladeShip_122 (by decide) ?_
  exact hL8 _ _ _ _ _ _ _ _ h hW hS (lv_sub hl [1, 2, 3, 4, 0] rfl)
set_option maxHeartbeats 4000000 in
set_option maxRecDepth 100000 in
theorem bX11_ladeShip_8 {p : Program} {e : Env} {s : State} {m : MethodId} {args : Array Value} {below : List Frame} {meth : Method} {c : Code} {post : tq_St → Prop} (C : tq_At p s m meth c args cX11_ladeShip 8 (none) ((tq_ws yX11_ladeShip cX11_ladeShip 8 none)) RX11 D cy z ad)  : ∀ n : Nat, ∀ (S : tq_St) (x1 : Nat) (x2 : Nat) (x3 : Int32) (x4 : Int32) (H : Heap) (locs : List Loc) (ls : Array Slot), wbX11_ladeShip_8 N post   n S x1 x2 x3 x4 → tq_wd D cy z H0 ad N (tq_mix S M) H → va_S (fun q => z ≤ q) s.heap H locs → lv_has ls 8 [(0, .ref (ad 1 0)), (1, .ref (ad 10 x1)), (2, .ref (ad 2 x2)), (3, .int x3), (4, .int x4)] → W p l e (tq_rm 3 64) s m args below meth c H locs 0 0 (MQ below (va_Qv (fun u => post u) (fun u => tq_P D cy z H0 ad N u M) (fun q => z ≤ q)) args s 0 0 (fun q => z ≤ q)) (F0 m 8 ls []) := by
  obtain ⟨hx, hb, hr, hml, hown, hts, hlocks, hK, hG⟩ := id C
  have hw : ∀ w ∈ tq_W, w.before args s = true := fun w h => hts w (List.mem_cons_of_mem _ h)
  intro n
  induction n with
  | zero =>
    intro S x1 x2 x3 x4 H locs ls h
    exact absurd h (by unfold wbX11_ladeShip_8; exact id)
  | succ n ih =>
    intro S x1 x2 x3 x4 H locs ls h hW hS hl
    unfold wbX11_ladeShip_8 at h
    refine lv_iload hx hb dX11_ladeShip_8 (lv_at hl 4 rfl) ?_
    refine lv_aload_n hx hb dX11_ladeShip_10 rfl (lv_at hl 0 rfl) ?_
    refine tqc_get (v := .ref (ad 19 0)) hx hb hw tq_inX11 hown hK hW (by decide) (tq_mk_1 (by decide)) rfl 7 (by decide) (hw _ tw_344) (fun _ h9 => h9) rfl dX11_ladeShip_11 ?_
    refine tqc_callVi (As := []) (rest := [.int x4]) (kJl_size (post := fun u r => u = S ∧ r = S 19 0 2) (by decide) (tq_mk_19 (by decide)) ⟨rfl, rfl⟩) ⟨hx, hb, hml, hown, hts⟩ (cwV 0 hts (tq_goodV tw_484 tw_485 tw_486 tw_118 tw_487) rfl rfl rfl (by decide +kernel) ⟨(Nat.le_of_ble_eq_true rfl), (Nat.le_of_ble_eq_true rfl)⟩) (tq_recvL hK hW (by decide) (tq_mk_19 (by decide))) hK hG hW hS rfl hl.1 rfl (Nat.le_of_ble_eq_true rfl) dX11_ladeShip_14 ⟨(Nat.le_of_ble_eq_true rfl), (Nat.le_of_ble_eq_true rfl)⟩ (fun r3 S2 H locs q9 hW hS => ?_)
    rw [q9.1] at hW
    rw [q9.2]
    refine lv_icmp_ge (tgt := 125) hx hb dX11_ladeShip_17 (by decide) (fun c4 => ?_) (fun c4 => ?_)
    · have h := h.1 c4
      exact W.vret hx hb hr (fun t ht hWm => ⟨⟨S, rfl, h, tq_pe ht hW⟩, hS.F ht⟩) hS.2.2 dX11_ladeShip_125
    · have h := h.2 c4
      refine lv_aload_n hx hb dX11_ladeShip_20 rfl (lv_at hl 0 rfl) ?_
      refine tqc_get (v := .ref (ad 19 0)) hx hb hw tq_inX11 hown hK hW (by decide) (tq_mk_1 (by decide)) rfl 7 (by decide) (hw _ tw_344) (fun _ h9 => h9) rfl dX11_ladeShip_21 ?_
      refine lv_iload hx hb dX11_ladeShip_24 (lv_at hl 4 rfl) ?_
      obtain ⟨b7, h⟩ := h
      refine tqc_callVr (kr := 8) (As := [.int x4]) (rest := []) (kJl_get (kd := 20) (post := fun u i => u = S ∧ i = tq_el S 19 20 0 x4) (by decide) (by decide) (tq_mk_19 (by decide)) (fun q9 => tq_mk_20 q9) b7 ⟨rfl, rfl⟩) ⟨hx, hb, hml, hown, hts⟩ (cwV 1 hts (tq_goodV tw_827 tw_828 tw_829 tw_118 tw_830) rfl rfl rfl (by decide +kernel) ⟨(Nat.le_of_ble_eq_true rfl), (Nat.le_of_ble_eq_true rfl)⟩) (tq_recvL hK hW (by decide) (tq_mk_19 (by decide))) hK hG hW hS rfl hl.1 rfl (Nat.le_of_ble_eq_true rfl) dX11_ladeShip_26 ⟨(Nat.le_of_ble_eq_true rfl), (Nat.le_of_ble_eq_true rfl)⟩ (fun i6 S5 H locs q9 hW hS => ?_)
      rw [q9.1] at hW
      rw [q9.2]
      obtain ⟨b8, h⟩ := h
      refine va_castS hx hb hown (hw _ tw_839) (hK.1 9 _ rfl).2 (tq_recvC hK hW (by decide) (tq_mk_8 b8) rfl) dX11_ladeShip_29 ?_
      refine lv_astore (lv' := [(5, .ref (ad 8 (tq_el S 19 20 0 x4))), (0, .ref (ad 1 0)), (1, .ref (ad 10 x1)), (2, .ref (ad 2 x2)), (3, .int x3), (4, .int x4)]) hx hb dX11_ladeShip_32 hl (by decide) rfl (fun ls hl => ?_)
      refine lv_aload hx hb dX11_ladeShip_34 (lv_at hl 0 rfl) ?_
      refine tqc_get (v := .int (S 8 (tq_el S 19 20 0 x4) 3)) hx hb hw tq_inX8 hown hK hW (by decide) (tq_mk_8 b8) rfl 3 (by decide) (hw _ tw_904) (fun _ h9 => h9) rfl dX11_ladeShip_36 ?_
      refine lv_aload_n hx hb dX11_ladeShip_39 rfl (lv_at hl 3 rfl) ?_
      obtain ⟨b9, h⟩ := h
      refine tqc_get (v := .int (S 2 x2 0)) hx hb hw tq_inX5 hown hK hW (by decide) (tq_mk_2 b9) rfl 0 (by decide) (hw _ tw_253) (fun _ h9 => h9) rfl dX11_ladeShip_40 ?_
      refine lv_icmp_ne (tgt := 119) hx hb dX11_ladeShip_43 (by decide) (fun c10 => ?_) (fun c10 => ?_)
      · have h := h.1 c10
        exact bX11_ladeShip_119 C (fun M9 a09 a19 a29 a39 H9 q9 ls9 h9 hW9 hS9 hl9 => ih M9 a09 a19 a29 a39 H9 q9 ls9 h9 hW9 hS9 hl9) _ _ _ _ _ _ _ _ h hW hS (lv_sub hl [1, 2, 3, 4, 5] rfl)
      · have h := h.2 c10
        refine lv_aload hx hb dX11_ladeShip_46 (lv_at hl 0 rfl) ?_
        refine tqc_get (v := .int (S 8 (tq_el S 19 20 0 x4) 5)) hx hb hw tq_inX8 hown hK hW (by decide) (tq_mk_8 b8) rfl 5 (by decide) (hw _ tw_907) (fun _ h9 => h9) rfl dX11_ladeShip_48 ?_
        refine lv_if_eq (tgt := 119) hx hb dX11_ladeShip_51 (by decide) (fun c11 => ?_) (fun c11 => ?_)
        · have h := h.1 c11
          exact bX11_ladeShip_119 C (fun M9 a09 a19 a29 a39 H9 q9 ls9 h9 hW9 hS9 hl9 => ih M9 a09 a19 a29 a39 H9 q9 ls9 h9 hW9 hS9 hl9) _ _ _ _ _ _ _ _ h hW hS (lv_sub hl [1, 2, 3, 4, 5] rfl)
        · have h := h.2 c11
          refine lv_aload_n hx hb dX11_ladeShip_54 rfl (lv_at hl 3 rfl) ?_
          refine tqc_get (v := .ref (ad 30 x2)) hx hb hw tq_inX5 hown hK hW (by decide) (tq_mk_2 b9) rfl 2 (by decide) (hw _ tw_258) (fun _ h9 => h9) rfl dX11_ladeShip_55 ?_
          refine lv_iload_n hx hb dX11_ladeShip_58 rfl (lv_at hl 4 rfl) ?_
          obtain ⟨b12, h⟩ := h
          refine tqc_iald (jn := x3.toNatClampNeg) hx hb hK hW (by decide) (tq_mk_30 b9) b12 rfl dX11_ladeShip_59 ?_
          refine lv_aload hx hb dX11_ladeShip_60 (lv_at hl 0 rfl) ?_
          refine tqc_callVi (As := []) (rest := [.int (S 30 x2 x3.toNatClampNeg)]) (kX8_freeTons h) ⟨hx, hb, hml, hown, hts⟩ (cwV 0 hts (tq_goodV tw_963 tw_964 tw_965 tw_137 tw_966) rfl rfl rfl (by decide +kernel) ⟨(Nat.le_of_ble_eq_true rfl), (Nat.le_of_ble_eq_true rfl)⟩) (tq_recvC hK hW (by decide) (tq_mk_8 b8) rfl) hK hG hW hS rfl hl.1 rfl (Nat.le_of_ble_eq_true rfl) dX11_ladeShip_62 ⟨(Nat.le_of_ble_eq_true rfl), (Nat.le_of_ble_eq_true rfl)⟩ (fun r14 S13 H locs h hW hS => ?_)
          refine va_mmin hx hb (hml.trans hl.1.symm) hown (hw _ tw_1167) (hw _ tw_797) (hw _ tw_132) (hw _ tw_798) (Nat.le_of_ble_eq_true rfl) (Nat.le_of_ble_eq_true rfl) (Nat.zero_le _) (Nat.zero_le _) dX11_ladeShip_65 ?_
          refine lv_istore (lv' := [(6, .int (if r14 < (S 30 x2 x3.toNatClampNeg) then r14 else (S 30 x2 x3.toNatClampNeg))), (5, .ref (ad 8 (tq_el S 19 20 0 x4))), (0, .ref (ad 1 0)), (1, .ref (ad 10 x1)), (2, .ref (ad 2 x2)), (3, .int x3), (4, .int x4)]) hx hb dX11_ladeShip_68 hl (by decide) rfl (fun ls hl => ?_)
          refine lv_aload_n hx hb dX11_ladeShip_70 rfl (lv_at hl 3 rfl) ?_
          obtain ⟨b15, h⟩ := h
          refine tqc_get (v := .int (S13 10 x1 4)) hx hb hw tq_inX4 hown hK hW (by decide) (tq_mk_10 b15) rfl 4 (by decide) (hw _ tw_671) (fun _ h9 => h9) rfl dX11_ladeShip_71 ?_
          refine lv_iload hx hb dX11_ladeShip_74 (lv_at hl 0 rfl) ?_
          refine va_mmin hx hb (hml.trans hl.1.symm) hown (hw _ tw_1167) (hw _ tw_797) (hw _ tw_132) (hw _ tw_798) (Nat.le_of_ble_eq_true rfl) (Nat.le_of_ble_eq_true rfl) (Nat.zero_le _) (Nat.zero_le _) dX11_ladeShip_76 ?_
          refine lv_istore (lv' := [(7, .int (if (if r14 < (S 30 x2 x3.toNatClampNeg) then r14 else (S 30 x2 x3.toNatClampNeg)) < (S13 10 x1 4) then (if r14 < (S 30 x2 x3.toNatClampNeg) then r14 else (S 30 x2 x3.toNatClampNeg)) else (S13 10 x1 4))), (6, .int (if r14 < (S 30 x2 x3.toNatClampNeg) then r14 else (S 30 x2 x3.toNatClampNeg))), (5, .ref (ad 8 (tq_el S 19 20 0 x4))), (0, .ref (ad 1 0)), (1, .ref (ad 10 x1)), (2, .ref (ad 2 x2)), (3, .int x3), (4, .int x4)]) hx hb dX11_ladeShip_79 hl (by decide) rfl (fun ls hl => ?_)
          refine lv_iload hx hb dX11_ladeShip_81 (lv_at hl 0 rfl) ?_
          refine lv_if_le (tgt := 118) hx hb dX11_ladeShip_83 (by decide) (fun c16 => ?_) (fun c16 => ?_)
          · have h := h.1 c16
            exact bX11_ladeShip_118 C  _  _ _ _ h hW hS (lv_sub hl [] rfl)
          · have h := h.2 c16
            refine lv_aload_n hx hb dX11_ladeShip_86 rfl (lv_at hl 5 rfl) ?_
            refine tqc_get (v := .ref (ad 30 x2)) hx hb hw tq_inX5 hown hK hW (by decide) (tq_mk_2 b9) rfl 2 (by decide) (hw _ tw_258) (fun _ h9 => h9) rfl dX11_ladeShip_87 ?_
            refine lv_iload_n hx hb dX11_ladeShip_90 rfl (lv_at hl 6 rfl) ?_
            refine lv_dup2_11 hx hb dX11_ladeShip_91 rfl rfl ?_
            refine tqc_iald (jn := x3.toNatClampNeg) hx hb hK hW (by decide) (tq_mk_30 b9) b12 rfl dX11_ladeShip_92 ?_
            refine lv_iload hx hb dX11_ladeShip_93 (lv_at hl 0 rfl) ?_
            refine lv_isub hx hb dX11_ladeShip_95 ?_
            refine tqc_iast (jn := x3.toNatClampNeg) hx hb hK hW hS (by decide) (tq_mk_30 b9) b12 rfl (tq_mk_30 b9) dX11_ladeShip_96 (fun H locs hW hS => ?_)
            generalize eS17 : tq_up S13 30 x2 x3.toNatClampNeg ((S13 30 x2 x3.toNatClampNeg) - (if (if r14 < (S 30 x2 x3.toNatClampNeg) then r14 else (S 30 x2 x3.toNatClampNeg)) < (S13 10 x1 4) then (if r14 < (S 30 x2 x3.toNatClampNeg) then r14 else (S 30 x2 x3.toNatClampNeg)) else (S13 10 x1 4))) = S17 at hW
            have h := h S17 eS17.symm
            refine lv_aload hx hb dX11_ladeShip_97 (lv_at hl 2 rfl) ?_
            refine tqc_get (v := .ref (ad 54 (tq_el S 19 20 0 x4))) hx hb hw tq_inX8 hown hK hW (by decide) (tq_mk_8 b8) rfl 8 (by decide) (hw _ tw_914) (fun _ h9 => h9) rfl dX11_ladeShip_99 ?_
            refine lv_iload_n hx hb dX11_ladeShip_102 rfl (lv_at hl 6 rfl) ?_
            refine lv_dup2_11 hx hb dX11_ladeShip_103 rfl rfl ?_
            obtain ⟨b18, h⟩ := h
            refine tqc_iald (jn := x3.toNatClampNeg) hx hb hK hW (by decide) (tq_mk_54 b18) b12 rfl dX11_ladeShip_104 ?_
            refine lv_iload hx hb dX11_ladeShip_105 (lv_at hl 0 rfl) ?_
            refine lv_iadd hx hb dX11_ladeShip_107 ?_
            refine tqc_iast (jn := x3.toNatClampNeg) hx hb hK hW hS (by decide) (tq_mk_54 b18) b12 rfl (tq_mk_54 b18) dX11_ladeShip_108 (fun H locs hW hS => ?_)
            generalize eS19 : tq_up S17 54 (tq_el S 19 20 0 x4) x3.toNatClampNeg ((S17 54 (tq_el S 19 20 0 x4) x3.toNatClampNeg) + (if (if r14 < (S 30 x2 x3.toNatClampNeg) then r14 else (S 30 x2 x3.toNatClampNeg)) < (S13 10 x1 4) then (if r14 < (S 30 x2 x3.toNatClampNeg) then r14 else (S 30 x2 x3.toNatClampNeg)) else (S13 10 x1 4))) = S19 at hW
            have h := h S19 eS19.symm
            refine lv_aload_n hx hb dX11_ladeShip_109 rfl (lv_at hl 3 rfl) ?_
            refine lv_aload_n hx hb dX11_ladeShip_110 rfl (lv_at hl 4 rfl) ?_
            refine lv_aload_n hx hb dX11_ladeShip_111 rfl (lv_at hl 5 rfl) ?_
            refine lv_iload hx hb dX11_ladeShip_112 (lv_at hl 0 rfl) ?_
            refine lv_iconst (v := 0) hx hb dX11_ladeShip_114 (by decide) ?_
            refine tqc_callVv (As := [.ref (ad 10 x1), .ref (ad 2 x2), .int (if (if r14 < (S 30 x2 x3.toNatClampNeg) then r14 else (S 30 x2 x3.toNatClampNeg)) < (S13 10 x1 4) then (if r14 < (S 30 x2 x3.toNatClampNeg) then r14 else (S 30 x2 x3.toNatClampNeg)) else (S13 10 x1 4)), .int 0]) (rest := []) (kX11_enterFor h) ⟨hx, hb, hml, hown, hts⟩ (cwV 4 hts (tq_goodV tw_1149 tw_1151 tw_38 tw_115 tw_1152) rfl rfl rfl (by decide +kernel) ⟨(Nat.le_of_ble_eq_true rfl), (Nat.le_of_ble_eq_true rfl)⟩) (tq_recvC hK hW (by decide) (tq_mk_1 (by decide)) rfl) hK hG hW hS rfl hl.1 rfl (Nat.le_of_ble_eq_true rfl) dX11_ladeShip_115 ⟨(Nat.le_of_ble_eq_true rfl), (Nat.le_of_ble_eq_true rfl)⟩ (fun S20 H locs h hW hS => ?_)
            exact bX11_ladeShip_118 C  _  _ _ _ h hW hS (lv_sub hl [] rfl)
set_option maxHeartbeats 4000000 in
set_option maxRecDepth 100000 in
theorem kX11_ladeShip {post : tq_St → Prop} {S : tq_St} {p0 : Nat} {p1 : Nat} (h : wpX11_ladeShip N post S p0 p1) : tq_sV l yX11_ladeShip (tq_ws yX11_ladeShip cX11_ladeShip 8 none) 3 64 D cy z H0 ad N M S [.ref (ad 1 0), .ref (ad 10 p0), .ref (ad 2 p1)] post := by
  unfold wpX11_ladeShip at h
  refine Met.ofW (cc := cX11_ladeShip) (maxL := 8) (ret := none) (by decide) rfl ?_
  intro p e s m args below meth c s₁ B hml hv
  obtain ⟨rfl, hW, hK, hG⟩ := hv
  have hx := B.exec
  have hb := B.bytes
  have hr := B.returns
  have hts := atoms_spec (ws := (tq_ws yX11_ladeShip cX11_ladeShip 8 none)) B.pre
  have hw : ∀ w ∈ tq_W, w.before _ s = true := fun w h => hts w (List.mem_cons_of_mem _ h)
  have hown : s.vm.findClass RX11 = some m.cls := findClass_of_methodNamed B.named
  have hlocks := B.notSynchronized
  have C : tq_At p s m meth c [.ref (ad 1 0), .ref (ad 10 p0), .ref (ad 2 p1)].toArray cX11_ladeShip 8 (none) ((tq_ws yX11_ladeShip cX11_ladeShip 8 none)) RX11 D cy z ad := ⟨hx, hb, hr, hml, hown, hts, hlocks, hK, hG⟩
  have hS : va_S (fun q => z ≤ q) s.heap s.heap [] := va_S.rf
  have hl := lv_entry ([.ref (ad 1 0), .ref (ad 10 p0), .ref (ad 2 p1)]) (n := 8) (Nat.le_of_ble_eq_true rfl)
  rw [lg_entry_eq]
  generalize (lg_sl ([.ref (ad 1 0), .ref (ad 10 p0), .ref (ad 2 p1)]) ++ List.replicate (8 - (lg_sl ([.ref (ad 1 0), .ref (ad 10 p0), .ref (ad 2 p1)])).length) Slot.unset).toArray = ls at hl ⊢
  have hl : lv_has ls 8 [(0, .ref (ad 1 0)), (1, .ref (ad 10 p0)), (2, .ref (ad 2 p1))] := hl
  have hW : tq_wd D cy z H0 ad N (tq_mix S M) s.heap := hW
  refine lv_aload_n hx hb dX11_ladeShip_0 rfl (lv_at hl 1 rfl) ?_
  obtain ⟨b1, h⟩ := h
  refine tqc_get (v := .int (S 10 p0 3)) hx hb hw tq_inX4 hown hK hW (by decide) (tq_mk_10 b1) rfl 3 (by decide) (hw _ tw_669) (fun _ h9 => h9) rfl dX11_ladeShip_1 ?_
  refine lv_istore_n (lv' := [(3, .int (S 10 p0 3)), (0, .ref (ad 1 0)), (1, .ref (ad 10 p0)), (2, .ref (ad 2 p1))]) hx hb dX11_ladeShip_4 rfl hl (by decide) rfl (fun ls hl => ?_)
  refine lv_iconst (v := 0) hx hb dX11_ladeShip_5 (by decide) ?_
  refine lv_istore (lv' := [(4, .int 0), (3, .int (S 10 p0 3)), (0, .ref (ad 1 0)), (1, .ref (ad 10 p0)), (2, .ref (ad 2 p1))]) hx hb dX11_ladeShip_6 hl (by decide) rfl (fun ls hl => ?_)
  obtain ⟨nq, h⟩ := h
  exact bX11_ladeShip_8 C  nq _ _ _ _ _ _ _ _ h hW hS (lv_sub hl [2, 3, 4, 1, 0] rfl)
