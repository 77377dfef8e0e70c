variable {l : Launch} {D : va_G} {cy : Nat → ClassId} {z : Nat} {H0 : Heap} {ad : Nat → Nat → Nat} {N : tq_Nn} {M : tq_St}
-- X0 run
def wbX0_run_19 (N : tq_Nn) (post : tq_St → Int32 → Prop) (Rc : (tq_St → Int32 → Prop) → tq_St → Nat → Int32 → Int32 → Int32 → Int32 → Prop)  (S : tq_St) : Prop :=
  post S 0
def wpX0_run (N : tq_Nn) : Nat → (tq_St → Int32 → Prop) → tq_St → Nat → Int32 → Int32 → Int32 → Int32 → Prop
  | 0, _, _, _, _, _, _, _ => False
  | d + 1, post, S, p0, p1, p2, p3, p4 =>
    wpX0_kindWithBody N (fun S1 r2 => (r2 < 0 → (wbX0_run_19 N post (wpX0_run N d) S1 )) ∧ (¬ r2 < 0 → ((p4 ≤ 40 → (vp_in ((r2 * 3) + p2) 21 ∧ (vp_in r2 7 ∧ (wpX0_begins N (fun S7 => ((tq_bodies.getD ((r2 * 3) + p2).toNatClampNeg 0) = 10 → (N 7 p0 = 1 ∧ (post S7 (p3 + (S7 7 p0 0))))) ∧ (¬ (tq_bodies.getD ((r2 * 3) + p2).toNatClampNeg 0) = 10 → (((tq_bodies.getD ((r2 * 3) + p2).toNatClampNeg 0) = 11 → (N 7 p0 = 1 ∧ ((wpX0_run N d) (fun S12 r13 => post S12 (r13 * 2)) S7 p0 (S7 7 p0 1) 0 p3 (p4 + 1)))) ∧ (¬ (tq_bodies.getD ((r2 * 3) + p2).toNatClampNeg 0) = 11 → (((tq_bodies.getD ((r2 * 3) + p2).toNatClampNeg 0) = 12 → (N 7 p0 = 1 ∧ ((wpX0_run N d) (fun S16 r17 => (wpX0_run N d) (fun S18 r19 => post S18 (r17 ^^^ r19)) S16 p0 (S16 7 p0 1) 0 (p3 + (S16 7 p0 4)) (p4 + 1)) S7 p0 (S7 7 p0 1) 1 p3 (p4 + 1)))) ∧ (¬ (tq_bodies.getD ((r2 * 3) + p2).toNatClampNeg 0) = 12 → (((tq_bodies.getD ((r2 * 3) + p2).toNatClampNeg 0) = 20 → ((wpX0_run N d) (fun S21 r22 => N 7 p0 = 1 ∧ (post S21 (r22 - (S21 7 p0 0)))) S7 p0 (tq_above.getD r2.toNatClampNeg 0) 1 p3 (p4 + 1))) ∧ (¬ (tq_bodies.getD ((r2 * 3) + p2).toNatClampNeg 0) = 20 → (((tq_bodies.getD ((r2 * 3) + p2).toNatClampNeg 0) = 30 → ((wpX0_run N d) (fun S25 r26 => post S25 (r26 * 3)) S7 p0 (tq_above.getD r2.toNatClampNeg 0) 0 p3 (p4 + 1))) ∧ (¬ (tq_bodies.getD ((r2 * 3) + p2).toNatClampNeg 0) = 30 → (((tq_bodies.getD ((r2 * 3) + p2).toNatClampNeg 0) = 40 → ((wpX0_run N d) (fun S28 r29 => post S28 r29) S7 p0 (tq_above.getD r2.toNatClampNeg 0) 2 (p3 - 1) (p4 + 1))) ∧ (¬ (tq_bodies.getD ((r2 * 3) + p2).toNatClampNeg 0) = 40 → (((tq_bodies.getD ((r2 * 3) + p2).toNatClampNeg 0) = 50 → ((wpX0_run N d) (fun S31 r32 => N 7 p0 = 1 ∧ (post S31 (r32 + (S31 7 p0 0)))) S7 p0 (tq_above.getD r2.toNatClampNeg 0) 2 p3 (p4 + 1))) ∧ (¬ (tq_bodies.getD ((r2 * 3) + p2).toNatClampNeg 0) = 50 → (((tq_bodies.getD ((r2 * 3) + p2).toNatClampNeg 0) = 60 → ((wpX0_run N d) (fun S35 r36 => post S35 (r36 ^^^ 9)) S7 p0 (tq_above.getD r2.toNatClampNeg 0) 1 p3 (p4 + 1))) ∧ (¬ (tq_bodies.getD ((r2 * 3) + p2).toNatClampNeg 0) = 60 → (((tq_bodies.getD ((r2 * 3) + p2).toNatClampNeg 0) = 61 → ((wpX0_run N d) (fun S38 r39 => post S38 (r39 * 2)) S7 p0 (tq_above.getD r2.toNatClampNeg 0) 2 p3 (p4 + 1))) ∧ (¬ (tq_bodies.getD ((r2 * 3) + p2).toNatClampNeg 0) = 61 → ((wpX0_run N d) (fun S40 r41 => N 7 p0 = 1 ∧ (post S40 (r41 - (S40 7 p0 4)))) S7 p0 (tq_above.getD r2.toNatClampNeg 0) 0 p3 (p4 + 1)))))))))))))))))))) S1 (tq_bodies.getD ((r2 * 3) + p2).toNatClampNeg 0))))) ∧ (¬ p4 ≤ 40 → (wbX0_run_19 N post (wpX0_run N d) S1 ))))) S p1 p2
set_option maxHeartbeats 4000000 in
set_option maxRecDepth 100000 in
theorem bX0_run_19 {dd : Nat} {p : Program} {e : Env} {s : State} {m : MethodId} {args : Array Value} {below : List Frame} {meth : Method} {c : Code} {post : tq_St → Int32 → Prop} (C : tq_At p s m meth c args cX0_run 10 ((some .int)) ((tq_ws yX0_run cX0_run 10 (some .int))) RX0 D cy z ad) {Rc : (tq_St → Int32 → Prop) → tq_St → Nat → Int32 → Int32 → Int32 → Int32 → Prop} (hRc : ∀ (post : tq_St → Int32 → Prop) (S : tq_St) (p0 : Nat) (p1 p2 p3 p4 : Int32), Rc post S p0 p1 p2 p3 p4 → tq_sI l yX0_run (tq_ws yX0_run cX0_run 10 (some .int)) (dd + 2) (40 * dd + 60) D cy z H0 ad N M S [.ref (ad 5 0), .ref (ad 7 p0), .int p1, .int p2, .int p3, .int p4] post)  : ∀ (S : tq_St)  (H : Heap) (locs : List Loc) (ls : Array Slot), wbX0_run_19 N post Rc  S  → tq_wd D cy z H0 ad N (tq_mix S M) H → va_S (fun q => z ≤ q) s.heap H locs → lv_has ls 10 [] → W p l e (tq_rm (dd + 1 + 2) (40 * (dd + 1) + 60)) s m args below meth c H locs 0 0 (MQ below (va_Qi (fun r u => post u r) (fun u => tq_P D cy z H0 ad N u M) (fun q => z ≤ q)) args s 0 0 (fun q => z ≤ q)) (F0 m 19 ls []) := by
  obtain ⟨hx, hb, hr, hml, hown, hts, hlocks, hK, hG⟩ := id C
  have hw : ∀ w ∈ tq_W, w.before args s = true := fun w h => hts w (List.mem_cons_of_mem _ h)
  intro S  H locs ls h hW hS hl
  unfold wbX0_run_19 at h
  refine lv_iconst (v := 0) hx hb dX0_run_19 (by decide) ?_
  exact W.iret (v := 0) hx hb hr (fun t ht hWm => ⟨⟨_, S, rfl, h, tq_pe ht hW⟩, hS.F ht⟩) hS.2.2 dX0_run_20
set_option maxHeartbeats 4000000 in
set_option maxRecDepth 100000 in
theorem kX0_run : ∀ (d : Nat) {post : tq_St → Int32 → Prop} {S : tq_St} {p0 : Nat} {p1 p2 p3 p4 : Int32}, wpX0_run N d post S p0 p1 p2 p3 p4 → tq_sI l yX0_run (tq_ws yX0_run cX0_run 10 (some .int)) (d + 2) (40 * d + 60) D cy z H0 ad N M S [.ref (ad 5 0), .ref (ad 7 p0), .int p1, .int p2, .int p3, .int p4] post := by
  intro d
  induction d with
  | zero =>
    intro post S p0 p1 p2 p3 p4 h
    exact absurd h (by unfold wpX0_run; exact id)
  | succ dd ih =>
  intro post S p0 p1 p2 p3 p4 h
  unfold wpX0_run at h
  have hRc := @ih
  refine Met.ofW (cc := cX0_run) (maxL := 10) (ret := (some .int)) (by decide) rfl ?_
  intro p e s m args below meth c s₁ B hml hv
  obtain ⟨rfl, hW, hK, hG⟩ := hv
  have hx := B.exec
  have hb := B.bytes
  have hr := B.returns
  have hts := atoms_spec (ws := (tq_ws yX0_run cX0_run 10 (some .int))) B.pre
  have hw : ∀ w ∈ tq_W, w.before _ s = true := fun w h => hts w (List.mem_cons_of_mem _ h)
  have hown : s.vm.findClass RX0 = some m.cls := findClass_of_methodNamed B.named
  have hlocks := B.notSynchronized
  have C : tq_At p s m meth c [.ref (ad 5 0), .ref (ad 7 p0), .int p1, .int p2, .int p3, .int p4].toArray cX0_run 10 ((some .int)) ((tq_ws yX0_run cX0_run 10 (some .int))) RX0 D cy z ad := ⟨hx, hb, hr, hml, hown, hts, hlocks, hK, hG⟩
  have hS : va_S (fun q => z ≤ q) s.heap s.heap [] := va_S.rf
  have hl := lv_entry ([.ref (ad 5 0), .ref (ad 7 p0), .int p1, .int p2, .int p3, .int p4]) (n := 10) (Nat.le_of_ble_eq_true rfl)
  rw [lg_entry_eq]
  generalize (lg_sl ([.ref (ad 5 0), .ref (ad 7 p0), .int p1, .int p2, .int p3, .int p4]) ++ List.replicate (10 - (lg_sl ([.ref (ad 5 0), .ref (ad 7 p0), .int p1, .int p2, .int p3, .int p4])).length) Slot.unset).toArray = ls at hl ⊢
  have hl : lv_has ls 10 [(0, .ref (ad 5 0)), (1, .ref (ad 7 p0)), (2, .int p1), (3, .int p2), (4, .int p3), (5, .int p4)] := hl
  have hW : tq_wd D cy z H0 ad N (tq_mix S M) s.heap := hW
  refine lv_iload_n hx hb dX0_run_0 rfl (lv_at hl 2 rfl) ?_
  refine lv_iload_n hx hb dX0_run_1 rfl (lv_at hl 3 rfl) ?_
  refine tqc_callSi (As := [.int p1, .int p2]) (rest := []) (kX0_kindWithBody h) ⟨hx, hb, hml, hown, hts⟩ (va_cwS 2 hts (tq_goodS tw_1351 tw_1352 tw_121 tw_1353) rfl rfl rfl (by decide +kernel) ⟨by simp only [tq_rm, headSpec]; omega, by simp only [tq_rm, headSpec]; omega⟩) hK hG hW hS rfl hl.1 rfl (Nat.le_of_ble_eq_true rfl) dX0_run_2 ⟨(Nat.le_of_ble_eq_true rfl), (Nat.le_of_ble_eq_true rfl)⟩ (fun r2 S1 H locs h hW hS => ?_)
  refine lv_istore (lv' := [(6, .int r2), (0, .ref (ad 5 0)), (1, .ref (ad 7 p0)), (2, .int p1), (3, .int p2), (4, .int p3), (5, .int p4)]) hx hb dX0_run_5 hl (by decide) rfl (fun ls hl => ?_)
  refine lv_iload hx hb dX0_run_7 (lv_at hl 0 rfl) ?_
  refine lv_if_lt (tgt := 19) hx hb dX0_run_9 (by decide) (fun c3 => ?_) (fun c3 => ?_)
  · have h := h.1 c3
    exact bX0_run_19 C (fun post S p0 p1 p2 p3 p4 h9 => hRc h9)  _  _ _ _ h hW hS (lv_sub hl [] rfl)
  · have h := h.2 c3
    refine lv_iload hx hb dX0_run_12 (lv_at hl 6 rfl) ?_
    refine lv_bipush (v := 40) hx hb dX0_run_14 (by decide) ?_
    refine lv_icmp_le (tgt := 21) hx hb dX0_run_16 (by decide) (fun c4 => ?_) (fun c4 => ?_)
    · have h := h.1 c4
      refine va_getsN hx hb hG.2.2.2.2.1.1 hS hown ((hG.2.2.2.2.2.2.2.2.2.1 ("TwoSeas$Acts", 23, "TwoSeas", "BODIES", "[I", "TwoSeas") (by decide)).use rfl) (fun _ h9 => h9) dX0_run_21 ?_
      refine lv_iload hx hb dX0_run_24 (lv_at hl 0 rfl) ?_
      refine lv_iconst (v := 3) hx hb dX0_run_26 (by decide) ?_
      refine lv_imul hx hb dX0_run_27 ?_
      refine lv_iload_n hx hb dX0_run_28 rfl (lv_at hl 4 rfl) ?_
      refine lv_iadd hx hb dX0_run_29 ?_
      obtain ⟨b5, h⟩ := h
      refine va_ti (v := .int (tq_bodies.getD ((r2 * 3) + p2).toNatClampNeg 0)) hx hb hG.2.2.2.2.1.2 hS b5 rfl dX0_run_30 ?_
      refine lv_istore (lv' := [(7, .int (tq_bodies.getD ((r2 * 3) + p2).toNatClampNeg 0)), (6, .int r2), (0, .ref (ad 5 0)), (1, .ref (ad 7 p0)), (2, .int p1), (3, .int p2), (4, .int p3), (5, .int p4)]) hx hb dX0_run_31 hl (by decide) rfl (fun ls hl => ?_)
      refine va_getsN hx hb hG.2.2.2.1.1 hS hown ((hG.2.2.2.2.2.2.2.2.2.1 ("TwoSeas$Acts", 26, "TwoSeas", "ABOVE", "[I", "TwoSeas") (by decide)).use rfl) (fun _ h9 => h9) dX0_run_33 ?_
      refine lv_iload hx hb dX0_run_36 (lv_at hl 1 rfl) ?_
      obtain ⟨b6, h⟩ := h
      refine va_ti (v := .int (tq_above.getD r2.toNatClampNeg 0)) hx hb hG.2.2.2.1.2 hS b6 rfl dX0_run_38 ?_
      refine lv_istore (lv' := [(8, .int (tq_above.getD r2.toNatClampNeg 0)), (7, .int (tq_bodies.getD ((r2 * 3) + p2).toNatClampNeg 0)), (6, .int r2), (0, .ref (ad 5 0)), (1, .ref (ad 7 p0)), (2, .int p1), (3, .int p2), (4, .int p3), (5, .int p4)]) hx hb dX0_run_39 hl (by decide) rfl (fun ls hl => ?_)
      refine lv_iload hx hb dX0_run_41 (lv_at hl 8 rfl) ?_
      refine lv_iconst (v := 1) hx hb dX0_run_43 (by decide) ?_
      refine lv_iadd hx hb dX0_run_44 ?_
      refine lv_istore (lv' := [(9, .int (p4 + 1)), (8, .int (tq_above.getD r2.toNatClampNeg 0)), (7, .int (tq_bodies.getD ((r2 * 3) + p2).toNatClampNeg 0)), (6, .int r2), (0, .ref (ad 5 0)), (1, .ref (ad 7 p0)), (2, .int p1), (3, .int p2), (4, .int p3), (5, .int p4)]) hx hb dX0_run_45 hl (by decide) rfl (fun ls hl => ?_)
      refine lv_aload_n hx hb dX0_run_47 rfl (lv_at hl 4 rfl) ?_
      refine lv_iload hx hb dX0_run_48 (lv_at hl 2 rfl) ?_
      refine tqc_callVv (As := [.int (tq_bodies.getD ((r2 * 3) + p2).toNatClampNeg 0)]) (rest := []) (kX0_begins h) ⟨hx, hb, hml, hown, hts⟩ (cwV 1 hts (tq_goodV tw_1358 tw_1360 tw_55 tw_121 tw_1361) rfl rfl rfl (by decide +kernel) ⟨by simp only [tq_rm, headSpec]; omega, by simp only [tq_rm, headSpec]; omega⟩) (tq_recvC hK hW (by decide) (tq_mk_5 (by decide)) rfl) hK hG hW hS rfl hl.1 rfl (Nat.le_of_ble_eq_true rfl) dX0_run_50 ⟨(Nat.le_of_ble_eq_true rfl), (Nat.le_of_ble_eq_true rfl)⟩ (fun S7 H locs h hW hS => ?_)
      refine lv_iload hx hb dX0_run_53 (lv_at hl 2 rfl) ?_
      by_cases c8 : (tq_bodies.getD ((r2 * 3) + p2).toNatClampNeg 0) = 10
      · have h := h.1 c8
        refine W.eq (g2 := F0 m 55 ls (.int 10 :: [])) (by rw [c8]) ?_
        refine lv_lookup (tgt := 136) hx hb dX0_run_55 (by decide) rfl (by decide) ?_
        refine lv_iload hx hb dX0_run_136 (lv_at hl 8 rfl) ?_
        refine lv_aload_n hx hb dX0_run_138 rfl (lv_at hl 5 rfl) ?_
        obtain ⟨b9, h⟩ := h
        refine tqc_get7 (v := .int (S7 7 p0 0)) hx hb hw tq_inX3 tq_inX1 hown hK hW b9 0 (by decide) (hw _ tw_505) (fun _ h9 => h9) rfl dX0_run_139 ?_
        refine lv_iadd hx hb dX0_run_142 ?_
        exact W.iret (v := p3 + (S7 7 p0 0)) hx hb hr (fun t ht hWm => ⟨⟨_, S7, rfl, h, tq_pe ht hW⟩, hS.F ht⟩) hS.2.2 dX0_run_143
      · have h := h.2 c8
        by_cases c10 : (tq_bodies.getD ((r2 * 3) + p2).toNatClampNeg 0) = 11
        · have h := h.1 c10
          refine W.eq (g2 := F0 m 55 ls (.int 11 :: [])) (by rw [c10]) ?_
          refine lv_lookup (tgt := 144) hx hb dX0_run_55 (by decide) rfl (by decide) ?_
          refine lv_aload_n hx hb dX0_run_144 rfl (lv_at hl 4 rfl) ?_
          refine lv_aload_n hx hb dX0_run_145 rfl (lv_at hl 5 rfl) ?_
          refine lv_aload_n hx hb dX0_run_146 rfl (lv_at hl 5 rfl) ?_
          obtain ⟨b11, h⟩ := h
          refine tqc_get7 (v := .int (S7 7 p0 1)) hx hb hw tq_inX3 tq_inX1 hown hK hW b11 1 (by decide) (hw _ tw_512) (fun _ h9 => h9) rfl dX0_run_147 ?_
          refine lv_iconst (v := 0) hx hb dX0_run_150 (by decide) ?_
          refine lv_iload hx hb dX0_run_151 (lv_at hl 8 rfl) ?_
          refine lv_iload hx hb dX0_run_153 (lv_at hl 0 rfl) ?_
          refine tqc_callVi (As := [.ref (ad 7 p0), .int (S7 7 p0 1), .int 0, .int p3, .int (p4 + 1)]) (rest := []) (hRc h) ⟨hx, hb, hml, hown, hts⟩ (cwV 5 hts (tq_goodV tw_1362 tw_1349 tw_54 tw_121 tw_1350) rfl rfl rfl (by decide +kernel) ⟨by simp only [tq_rm, headSpec]; omega, by simp only [tq_rm, headSpec]; omega⟩) (tq_recvC hK hW (by decide) (tq_mk_5 (by decide)) rfl) hK hG hW hS rfl hl.1 rfl (Nat.le_of_ble_eq_true rfl) dX0_run_155 ⟨(Nat.le_of_ble_eq_true rfl), (Nat.le_of_ble_eq_true rfl)⟩ (fun r13 S12 H locs h hW hS => ?_)
          refine lv_iconst (v := 2) hx hb dX0_run_158 (by decide) ?_
          refine lv_imul hx hb dX0_run_159 ?_
          exact W.iret (v := r13 * 2) hx hb hr (fun t ht hWm => ⟨⟨_, S12, rfl, h, tq_pe ht hW⟩, hS.F ht⟩) hS.2.2 dX0_run_160
        · have h := h.2 c10
          by_cases c14 : (tq_bodies.getD ((r2 * 3) + p2).toNatClampNeg 0) = 12
          · have h := h.1 c14
            refine W.eq (g2 := F0 m 55 ls (.int 12 :: [])) (by rw [c14]) ?_
            refine lv_lookup (tgt := 161) hx hb dX0_run_55 (by decide) rfl (by decide) ?_
            refine lv_aload_n hx hb dX0_run_161 rfl (lv_at hl 4 rfl) ?_
            refine lv_aload_n hx hb dX0_run_162 rfl (lv_at hl 5 rfl) ?_
            refine lv_aload_n hx hb dX0_run_163 rfl (lv_at hl 5 rfl) ?_
            obtain ⟨b15, h⟩ := h
            refine tqc_get7 (v := .int (S7 7 p0 1)) hx hb hw tq_inX3 tq_inX1 hown hK hW b15 1 (by decide) (hw _ tw_512) (fun _ h9 => h9) rfl dX0_run_164 ?_
            refine lv_iconst (v := 1) hx hb dX0_run_167 (by decide) ?_
            refine lv_iload hx hb dX0_run_168 (lv_at hl 8 rfl) ?_
            refine lv_iload hx hb dX0_run_170 (lv_at hl 0 rfl) ?_
            refine tqc_callVi (As := [.ref (ad 7 p0), .int (S7 7 p0 1), .int 1, .int p3, .int (p4 + 1)]) (rest := []) (hRc h) ⟨hx, hb, hml, hown, hts⟩ (cwV 5 hts (tq_goodV tw_1362 tw_1349 tw_54 tw_121 tw_1350) rfl rfl rfl (by decide +kernel) ⟨by simp only [tq_rm, headSpec]; omega, by simp only [tq_rm, headSpec]; omega⟩) (tq_recvC hK hW (by decide) (tq_mk_5 (by decide)) rfl) hK hG hW hS rfl hl.1 rfl (Nat.le_of_ble_eq_true rfl) dX0_run_172 ⟨(Nat.le_of_ble_eq_true rfl), (Nat.le_of_ble_eq_true rfl)⟩ (fun r17 S16 H locs h hW hS => ?_)
            refine lv_aload_n hx hb dX0_run_175 rfl (lv_at hl 4 rfl) ?_
            refine lv_aload_n hx hb dX0_run_176 rfl (lv_at hl 5 rfl) ?_
            refine lv_aload_n hx hb dX0_run_177 rfl (lv_at hl 5 rfl) ?_
            refine tqc_get7 (v := .int (S16 7 p0 1)) hx hb hw tq_inX3 tq_inX1 hown hK hW b15 1 (by decide) (hw _ tw_512) (fun _ h9 => h9) rfl dX0_run_178 ?_
            refine lv_iconst (v := 0) hx hb dX0_run_181 (by decide) ?_
            refine lv_iload hx hb dX0_run_182 (lv_at hl 8 rfl) ?_
            refine lv_aload_n hx hb dX0_run_184 rfl (lv_at hl 5 rfl) ?_
            refine tqc_get7 (v := .int (S16 7 p0 4)) hx hb hw tq_inX3 tq_inX1 hown hK hW b15 4 (by decide) (hw _ tw_521) (fun _ h9 => h9) rfl dX0_run_185 ?_
            refine lv_iadd hx hb dX0_run_188 ?_
            refine lv_iload hx hb dX0_run_189 (lv_at hl 0 rfl) ?_
            refine tqc_callVi (As := [.ref (ad 7 p0), .int (S16 7 p0 1), .int 0, .int (p3 + (S16 7 p0 4)), .int (p4 + 1)]) (rest := [.int r17]) (hRc h) ⟨hx, hb, hml, hown, hts⟩ (cwV 5 hts (tq_goodV tw_1362 tw_1349 tw_54 tw_121 tw_1350) rfl rfl rfl (by decide +kernel) ⟨by simp only [tq_rm, headSpec]; omega, by simp only [tq_rm, headSpec]; omega⟩) (tq_recvC hK hW (by decide) (tq_mk_5 (by decide)) rfl) hK hG hW hS rfl hl.1 rfl (Nat.le_of_ble_eq_true rfl) dX0_run_191 ⟨(Nat.le_of_ble_eq_true rfl), (Nat.le_of_ble_eq_true rfl)⟩ (fun r19 S18 H locs h hW hS => ?_)
            refine lv_ixor hx hb dX0_run_194 ?_
            exact W.iret (v := r17 ^^^ r19) hx hb hr (fun t ht hWm => ⟨⟨_, S18, rfl, h, tq_pe ht hW⟩, hS.F ht⟩) hS.2.2 dX0_run_195
          · have h := h.2 c14
            by_cases c20 : (tq_bodies.getD ((r2 * 3) + p2).toNatClampNeg 0) = 20
            · have h := h.1 c20
              refine W.eq (g2 := F0 m 55 ls (.int 20 :: [])) (by rw [c20]) ?_
              refine lv_lookup (tgt := 196) hx hb dX0_run_55 (by decide) rfl (by decide) ?_
              refine lv_aload_n hx hb dX0_run_196 rfl (lv_at hl 4 rfl) ?_
              refine lv_aload_n hx hb dX0_run_197 rfl (lv_at hl 5 rfl) ?_
              refine lv_iload hx hb dX0_run_198 (lv_at hl 1 rfl) ?_
              refine lv_iconst (v := 1) hx hb dX0_run_200 (by decide) ?_
              refine lv_iload hx hb dX0_run_201 (lv_at hl 8 rfl) ?_
              refine lv_iload hx hb dX0_run_203 (lv_at hl 0 rfl) ?_
              refine tqc_callVi (As := [.ref (ad 7 p0), .int (tq_above.getD r2.toNatClampNeg 0), .int 1, .int p3, .int (p4 + 1)]) (rest := []) (hRc h) ⟨hx, hb, hml, hown, hts⟩ (cwV 5 hts (tq_goodV tw_1362 tw_1349 tw_54 tw_121 tw_1350) rfl rfl rfl (by decide +kernel) ⟨by simp only [tq_rm, headSpec]; omega, by simp only [tq_rm, headSpec]; omega⟩) (tq_recvC hK hW (by decide) (tq_mk_5 (by decide)) rfl) hK hG hW hS rfl hl.1 rfl (Nat.le_of_ble_eq_true rfl) dX0_run_205 ⟨(Nat.le_of_ble_eq_true rfl), (Nat.le_of_ble_eq_true rfl)⟩ (fun r22 S21 H locs h hW hS => ?_)
              refine lv_aload_n hx hb dX0_run_208 rfl (lv_at hl 5 rfl) ?_
              obtain ⟨b23, h⟩ := h
              refine tqc_get7 (v := .int (S21 7 p0 0)) hx hb hw tq_inX3 tq_inX1 hown hK hW b23 0 (by decide) (hw _ tw_505) (fun _ h9 => h9) rfl dX0_run_209 ?_
              refine lv_isub hx hb dX0_run_212 ?_
              exact W.iret (v := r22 - (S21 7 p0 0)) hx hb hr (fun t ht hWm => ⟨⟨_, S21, rfl, h, tq_pe ht hW⟩, hS.F ht⟩) hS.2.2 dX0_run_213
            · have h := h.2 c20
              by_cases c24 : (tq_bodies.getD ((r2 * 3) + p2).toNatClampNeg 0) = 30
              · have h := h.1 c24
                refine W.eq (g2 := F0 m 55 ls (.int 30 :: [])) (by rw [c24]) ?_
                refine lv_lookup (tgt := 214) hx hb dX0_run_55 (by decide) rfl (by decide) ?_
                refine lv_aload_n hx hb dX0_run_214 rfl (lv_at hl 4 rfl) ?_
                refine lv_aload_n hx hb dX0_run_215 rfl (lv_at hl 5 rfl) ?_
                refine lv_iload hx hb dX0_run_216 (lv_at hl 1 rfl) ?_
                refine lv_iconst (v := 0) hx hb dX0_run_218 (by decide) ?_
                refine lv_iload hx hb dX0_run_219 (lv_at hl 8 rfl) ?_
                refine lv_iload hx hb dX0_run_221 (lv_at hl 0 rfl) ?_
                refine tqc_callVi (As := [.ref (ad 7 p0), .int (tq_above.getD r2.toNatClampNeg 0), .int 0, .int p3, .int (p4 + 1)]) (rest := []) (hRc h) ⟨hx, hb, hml, hown, hts⟩ (cwV 5 hts (tq_goodV tw_1362 tw_1349 tw_54 tw_121 tw_1350) rfl rfl rfl (by decide +kernel) ⟨by simp only [tq_rm, headSpec]; omega, by simp only [tq_rm, headSpec]; omega⟩) (tq_recvC hK hW (by decide) (tq_mk_5 (by decide)) rfl) hK hG hW hS rfl hl.1 rfl (Nat.le_of_ble_eq_true rfl) dX0_run_223 ⟨(Nat.le_of_ble_eq_true rfl), (Nat.le_of_ble_eq_true rfl)⟩ (fun r26 S25 H locs h hW hS => ?_)
                refine lv_iconst (v := 3) hx hb dX0_run_226 (by decide) ?_
                refine lv_imul hx hb dX0_run_227 ?_
                exact W.iret (v := r26 * 3) hx hb hr (fun t ht hWm => ⟨⟨_, S25, rfl, h, tq_pe ht hW⟩, hS.F ht⟩) hS.2.2 dX0_run_228
              · have h := h.2 c24
                by_cases c27 : (tq_bodies.getD ((r2 * 3) + p2).toNatClampNeg 0) = 40
                · have h := h.1 c27
                  refine W.eq (g2 := F0 m 55 ls (.int 40 :: [])) (by rw [c27]) ?_
                  refine lv_lookup (tgt := 229) hx hb dX0_run_55 (by decide) rfl (by decide) ?_
                  refine lv_aload_n hx hb dX0_run_229 rfl (lv_at hl 4 rfl) ?_
                  refine lv_aload_n hx hb dX0_run_230 rfl (lv_at hl 5 rfl) ?_
                  refine lv_iload hx hb dX0_run_231 (lv_at hl 1 rfl) ?_
                  refine lv_iconst (v := 2) hx hb dX0_run_233 (by decide) ?_
                  refine lv_iload hx hb dX0_run_234 (lv_at hl 8 rfl) ?_
                  refine lv_iconst (v := 1) hx hb dX0_run_236 (by decide) ?_
                  refine lv_isub hx hb dX0_run_237 ?_
                  refine lv_iload hx hb dX0_run_238 (lv_at hl 0 rfl) ?_
                  refine tqc_callVi (As := [.ref (ad 7 p0), .int (tq_above.getD r2.toNatClampNeg 0), .int 2, .int (p3 - 1), .int (p4 + 1)]) (rest := []) (hRc h) ⟨hx, hb, hml, hown, hts⟩ (cwV 5 hts (tq_goodV tw_1362 tw_1349 tw_54 tw_121 tw_1350) rfl rfl rfl (by decide +kernel) ⟨by simp only [tq_rm, headSpec]; omega, by simp only [tq_rm, headSpec]; omega⟩) (tq_recvC hK hW (by decide) (tq_mk_5 (by decide)) rfl) hK hG hW hS rfl hl.1 rfl (Nat.le_of_ble_eq_true rfl) dX0_run_240 ⟨(Nat.le_of_ble_eq_true rfl), (Nat.le_of_ble_eq_true rfl)⟩ (fun r29 S28 H locs h hW hS => ?_)
                  exact W.iret (v := r29) hx hb hr (fun t ht hWm => ⟨⟨_, S28, rfl, h, tq_pe ht hW⟩, hS.F ht⟩) hS.2.2 dX0_run_243
                · have h := h.2 c27
                  by_cases c30 : (tq_bodies.getD ((r2 * 3) + p2).toNatClampNeg 0) = 50
                  · have h := h.1 c30
                    refine W.eq (g2 := F0 m 55 ls (.int 50 :: [])) (by rw [c30]) ?_
                    refine lv_lookup (tgt := 244) hx hb dX0_run_55 (by decide) rfl (by decide) ?_
                    refine lv_aload_n hx hb dX0_run_244 rfl (lv_at hl 4 rfl) ?_
                    refine lv_aload_n hx hb dX0_run_245 rfl (lv_at hl 5 rfl) ?_
                    refine lv_iload hx hb dX0_run_246 (lv_at hl 1 rfl) ?_
                    refine lv_iconst (v := 2) hx hb dX0_run_248 (by decide) ?_
                    refine lv_iload hx hb dX0_run_249 (lv_at hl 8 rfl) ?_
                    refine lv_iload hx hb dX0_run_251 (lv_at hl 0 rfl) ?_
                    refine tqc_callVi (As := [.ref (ad 7 p0), .int (tq_above.getD r2.toNatClampNeg 0), .int 2, .int p3, .int (p4 + 1)]) (rest := []) (hRc h) ⟨hx, hb, hml, hown, hts⟩ (cwV 5 hts (tq_goodV tw_1362 tw_1349 tw_54 tw_121 tw_1350) rfl rfl rfl (by decide +kernel) ⟨by simp only [tq_rm, headSpec]; omega, by simp only [tq_rm, headSpec]; omega⟩) (tq_recvC hK hW (by decide) (tq_mk_5 (by decide)) rfl) hK hG hW hS rfl hl.1 rfl (Nat.le_of_ble_eq_true rfl) dX0_run_253 ⟨(Nat.le_of_ble_eq_true rfl), (Nat.le_of_ble_eq_true rfl)⟩ (fun r32 S31 H locs h hW hS => ?_)
                    refine lv_aload_n hx hb dX0_run_256 rfl (lv_at hl 5 rfl) ?_
                    obtain ⟨b33, h⟩ := h
                    refine tqc_get7 (v := .int (S31 7 p0 0)) hx hb hw tq_inX3 tq_inX1 hown hK hW b33 0 (by decide) (hw _ tw_505) (fun _ h9 => h9) rfl dX0_run_257 ?_
                    refine lv_iadd hx hb dX0_run_260 ?_
                    exact W.iret (v := r32 + (S31 7 p0 0)) hx hb hr (fun t ht hWm => ⟨⟨_, S31, rfl, h, tq_pe ht hW⟩, hS.F ht⟩) hS.2.2 dX0_run_261
                  · have h := h.2 c30
                    by_cases c34 : (tq_bodies.getD ((r2 * 3) + p2).toNatClampNeg 0) = 60
                    · have h := h.1 c34
                      refine W.eq (g2 := F0 m 55 ls (.int 60 :: [])) (by rw [c34]) ?_
                      refine lv_lookup (tgt := 262) hx hb dX0_run_55 (by decide) rfl (by decide) ?_
                      refine lv_aload_n hx hb dX0_run_262 rfl (lv_at hl 4 rfl) ?_
                      refine lv_aload_n hx hb dX0_run_263 rfl (lv_at hl 5 rfl) ?_
                      refine lv_iload hx hb dX0_run_264 (lv_at hl 1 rfl) ?_
                      refine lv_iconst (v := 1) hx hb dX0_run_266 (by decide) ?_
                      refine lv_iload hx hb dX0_run_267 (lv_at hl 8 rfl) ?_
                      refine lv_iload hx hb dX0_run_269 (lv_at hl 0 rfl) ?_
                      refine tqc_callVi (As := [.ref (ad 7 p0), .int (tq_above.getD r2.toNatClampNeg 0), .int 1, .int p3, .int (p4 + 1)]) (rest := []) (hRc h) ⟨hx, hb, hml, hown, hts⟩ (cwV 5 hts (tq_goodV tw_1362 tw_1349 tw_54 tw_121 tw_1350) rfl rfl rfl (by decide +kernel) ⟨by simp only [tq_rm, headSpec]; omega, by simp only [tq_rm, headSpec]; omega⟩) (tq_recvC hK hW (by decide) (tq_mk_5 (by decide)) rfl) hK hG hW hS rfl hl.1 rfl (Nat.le_of_ble_eq_true rfl) dX0_run_271 ⟨(Nat.le_of_ble_eq_true rfl), (Nat.le_of_ble_eq_true rfl)⟩ (fun r36 S35 H locs h hW hS => ?_)
                      refine lv_bipush (v := 9) hx hb dX0_run_274 (by decide) ?_
                      refine lv_ixor hx hb dX0_run_276 ?_
                      exact W.iret (v := r36 ^^^ 9) hx hb hr (fun t ht hWm => ⟨⟨_, S35, rfl, h, tq_pe ht hW⟩, hS.F ht⟩) hS.2.2 dX0_run_277
                    · have h := h.2 c34
                      by_cases c37 : (tq_bodies.getD ((r2 * 3) + p2).toNatClampNeg 0) = 61
                      · have h := h.1 c37
                        refine W.eq (g2 := F0 m 55 ls (.int 61 :: [])) (by rw [c37]) ?_
                        refine lv_lookup (tgt := 278) hx hb dX0_run_55 (by decide) rfl (by decide) ?_
                        refine lv_aload_n hx hb dX0_run_278 rfl (lv_at hl 4 rfl) ?_
                        refine lv_aload_n hx hb dX0_run_279 rfl (lv_at hl 5 rfl) ?_
                        refine lv_iload hx hb dX0_run_280 (lv_at hl 1 rfl) ?_
                        refine lv_iconst (v := 2) hx hb dX0_run_282 (by decide) ?_
                        refine lv_iload hx hb dX0_run_283 (lv_at hl 8 rfl) ?_
                        refine lv_iload hx hb dX0_run_285 (lv_at hl 0 rfl) ?_
                        refine tqc_callVi (As := [.ref (ad 7 p0), .int (tq_above.getD r2.toNatClampNeg 0), .int 2, .int p3, .int (p4 + 1)]) (rest := []) (hRc h) ⟨hx, hb, hml, hown, hts⟩ (cwV 5 hts (tq_goodV tw_1362 tw_1349 tw_54 tw_121 tw_1350) rfl rfl rfl (by decide +kernel) ⟨by simp only [tq_rm, headSpec]; omega, by simp only [tq_rm, headSpec]; omega⟩) (tq_recvC hK hW (by decide) (tq_mk_5 (by decide)) rfl) hK hG hW hS rfl hl.1 rfl (Nat.le_of_ble_eq_true rfl) dX0_run_287 ⟨(Nat.le_of_ble_eq_true rfl), (Nat.le_of_ble_eq_true rfl)⟩ (fun r39 S38 H locs h hW hS => ?_)
                        refine lv_iconst (v := 2) hx hb dX0_run_290 (by decide) ?_
                        refine lv_imul hx hb dX0_run_291 ?_
                        exact W.iret (v := r39 * 2) hx hb hr (fun t ht hWm => ⟨⟨_, S38, rfl, h, tq_pe ht hW⟩, hS.F ht⟩) hS.2.2 dX0_run_292
                      · have h := h.2 c37
                        refine lv_lookup (tgt := 293) (off := 238) hx hb dX0_run_55 (by decide) (by show Op.lookupswitch.offset [(10, 81), (11, 89), (12, 106), (20, 141), (30, 159), (40, 174), (50, 189), (60, 207), (61, 223)] 238 _ = 238; simp only [Op.lookupswitch.offset, if_neg (Ne.symm (tq_ne c8 (i := 10) (by decide))), if_neg (Ne.symm (tq_ne c10 (i := 11) (by decide))), if_neg (Ne.symm (tq_ne c14 (i := 12) (by decide))), if_neg (Ne.symm (tq_ne c20 (i := 20) (by decide))), if_neg (Ne.symm (tq_ne c24 (i := 30) (by decide))), if_neg (Ne.symm (tq_ne c27 (i := 40) (by decide))), if_neg (Ne.symm (tq_ne c30 (i := 50) (by decide))), if_neg (Ne.symm (tq_ne c34 (i := 60) (by decide))), if_neg (Ne.symm (tq_ne c37 (i := 61) (by decide)))]) (by decide) ?_
                        refine lv_aload_n hx hb dX0_run_293 rfl (lv_at hl 4 rfl) ?_
                        refine lv_aload_n hx hb dX0_run_294 rfl (lv_at hl 5 rfl) ?_
                        refine lv_iload hx hb dX0_run_295 (lv_at hl 1 rfl) ?_
                        refine lv_iconst (v := 0) hx hb dX0_run_297 (by decide) ?_
                        refine lv_iload hx hb dX0_run_298 (lv_at hl 8 rfl) ?_
                        refine lv_iload hx hb dX0_run_300 (lv_at hl 0 rfl) ?_
                        refine tqc_callVi (As := [.ref (ad 7 p0), .int (tq_above.getD r2.toNatClampNeg 0), .int 0, .int p3, .int (p4 + 1)]) (rest := []) (hRc h) ⟨hx, hb, hml, hown, hts⟩ (cwV 5 hts (tq_goodV tw_1362 tw_1349 tw_54 tw_121 tw_1350) rfl rfl rfl (by decide +kernel) ⟨by simp only [tq_rm, headSpec]; omega, by simp only [tq_rm, headSpec]; omega⟩) (tq_recvC hK hW (by decide) (tq_mk_5 (by decide)) rfl) hK hG hW hS rfl hl.1 rfl (Nat.le_of_ble_eq_true rfl) dX0_run_302 ⟨(Nat.le_of_ble_eq_true rfl), (Nat.le_of_ble_eq_true rfl)⟩ (fun r41 S40 H locs h hW hS => ?_)
                        refine lv_aload_n hx hb dX0_run_305 rfl (lv_at hl 5 rfl) ?_
                        obtain ⟨b42, h⟩ := h
                        refine tqc_get7 (v := .int (S40 7 p0 4)) hx hb hw tq_inX3 tq_inX1 hown hK hW b42 4 (by decide) (hw _ tw_521) (fun _ h9 => h9) rfl dX0_run_306 ?_
                        refine lv_isub hx hb dX0_run_309 ?_
                        exact W.iret (v := r41 - (S40 7 p0 4)) hx hb hr (fun t ht hWm => ⟨⟨_, S40, rfl, h, tq_pe ht hW⟩, hS.F ht⟩) hS.2.2 dX0_run_310
    · have h := h.2 c4
      exact bX0_run_19 C (fun post S p0 p1 p2 p3 p4 h9 => hRc h9)  _  _ _ _ h hW hS (lv_sub hl [] rfl)
-- X11 factory
def wbX11_factory_16 (N : tq_Nn) (post : tq_St → Int32 → Prop)  (S : tq_St) : Prop :=
  post S ((-1))
def wbX11_factory_108 (N : tq_Nn) (post : tq_St → Int32 → Prop)  (S : tq_St) (x5 : Int32) : Prop :=
  post S x5
def wpX11_factory (N : tq_Nn) (post : tq_St → Int32 → Prop) (S : tq_St) (p0 : Int32) (p1 : Int32) (p2 : Int32) : Prop :=
  wpX11_isFactory N (fun S1 r2 => (r2 = 0 → (wbX11_factory_16 N post S1 )) ∧ (¬ r2 = 0 → (wpX11_within N (fun S4 r5 => (¬ r5 = 0 → (vp_in p0 5 ∧ ((¬ p1 = 2 → (wpX11_within N (fun S9 r10 => (¬ r10 = 0 → ((¬ p1 = 0 → ((∀ S13, S13 = tq_up S9 2 p0.toNatClampNeg 4 p2 → (wbX11_factory_108 N post S13 (S9 2 p0.toNatClampNeg 4))))) ∧ (p1 = 0 → ((∀ S14, S14 = tq_up S9 2 p0.toNatClampNeg 3 p2 → (wbX11_factory_108 N post S14 (S9 2 p0.toNatClampNeg 3))))))) ∧ (r10 = 0 → (post S9 ((-2))))) S4 p2 20 240)) ∧ (p1 = 2 → (wpX11_within N (fun S15 r16 => (¬ r16 = 0 → ((∀ S18, S18 = tq_up S15 2 p0.toNatClampNeg 5 p2 → (post S18 (S15 2 p0.toNatClampNeg 5))))) ∧ (r16 = 0 → (post S15 ((-2))))) S4 p2 0 50))))) ∧ (r5 = 0 → (wbX11_factory_16 N post S4 ))) S1 p1 0 2))) S p0
set_option maxHeartbeats 4000000 in
set_option maxRecDepth 100000 in
theorem bX11_factory_16 {p : Program} {e : Env} {s : State} {m : MethodId} {args : Array Value} {below : List Frame} {meth : Method} {c : Code} {post : tq_St → Int32 → Prop} (C : tq_At p s m meth c args cX11_factory 6 ((some .int)) ((tq_ws yX11_factory cX11_factory 6 (some .int))) RX11 D cy z ad)  : ∀ (S : tq_St)  (H : Heap) (locs : List Loc) (ls : Array Slot), wbX11_factory_16 N post   S  → tq_wd D cy z H0 ad N (tq_mix S M) H → va_S (fun q => z ≤ q) s.heap H locs → lv_has ls 6 [] → W p l e (tq_rm 1 22) s m args below meth c H locs 0 0 (MQ below (va_Qi (fun r u => post u r) (fun u => tq_P D cy z H0 ad N u M) (fun q => z ≤ q)) args s 0 0 (fun q => z ≤ q)) (F0 m 16 ls []) := by
  obtain ⟨hx, hb, hr, hml, hown, hts, hlocks, hK, hG⟩ := id C
  have hw : ∀ w ∈ tq_W, w.before args s = true := fun w h => hts w (List.mem_cons_of_mem _ h)
  intro S  H locs ls h hW hS hl
  unfold wbX11_factory_16 at h
  refine lv_iconst (v := (-1)) hx hb dX11_factory_16 (by decide) ?_
  exact W.iret (v := (-1)) hx hb hr (fun t ht hWm => ⟨⟨_, S, rfl, h, tq_pe ht hW⟩, hS.F ht⟩) hS.2.2 dX11_factory_17
set_option maxHeartbeats 4000000 in
set_option maxRecDepth 100000 in
theorem bX11_factory_108 {p : Program} {e : Env} {s : State} {m : MethodId} {args : Array Value} {below : List Frame} {meth : Method} {c : Code} {post : tq_St → Int32 → Prop} (C : tq_At p s m meth c args cX11_factory 6 ((some .int)) ((tq_ws yX11_factory cX11_factory 6 (some .int))) RX11 D cy z ad)  : ∀ (S : tq_St) (x5 : Int32) (H : Heap) (locs : List Loc) (ls : Array Slot), wbX11_factory_108 N post   S x5 → tq_wd D cy z H0 ad N (tq_mix S M) H → va_S (fun q => z ≤ q) s.heap H locs → lv_has ls 6 [(5, .int x5)] → W p l e (tq_rm 1 22) s m args below meth c H locs 0 0 (MQ below (va_Qi (fun r u => post u r) (fun u => tq_P D cy z H0 ad N u M) (fun q => z ≤ q)) args s 0 0 (fun q => z ≤ q)) (F0 m 108 ls []) := by
  obtain ⟨hx, hb, hr, hml, hown, hts, hlocks, hK, hG⟩ := id C
  have hw : ∀ w ∈ tq_W, w.before args s = true := fun w h => hts w (List.mem_cons_of_mem _ h)
  intro S x5 H locs ls h hW hS hl
  unfold wbX11_factory_108 at h
  refine lv_iload hx hb dX11_factory_108 (lv_at hl 0 rfl) ?_
  exact W.iret (v := x5) hx hb hr (fun t ht hWm => ⟨⟨_, S, rfl, h, tq_pe ht hW⟩, hS.F ht⟩) hS.2.2 dX11_factory_110
set_option maxHeartbeats 4000000 in
set_option maxRecDepth 100000 in
theorem kX11_factory {post : tq_St → Int32 → Prop} {S : tq_St} {p0 : Int32} {p1 : Int32} {p2 : Int32} (h : wpX11_factory N post S p0 p1 p2) : tq_sI l yX11_factory (tq_ws yX11_factory cX11_factory 6 (some .int)) 1 22 D cy z H0 ad N M S [.ref (ad 1 0), .int p0, .int p1, .int p2] post := by
  unfold wpX11_factory at h
  refine Met.ofW (cc := cX11_factory) (maxL := 6) (ret := (some .int)) (by decide) rfl ?_
  intro p e s m args below meth c s₁ B hml hv
  obtain ⟨rfl, hW, hK, hG⟩ := hv
  have hx := B.exec
  have hb := B.bytes
  have hr := B.returns
  have hts := atoms_spec (ws := (tq_ws yX11_factory cX11_factory 6 (some .int))) B.pre
  have hw : ∀ w ∈ tq_W, w.before _ s = true := fun w h => hts w (List.mem_cons_of_mem _ h)
  have hown : s.vm.findClass RX11 = some m.cls := findClass_of_methodNamed B.named
  have hlocks := B.notSynchronized
  have C : tq_At p s m meth c [.ref (ad 1 0), .int p0, .int p1, .int p2].toArray cX11_factory 6 ((some .int)) ((tq_ws yX11_factory cX11_factory 6 (some .int))) RX11 D cy z ad := ⟨hx, hb, hr, hml, hown, hts, hlocks, hK, hG⟩
  have hS : va_S (fun q => z ≤ q) s.heap s.heap [] := va_S.rf
  have hl := lv_entry ([.ref (ad 1 0), .int p0, .int p1, .int p2]) (n := 6) (Nat.le_of_ble_eq_true rfl)
  rw [lg_entry_eq]
  generalize (lg_sl ([.ref (ad 1 0), .int p0, .int p1, .int p2]) ++ List.replicate (6 - (lg_sl ([.ref (ad 1 0), .int p0, .int p1, .int p2])).length) Slot.unset).toArray = ls at hl ⊢
  have hl : lv_has ls 6 [(0, .ref (ad 1 0)), (1, .int p0), (2, .int p1), (3, .int p2)] := hl
  have hW : tq_wd D cy z H0 ad N (tq_mix S M) s.heap := hW
  refine lv_iload_n hx hb dX11_factory_0 rfl (lv_at hl 1 rfl) ?_
  refine tqc_callSi (As := [.int p0]) (rest := []) (kX11_isFactory h) ⟨hx, hb, hml, hown, hts⟩ (va_cwS 1 hts (tq_goodS tw_402 tw_403 tw_115 tw_404) rfl rfl rfl (by decide +kernel) ⟨(Nat.le_of_ble_eq_true rfl), (Nat.le_of_ble_eq_true rfl)⟩) hK hG hW hS rfl hl.1 rfl (Nat.le_of_ble_eq_true rfl) dX11_factory_1 ⟨(Nat.le_of_ble_eq_true rfl), (Nat.le_of_ble_eq_true rfl)⟩ (fun r2 S1 H locs h hW hS => ?_)
  refine lv_if_eq (tgt := 16) hx hb dX11_factory_4 (by decide) (fun c3 => ?_) (fun c3 => ?_)
  · have h := h.1 c3
    exact bX11_factory_16 C  _  _ _ _ h hW hS (lv_sub hl [] rfl)
  · have h := h.2 c3
    refine lv_iload_n hx hb dX11_factory_7 rfl (lv_at hl 2 rfl) ?_
    refine lv_iconst (v := 0) hx hb dX11_factory_8 (by decide) ?_
    refine lv_iconst (v := 2) hx hb dX11_factory_9 (by decide) ?_
    refine tqc_callSi (As := [.int p1, .int 0, .int 2]) (rest := []) (kX11_within h) ⟨hx, hb, hml, hown, hts⟩ (va_cwS 3 hts (tq_goodS tw_405 tw_406 tw_115 tw_407) rfl rfl rfl (by decide +kernel) ⟨(Nat.le_of_ble_eq_true rfl), (Nat.le_of_ble_eq_true rfl)⟩) hK hG hW hS rfl hl.1 rfl (Nat.le_of_ble_eq_true rfl) dX11_factory_10 ⟨(Nat.le_of_ble_eq_true rfl), (Nat.le_of_ble_eq_true rfl)⟩ (fun r5 S4 H locs h hW hS => ?_)
    refine lv_if_ne (tgt := 18) hx hb dX11_factory_13 (by decide) (fun c6 => ?_) (fun c6 => ?_)
    · have h := h.1 c6
      refine lv_aload_n hx hb dX11_factory_18 rfl (lv_at hl 0 rfl) ?_
      refine tqc_get (v := .ref (ad 12 0)) hx hb hw tq_inX11 hown hK hW (by decide) (tq_mk_1 (by decide)) rfl 1 (by decide) (hw _ tw_338) (fun _ h9 => h9) rfl dX11_factory_19 ?_
      refine lv_iload_n hx hb dX11_factory_22 rfl (lv_at hl 1 rfl) ?_
      obtain ⟨b7, h⟩ := h
      refine tqc_aald (jn := p0.toNatClampNeg) (v := .ref (ad 2 p0.toNatClampNeg)) hx hb hK hW (by decide) (tq_mk_12 (by decide)) 3 rfl rfl b7 rfl rfl dX11_factory_23 ?_
      refine lv_astore (lv' := [(4, .ref (ad 2 p0.toNatClampNeg)), (0, .ref (ad 1 0)), (1, .int p0), (2, .int p1), (3, .int p2)]) hx hb dX11_factory_24 hl (by decide) rfl (fun ls hl => ?_)
      refine lv_iload_n hx hb dX11_factory_26 rfl (lv_at hl 3 rfl) ?_
      refine lv_iconst (v := 2) hx hb dX11_factory_27 (by decide) ?_
      refine lv_icmp_ne (tgt := 60) hx hb dX11_factory_28 (by decide) (fun c8 => ?_) (fun c8 => ?_)
      · have h := h.1 c8
        refine lv_iload_n hx hb dX11_factory_60 rfl (lv_at hl 4 rfl) ?_
        refine lv_bipush (v := 20) hx hb dX11_factory_61 (by decide) ?_
        refine lv_sipush (v := 240) hx hb dX11_factory_63 (by decide) ?_
        refine tqc_callSi (As := [.int p2, .int 20, .int 240]) (rest := []) (kX11_within h) ⟨hx, hb, hml, hown, hts⟩ (va_cwS 3 hts (tq_goodS tw_405 tw_406 tw_115 tw_407) rfl rfl rfl (by decide +kernel) ⟨(Nat.le_of_ble_eq_true rfl), (Nat.le_of_ble_eq_true rfl)⟩) hK hG hW hS rfl hl.1 rfl (Nat.le_of_ble_eq_true rfl) dX11_factory_66 ⟨(Nat.le_of_ble_eq_true rfl), (Nat.le_of_ble_eq_true rfl)⟩ (fun r10 S9 H locs h hW hS => ?_)
        refine lv_if_ne (tgt := 75) hx hb dX11_factory_69 (by decide) (fun c11 => ?_) (fun c11 => ?_)
        · have h := h.1 c11
          refine lv_iload_n hx hb dX11_factory_75 rfl (lv_at hl 3 rfl) ?_
          refine lv_if_ne (tgt := 95) hx hb dX11_factory_76 (by decide) (fun c12 => ?_) (fun c12 => ?_)
          · have h := h.1 c12
            refine lv_aload hx hb dX11_factory_95 (lv_at hl 0 rfl) ?_
            refine tqc_get (v := .int (S9 2 p0.toNatClampNeg 4)) hx hb hw tq_inX5 hown hK hW (by decide) (tq_mk_2 (tq_lt b7)) rfl 4 (by decide) (hw _ tw_262) (fun _ h9 => h9) rfl dX11_factory_97 ?_
            refine lv_istore (lv' := [(5, .int (S9 2 p0.toNatClampNeg 4)), (4, .ref (ad 2 p0.toNatClampNeg)), (0, .ref (ad 1 0)), (1, .int p0), (2, .int p1), (3, .int p2)]) hx hb dX11_factory_100 hl (by decide) rfl (fun ls hl => ?_)
            refine lv_aload hx hb dX11_factory_102 (lv_at hl 1 rfl) ?_
            refine lv_iload_n hx hb dX11_factory_104 rfl (lv_at hl 5 rfl) ?_
            refine tqc_put hx hb hw tq_inX5 tyX5 tyX5_ok nmX5 hown hK hW hS (by decide) (tq_mk_2 (tq_lt b7)) rfl 4 (by decide) (hw _ tw_262) (fun _ h9 => h9) rfl rfl rfl rfl (tq_mk_2 (tq_lt b7)) dX11_factory_105 (fun H locs hW hS => ?_)
            generalize eS13 : tq_up S9 2 p0.toNatClampNeg 4 p2 = S13 at hW
            have h := h S13 eS13.symm
            exact bX11_factory_108 C  _ _ _ _ _ h hW hS (lv_sub hl [0] rfl)
          · have h := h.2 c12
            refine lv_aload hx hb dX11_factory_79 (lv_at hl 0 rfl) ?_
            refine tqc_get (v := .int (S9 2 p0.toNatClampNeg 3)) hx hb hw tq_inX5 hown hK hW (by decide) (tq_mk_2 (tq_lt b7)) rfl 3 (by decide) (hw _ tw_260) (fun _ h9 => h9) rfl dX11_factory_81 ?_
            refine lv_istore (lv' := [(5, .int (S9 2 p0.toNatClampNeg 3)), (4, .ref (ad 2 p0.toNatClampNeg)), (0, .ref (ad 1 0)), (1, .int p0), (2, .int p1), (3, .int p2)]) hx hb dX11_factory_84 hl (by decide) rfl (fun ls hl => ?_)
            refine lv_aload hx hb dX11_factory_86 (lv_at hl 1 rfl) ?_
            refine lv_iload_n hx hb dX11_factory_88 rfl (lv_at hl 5 rfl) ?_
            refine tqc_put hx hb hw tq_inX5 tyX5 tyX5_ok nmX5 hown hK hW hS (by decide) (tq_mk_2 (tq_lt b7)) rfl 3 (by decide) (hw _ tw_260) (fun _ h9 => h9) rfl rfl rfl rfl (tq_mk_2 (tq_lt b7)) dX11_factory_89 (fun H locs hW hS => ?_)
            generalize eS14 : tq_up S9 2 p0.toNatClampNeg 3 p2 = S14 at hW
            have h := h S14 eS14.symm
            refine lv_goto (tgt := 108) hx hb dX11_factory_92 (by decide) ?_
            exact bX11_factory_108 C  _ _ _ _ _ h hW hS (lv_sub hl [0] rfl)
        · have h := h.2 c11
          refine lv_bipush (v := (-2)) hx hb dX11_factory_72 (by decide) ?_
          exact W.iret (v := (-2)) hx hb hr (fun t ht hWm => ⟨⟨_, S9, rfl, h, tq_pe ht hW⟩, hS.F ht⟩) hS.2.2 dX11_factory_74
      · have h := h.2 c8
        refine lv_iload_n hx hb dX11_factory_31 rfl (lv_at hl 4 rfl) ?_
        refine lv_iconst (v := 0) hx hb dX11_factory_32 (by decide) ?_
        refine lv_bipush (v := 50) hx hb dX11_factory_33 (by decide) ?_
        refine tqc_callSi (As := [.int p2, .int 0, .int 50]) (rest := []) (kX11_within h) ⟨hx, hb, hml, hown, hts⟩ (va_cwS 3 hts (tq_goodS tw_405 tw_406 tw_115 tw_407) rfl rfl rfl (by decide +kernel) ⟨(Nat.le_of_ble_eq_true rfl), (Nat.le_of_ble_eq_true rfl)⟩) hK hG hW hS rfl hl.1 rfl (Nat.le_of_ble_eq_true rfl) dX11_factory_35 ⟨(Nat.le_of_ble_eq_true rfl), (Nat.le_of_ble_eq_true rfl)⟩ (fun r16 S15 H locs h hW hS => ?_)
        refine lv_if_ne (tgt := 44) hx hb dX11_factory_38 (by decide) (fun c17 => ?_) (fun c17 => ?_)
        · have h := h.1 c17
          refine lv_aload hx hb dX11_factory_44 (lv_at hl 0 rfl) ?_
          refine tqc_get (v := .int (S15 2 p0.toNatClampNeg 5)) hx hb hw tq_inX5 hown hK hW (by decide) (tq_mk_2 (tq_lt b7)) rfl 5 (by decide) (hw _ tw_263) (fun _ h9 => h9) rfl dX11_factory_46 ?_
          refine lv_istore (lv' := [(5, .int (S15 2 p0.toNatClampNeg 5)), (4, .ref (ad 2 p0.toNatClampNeg)), (0, .ref (ad 1 0)), (1, .int p0), (2, .int p1), (3, .int p2)]) hx hb dX11_factory_49 hl (by decide) rfl (fun ls hl => ?_)
          refine lv_aload hx hb dX11_factory_51 (lv_at hl 1 rfl) ?_
          refine lv_iload_n hx hb dX11_factory_53 rfl (lv_at hl 5 rfl) ?_
          refine tqc_put hx hb hw tq_inX5 tyX5 tyX5_ok nmX5 hown hK hW hS (by decide) (tq_mk_2 (tq_lt b7)) rfl 5 (by decide) (hw _ tw_263) (fun _ h9 => h9) rfl rfl rfl rfl (tq_mk_2 (tq_lt b7)) dX11_factory_54 (fun H locs hW hS => ?_)
          generalize eS18 : tq_up S15 2 p0.toNatClampNeg 5 p2 = S18 at hW
          have h := h S18 eS18.symm
          refine lv_iload hx hb dX11_factory_57 (lv_at hl 0 rfl) ?_
          exact W.iret (v := S15 2 p0.toNatClampNeg 5) hx hb hr (fun t ht hWm => ⟨⟨_, S18, rfl, h, tq_pe ht hW⟩, hS.F ht⟩) hS.2.2 dX11_factory_59
        · have h := h.2 c17
          refine lv_bipush (v := (-2)) hx hb dX11_factory_41 (by decide) ?_
          exact W.iret (v := (-2)) hx hb hr (fun t ht hWm => ⟨⟨_, S15, rfl, h, tq_pe ht hW⟩, hS.F ht⟩) hS.2.2 dX11_factory_43
    · have h := h.2 c6
      exact bX11_factory_16 C  _  _ _ _ h hW hS (lv_sub hl [] rfl)
-- X11 base
def wbX11_base_14 (N : tq_Nn) (post : tq_St → Int32 → Prop)  (S : tq_St) : Prop :=
  post S ((-1))
def wpX11_base (N : tq_Nn) (post : tq_St → Int32 → Prop) (S : tq_St) (p0 : Int32) (p1 : Int32) (p2 : Int32) : Prop :=
  wpX11_isFactory N (fun S1 r2 => (r2 = 0 → (wbX11_base_14 N post S1 )) ∧ (¬ r2 = 0 → (wpX11_isSort N (fun S4 r5 => (¬ r5 = 0 → (wpX11_within N (fun S7 r8 => (¬ r8 = 0 → (vp_in p0 5 ∧ (vp_in p1 4 ∧ (∀ S12, S12 = tq_up S7 31 p0.toNatClampNeg p1.toNatClampNeg p2 → (post S12 (S7 31 p0.toNatClampNeg p1.toNatClampNeg)))))) ∧ (r8 = 0 → (post S7 ((-2))))) S4 p2 1 999)) ∧ (r5 = 0 → (wbX11_base_14 N post S4 ))) S1 p1))) S p0
set_option maxHeartbeats 4000000 in
set_option maxRecDepth 100000 in
theorem bX11_base_14 {p : Program} {e : Env} {s : State} {m : MethodId} {args : Array Value} {below : List Frame} {meth : Method} {c : Code} {post : tq_St → Int32 → Prop} (C : tq_At p s m meth c args cX11_base 5 ((some .int)) ((tq_ws yX11_base cX11_base 5 (some .int))) RX11 D cy z ad)  : ∀ (S : tq_St)  (H : Heap) (locs : List Loc) (ls : Array Slot), wbX11_base_14 N post   S  → tq_wd D cy z H0 ad N (tq_mix S M) H → va_S (fun q => z ≤ q) s.heap H locs → lv_has ls 5 [] → W p l e (tq_rm 1 22) s m args below meth c H locs 0 0 (MQ below (va_Qi (fun r u => post u r) (fun u => tq_P D cy z H0 ad N u M) (fun q => z ≤ q)) args s 0 0 (fun q => z ≤ q)) (F0 m 14 ls []) := by
  obtain ⟨hx, hb, hr, hml, hown, hts, hlocks, hK, hG⟩ := id C
  have hw : ∀ w ∈ tq_W, w.before args s = true := fun w h => hts w (List.mem_cons_of_mem _ h)
  intro S  H locs ls h hW hS hl
  unfold wbX11_base_14 at h
  refine lv_iconst (v := (-1)) hx hb dX11_base_14 (by decide) ?_
  exact W.iret (v := (-1)) hx hb hr (fun t ht hWm => ⟨⟨_, S, rfl, h, tq_pe ht hW⟩, hS.F ht⟩) hS.2.2 dX11_base_15
set_option maxHeartbeats 4000000 in
set_option maxRecDepth 100000 in
theorem kX11_base {post : tq_St → Int32 → Prop} {S : tq_St} {p0 : Int32} {p1 : Int32} {p2 : Int32} (h : wpX11_base N post S p0 p1 p2) : tq_sI l yX11_base (tq_ws yX11_base cX11_base 5 (some .int)) 1 22 D cy z H0 ad N M S [.ref (ad 1 0), .int p0, .int p1, .int p2] post := by
  unfold wpX11_base at h
  refine Met.ofW (cc := cX11_base) (maxL := 5) (ret := (some .int)) (by decide) rfl ?_
  intro p e s m args below meth c s₁ B hml hv
  obtain ⟨rfl, hW, hK, hG⟩ := hv
  have hx := B.exec
  have hb := B.bytes
  have hr := B.returns
  have hts := atoms_spec (ws := (tq_ws yX11_base cX11_base 5 (some .int))) B.pre
  have hw : ∀ w ∈ tq_W, w.before _ s = true := fun w h => hts w (List.mem_cons_of_mem _ h)
  have hown : s.vm.findClass RX11 = some m.cls := findClass_of_methodNamed B.named
  have hlocks := B.notSynchronized
  have C : tq_At p s m meth c [.ref (ad 1 0), .int p0, .int p1, .int p2].toArray cX11_base 5 ((some .int)) ((tq_ws yX11_base cX11_base 5 (some .int))) RX11 D cy z ad := ⟨hx, hb, hr, hml, hown, hts, hlocks, hK, hG⟩
  have hS : va_S (fun q => z ≤ q) s.heap s.heap [] := va_S.rf
  have hl := lv_entry ([.ref (ad 1 0), .int p0, .int p1, .int p2]) (n := 5) (Nat.le_of_ble_eq_true rfl)
  rw [lg_entry_eq]
  generalize (lg_sl ([.ref (ad 1 0), .int p0, .int p1, .int p2]) ++ List.replicate (5 - (lg_sl ([.ref (ad 1 0), .int p0, .int p1, .int p2])).length) Slot.unset).toArray = ls at hl ⊢
  have hl : lv_has ls 5 [(0, .ref (ad 1 0)), (1, .int p0), (2, .int p1), (3, .int p2)] := hl
  have hW : tq_wd D cy z H0 ad N (tq_mix S M) s.heap := hW
  refine lv_iload_n hx hb dX11_base_0 rfl (lv_at hl 1 rfl) ?_
  refine tqc_callSi (As := [.int p0]) (rest := []) (kX11_isFactory h) ⟨hx, hb, hml, hown, hts⟩ (va_cwS 1 hts (tq_goodS tw_402 tw_403 tw_115 tw_404) rfl rfl rfl (by decide +kernel) ⟨(Nat.le_of_ble_eq_true rfl), (Nat.le_of_ble_eq_true rfl)⟩) hK hG hW hS rfl hl.1 rfl (Nat.le_of_ble_eq_true rfl) dX11_base_1 ⟨(Nat.le_of_ble_eq_true rfl), (Nat.le_of_ble_eq_true rfl)⟩ (fun r2 S1 H locs h hW hS => ?_)
  refine lv_if_eq (tgt := 14) hx hb dX11_base_4 (by decide) (fun c3 => ?_) (fun c3 => ?_)
  · have h := h.1 c3
    exact bX11_base_14 C  _  _ _ _ h hW hS (lv_sub hl [] rfl)
  · have h := h.2 c3
    refine lv_iload_n hx hb dX11_base_7 rfl (lv_at hl 2 rfl) ?_
    refine tqc_callSi (As := [.int p1]) (rest := []) (kX11_isSort h) ⟨hx, hb, hml, hown, hts⟩ (va_cwS 1 hts (tq_goodS tw_412 tw_413 tw_115 tw_414) rfl rfl rfl (by decide +kernel) ⟨(Nat.le_of_ble_eq_true rfl), (Nat.le_of_ble_eq_true rfl)⟩) hK hG hW hS rfl hl.1 rfl (Nat.le_of_ble_eq_true rfl) dX11_base_8 ⟨(Nat.le_of_ble_eq_true rfl), (Nat.le_of_ble_eq_true rfl)⟩ (fun r5 S4 H locs h hW hS => ?_)
    refine lv_if_ne (tgt := 16) hx hb dX11_base_11 (by decide) (fun c6 => ?_) (fun c6 => ?_)
    · have h := h.1 c6
      refine lv_iload_n hx hb dX11_base_16 rfl (lv_at hl 3 rfl) ?_
      refine lv_iconst (v := 1) hx hb dX11_base_17 (by decide) ?_
      refine lv_sipush (v := 999) hx hb dX11_base_18 (by decide) ?_
      refine tqc_callSi (As := [.int p2, .int 1, .int 999]) (rest := []) (kX11_within h) ⟨hx, hb, hml, hown, hts⟩ (va_cwS 3 hts (tq_goodS tw_405 tw_406 tw_115 tw_407) rfl rfl rfl (by decide +kernel) ⟨(Nat.le_of_ble_eq_true rfl), (Nat.le_of_ble_eq_true rfl)⟩) hK hG hW hS rfl hl.1 rfl (Nat.le_of_ble_eq_true rfl) dX11_base_21 ⟨(Nat.le_of_ble_eq_true rfl), (Nat.le_of_ble_eq_true rfl)⟩ (fun r8 S7 H locs h hW hS => ?_)
      refine lv_if_ne (tgt := 30) hx hb dX11_base_24 (by decide) (fun c9 => ?_) (fun c9 => ?_)
      · have h := h.1 c9
        refine lv_aload_n hx hb dX11_base_30 rfl (lv_at hl 0 rfl) ?_
        refine tqc_get (v := .ref (ad 12 0)) hx hb hw tq_inX11 hown hK hW (by decide) (tq_mk_1 (by decide)) rfl 1 (by decide) (hw _ tw_338) (fun _ h9 => h9) rfl dX11_base_31 ?_
        refine lv_iload_n hx hb dX11_base_34 rfl (lv_at hl 1 rfl) ?_
        obtain ⟨b10, h⟩ := h
        refine tqc_aald (jn := p0.toNatClampNeg) (v := .ref (ad 2 p0.toNatClampNeg)) hx hb hK hW (by decide) (tq_mk_12 (by decide)) 3 rfl rfl b10 rfl rfl dX11_base_35 ?_
        refine tqc_get (v := .ref (ad 31 p0.toNatClampNeg)) hx hb hw tq_inX5 hown hK hW (by decide) (tq_mk_2 (tq_lt b10)) rfl 6 (by decide) (hw _ tw_266) (fun _ h9 => h9) rfl dX11_base_36 ?_
        refine lv_iload_n hx hb dX11_base_39 rfl (lv_at hl 2 rfl) ?_
        obtain ⟨b11, h⟩ := h
        refine tqc_iald (jn := p1.toNatClampNeg) hx hb hK hW (by decide) (tq_mk_31 (tq_lt b10)) b11 rfl dX11_base_40 ?_
        refine lv_istore (lv' := [(4, .int (S7 31 p0.toNatClampNeg p1.toNatClampNeg)), (0, .ref (ad 1 0)), (1, .int p0), (2, .int p1), (3, .int p2)]) hx hb dX11_base_41 hl (by decide) rfl (fun ls hl => ?_)
        refine lv_aload_n hx hb dX11_base_43 rfl (lv_at hl 1 rfl) ?_
        refine tqc_get (v := .ref (ad 12 0)) hx hb hw tq_inX11 hown hK hW (by decide) (tq_mk_1 (by decide)) rfl 1 (by decide) (hw _ tw_338) (fun _ h9 => h9) rfl dX11_base_44 ?_
        refine lv_iload_n hx hb dX11_base_47 rfl (lv_at hl 2 rfl) ?_
        refine tqc_aald (jn := p0.toNatClampNeg) (v := .ref (ad 2 p0.toNatClampNeg)) hx hb hK hW (by decide) (tq_mk_12 (by decide)) 3 rfl rfl b10 rfl rfl dX11_base_48 ?_
        refine tqc_get (v := .ref (ad 31 p0.toNatClampNeg)) hx hb hw tq_inX5 hown hK hW (by decide) (tq_mk_2 (tq_lt b10)) rfl 6 (by decide) (hw _ tw_266) (fun _ h9 => h9) rfl dX11_base_49 ?_
        refine lv_iload_n hx hb dX11_base_52 rfl (lv_at hl 3 rfl) ?_
        refine lv_iload_n hx hb dX11_base_53 rfl (lv_at hl 4 rfl) ?_
        refine tqc_iast (jn := p1.toNatClampNeg) hx hb hK hW hS (by decide) (tq_mk_31 (tq_lt b10)) b11 rfl (tq_mk_31 (tq_lt b10)) dX11_base_54 (fun H locs hW hS => ?_)
        generalize eS12 : tq_up S7 31 p0.toNatClampNeg p1.toNatClampNeg p2 = S12 at hW
        have h := h S12 eS12.symm
        refine lv_iload hx hb dX11_base_55 (lv_at hl 0 rfl) ?_
        exact W.iret (v := S7 31 p0.toNatClampNeg p1.toNatClampNeg) hx hb hr (fun t ht hWm => ⟨⟨_, S12, rfl, h, tq_pe ht hW⟩, hS.F ht⟩) hS.2.2 dX11_base_57
      · have h := h.2 c9
        refine lv_bipush (v := (-2)) hx hb dX11_base_27 (by decide) ?_
        exact W.iret (v := (-2)) hx hb hr (fun t ht hWm => ⟨⟨_, S7, rfl, h, tq_pe ht hW⟩, hS.F ht⟩) hS.2.2 dX11_base_29
    · have h := h.2 c6
      exact bX11_base_14 C  _  _ _ _ h hW hS (lv_sub hl [] rfl)
-- X11 price
def wbX11_price_28 (N : tq_Nn) (post : tq_St → Int32 → Prop)  (S : tq_St) (y0 : Int32) : Prop :=
  post S y0
def wbX11_price_27 (N : tq_Nn) (post : tq_St → Int32 → Prop)  (S : tq_St) : Prop :=
  wbX11_price_28 N post S ((-1))
def wpX11_price (N : tq_Nn) (post : tq_St → Int32 → Prop) (S : tq_St) (p0 : Int32) (p1 : Int32) : Prop :=
  wpX11_isFactory N (fun S1 r2 => (r2 = 0 → (wbX11_price_27 N post S1 )) ∧ (¬ r2 = 0 → (wpX11_isSort N (fun S4 r5 => (r5 = 0 → (wbX11_price_27 N post S4 )) ∧ (¬ r5 = 0 → (vp_in p0 5 ∧ (wpX5_priceOf N (fun S8 r9 => wbX11_price_28 N post S8 r9) S4 p0.toNatClampNeg p1)))) S1 p1))) S p0
set_option maxHeartbeats 4000000 in
set_option maxRecDepth 100000 in
theorem bX11_price_28 {p : Program} {e : Env} {s : State} {m : MethodId} {args : Array Value} {below : List Frame} {meth : Method} {c : Code} {post : tq_St → Int32 → Prop} (C : tq_At p s m meth c args cX11_price 3 ((some .int)) ((tq_ws yX11_price cX11_price 3 (some .int))) RX11 D cy z ad)  : ∀ (S : tq_St) (y0 : Int32) (H : Heap) (locs : List Loc) (ls : Array Slot), wbX11_price_28 N post   S y0 → tq_wd D cy z H0 ad N (tq_mix S M) H → va_S (fun q => z ≤ q) s.heap H locs → lv_has ls 3 [] → W p l e (tq_rm 1 21) s m args below meth c H locs 0 0 (MQ below (va_Qi (fun r u => post u r) (fun u => tq_P D cy z H0 ad N u M) (fun q => z ≤ q)) args s 0 0 (fun q => z ≤ q)) (F0 m 28 ls [.int y0]) := by
  obtain ⟨hx, hb, hr, hml, hown, hts, hlocks, hK, hG⟩ := id C
  have hw : ∀ w ∈ tq_W, w.before args s = true := fun w h => hts w (List.mem_cons_of_mem _ h)
  intro S y0 H locs ls h hW hS hl
  unfold wbX11_price_28 at h
  exact W.iret (v := y0) hx hb hr (fun t ht hWm => ⟨⟨_, S, rfl, h, tq_pe ht hW⟩, hS.F ht⟩) hS.2.2 dX11_price_28
set_option maxHeartbeats 4000000 in
set_option maxRecDepth 100000 in
theorem bX11_price_27 {p : Program} {e : Env} {s : State} {m : MethodId} {args : Array Value} {below : List Frame} {meth : Method} {c : Code} {post : tq_St → Int32 → Prop} (C : tq_At p s m meth c args cX11_price 3 ((some .int)) ((tq_ws yX11_price cX11_price 3 (some .int))) RX11 D cy z ad)  : ∀ (S : tq_St)  (H : Heap) (locs : List Loc) (ls : Array Slot), wbX11_price_27 N post   S  → tq_wd D cy z H0 ad N (tq_mix S M) H → va_S (fun q => z ≤ q) s.heap H locs → lv_has ls 3 [] → W p l e (tq_rm 1 21) s m args below meth c H locs 0 0 (MQ below (va_Qi (fun r u => post u r) (fun u => tq_P D cy z H0 ad N u M) (fun q => z ≤ q)) args s 0 0 (fun q => z ≤ q)) (F0 m 27 ls []) := by
  obtain ⟨hx, hb, hr, hml, hown, hts, hlocks, hK, hG⟩ := id C
  have hw : ∀ w ∈ tq_W, w.before args s = true := fun w h => hts w (List.mem_cons_of_mem _ h)
  intro S  H locs ls h hW hS hl
  unfold wbX11_price_27 at h
  refine lv_iconst (v := (-1)) hx hb dX11_price_27 (by decide) ?_
  exact bX11_price_28 C  _ _ _ _ _ h hW hS (lv_sub hl [] rfl)
set_option maxHeartbeats 4000000 in
set_option maxRecDepth 100000 in
theorem kX11_price {post : tq_St → Int32 → Prop} {S : tq_St} {p0 : Int32} {p1 : Int32} (h : wpX11_price N post S p0 p1) : tq_sI l yX11_price (tq_ws yX11_price cX11_price 3 (some .int)) 1 21 D cy z H0 ad N M S [.ref (ad 1 0), .int p0, .int p1] post := by
  unfold wpX11_price at h
  refine Met.ofW (cc := cX11_price) (maxL := 3) (ret := (some .int)) (by decide) rfl ?_
  intro p e s m args below meth c s₁ B hml hv
  obtain ⟨rfl, hW, hK, hG⟩ := hv
  have hx := B.exec
  have hb := B.bytes
  have hr := B.returns
  have hts := atoms_spec (ws := (tq_ws yX11_price cX11_price 3 (some .int))) B.pre
  have hw : ∀ w ∈ tq_W, w.before _ s = true := fun w h => hts w (List.mem_cons_of_mem _ h)
  have hown : s.vm.findClass RX11 = some m.cls := findClass_of_methodNamed B.named
  have hlocks := B.notSynchronized
  have C : tq_At p s m meth c [.ref (ad 1 0), .int p0, .int p1].toArray cX11_price 3 ((some .int)) ((tq_ws yX11_price cX11_price 3 (some .int))) RX11 D cy z ad := ⟨hx, hb, hr, hml, hown, hts, hlocks, hK, hG⟩
  have hS : va_S (fun q => z ≤ q) s.heap s.heap [] := va_S.rf
  have hl := lv_entry ([.ref (ad 1 0), .int p0, .int p1]) (n := 3) (Nat.le_of_ble_eq_true rfl)
  rw [lg_entry_eq]
  generalize (lg_sl ([.ref (ad 1 0), .int p0, .int p1]) ++ List.replicate (3 - (lg_sl ([.ref (ad 1 0), .int p0, .int p1])).length) Slot.unset).toArray = ls at hl ⊢
  have hl : lv_has ls 3 [(0, .ref (ad 1 0)), (1, .int p0), (2, .int p1)] := hl
  have hW : tq_wd D cy z H0 ad N (tq_mix S M) s.heap := hW
  refine lv_iload_n hx hb dX11_price_0 rfl (lv_at hl 1 rfl) ?_
  refine tqc_callSi (As := [.int p0]) (rest := []) (kX11_isFactory h) ⟨hx, hb, hml, hown, hts⟩ (va_cwS 1 hts (tq_goodS tw_402 tw_403 tw_115 tw_404) rfl rfl rfl (by decide +kernel) ⟨(Nat.le_of_ble_eq_true rfl), (Nat.le_of_ble_eq_true rfl)⟩) hK hG hW hS rfl hl.1 rfl (Nat.le_of_ble_eq_true rfl) dX11_price_1 ⟨(Nat.le_of_ble_eq_true rfl), (Nat.le_of_ble_eq_true rfl)⟩ (fun r2 S1 H locs h hW hS => ?_)
  refine lv_if_eq (tgt := 27) hx hb dX11_price_4 (by decide) (fun c3 => ?_) (fun c3 => ?_)
  · have h := h.1 c3
    exact bX11_price_27 C  _  _ _ _ h hW hS (lv_sub hl [] rfl)
  · have h := h.2 c3
    refine lv_iload_n hx hb dX11_price_7 rfl (lv_at hl 2 rfl) ?_
    refine tqc_callSi (As := [.int p1]) (rest := []) (kX11_isSort h) ⟨hx, hb, hml, hown, hts⟩ (va_cwS 1 hts (tq_goodS tw_412 tw_413 tw_115 tw_414) rfl rfl rfl (by decide +kernel) ⟨(Nat.le_of_ble_eq_true rfl), (Nat.le_of_ble_eq_true rfl)⟩) hK hG hW hS rfl hl.1 rfl (Nat.le_of_ble_eq_true rfl) dX11_price_8 ⟨(Nat.le_of_ble_eq_true rfl), (Nat.le_of_ble_eq_true rfl)⟩ (fun r5 S4 H locs h hW hS => ?_)
    refine lv_if_eq (tgt := 27) hx hb dX11_price_11 (by decide) (fun c6 => ?_) (fun c6 => ?_)
    · have h := h.1 c6
      exact bX11_price_27 C  _  _ _ _ h hW hS (lv_sub hl [] rfl)
    · have h := h.2 c6
      refine lv_aload_n hx hb dX11_price_14 rfl (lv_at hl 0 rfl) ?_
      refine tqc_get (v := .ref (ad 12 0)) hx hb hw tq_inX11 hown hK hW (by decide) (tq_mk_1 (by decide)) rfl 1 (by decide) (hw _ tw_338) (fun _ h9 => h9) rfl dX11_price_15 ?_
      refine lv_iload_n hx hb dX11_price_18 rfl (lv_at hl 1 rfl) ?_
      obtain ⟨b7, h⟩ := h
      refine tqc_aald (jn := p0.toNatClampNeg) (v := .ref (ad 2 p0.toNatClampNeg)) hx hb hK hW (by decide) (tq_mk_12 (by decide)) 3 rfl rfl b7 rfl rfl dX11_price_19 ?_
      refine lv_iload_n hx hb dX11_price_20 rfl (lv_at hl 2 rfl) ?_
      refine tqc_callVi (As := [.int p1]) (rest := []) (kX5_priceOf h) ⟨hx, hb, hml, hown, hts⟩ (cwV 1 hts (tq_goodV tw_419 tw_420 tw_421 tw_122 tw_422) rfl rfl rfl (by decide +kernel) ⟨(Nat.le_of_ble_eq_true rfl), (Nat.le_of_ble_eq_true rfl)⟩) (tq_recvC hK hW (by decide) (tq_mk_2 (tq_lt b7)) rfl) hK hG hW hS rfl hl.1 rfl (Nat.le_of_ble_eq_true rfl) dX11_price_21 ⟨(Nat.le_of_ble_eq_true rfl), (Nat.le_of_ble_eq_true rfl)⟩ (fun r9 S8 H locs h hW hS => ?_)
      refine lv_goto (tgt := 28) hx hb dX11_price_24 (by decide) ?_
      exact bX11_price_28 C  _ _ _ _ _ h hW hS (lv_sub hl [] rfl)
