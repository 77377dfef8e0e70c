variable {l : Launch} {D : va_G} {cy : Nat → ClassId} {z : Nat} {H0 : Heap} {ad : Nat → Nat → Nat} {N : tq_Nn} {S : tq_St}
-- paper
def wbX12_paper_138 (post : tq_St → Int32 → Prop)  (M : tq_St) (y0 : Int32) : Prop :=
  post M y0
def wbX12_paper_126 (post : tq_St → Int32 → Prop)  (M : tq_St) (x1 : Int32) : Prop :=
  vp_in x1 150 ∧ (wbX12_paper_138 post M (M 116 x1.toNatClampNeg 0))
def wpX12_paper (post : tq_St → Int32 → Prop) (M : tq_St) (p0 : Int32) (p1 : Int32) : Prop :=
  wpX12_isPaper (fun M1 r2 => (¬ r2 = 0 → ((p1 = 0 → (vp_in p0 150 ∧ (post M1 (M1 110 0 p0.toNatClampNeg)))) ∧ (¬ p1 = 0 → ((p1 = 1 → (vp_in p0 150 ∧ (post M1 (M1 111 0 p0.toNatClampNeg)))) ∧ (¬ p1 = 1 → ((p1 = 2 → (vp_in p0 150 ∧ (post M1 (M1 112 0 p0.toNatClampNeg)))) ∧ (¬ p1 = 2 → ((p1 = 3 → (vp_in p0 150 ∧ (post M1 (M1 113 0 p0.toNatClampNeg)))) ∧ (¬ p1 = 3 → ((p1 = 4 → (vp_in p0 150 ∧ (post M1 (M1 114 0 p0.toNatClampNeg)))) ∧ (¬ p1 = 4 → ((p1 = 5 → (vp_in p0 150 ∧ ((¬ (M1 110 0 p0.toNatClampNeg) = 2 → (((M1 110 0 p0.toNatClampNeg) = 4 → (wbX12_paper_126 post M1 p0)) ∧ (¬ (M1 110 0 p0.toNatClampNeg) = 4 → ((¬ (M1 110 0 p0.toNatClampNeg) = 5 → (wbX12_paper_138 post M1 0)) ∧ ((M1 110 0 p0.toNatClampNeg) = 5 → (wbX12_paper_126 post M1 p0)))))) ∧ ((M1 110 0 p0.toNatClampNeg) = 2 → (wbX12_paper_138 post M1 (M1 117 0 p0.toNatClampNeg)))))) ∧ (¬ p1 = 5 → (post M1 ((-5)))))))))))))))) ∧ (r2 = 0 → (post M1 ((-5))))) M p0
set_option maxHeartbeats 4000000 in
set_option maxRecDepth 100000 in
theorem bX12_paper_138 {p : Program} {e : Env} {s : State} {m : MethodId} {args : Array Value} {below : List Frame} {meth : Method} {c : Code} {post : tq_St → Int32 → Prop} (C : tq_At p s m meth c args cX12_paper 3 ((some .int)) ((tq_ws yX12_paper cX12_paper 3 (some .int))) RX12 D cy z ad)  : ∀ (M : tq_St) (y0 : Int32) (H : Heap) (locs : List Loc) (ls : Array Slot), wbX12_paper_138 post   M y0 → tq_wd D cy z H0 ad N (tq_mix S M) H → va_S (fun q => z ≤ q) s.heap H locs → lv_has ls 3 [] → W p l e (tq_rm 2 43) s m args below meth c H locs 0 0 (MQ below (va_Qi (fun r u => post u r) (tq_P D cy z H0 ad N S) (fun q => z ≤ q)) args s 0 0 (fun q => z ≤ q)) (F0 m 138 ls [.int y0]) := by
  obtain ⟨hx, hb, hr, hml, hown, hts, hlocks, hK, hG⟩ := id C
  have hw : ∀ w ∈ tq_W, w.before args s = true := fun w h => hts w (List.mem_cons_of_mem _ h)
  intro M y0 H locs ls h hW hS hl
  unfold wbX12_paper_138 at h
  exact W.iret (v := y0) hx hb hr (fun t ht hWm => ⟨⟨_, M, rfl, h, tq_pe ht hW⟩, hS.F ht⟩) hS.2.2 dX12_paper_138
set_option maxHeartbeats 4000000 in
set_option maxRecDepth 100000 in
theorem bX12_paper_126 {p : Program} {e : Env} {s : State} {m : MethodId} {args : Array Value} {below : List Frame} {meth : Method} {c : Code} {post : tq_St → Int32 → Prop} (C : tq_At p s m meth c args cX12_paper 3 ((some .int)) ((tq_ws yX12_paper cX12_paper 3 (some .int))) RX12 D cy z ad)  : ∀ (M : tq_St) (x1 : Int32) (H : Heap) (locs : List Loc) (ls : Array Slot), wbX12_paper_126 post   M x1 → tq_wd D cy z H0 ad N (tq_mix S M) H → va_S (fun q => z ≤ q) s.heap H locs → lv_has ls 3 [(0, .ref (ad 64 0)), (1, .int x1)] → W p l e (tq_rm 2 43) s m args below meth c H locs 0 0 (MQ below (va_Qi (fun r u => post u r) (tq_P D cy z H0 ad N S) (fun q => z ≤ q)) args s 0 0 (fun q => z ≤ q)) (F0 m 126 ls []) := by
  obtain ⟨hx, hb, hr, hml, hown, hts, hlocks, hK, hG⟩ := id C
  have hw : ∀ w ∈ tq_W, w.before args s = true := fun w h => hts w (List.mem_cons_of_mem _ h)
  intro M x1 H locs ls h hW hS hl
  unfold wbX12_paper_126 at h
  refine lv_aload_n hx hb dX12_paper_126 rfl (lv_at hl 0 rfl) ?_
  refine tqm_get (v := .ref (ad 216 0)) hx hb hw tq_inX12 hown hK hW (by decide) (tq_mk_64 (by decide)) rfl 16 (by decide) (hw _ tw_1424) (fun _ h9 => h9) rfl dX12_paper_127 ?_
  refine lv_iload_n hx hb dX12_paper_130 rfl (lv_at hl 1 rfl) ?_
  obtain ⟨b19, h⟩ := h
  refine tqm_aald (jn := x1.toNatClampNeg) (v := .ref (ad 116 x1.toNatClampNeg)) hx hb hK hW (by decide) (tq_mk_216 (by decide)) 2 rfl rfl b19 rfl rfl dX12_paper_131 ?_
  refine lv_iconst (v := 0) hx hb dX12_paper_132 (by decide) ?_
  refine tqm_iald (jn := 0) hx hb hK hW (by decide) (tq_mk_116 (tq_lt b19)) (by unfold vp_in; decide) (by decide) dX12_paper_133 ?_
  refine lv_goto (tgt := 138) hx hb dX12_paper_134 (by decide) ?_
  exact bX12_paper_138 C  _ _ _ _ _ h hW hS (lv_sub hl [] rfl)
set_option maxHeartbeats 4000000 in
set_option maxRecDepth 100000 in
theorem kX12_paper {post : tq_St → Int32 → Prop} {M : tq_St} {p0 : Int32} {p1 : Int32} (h : wpX12_paper post M p0 p1) : tq_mI l yX12_paper (tq_ws yX12_paper cX12_paper 3 (some .int)) 2 43 D cy z H0 ad N S M [.ref (ad 64 0), .int p0, .int p1] post := by
  unfold wpX12_paper at h
  refine Met.ofW (cc := cX12_paper) (maxL := 3) (ret := (some .int)) (by decide) rfl ?_
  intro p e s m args below meth c s₁ B hml hv
  obtain ⟨rfl, hW, hK, hG⟩ := hv
  have hx := B.exec
  have hb := B.bytes
  have hr := B.returns
  have hts := atoms_spec (ws := (tq_ws yX12_paper cX12_paper 3 (some .int))) B.pre
  have hw : ∀ w ∈ tq_W, w.before _ s = true := fun w h => hts w (List.mem_cons_of_mem _ h)
  have hown : s.vm.findClass RX12 = some m.cls := findClass_of_methodNamed B.named
  have hlocks := B.notSynchronized
  have C : tq_At p s m meth c [.ref (ad 64 0), .int p0, .int p1].toArray cX12_paper 3 ((some .int)) ((tq_ws yX12_paper cX12_paper 3 (some .int))) RX12 D cy z ad := ⟨hx, hb, hr, hml, hown, hts, hlocks, hK, hG⟩
  have hS : va_S (fun q => z ≤ q) s.heap s.heap [] := va_S.rf
  have hl := lv_entry ([.ref (ad 64 0), .int p0, .int p1]) (n := 3) (Nat.le_of_ble_eq_true rfl)
  rw [lg_entry_eq]
  generalize (lg_sl ([.ref (ad 64 0), .int p0, .int p1]) ++ List.replicate (3 - (lg_sl ([.ref (ad 64 0), .int p0, .int p1])).length) Slot.unset).toArray = ls at hl ⊢
  have hl : lv_has ls 3 [(0, .ref (ad 64 0)), (1, .int p0), (2, .int p1)] := hl
  have hW : tq_wd D cy z H0 ad N (tq_mix S M) s.heap := hW
  refine lv_aload_n hx hb dX12_paper_0 rfl (lv_at hl 0 rfl) ?_
  refine lv_iload_n hx hb dX12_paper_1 rfl (lv_at hl 1 rfl) ?_
  refine tq_callVi (As := [.int p0]) (rest := []) (kX12_isPaper h) ⟨hx, hb, hml, hown, hts⟩ (cwV 1 hts (tq_goodV tw_1771 tw_1773 tw_68 tw_125 tw_1774) rfl rfl rfl (by decide +kernel) ⟨Nat.le_of_ble_eq_true rfl, Nat.le_of_ble_eq_true rfl⟩) hK hG hW hS rfl hl.1 rfl (Nat.le_of_ble_eq_true rfl) dX12_paper_2 ⟨Nat.le_of_ble_eq_true rfl, Nat.le_of_ble_eq_true rfl⟩ (fun r2 M1 H locs h hW hS => ?_)
  refine lv_if_ne (tgt := 11) hx hb dX12_paper_5 (by decide) (fun c3 => ?_) (fun c3 => ?_)
  · have h := h.1 c3
    refine lv_iload_n hx hb dX12_paper_11 rfl (lv_at hl 2 rfl) ?_
    by_cases c4 : p1 = 0
    · have h := h.1 c4
      refine W.eq (g2 := F0 m 12 ls (.int 0 :: [])) (by rw [c4]) ?_
      refine lv_tableIn (tgt := 52) hx hb dX12_paper_12 (by decide) (by decide) rfl (by decide) ?_
      refine lv_aload_n hx hb dX12_paper_52 rfl (lv_at hl 0 rfl) ?_
      refine tqm_get (v := .ref (ad 110 0)) hx hb hw tq_inX12 hown hK hW (by decide) (tq_mk_64 (by decide)) rfl 10 (by decide) (hw _ tw_1418) (fun _ h9 => h9) rfl dX12_paper_53 ?_
      refine lv_iload_n hx hb dX12_paper_56 rfl (lv_at hl 1 rfl) ?_
      obtain ⟨b5, h⟩ := h
      refine tqm_iald (jn := p0.toNatClampNeg) hx hb hK hW (by decide) (tq_mk_110 (by decide)) b5 rfl dX12_paper_57 ?_
      exact W.iret (v := M1 110 0 p0.toNatClampNeg) hx hb hr (fun t ht hWm => ⟨⟨_, M1, rfl, h, tq_pe ht hW⟩, hS.F ht⟩) hS.2.2 dX12_paper_58
    · have h := h.2 c4
      by_cases c6 : p1 = 1
      · have h := h.1 c6
        refine W.eq (g2 := F0 m 12 ls (.int 1 :: [])) (by rw [c6]) ?_
        refine lv_tableIn (tgt := 59) hx hb dX12_paper_12 (by decide) (by decide) rfl (by decide) ?_
        refine lv_aload_n hx hb dX12_paper_59 rfl (lv_at hl 0 rfl) ?_
        refine tqm_get (v := .ref (ad 111 0)) hx hb hw tq_inX12 hown hK hW (by decide) (tq_mk_64 (by decide)) rfl 11 (by decide) (hw _ tw_1419) (fun _ h9 => h9) rfl dX12_paper_60 ?_
        refine lv_iload_n hx hb dX12_paper_63 rfl (lv_at hl 1 rfl) ?_
        obtain ⟨b7, h⟩ := h
        refine tqm_iald (jn := p0.toNatClampNeg) hx hb hK hW (by decide) (tq_mk_111 (by decide)) b7 rfl dX12_paper_64 ?_
        exact W.iret (v := M1 111 0 p0.toNatClampNeg) hx hb hr (fun t ht hWm => ⟨⟨_, M1, rfl, h, tq_pe ht hW⟩, hS.F ht⟩) hS.2.2 dX12_paper_65
      · have h := h.2 c6
        by_cases c8 : p1 = 2
        · have h := h.1 c8
          refine W.eq (g2 := F0 m 12 ls (.int 2 :: [])) (by rw [c8]) ?_
          refine lv_tableIn (tgt := 66) hx hb dX12_paper_12 (by decide) (by decide) rfl (by decide) ?_
          refine lv_aload_n hx hb dX12_paper_66 rfl (lv_at hl 0 rfl) ?_
          refine tqm_get (v := .ref (ad 112 0)) hx hb hw tq_inX12 hown hK hW (by decide) (tq_mk_64 (by decide)) rfl 12 (by decide) (hw _ tw_1420) (fun _ h9 => h9) rfl dX12_paper_67 ?_
          refine lv_iload_n hx hb dX12_paper_70 rfl (lv_at hl 1 rfl) ?_
          obtain ⟨b9, h⟩ := h
          refine tqm_iald (jn := p0.toNatClampNeg) hx hb hK hW (by decide) (tq_mk_112 (by decide)) b9 rfl dX12_paper_71 ?_
          exact W.iret (v := M1 112 0 p0.toNatClampNeg) hx hb hr (fun t ht hWm => ⟨⟨_, M1, rfl, h, tq_pe ht hW⟩, hS.F ht⟩) hS.2.2 dX12_paper_72
        · have h := h.2 c8
          by_cases c10 : p1 = 3
          · have h := h.1 c10
            refine W.eq (g2 := F0 m 12 ls (.int 3 :: [])) (by rw [c10]) ?_
            refine lv_tableIn (tgt := 73) hx hb dX12_paper_12 (by decide) (by decide) rfl (by decide) ?_
            refine lv_aload_n hx hb dX12_paper_73 rfl (lv_at hl 0 rfl) ?_
            refine tqm_get (v := .ref (ad 113 0)) hx hb hw tq_inX12 hown hK hW (by decide) (tq_mk_64 (by decide)) rfl 13 (by decide) (hw _ tw_1421) (fun _ h9 => h9) rfl dX12_paper_74 ?_
            refine lv_iload_n hx hb dX12_paper_77 rfl (lv_at hl 1 rfl) ?_
            obtain ⟨b11, h⟩ := h
            refine tqm_iald (jn := p0.toNatClampNeg) hx hb hK hW (by decide) (tq_mk_113 (by decide)) b11 rfl dX12_paper_78 ?_
            exact W.iret (v := M1 113 0 p0.toNatClampNeg) hx hb hr (fun t ht hWm => ⟨⟨_, M1, rfl, h, tq_pe ht hW⟩, hS.F ht⟩) hS.2.2 dX12_paper_79
          · have h := h.2 c10
            by_cases c12 : p1 = 4
            · have h := h.1 c12
              refine W.eq (g2 := F0 m 12 ls (.int 4 :: [])) (by rw [c12]) ?_
              refine lv_tableIn (tgt := 80) hx hb dX12_paper_12 (by decide) (by decide) rfl (by decide) ?_
              refine lv_aload_n hx hb dX12_paper_80 rfl (lv_at hl 0 rfl) ?_
              refine tqm_get (v := .ref (ad 114 0)) hx hb hw tq_inX12 hown hK hW (by decide) (tq_mk_64 (by decide)) rfl 14 (by decide) (hw _ tw_1422) (fun _ h9 => h9) rfl dX12_paper_81 ?_
              refine lv_iload_n hx hb dX12_paper_84 rfl (lv_at hl 1 rfl) ?_
              obtain ⟨b13, h⟩ := h
              refine tqm_iald (jn := p0.toNatClampNeg) hx hb hK hW (by decide) (tq_mk_114 (by decide)) b13 rfl dX12_paper_85 ?_
              exact W.iret (v := M1 114 0 p0.toNatClampNeg) hx hb hr (fun t ht hWm => ⟨⟨_, M1, rfl, h, tq_pe ht hW⟩, hS.F ht⟩) hS.2.2 dX12_paper_86
            · have h := h.2 c12
              by_cases c14 : p1 = 5
              · have h := h.1 c14
                refine W.eq (g2 := F0 m 12 ls (.int 5 :: [])) (by rw [c14]) ?_
                refine lv_tableIn (tgt := 87) hx hb dX12_paper_12 (by decide) (by decide) rfl (by decide) ?_
                refine lv_aload_n hx hb dX12_paper_87 rfl (lv_at hl 0 rfl) ?_
                refine tqm_get (v := .ref (ad 110 0)) hx hb hw tq_inX12 hown hK hW (by decide) (tq_mk_64 (by decide)) rfl 10 (by decide) (hw _ tw_1418) (fun _ h9 => h9) rfl dX12_paper_88 ?_
                refine lv_iload_n hx hb dX12_paper_91 rfl (lv_at hl 1 rfl) ?_
                obtain ⟨b15, h⟩ := h
                refine tqm_iald (jn := p0.toNatClampNeg) hx hb hK hW (by decide) (tq_mk_110 (by decide)) b15 rfl dX12_paper_92 ?_
                refine lv_iconst (v := 2) hx hb dX12_paper_93 (by decide) ?_
                refine lv_icmp_ne (tgt := 106) hx hb dX12_paper_94 (by decide) (fun c16 => ?_) (fun c16 => ?_)
                · have h := h.1 c16
                  refine lv_aload_n hx hb dX12_paper_106 rfl (lv_at hl 0 rfl) ?_
                  refine tqm_get (v := .ref (ad 110 0)) hx hb hw tq_inX12 hown hK hW (by decide) (tq_mk_64 (by decide)) rfl 10 (by decide) (hw _ tw_1418) (fun _ h9 => h9) rfl dX12_paper_107 ?_
                  refine lv_iload_n hx hb dX12_paper_110 rfl (lv_at hl 1 rfl) ?_
                  refine tqm_iald (jn := p0.toNatClampNeg) hx hb hK hW (by decide) (tq_mk_110 (by decide)) b15 rfl dX12_paper_111 ?_
                  refine lv_iconst (v := 4) hx hb dX12_paper_112 (by decide) ?_
                  refine lv_icmp_eq (tgt := 126) hx hb dX12_paper_113 (by decide) (fun c17 => ?_) (fun c17 => ?_)
                  · have h := h.1 c17
                    exact bX12_paper_126 C  _ _ _ _ _ h hW hS (lv_sub hl [0, 1] rfl)
                  · have h := h.2 c17
                    refine lv_aload_n hx hb dX12_paper_116 rfl (lv_at hl 0 rfl) ?_
                    refine tqm_get (v := .ref (ad 110 0)) hx hb hw tq_inX12 hown hK hW (by decide) (tq_mk_64 (by decide)) rfl 10 (by decide) (hw _ tw_1418) (fun _ h9 => h9) rfl dX12_paper_117 ?_
                    refine lv_iload_n hx hb dX12_paper_120 rfl (lv_at hl 1 rfl) ?_
                    refine tqm_iald (jn := p0.toNatClampNeg) hx hb hK hW (by decide) (tq_mk_110 (by decide)) b15 rfl dX12_paper_121 ?_
                    refine lv_iconst (v := 5) hx hb dX12_paper_122 (by decide) ?_
                    refine lv_icmp_ne (tgt := 137) hx hb dX12_paper_123 (by decide) (fun c18 => ?_) (fun c18 => ?_)
                    · have h := h.1 c18
                      refine lv_iconst (v := 0) hx hb dX12_paper_137 (by decide) ?_
                      exact bX12_paper_138 C  _ _ _ _ _ h hW hS (lv_sub hl [] rfl)
                    · have h := h.2 c18
                      exact bX12_paper_126 C  _ _ _ _ _ h hW hS (lv_sub hl [0, 1] rfl)
                · have h := h.2 c16
                  refine lv_aload_n hx hb dX12_paper_97 rfl (lv_at hl 0 rfl) ?_
                  refine tqm_get (v := .ref (ad 117 0)) hx hb hw tq_inX12 hown hK hW (by decide) (tq_mk_64 (by decide)) rfl 17 (by decide) (hw _ tw_1425) (fun _ h9 => h9) rfl dX12_paper_98 ?_
                  refine lv_iload_n hx hb dX12_paper_101 rfl (lv_at hl 1 rfl) ?_
                  refine tqm_iald (jn := p0.toNatClampNeg) hx hb hK hW (by decide) (tq_mk_117 (by decide)) b15 rfl dX12_paper_102 ?_
                  refine lv_goto (tgt := 138) hx hb dX12_paper_103 (by decide) ?_
                  exact bX12_paper_138 C  _ _ _ _ _ h hW hS (lv_sub hl [] rfl)
              · have h := h.2 c14
                refine lv_tableOut (tgt := 139) hx hb dX12_paper_12 (tq_out6 c4 c6 c8 c10 c12 c14) (by decide) ?_
                refine lv_bipush (v := (-5)) hx hb dX12_paper_139 (by decide) ?_
                exact W.iret (v := (-5)) hx hb hr (fun t ht hWm => ⟨⟨_, M1, rfl, h, tq_pe ht hW⟩, hS.F ht⟩) hS.2.2 dX12_paper_141
  · have h := h.2 c3
    refine lv_bipush (v := (-5)) hx hb dX12_paper_8 (by decide) ?_
    exact W.iret (v := (-5)) hx hb hr (fun t ht hWm => ⟨⟨_, M1, rfl, h, tq_pe ht hW⟩, hS.F ht⟩) hS.2.2 dX12_paper_10
-- known_
def wbX12_known__48 (post : tq_St → Int32 → Prop)  (M : tq_St) (y0 : Int32) : Prop :=
  narrow .boolean (.int y0) = .int y0 ∧ post M y0
def wbX12_known__47 (post : tq_St → Int32 → Prop)  (M : tq_St) : Prop :=
  wbX12_known__48 post M 0
def wpX12_known_ (post : tq_St → Int32 → Prop) (M : tq_St) (p0 : Int32) (p1 : Int32) (p2 : Int32) : Prop :=
  vp_in p0 150 ∧ ((¬ (M 110 0 p0.toNatClampNeg) = 2 → (wbX12_known__47 post M )) ∧ ((M 110 0 p0.toNatClampNeg) = 2 → ((¬ (M 113 0 p0.toNatClampNeg) = p1 → (wbX12_known__47 post M )) ∧ ((M 113 0 p0.toNatClampNeg) = p1 → (vp_in p1 5 ∧ (((M 115 p0.toNatClampNeg p1.toNatClampNeg) < 0 → (wbX12_known__47 post M )) ∧ (¬ (M 115 p0.toNatClampNeg p1.toNatClampNeg) < 0 → ((p2 < (M 115 p0.toNatClampNeg p1.toNatClampNeg) → (wbX12_known__47 post M )) ∧ (¬ p2 < (M 115 p0.toNatClampNeg p1.toNatClampNeg) → (wbX12_known__48 post M 1))))))))))
set_option maxHeartbeats 4000000 in
set_option maxRecDepth 100000 in
theorem bX12_known__48 {p : Program} {e : Env} {s : State} {m : MethodId} {args : Array Value} {below : List Frame} {meth : Method} {c : Code} {post : tq_St → Int32 → Prop} (C : tq_At p s m meth c args cX12_known_ 4 ((some .boolean)) ((tq_ws yX12_known_ cX12_known_ 4 (some .boolean))) RX12 D cy z ad)  : ∀ (M : tq_St) (y0 : Int32) (H : Heap) (locs : List Loc) (ls : Array Slot), wbX12_known__48 post   M y0 → tq_wd D cy z H0 ad N (tq_mix S M) H → va_S (fun q => z ≤ q) s.heap H locs → lv_has ls 4 [] → W p l e (tq_rm 0 0) s m args below meth c H locs 0 0 (MQ below (va_Qi (fun r u => post u r) (tq_P D cy z H0 ad N S) (fun q => z ≤ q)) args s 0 0 (fun q => z ≤ q)) (F0 m 48 ls [.int y0]) := by
  obtain ⟨hx, hb, hr, hml, hown, hts, hlocks, hK, hG⟩ := id C
  have hw : ∀ w ∈ tq_W, w.before args s = true := fun w h => hts w (List.mem_cons_of_mem _ h)
  intro M y0 H locs ls h hW hS hl
  unfold wbX12_known__48 at h
  obtain ⟨b7, h⟩ := h
  exact W.zret (v := y0) hx hb hr b7 (fun t ht hWm => ⟨⟨_, M, rfl, h, tq_pe ht hW⟩, hS.F ht⟩) hS.2.2 dX12_known__48
set_option maxHeartbeats 4000000 in
set_option maxRecDepth 100000 in
theorem bX12_known__47 {p : Program} {e : Env} {s : State} {m : MethodId} {args : Array Value} {below : List Frame} {meth : Method} {c : Code} {post : tq_St → Int32 → Prop} (C : tq_At p s m meth c args cX12_known_ 4 ((some .boolean)) ((tq_ws yX12_known_ cX12_known_ 4 (some .boolean))) RX12 D cy z ad)  : ∀ (M : tq_St)  (H : Heap) (locs : List Loc) (ls : Array Slot), wbX12_known__47 post   M  → tq_wd D cy z H0 ad N (tq_mix S M) H → va_S (fun q => z ≤ q) s.heap H locs → lv_has ls 4 [] → W p l e (tq_rm 0 0) s m args below meth c H locs 0 0 (MQ below (va_Qi (fun r u => post u r) (tq_P D cy z H0 ad N S) (fun q => z ≤ q)) args s 0 0 (fun q => z ≤ q)) (F0 m 47 ls []) := by
  obtain ⟨hx, hb, hr, hml, hown, hts, hlocks, hK, hG⟩ := id C
  have hw : ∀ w ∈ tq_W, w.before args s = true := fun w h => hts w (List.mem_cons_of_mem _ h)
  intro M  H locs ls h hW hS hl
  unfold wbX12_known__47 at h
  refine lv_iconst (v := 0) hx hb dX12_known__47 (by decide) ?_
  exact bX12_known__48 C  _ _ _ _ _ h hW hS (lv_sub hl [] rfl)
set_option maxHeartbeats 4000000 in
set_option maxRecDepth 100000 in
theorem kX12_known_ {post : tq_St → Int32 → Prop} {M : tq_St} {p0 : Int32} {p1 : Int32} {p2 : Int32} (h : wpX12_known_ post M p0 p1 p2) : tq_mI l yX12_known_ (tq_ws yX12_known_ cX12_known_ 4 (some .boolean)) 0 0 D cy z H0 ad N S M [.ref (ad 64 0), .int p0, .int p1, .int p2] post := by
  unfold wpX12_known_ at h
  refine Met.ofW (cc := cX12_known_) (maxL := 4) (ret := (some .boolean)) (by decide) rfl ?_
  intro p e s m args below meth c s₁ B hml hv
  obtain ⟨rfl, hW, hK, hG⟩ := hv
  have hx := B.exec
  have hb := B.bytes
  have hr := B.returns
  have hts := atoms_spec (ws := (tq_ws yX12_known_ cX12_known_ 4 (some .boolean))) B.pre
  have hw : ∀ w ∈ tq_W, w.before _ s = true := fun w h => hts w (List.mem_cons_of_mem _ h)
  have hown : s.vm.findClass RX12 = some m.cls := findClass_of_methodNamed B.named
  have hlocks := B.notSynchronized
  have C : tq_At p s m meth c [.ref (ad 64 0), .int p0, .int p1, .int p2].toArray cX12_known_ 4 ((some .boolean)) ((tq_ws yX12_known_ cX12_known_ 4 (some .boolean))) RX12 D cy z ad := ⟨hx, hb, hr, hml, hown, hts, hlocks, hK, hG⟩
  have hS : va_S (fun q => z ≤ q) s.heap s.heap [] := va_S.rf
  have hl := lv_entry ([.ref (ad 64 0), .int p0, .int p1, .int p2]) (n := 4) (Nat.le_of_ble_eq_true rfl)
  rw [lg_entry_eq]
  generalize (lg_sl ([.ref (ad 64 0), .int p0, .int p1, .int p2]) ++ List.replicate (4 - (lg_sl ([.ref (ad 64 0), .int p0, .int p1, .int p2])).length) Slot.unset).toArray = ls at hl ⊢
  have hl : lv_has ls 4 [(0, .ref (ad 64 0)), (1, .int p0), (2, .int p1), (3, .int p2)] := hl
  have hW : tq_wd D cy z H0 ad N (tq_mix S M) s.heap := hW
  refine lv_aload_n hx hb dX12_known__0 rfl (lv_at hl 0 rfl) ?_
  refine tqm_get (v := .ref (ad 110 0)) hx hb hw tq_inX12 hown hK hW (by decide) (tq_mk_64 (by decide)) rfl 10 (by decide) (hw _ tw_1418) (fun _ h9 => h9) rfl dX12_known__1 ?_
  refine lv_iload_n hx hb dX12_known__4 rfl (lv_at hl 1 rfl) ?_
  obtain ⟨b1, h⟩ := h
  refine tqm_iald (jn := p0.toNatClampNeg) hx hb hK hW (by decide) (tq_mk_110 (by decide)) b1 rfl dX12_known__5 ?_
  refine lv_iconst (v := 2) hx hb dX12_known__6 (by decide) ?_
  refine lv_icmp_ne (tgt := 47) hx hb dX12_known__7 (by decide) (fun c2 => ?_) (fun c2 => ?_)
  · have h := h.1 c2
    exact bX12_known__47 C  _  _ _ _ h hW hS (lv_sub hl [] rfl)
  · have h := h.2 c2
    refine lv_aload_n hx hb dX12_known__10 rfl (lv_at hl 0 rfl) ?_
    refine tqm_get (v := .ref (ad 113 0)) hx hb hw tq_inX12 hown hK hW (by decide) (tq_mk_64 (by decide)) rfl 13 (by decide) (hw _ tw_1421) (fun _ h9 => h9) rfl dX12_known__11 ?_
    refine lv_iload_n hx hb dX12_known__14 rfl (lv_at hl 1 rfl) ?_
    refine tqm_iald (jn := p0.toNatClampNeg) hx hb hK hW (by decide) (tq_mk_113 (by decide)) b1 rfl dX12_known__15 ?_
    refine lv_iload_n hx hb dX12_known__16 rfl (lv_at hl 2 rfl) ?_
    refine lv_icmp_ne (tgt := 47) hx hb dX12_known__17 (by decide) (fun c3 => ?_) (fun c3 => ?_)
    · have h := h.1 c3
      exact bX12_known__47 C  _  _ _ _ h hW hS (lv_sub hl [] rfl)
    · have h := h.2 c3
      refine lv_aload_n hx hb dX12_known__20 rfl (lv_at hl 0 rfl) ?_
      refine tqm_get (v := .ref (ad 215 0)) hx hb hw tq_inX12 hown hK hW (by decide) (tq_mk_64 (by decide)) rfl 15 (by decide) (hw _ tw_1423) (fun _ h9 => h9) rfl dX12_known__21 ?_
      refine lv_iload_n hx hb dX12_known__24 rfl (lv_at hl 1 rfl) ?_
      refine tqm_aald (jn := p0.toNatClampNeg) (v := .ref (ad 115 p0.toNatClampNeg)) hx hb hK hW (by decide) (tq_mk_215 (by decide)) 2 rfl rfl b1 rfl rfl dX12_known__25 ?_
      refine lv_iload_n hx hb dX12_known__26 rfl (lv_at hl 2 rfl) ?_
      obtain ⟨b4, h⟩ := h
      refine tqm_iald (jn := p1.toNatClampNeg) hx hb hK hW (by decide) (tq_mk_115 (tq_lt b1)) b4 rfl dX12_known__27 ?_
      refine lv_if_lt (tgt := 47) hx hb dX12_known__28 (by decide) (fun c5 => ?_) (fun c5 => ?_)
      · have h := h.1 c5
        exact bX12_known__47 C  _  _ _ _ h hW hS (lv_sub hl [] rfl)
      · have h := h.2 c5
        refine lv_aload_n hx hb dX12_known__31 rfl (lv_at hl 0 rfl) ?_
        refine tqm_get (v := .ref (ad 215 0)) hx hb hw tq_inX12 hown hK hW (by decide) (tq_mk_64 (by decide)) rfl 15 (by decide) (hw _ tw_1423) (fun _ h9 => h9) rfl dX12_known__32 ?_
        refine lv_iload_n hx hb dX12_known__35 rfl (lv_at hl 1 rfl) ?_
        refine tqm_aald (jn := p0.toNatClampNeg) (v := .ref (ad 115 p0.toNatClampNeg)) hx hb hK hW (by decide) (tq_mk_215 (by decide)) 2 rfl rfl b1 rfl rfl dX12_known__36 ?_
        refine lv_iload_n hx hb dX12_known__37 rfl (lv_at hl 2 rfl) ?_
        refine tqm_iald (jn := p1.toNatClampNeg) hx hb hK hW (by decide) (tq_mk_115 (tq_lt b1)) b4 rfl dX12_known__38 ?_
        refine lv_iload_n hx hb dX12_known__39 rfl (lv_at hl 3 rfl) ?_
        refine lv_icmp_gt (tgt := 47) hx hb dX12_known__40 (by decide) (fun c6 => ?_) (fun c6 => ?_)
        · have h := h.1 c6
          exact bX12_known__47 C  _  _ _ _ h hW hS (lv_sub hl [] rfl)
        · have h := h.2 c6
          refine lv_iconst (v := 1) hx hb dX12_known__43 (by decide) ?_
          refine lv_goto (tgt := 48) hx hb dX12_known__44 (by decide) ?_
          exact bX12_known__48 C  _ _ _ _ _ h hW hS (lv_sub hl [] rfl)
-- ahead
def wbX12_ahead_48 (post : tq_St → Int32 → Prop)  (M : tq_St) (y0 : Int32) : Prop :=
  narrow .boolean (.int y0) = .int y0 ∧ post M y0
def wbX12_ahead_43 (post : tq_St → Int32 → Prop)  (M : tq_St) : Prop :=
  wbX12_ahead_48 post M 1
def wbX12_ahead_47 (post : tq_St → Int32 → Prop)  (M : tq_St) : Prop :=
  wbX12_ahead_48 post M 0
def wpX12_ahead (post : tq_St → Int32 → Prop) (M : tq_St) (p0 : Int32) (p1 : Int32) (p2 : Int32) : Prop :=
  vp_in p0 150 ∧ (vp_in p2 5 ∧ (vp_in p1 150 ∧ (((M 115 p0.toNatClampNeg p2.toNatClampNeg) < (M 115 p1.toNatClampNeg p2.toNatClampNeg) → (wbX12_ahead_43 post M )) ∧ (¬ (M 115 p0.toNatClampNeg p2.toNatClampNeg) < (M 115 p1.toNatClampNeg p2.toNatClampNeg) → ((¬ (M 115 p0.toNatClampNeg p2.toNatClampNeg) = (M 115 p1.toNatClampNeg p2.toNatClampNeg) → (wbX12_ahead_47 post M )) ∧ ((M 115 p0.toNatClampNeg p2.toNatClampNeg) = (M 115 p1.toNatClampNeg p2.toNatClampNeg) → ((p1 ≤ p0 → (wbX12_ahead_47 post M )) ∧ (¬ p1 ≤ p0 → (wbX12_ahead_43 post M )))))))))
set_option maxHeartbeats 4000000 in
set_option maxRecDepth 100000 in
theorem bX12_ahead_48 {p : Program} {e : Env} {s : State} {m : MethodId} {args : Array Value} {below : List Frame} {meth : Method} {c : Code} {post : tq_St → Int32 → Prop} (C : tq_At p s m meth c args cX12_ahead 4 ((some .boolean)) ((tq_ws yX12_ahead cX12_ahead 4 (some .boolean))) RX12 D cy z ad)  : ∀ (M : tq_St) (y0 : Int32) (H : Heap) (locs : List Loc) (ls : Array Slot), wbX12_ahead_48 post   M y0 → tq_wd D cy z H0 ad N (tq_mix S M) H → va_S (fun q => z ≤ q) s.heap H locs → lv_has ls 4 [] → W p l e (tq_rm 0 0) s m args below meth c H locs 0 0 (MQ below (va_Qi (fun r u => post u r) (tq_P D cy z H0 ad N S) (fun q => z ≤ q)) args s 0 0 (fun q => z ≤ q)) (F0 m 48 ls [.int y0]) := by
  obtain ⟨hx, hb, hr, hml, hown, hts, hlocks, hK, hG⟩ := id C
  have hw : ∀ w ∈ tq_W, w.before args s = true := fun w h => hts w (List.mem_cons_of_mem _ h)
  intro M y0 H locs ls h hW hS hl
  unfold wbX12_ahead_48 at h
  obtain ⟨b7, h⟩ := h
  exact W.zret (v := y0) hx hb hr b7 (fun t ht hWm => ⟨⟨_, M, rfl, h, tq_pe ht hW⟩, hS.F ht⟩) hS.2.2 dX12_ahead_48
set_option maxHeartbeats 4000000 in
set_option maxRecDepth 100000 in
theorem bX12_ahead_43 {p : Program} {e : Env} {s : State} {m : MethodId} {args : Array Value} {below : List Frame} {meth : Method} {c : Code} {post : tq_St → Int32 → Prop} (C : tq_At p s m meth c args cX12_ahead 4 ((some .boolean)) ((tq_ws yX12_ahead cX12_ahead 4 (some .boolean))) RX12 D cy z ad)  : ∀ (M : tq_St)  (H : Heap) (locs : List Loc) (ls : Array Slot), wbX12_ahead_43 post   M  → tq_wd D cy z H0 ad N (tq_mix S M) H → va_S (fun q => z ≤ q) s.heap H locs → lv_has ls 4 [] → W p l e (tq_rm 0 0) s m args below meth c H locs 0 0 (MQ below (va_Qi (fun r u => post u r) (tq_P D cy z H0 ad N S) (fun q => z ≤ q)) args s 0 0 (fun q => z ≤ q)) (F0 m 43 ls []) := by
  obtain ⟨hx, hb, hr, hml, hown, hts, hlocks, hK, hG⟩ := id C
  have hw : ∀ w ∈ tq_W, w.before args s = true := fun w h => hts w (List.mem_cons_of_mem _ h)
  intro M  H locs ls h hW hS hl
  unfold wbX12_ahead_43 at h
  refine lv_iconst (v := 1) hx hb dX12_ahead_43 (by decide) ?_
  refine lv_goto (tgt := 48) hx hb dX12_ahead_44 (by decide) ?_
  exact bX12_ahead_48 C  _ _ _ _ _ h hW hS (lv_sub hl [] rfl)
set_option maxHeartbeats 4000000 in
set_option maxRecDepth 100000 in
theorem bX12_ahead_47 {p : Program} {e : Env} {s : State} {m : MethodId} {args : Array Value} {below : List Frame} {meth : Method} {c : Code} {post : tq_St → Int32 → Prop} (C : tq_At p s m meth c args cX12_ahead 4 ((some .boolean)) ((tq_ws yX12_ahead cX12_ahead 4 (some .boolean))) RX12 D cy z ad)  : ∀ (M : tq_St)  (H : Heap) (locs : List Loc) (ls : Array Slot), wbX12_ahead_47 post   M  → tq_wd D cy z H0 ad N (tq_mix S M) H → va_S (fun q => z ≤ q) s.heap H locs → lv_has ls 4 [] → W p l e (tq_rm 0 0) s m args below meth c H locs 0 0 (MQ below (va_Qi (fun r u => post u r) (tq_P D cy z H0 ad N S) (fun q => z ≤ q)) args s 0 0 (fun q => z ≤ q)) (F0 m 47 ls []) := by
  obtain ⟨hx, hb, hr, hml, hown, hts, hlocks, hK, hG⟩ := id C
  have hw : ∀ w ∈ tq_W, w.before args s = true := fun w h => hts w (List.mem_cons_of_mem _ h)
  intro M  H locs ls h hW hS hl
  unfold wbX12_ahead_47 at h
  refine lv_iconst (v := 0) hx hb dX12_ahead_47 (by decide) ?_
  exact bX12_ahead_48 C  _ _ _ _ _ h hW hS (lv_sub hl [] rfl)
set_option maxHeartbeats 4000000 in
set_option maxRecDepth 100000 in
theorem kX12_ahead {post : tq_St → Int32 → Prop} {M : tq_St} {p0 : Int32} {p1 : Int32} {p2 : Int32} (h : wpX12_ahead post M p0 p1 p2) : tq_mI l yX12_ahead (tq_ws yX12_ahead cX12_ahead 4 (some .boolean)) 0 0 D cy z H0 ad N S M [.ref (ad 64 0), .int p0, .int p1, .int p2] post := by
  unfold wpX12_ahead at h
  refine Met.ofW (cc := cX12_ahead) (maxL := 4) (ret := (some .boolean)) (by decide) rfl ?_
  intro p e s m args below meth c s₁ B hml hv
  obtain ⟨rfl, hW, hK, hG⟩ := hv
  have hx := B.exec
  have hb := B.bytes
  have hr := B.returns
  have hts := atoms_spec (ws := (tq_ws yX12_ahead cX12_ahead 4 (some .boolean))) B.pre
  have hw : ∀ w ∈ tq_W, w.before _ s = true := fun w h => hts w (List.mem_cons_of_mem _ h)
  have hown : s.vm.findClass RX12 = some m.cls := findClass_of_methodNamed B.named
  have hlocks := B.notSynchronized
  have C : tq_At p s m meth c [.ref (ad 64 0), .int p0, .int p1, .int p2].toArray cX12_ahead 4 ((some .boolean)) ((tq_ws yX12_ahead cX12_ahead 4 (some .boolean))) RX12 D cy z ad := ⟨hx, hb, hr, hml, hown, hts, hlocks, hK, hG⟩
  have hS : va_S (fun q => z ≤ q) s.heap s.heap [] := va_S.rf
  have hl := lv_entry ([.ref (ad 64 0), .int p0, .int p1, .int p2]) (n := 4) (Nat.le_of_ble_eq_true rfl)
  rw [lg_entry_eq]
  generalize (lg_sl ([.ref (ad 64 0), .int p0, .int p1, .int p2]) ++ List.replicate (4 - (lg_sl ([.ref (ad 64 0), .int p0, .int p1, .int p2])).length) Slot.unset).toArray = ls at hl ⊢
  have hl : lv_has ls 4 [(0, .ref (ad 64 0)), (1, .int p0), (2, .int p1), (3, .int p2)] := hl
  have hW : tq_wd D cy z H0 ad N (tq_mix S M) s.heap := hW
  refine lv_aload_n hx hb dX12_ahead_0 rfl (lv_at hl 0 rfl) ?_
  refine tqm_get (v := .ref (ad 215 0)) hx hb hw tq_inX12 hown hK hW (by decide) (tq_mk_64 (by decide)) rfl 15 (by decide) (hw _ tw_1423) (fun _ h9 => h9) rfl dX12_ahead_1 ?_
  refine lv_iload_n hx hb dX12_ahead_4 rfl (lv_at hl 1 rfl) ?_
  obtain ⟨b1, h⟩ := h
  refine tqm_aald (jn := p0.toNatClampNeg) (v := .ref (ad 115 p0.toNatClampNeg)) hx hb hK hW (by decide) (tq_mk_215 (by decide)) 2 rfl rfl b1 rfl rfl dX12_ahead_5 ?_
  refine lv_iload_n hx hb dX12_ahead_6 rfl (lv_at hl 3 rfl) ?_
  obtain ⟨b2, h⟩ := h
  refine tqm_iald (jn := p2.toNatClampNeg) hx hb hK hW (by decide) (tq_mk_115 (tq_lt b1)) b2 rfl dX12_ahead_7 ?_
  refine lv_aload_n hx hb dX12_ahead_8 rfl (lv_at hl 0 rfl) ?_
  refine tqm_get (v := .ref (ad 215 0)) hx hb hw tq_inX12 hown hK hW (by decide) (tq_mk_64 (by decide)) rfl 15 (by decide) (hw _ tw_1423) (fun _ h9 => h9) rfl dX12_ahead_9 ?_
  refine lv_iload_n hx hb dX12_ahead_12 rfl (lv_at hl 2 rfl) ?_
  obtain ⟨b3, h⟩ := h
  refine tqm_aald (jn := p1.toNatClampNeg) (v := .ref (ad 115 p1.toNatClampNeg)) hx hb hK hW (by decide) (tq_mk_215 (by decide)) 2 rfl rfl b3 rfl rfl dX12_ahead_13 ?_
  refine lv_iload_n hx hb dX12_ahead_14 rfl (lv_at hl 3 rfl) ?_
  refine tqm_iald (jn := p2.toNatClampNeg) hx hb hK hW (by decide) (tq_mk_115 (tq_lt b3)) b2 rfl dX12_ahead_15 ?_
  refine lv_icmp_lt (tgt := 43) hx hb dX12_ahead_16 (by decide) (fun c4 => ?_) (fun c4 => ?_)
  · have h := h.1 c4
    exact bX12_ahead_43 C  _  _ _ _ h hW hS (lv_sub hl [] rfl)
  · have h := h.2 c4
    refine lv_aload_n hx hb dX12_ahead_19 rfl (lv_at hl 0 rfl) ?_
    refine tqm_get (v := .ref (ad 215 0)) hx hb hw tq_inX12 hown hK hW (by decide) (tq_mk_64 (by decide)) rfl 15 (by decide) (hw _ tw_1423) (fun _ h9 => h9) rfl dX12_ahead_20 ?_
    refine lv_iload_n hx hb dX12_ahead_23 rfl (lv_at hl 1 rfl) ?_
    refine tqm_aald (jn := p0.toNatClampNeg) (v := .ref (ad 115 p0.toNatClampNeg)) hx hb hK hW (by decide) (tq_mk_215 (by decide)) 2 rfl rfl b1 rfl rfl dX12_ahead_24 ?_
    refine lv_iload_n hx hb dX12_ahead_25 rfl (lv_at hl 3 rfl) ?_
    refine tqm_iald (jn := p2.toNatClampNeg) hx hb hK hW (by decide) (tq_mk_115 (tq_lt b1)) b2 rfl dX12_ahead_26 ?_
    refine lv_aload_n hx hb dX12_ahead_27 rfl (lv_at hl 0 rfl) ?_
    refine tqm_get (v := .ref (ad 215 0)) hx hb hw tq_inX12 hown hK hW (by decide) (tq_mk_64 (by decide)) rfl 15 (by decide) (hw _ tw_1423) (fun _ h9 => h9) rfl dX12_ahead_28 ?_
    refine lv_iload_n hx hb dX12_ahead_31 rfl (lv_at hl 2 rfl) ?_
    refine tqm_aald (jn := p1.toNatClampNeg) (v := .ref (ad 115 p1.toNatClampNeg)) hx hb hK hW (by decide) (tq_mk_215 (by decide)) 2 rfl rfl b3 rfl rfl dX12_ahead_32 ?_
    refine lv_iload_n hx hb dX12_ahead_33 rfl (lv_at hl 3 rfl) ?_
    refine tqm_iald (jn := p2.toNatClampNeg) hx hb hK hW (by decide) (tq_mk_115 (tq_lt b3)) b2 rfl dX12_ahead_34 ?_
    refine lv_icmp_ne (tgt := 47) hx hb dX12_ahead_35 (by decide) (fun c5 => ?_) (fun c5 => ?_)
    · have h := h.1 c5
      exact bX12_ahead_47 C  _  _ _ _ h hW hS (lv_sub hl [] rfl)
    · have h := h.2 c5
      refine lv_iload_n hx hb dX12_ahead_38 rfl (lv_at hl 1 rfl) ?_
      refine lv_iload_n hx hb dX12_ahead_39 rfl (lv_at hl 2 rfl) ?_
      refine lv_icmp_ge (tgt := 47) hx hb dX12_ahead_40 (by decide) (fun c6 => ?_) (fun c6 => ?_)
      · have h := h.1 c6
        exact bX12_ahead_47 C  _  _ _ _ h hW hS (lv_sub hl [] rfl)
      · have h := h.2 c6
        exact bX12_ahead_43 C  _  _ _ _ h hW hS (lv_sub hl [] rfl)
-- sameAct
def wbX12_sameAct_57 (post : tq_St → Int32 → Prop)  (M : tq_St) (y0 : Int32) : Prop :=
  narrow .boolean (.int y0) = .int y0 ∧ post M y0
def wbX12_sameAct_56 (post : tq_St → Int32 → Prop)  (M : tq_St) : Prop :=
  wbX12_sameAct_57 post M 0
def wpX12_sameAct (post : tq_St → Int32 → Prop) (M : tq_St) (p0 : Int32) (p1 : Int32) (p2 : Int32) (p3 : Int32) : Prop :=
  vp_in p0 150 ∧ (vp_in (4 * p1) 24 ∧ (vp_in p2 150 ∧ (vp_in (4 * p3) 24 ∧ ((¬ (M 118 p0.toNatClampNeg ((4 * p1).toNatClampNeg)) = (M 118 p2.toNatClampNeg ((4 * p3).toNatClampNeg)) → (wbX12_sameAct_56 post M )) ∧ ((M 118 p0.toNatClampNeg ((4 * p1).toNatClampNeg)) = (M 118 p2.toNatClampNeg ((4 * p3).toNatClampNeg)) → (vp_in ((4 * p1) + 1) 24 ∧ (vp_in ((4 * p3) + 1) 24 ∧ ((¬ (M 118 p0.toNatClampNeg (((4 * p1) + 1).toNatClampNeg)) = (M 118 p2.toNatClampNeg (((4 * p3) + 1).toNatClampNeg)) → (wbX12_sameAct_56 post M )) ∧ ((M 118 p0.toNatClampNeg (((4 * p1) + 1).toNatClampNeg)) = (M 118 p2.toNatClampNeg (((4 * p3) + 1).toNatClampNeg)) → (wbX12_sameAct_57 post M 1))))))))))
set_option maxHeartbeats 4000000 in
set_option maxRecDepth 100000 in
theorem bX12_sameAct_57 {p : Program} {e : Env} {s : State} {m : MethodId} {args : Array Value} {below : List Frame} {meth : Method} {c : Code} {post : tq_St → Int32 → Prop} (C : tq_At p s m meth c args cX12_sameAct 5 ((some .boolean)) ((tq_ws yX12_sameAct cX12_sameAct 5 (some .boolean))) RX12 D cy z ad)  : ∀ (M : tq_St) (y0 : Int32) (H : Heap) (locs : List Loc) (ls : Array Slot), wbX12_sameAct_57 post   M y0 → tq_wd D cy z H0 ad N (tq_mix S M) H → va_S (fun q => z ≤ q) s.heap H locs → lv_has ls 5 [] → W p l e (tq_rm 0 0) s m args below meth c H locs 0 0 (MQ below (va_Qi (fun r u => post u r) (tq_P D cy z H0 ad N S) (fun q => z ≤ q)) args s 0 0 (fun q => z ≤ q)) (F0 m 57 ls [.int y0]) := by
  obtain ⟨hx, hb, hr, hml, hown, hts, hlocks, hK, hG⟩ := id C
  have hw : ∀ w ∈ tq_W, w.before args s = true := fun w h => hts w (List.mem_cons_of_mem _ h)
  intro M y0 H locs ls h hW hS hl
  unfold wbX12_sameAct_57 at h
  obtain ⟨b9, h⟩ := h
  exact W.zret (v := y0) hx hb hr b9 (fun t ht hWm => ⟨⟨_, M, rfl, h, tq_pe ht hW⟩, hS.F ht⟩) hS.2.2 dX12_sameAct_57
set_option maxHeartbeats 4000000 in
set_option maxRecDepth 100000 in
theorem bX12_sameAct_56 {p : Program} {e : Env} {s : State} {m : MethodId} {args : Array Value} {below : List Frame} {meth : Method} {c : Code} {post : tq_St → Int32 → Prop} (C : tq_At p s m meth c args cX12_sameAct 5 ((some .boolean)) ((tq_ws yX12_sameAct cX12_sameAct 5 (some .boolean))) RX12 D cy z ad)  : ∀ (M : tq_St)  (H : Heap) (locs : List Loc) (ls : Array Slot), wbX12_sameAct_56 post   M  → tq_wd D cy z H0 ad N (tq_mix S M) H → va_S (fun q => z ≤ q) s.heap H locs → lv_has ls 5 [] → W p l e (tq_rm 0 0) s m args below meth c H locs 0 0 (MQ below (va_Qi (fun r u => post u r) (tq_P D cy z H0 ad N S) (fun q => z ≤ q)) args s 0 0 (fun q => z ≤ q)) (F0 m 56 ls []) := by
  obtain ⟨hx, hb, hr, hml, hown, hts, hlocks, hK, hG⟩ := id C
  have hw : ∀ w ∈ tq_W, w.before args s = true := fun w h => hts w (List.mem_cons_of_mem _ h)
  intro M  H locs ls h hW hS hl
  unfold wbX12_sameAct_56 at h
  refine lv_iconst (v := 0) hx hb dX12_sameAct_56 (by decide) ?_
  exact bX12_sameAct_57 C  _ _ _ _ _ h hW hS (lv_sub hl [] rfl)
set_option maxHeartbeats 4000000 in
set_option maxRecDepth 100000 in
theorem kX12_sameAct {post : tq_St → Int32 → Prop} {M : tq_St} {p0 : Int32} {p1 : Int32} {p2 : Int32} {p3 : Int32} (h : wpX12_sameAct post M p0 p1 p2 p3) : tq_mI l yX12_sameAct (tq_ws yX12_sameAct cX12_sameAct 5 (some .boolean)) 0 0 D cy z H0 ad N S M [.ref (ad 64 0), .int p0, .int p1, .int p2, .int p3] post := by
  unfold wpX12_sameAct at h
  refine Met.ofW (cc := cX12_sameAct) (maxL := 5) (ret := (some .boolean)) (by decide) rfl ?_
  intro p e s m args below meth c s₁ B hml hv
  obtain ⟨rfl, hW, hK, hG⟩ := hv
  have hx := B.exec
  have hb := B.bytes
  have hr := B.returns
  have hts := atoms_spec (ws := (tq_ws yX12_sameAct cX12_sameAct 5 (some .boolean))) B.pre
  have hw : ∀ w ∈ tq_W, w.before _ s = true := fun w h => hts w (List.mem_cons_of_mem _ h)
  have hown : s.vm.findClass RX12 = some m.cls := findClass_of_methodNamed B.named
  have hlocks := B.notSynchronized
  have C : tq_At p s m meth c [.ref (ad 64 0), .int p0, .int p1, .int p2, .int p3].toArray cX12_sameAct 5 ((some .boolean)) ((tq_ws yX12_sameAct cX12_sameAct 5 (some .boolean))) RX12 D cy z ad := ⟨hx, hb, hr, hml, hown, hts, hlocks, hK, hG⟩
  have hS : va_S (fun q => z ≤ q) s.heap s.heap [] := va_S.rf
  have hl := lv_entry ([.ref (ad 64 0), .int p0, .int p1, .int p2, .int p3]) (n := 5) (Nat.le_of_ble_eq_true rfl)
  rw [lg_entry_eq]
  generalize (lg_sl ([.ref (ad 64 0), .int p0, .int p1, .int p2, .int p3]) ++ List.replicate (5 - (lg_sl ([.ref (ad 64 0), .int p0, .int p1, .int p2, .int p3])).length) Slot.unset).toArray = ls at hl ⊢
  have hl : lv_has ls 5 [(0, .ref (ad 64 0)), (1, .int p0), (2, .int p1), (3, .int p2), (4, .int p3)] := hl
  have hW : tq_wd D cy z H0 ad N (tq_mix S M) s.heap := hW
  refine lv_aload_n hx hb dX12_sameAct_0 rfl (lv_at hl 0 rfl) ?_
  refine tqm_get (v := .ref (ad 218 0)) hx hb hw tq_inX12 hown hK hW (by decide) (tq_mk_64 (by decide)) rfl 18 (by decide) (hw _ tw_1426) (fun _ h9 => h9) rfl dX12_sameAct_1 ?_
  refine lv_iload_n hx hb dX12_sameAct_4 rfl (lv_at hl 1 rfl) ?_
  obtain ⟨b1, h⟩ := h
  refine tqm_aald (jn := p0.toNatClampNeg) (v := .ref (ad 118 p0.toNatClampNeg)) hx hb hK hW (by decide) (tq_mk_218 (by decide)) 2 rfl rfl b1 rfl rfl dX12_sameAct_5 ?_
  refine lv_iconst (v := 4) hx hb dX12_sameAct_6 (by decide) ?_
  refine lv_iload_n hx hb dX12_sameAct_7 rfl (lv_at hl 2 rfl) ?_
  refine lv_imul hx hb dX12_sameAct_8 ?_
  obtain ⟨b2, h⟩ := h
  refine tqm_iald (jn := (4 * p1).toNatClampNeg) hx hb hK hW (by decide) (tq_mk_118 (tq_lt b1)) b2 rfl dX12_sameAct_9 ?_
  refine lv_aload_n hx hb dX12_sameAct_10 rfl (lv_at hl 0 rfl) ?_
  refine tqm_get (v := .ref (ad 218 0)) hx hb hw tq_inX12 hown hK hW (by decide) (tq_mk_64 (by decide)) rfl 18 (by decide) (hw _ tw_1426) (fun _ h9 => h9) rfl dX12_sameAct_11 ?_
  refine lv_iload_n hx hb dX12_sameAct_14 rfl (lv_at hl 3 rfl) ?_
  obtain ⟨b3, h⟩ := h
  refine tqm_aald (jn := p2.toNatClampNeg) (v := .ref (ad 118 p2.toNatClampNeg)) hx hb hK hW (by decide) (tq_mk_218 (by decide)) 2 rfl rfl b3 rfl rfl dX12_sameAct_15 ?_
  refine lv_iconst (v := 4) hx hb dX12_sameAct_16 (by decide) ?_
  refine lv_iload hx hb dX12_sameAct_17 (lv_at hl 4 rfl) ?_
  refine lv_imul hx hb dX12_sameAct_19 ?_
  obtain ⟨b4, h⟩ := h
  refine tqm_iald (jn := (4 * p3).toNatClampNeg) hx hb hK hW (by decide) (tq_mk_118 (tq_lt b3)) b4 rfl dX12_sameAct_20 ?_
  refine lv_icmp_ne (tgt := 56) hx hb dX12_sameAct_21 (by decide) (fun c5 => ?_) (fun c5 => ?_)
  · have h := h.1 c5
    exact bX12_sameAct_56 C  _  _ _ _ h hW hS (lv_sub hl [] rfl)
  · have h := h.2 c5
    refine lv_aload_n hx hb dX12_sameAct_24 rfl (lv_at hl 0 rfl) ?_
    refine tqm_get (v := .ref (ad 218 0)) hx hb hw tq_inX12 hown hK hW (by decide) (tq_mk_64 (by decide)) rfl 18 (by decide) (hw _ tw_1426) (fun _ h9 => h9) rfl dX12_sameAct_25 ?_
    refine lv_iload_n hx hb dX12_sameAct_28 rfl (lv_at hl 1 rfl) ?_
    refine tqm_aald (jn := p0.toNatClampNeg) (v := .ref (ad 118 p0.toNatClampNeg)) hx hb hK hW (by decide) (tq_mk_218 (by decide)) 2 rfl rfl b1 rfl rfl dX12_sameAct_29 ?_
    refine lv_iconst (v := 4) hx hb dX12_sameAct_30 (by decide) ?_
    refine lv_iload_n hx hb dX12_sameAct_31 rfl (lv_at hl 2 rfl) ?_
    refine lv_imul hx hb dX12_sameAct_32 ?_
    refine lv_iconst (v := 1) hx hb dX12_sameAct_33 (by decide) ?_
    refine lv_iadd hx hb dX12_sameAct_34 ?_
    obtain ⟨b6, h⟩ := h
    refine tqm_iald (jn := ((4 * p1) + 1).toNatClampNeg) hx hb hK hW (by decide) (tq_mk_118 (tq_lt b1)) b6 rfl dX12_sameAct_35 ?_
    refine lv_aload_n hx hb dX12_sameAct_36 rfl (lv_at hl 0 rfl) ?_
    refine tqm_get (v := .ref (ad 218 0)) hx hb hw tq_inX12 hown hK hW (by decide) (tq_mk_64 (by decide)) rfl 18 (by decide) (hw _ tw_1426) (fun _ h9 => h9) rfl dX12_sameAct_37 ?_
    refine lv_iload_n hx hb dX12_sameAct_40 rfl (lv_at hl 3 rfl) ?_
    refine tqm_aald (jn := p2.toNatClampNeg) (v := .ref (ad 118 p2.toNatClampNeg)) hx hb hK hW (by decide) (tq_mk_218 (by decide)) 2 rfl rfl b3 rfl rfl dX12_sameAct_41 ?_
    refine lv_iconst (v := 4) hx hb dX12_sameAct_42 (by decide) ?_
    refine lv_iload hx hb dX12_sameAct_43 (lv_at hl 4 rfl) ?_
    refine lv_imul hx hb dX12_sameAct_45 ?_
    refine lv_iconst (v := 1) hx hb dX12_sameAct_46 (by decide) ?_
    refine lv_iadd hx hb dX12_sameAct_47 ?_
    obtain ⟨b7, h⟩ := h
    refine tqm_iald (jn := ((4 * p3) + 1).toNatClampNeg) hx hb hK hW (by decide) (tq_mk_118 (tq_lt b3)) b7 rfl dX12_sameAct_48 ?_
    refine lv_icmp_ne (tgt := 56) hx hb dX12_sameAct_49 (by decide) (fun c8 => ?_) (fun c8 => ?_)
    · have h := h.1 c8
      exact bX12_sameAct_56 C  _  _ _ _ h hW hS (lv_sub hl [] rfl)
    · have h := h.2 c8
      refine lv_iconst (v := 1) hx hb dX12_sameAct_52 (by decide) ?_
      refine lv_goto (tgt := 57) hx hb dX12_sameAct_53 (by decide) ?_
      exact bX12_sameAct_57 C  _ _ _ _ _ h hW hS (lv_sub hl [] rfl)
-- hasAct
def wbX12_hasAct_3 (post : tq_St → Int32 → Prop) : Nat → tq_St → Int32 → Int32 → Int32 → Int32 → Prop
  | 0, _, _, _, _, _ => False
  | n + 1, M, x1, x2, x3, x4 =>
    vp_in x3 150 ∧ (((M 117 0 x3.toNatClampNeg) ≤ x4 → (post M 0)) ∧ (¬ (M 117 0 x3.toNatClampNeg) ≤ x4 → (wpX12_sameAct (fun M3 r4 => (r4 = 0 → ((wbX12_hasAct_3 post n) M3 x1 x2 x3 (x4 + 1))) ∧ (¬ r4 = 0 → (post M3 1))) M x1 x2 x3 x4)))
def wpX12_hasAct (post : tq_St → Int32 → Prop) (M : tq_St) (p0 : Int32) (p1 : Int32) (p2 : Int32) : Prop :=
  ∃ nq, wbX12_hasAct_3 post nq M p0 p1 p2 0
set_option maxHeartbeats 4000000 in
set_option maxRecDepth 100000 in
theorem bX12_hasAct_3 {p : Program} {e : Env} {s : State} {m : MethodId} {args : Array Value} {below : List Frame} {meth : Method} {c : Code} {post : tq_St → Int32 → Prop} (C : tq_At p s m meth c args cX12_hasAct 5 ((some .boolean)) ((tq_ws yX12_hasAct cX12_hasAct 5 (some .boolean))) RX12 D cy z ad)  : ∀ n : Nat, ∀ (M : tq_St) (x1 : Int32) (x2 : Int32) (x3 : Int32) (x4 : Int32) (H : Heap) (locs : List Loc) (ls : Array Slot), wbX12_hasAct_3 post   n M x1 x2 x3 x4 → tq_wd D cy z H0 ad N (tq_mix S M) H → va_S (fun q => z ≤ q) s.heap H locs → lv_has ls 5 [(0, .ref (ad 64 0)), (1, .int x1), (2, .int x2), (3, .int x3), (4, .int x4)] → W p l e (tq_rm 1 24) s m args below meth c H locs 0 0 (MQ below (va_Qi (fun r u => post u r) (tq_P D cy z H0 ad N S) (fun q => z ≤ q)) args s 0 0 (fun q => z ≤ q)) (F0 m 3 ls []) := by
  obtain ⟨hx, hb, hr, hml, hown, hts, hlocks, hK, hG⟩ := id C
  have hw : ∀ w ∈ tq_W, w.before args s = true := fun w h => hts w (List.mem_cons_of_mem _ h)
  intro n
  induction n with
  | zero =>
    intro M x1 x2 x3 x4 H locs ls h
    exact absurd h (by unfold wbX12_hasAct_3; exact id)
  | succ n ih =>
    intro M x1 x2 x3 x4 H locs ls h hW hS hl
    unfold wbX12_hasAct_3 at h
    refine lv_iload hx hb dX12_hasAct_3 (lv_at hl 4 rfl) ?_
    refine lv_aload_n hx hb dX12_hasAct_5 rfl (lv_at hl 0 rfl) ?_
    refine tqm_get (v := .ref (ad 117 0)) hx hb hw tq_inX12 hown hK hW (by decide) (tq_mk_64 (by decide)) rfl 17 (by decide) (hw _ tw_1425) (fun _ h9 => h9) rfl dX12_hasAct_6 ?_
    refine lv_iload_n hx hb dX12_hasAct_9 rfl (lv_at hl 3 rfl) ?_
    obtain ⟨b1, h⟩ := h
    refine tqm_iald (jn := x3.toNatClampNeg) hx hb hK hW (by decide) (tq_mk_117 (by decide)) b1 rfl dX12_hasAct_10 ?_
    refine lv_icmp_ge (tgt := 34) hx hb dX12_hasAct_11 (by decide) (fun c2 => ?_) (fun c2 => ?_)
    · have h := h.1 c2
      refine lv_iconst (v := 0) hx hb dX12_hasAct_34 (by decide) ?_
      exact W.zret (v := 0) hx hb hr rfl (fun t ht hWm => ⟨⟨_, M, rfl, h, tq_pe ht hW⟩, hS.F ht⟩) hS.2.2 dX12_hasAct_35
    · have h := h.2 c2
      refine lv_aload_n hx hb dX12_hasAct_14 rfl (lv_at hl 0 rfl) ?_
      refine lv_iload_n hx hb dX12_hasAct_15 rfl (lv_at hl 1 rfl) ?_
      refine lv_iload_n hx hb dX12_hasAct_16 rfl (lv_at hl 2 rfl) ?_
      refine lv_iload_n hx hb dX12_hasAct_17 rfl (lv_at hl 3 rfl) ?_
      refine lv_iload hx hb dX12_hasAct_18 (lv_at hl 4 rfl) ?_
      refine tq_callVi (As := [.int x1, .int x2, .int x3, .int x4]) (rest := []) (kX12_sameAct h) ⟨hx, hb, hml, hown, hts⟩ (cwV 4 hts (tq_goodV tw_1815 tw_1817 tw_76 tw_125 tw_1818) rfl rfl rfl (by decide +kernel) ⟨Nat.le_of_ble_eq_true rfl, Nat.le_of_ble_eq_true rfl⟩) hK hG hW hS rfl hl.1 rfl (Nat.le_of_ble_eq_true rfl) dX12_hasAct_20 ⟨Nat.le_of_ble_eq_true rfl, Nat.le_of_ble_eq_true rfl⟩ (fun r4 M3 H locs h hW hS => ?_)
      refine lv_if_eq (tgt := 28) hx hb dX12_hasAct_23 (by decide) (fun c5 => ?_) (fun c5 => ?_)
      · have h := h.1 c5
        refine lv_iinc (v := x4 + 1) (lv' := [(4, .int (x4 + 1)), (0, .ref (ad 64 0)), (1, .int x1), (2, .int x2), (3, .int x3)]) hx hb dX12_hasAct_28 hl (k := 4) rfl rfl (by decide) rfl (fun ls hl => ?_)
        refine lv_goto (tgt := 3) hx hb dX12_hasAct_31 (by decide) ?_
        exact ih _ _ _ _ _ _ _ _ h hW hS (lv_sub hl [1, 2, 3, 4, 0] rfl)
      · have h := h.2 c5
        refine lv_iconst (v := 1) hx hb dX12_hasAct_26 (by decide) ?_
        exact W.zret (v := 1) hx hb hr rfl (fun t ht hWm => ⟨⟨_, M3, rfl, h, tq_pe ht hW⟩, hS.F ht⟩) hS.2.2 dX12_hasAct_27
set_option maxHeartbeats 4000000 in
set_option maxRecDepth 100000 in
theorem kX12_hasAct {post : tq_St → Int32 → Prop} {M : tq_St} {p0 : Int32} {p1 : Int32} {p2 : Int32} (h : wpX12_hasAct post M p0 p1 p2) : tq_mI l yX12_hasAct (tq_ws yX12_hasAct cX12_hasAct 5 (some .boolean)) 1 24 D cy z H0 ad N S M [.ref (ad 64 0), .int p0, .int p1, .int p2] post := by
  unfold wpX12_hasAct at h
  refine Met.ofW (cc := cX12_hasAct) (maxL := 5) (ret := (some .boolean)) (by decide) rfl ?_
  intro p e s m args below meth c s₁ B hml hv
  obtain ⟨rfl, hW, hK, hG⟩ := hv
  have hx := B.exec
  have hb := B.bytes
  have hr := B.returns
  have hts := atoms_spec (ws := (tq_ws yX12_hasAct cX12_hasAct 5 (some .boolean))) B.pre
  have hw : ∀ w ∈ tq_W, w.before _ s = true := fun w h => hts w (List.mem_cons_of_mem _ h)
  have hown : s.vm.findClass RX12 = some m.cls := findClass_of_methodNamed B.named
  have hlocks := B.notSynchronized
  have C : tq_At p s m meth c [.ref (ad 64 0), .int p0, .int p1, .int p2].toArray cX12_hasAct 5 ((some .boolean)) ((tq_ws yX12_hasAct cX12_hasAct 5 (some .boolean))) RX12 D cy z ad := ⟨hx, hb, hr, hml, hown, hts, hlocks, hK, hG⟩
  have hS : va_S (fun q => z ≤ q) s.heap s.heap [] := va_S.rf
  have hl := lv_entry ([.ref (ad 64 0), .int p0, .int p1, .int p2]) (n := 5) (Nat.le_of_ble_eq_true rfl)
  rw [lg_entry_eq]
  generalize (lg_sl ([.ref (ad 64 0), .int p0, .int p1, .int p2]) ++ List.replicate (5 - (lg_sl ([.ref (ad 64 0), .int p0, .int p1, .int p2])).length) Slot.unset).toArray = ls at hl ⊢
  have hl : lv_has ls 5 [(0, .ref (ad 64 0)), (1, .int p0), (2, .int p1), (3, .int p2)] := hl
  have hW : tq_wd D cy z H0 ad N (tq_mix S M) s.heap := hW
  refine lv_iconst (v := 0) hx hb dX12_hasAct_0 (by decide) ?_
  refine lv_istore (lv' := [(4, .int 0), (0, .ref (ad 64 0)), (1, .int p0), (2, .int p1), (3, .int p2)]) hx hb dX12_hasAct_1 hl (by decide) rfl (fun ls hl => ?_)
  obtain ⟨nq, h⟩ := h
  exact bX12_hasAct_3 C  nq _ _ _ _ _ _ _ _ h hW hS (lv_sub hl [1, 2, 3, 4, 0] rfl)
-- standing
def wbX12_standing_50 (post : tq_St → Int32 → Prop) (L3 : tq_St → Int32 → Int32 → Int32 → Int32 → Prop) (M : tq_St) (x1 : Int32) (x2 : Int32) (x3 : Int32) (x4 : Int32) : Prop :=
  L3 M x1 x2 x3 (x4 + 1)
def wbX12_standing_3 (post : tq_St → Int32 → Prop) : Nat → tq_St → Int32 → Int32 → Int32 → Int32 → Prop
  | 0, _, _, _, _, _ => False
  | n + 1, M, x1, x2, x3, x4 =>
    ((M 64 0 9) ≤ x4 → (post M 1)) ∧ (¬ (M 64 0 9) ≤ x4 → (wpX12_known_ (fun M2 r3 => (r3 = 0 → (wbX12_standing_50 post  (wbX12_standing_3 post n) M2 x1 x2 x3 x4)) ∧ (¬ r3 = 0 → (wpX12_ahead (fun M5 r6 => (r6 = 0 → (wbX12_standing_50 post  (wbX12_standing_3 post n) M5 x1 x2 x3 x4)) ∧ (¬ r6 = 0 → (wpX12_hasAct (fun M8 r9 => (r9 = 0 → (wbX12_standing_50 post  (wbX12_standing_3 post n) M8 x1 x2 x3 x4)) ∧ (¬ r9 = 0 → (post M8 0))) M5 x1 x2 x4))) M2 x1 x4 x3))) M x4 x3 (M 64 0 0)))
def wpX12_standing (post : tq_St → Int32 → Prop) (M : tq_St) (p0 : Int32) (p1 : Int32) (p2 : Int32) : Prop :=
  ∃ nq, wbX12_standing_3 post nq M p0 p1 p2 0
set_option maxHeartbeats 4000000 in
set_option maxRecDepth 100000 in
theorem bX12_standing_50 {p : Program} {e : Env} {s : State} {m : MethodId} {args : Array Value} {below : List Frame} {meth : Method} {c : Code} {post : tq_St → Int32 → Prop} (C : tq_At p s m meth c args cX12_standing 5 ((some .boolean)) ((tq_ws yX12_standing cX12_standing 5 (some .boolean))) RX12 D cy z ad) {L3 : tq_St → Int32 → Int32 → Int32 → Int32 → Prop} (hL3 : ∀ (M : tq_St) (x1 : Int32) (x2 : Int32) (x3 : Int32) (x4 : Int32) (H : Heap) (locs : List Loc) (ls : Array Slot), L3 M x1 x2 x3 x4 → tq_wd D cy z H0 ad N (tq_mix S M) H → va_S (fun q => z ≤ q) s.heap H locs → lv_has ls 5 [(0, .ref (ad 64 0)), (1, .int x1), (2, .int x2), (3, .int x3), (4, .int x4)] → W p l e (tq_rm 2 48) s m args below meth c H locs 0 0 (MQ below (va_Qi (fun r u => post u r) (tq_P D cy z H0 ad N S) (fun q => z ≤ q)) args s 0 0 (fun q => z ≤ q)) (F0 m 3 ls [])) : ∀ (M : tq_St) (x1 : Int32) (x2 : Int32) (x3 : Int32) (x4 : Int32) (H : Heap) (locs : List Loc) (ls : Array Slot), wbX12_standing_50 post  L3 M x1 x2 x3 x4 → tq_wd D cy z H0 ad N (tq_mix S M) H → va_S (fun q => z ≤ q) s.heap H locs → lv_has ls 5 [(0, .ref (ad 64 0)), (1, .int x1), (2, .int x2), (3, .int x3), (4, .int x4)] → W p l e (tq_rm 2 48) s m args below meth c H locs 0 0 (MQ below (va_Qi (fun r u => post u r) (tq_P D cy z H0 ad N S) (fun q => z ≤ q)) args s 0 0 (fun q => z ≤ q)) (F0 m 50 ls []) := by
  obtain ⟨hx, hb, hr, hml, hown, hts, hlocks, hK, hG⟩ := id C
  have hw : ∀ w ∈ tq_W, w.before args s = true := fun w h => hts w (List.mem_cons_of_mem _ h)
  intro M x1 x2 x3 x4 H locs ls h hW hS hl
  unfold wbX12_standing_50 at h
  refine lv_iinc (v := x4 + 1) (lv' := [(4, .int (x4 + 1)), (0, .ref (ad 64 0)), (1, .int x1), (2, .int x2), (3, .int x3)]) hx hb dX12_standing_50 hl (k := 4) rfl rfl (by decide) rfl (fun ls hl => ?_)
  refine lv_goto (tgt := 3) hx hb dX12_standing_53 (by decide) ?_
  exact hL3 _ _ _ _ _ _ _ _ h hW hS (lv_sub hl [1, 2, 3, 4, 0] rfl)
set_option maxHeartbeats 4000000 in
set_option maxRecDepth 100000 in
theorem bX12_standing_3 {p : Program} {e : Env} {s : State} {m : MethodId} {args : Array Value} {below : List Frame} {meth : Method} {c : Code} {post : tq_St → Int32 → Prop} (C : tq_At p s m meth c args cX12_standing 5 ((some .boolean)) ((tq_ws yX12_standing cX12_standing 5 (some .boolean))) RX12 D cy z ad)  : ∀ n : Nat, ∀ (M : tq_St) (x1 : Int32) (x2 : Int32) (x3 : Int32) (x4 : Int32) (H : Heap) (locs : List Loc) (ls : Array Slot), wbX12_standing_3 post   n M x1 x2 x3 x4 → tq_wd D cy z H0 ad N (tq_mix S M) H → va_S (fun q => z ≤ q) s.heap H locs → lv_has ls 5 [(0, .ref (ad 64 0)), (1, .int x1), (2, .int x2), (3, .int x3), (4, .int x4)] → W p l e (tq_rm 2 48) s m args below meth c H locs 0 0 (MQ below (va_Qi (fun r u => post u r) (tq_P D cy z H0 ad N S) (fun q => z ≤ q)) args s 0 0 (fun q => z ≤ q)) (F0 m 3 ls []) := by
  obtain ⟨hx, hb, hr, hml, hown, hts, hlocks, hK, hG⟩ := id C
  have hw : ∀ w ∈ tq_W, w.before args s = true := fun w h => hts w (List.mem_cons_of_mem _ h)
  intro n
  induction n with
  | zero =>
    intro M x1 x2 x3 x4 H locs ls h
    exact absurd h (by unfold wbX12_standing_3; exact id)
  | succ n ih =>
    intro M x1 x2 x3 x4 H locs ls h hW hS hl
    unfold wbX12_standing_3 at h
    refine lv_iload hx hb dX12_standing_3 (lv_at hl 4 rfl) ?_
    refine lv_aload_n hx hb dX12_standing_5 rfl (lv_at hl 0 rfl) ?_
    refine tqm_get (v := .int (M 64 0 9)) hx hb hw tq_inX12 hown hK hW (by decide) (tq_mk_64 (by decide)) rfl 9 (by decide) (hw _ tw_1417) (fun _ h9 => h9) rfl dX12_standing_6 ?_
    refine lv_icmp_ge (tgt := 56) hx hb dX12_standing_9 (by decide) (fun c1 => ?_) (fun c1 => ?_)
    · have h := h.1 c1
      refine lv_iconst (v := 1) hx hb dX12_standing_56 (by decide) ?_
      exact W.zret (v := 1) hx hb hr rfl (fun t ht hWm => ⟨⟨_, M, rfl, h, tq_pe ht hW⟩, hS.F ht⟩) hS.2.2 dX12_standing_57
    · have h := h.2 c1
      refine lv_aload_n hx hb dX12_standing_12 rfl (lv_at hl 0 rfl) ?_
      refine lv_iload hx hb dX12_standing_13 (lv_at hl 4 rfl) ?_
      refine lv_iload_n hx hb dX12_standing_15 rfl (lv_at hl 3 rfl) ?_
      refine lv_aload_n hx hb dX12_standing_16 rfl (lv_at hl 0 rfl) ?_
      refine tqm_get (v := .int (M 64 0 0)) hx hb hw tq_inX12 hown hK hW (by decide) (tq_mk_64 (by decide)) rfl 0 (by decide) (hw _ tw_1408) (fun _ h9 => h9) rfl dX12_standing_17 ?_
      refine tq_callVi (As := [.int x4, .int x3, .int (M 64 0 0)]) (rest := []) (kX12_known_ h) ⟨hx, hb, hml, hown, hts⟩ (cwV 3 hts (tq_goodV tw_1799 tw_1801 tw_72 tw_125 tw_1802) rfl rfl rfl (by decide +kernel) ⟨Nat.le_of_ble_eq_true rfl, Nat.le_of_ble_eq_true rfl⟩) hK hG hW hS rfl hl.1 rfl (Nat.le_of_ble_eq_true rfl) dX12_standing_20 ⟨Nat.le_of_ble_eq_true rfl, Nat.le_of_ble_eq_true rfl⟩ (fun r3 M2 H locs h hW hS => ?_)
      refine lv_if_eq (tgt := 50) hx hb dX12_standing_23 (by decide) (fun c4 => ?_) (fun c4 => ?_)
      · have h := h.1 c4
        exact bX12_standing_50 C (fun M9 a09 a19 a29 a39 H9 q9 ls9 h9 hW9 hS9 hl9 => ih M9 a09 a19 a29 a39 H9 q9 ls9 h9 hW9 hS9 hl9) _ _ _ _ _ _ _ _ h hW hS (lv_sub hl [0, 1, 2, 3, 4] rfl)
      · have h := h.2 c4
        refine lv_aload_n hx hb dX12_standing_26 rfl (lv_at hl 0 rfl) ?_
        refine lv_iload_n hx hb dX12_standing_27 rfl (lv_at hl 1 rfl) ?_
        refine lv_iload hx hb dX12_standing_28 (lv_at hl 4 rfl) ?_
        refine lv_iload_n hx hb dX12_standing_30 rfl (lv_at hl 3 rfl) ?_
        refine tq_callVi (As := [.int x1, .int x4, .int x3]) (rest := []) (kX12_ahead h) ⟨hx, hb, hml, hown, hts⟩ (cwV 3 hts (tq_goodV tw_1803 tw_1805 tw_73 tw_125 tw_1806) rfl rfl rfl (by decide +kernel) ⟨Nat.le_of_ble_eq_true rfl, Nat.le_of_ble_eq_true rfl⟩) hK hG hW hS rfl hl.1 rfl (Nat.le_of_ble_eq_true rfl) dX12_standing_31 ⟨Nat.le_of_ble_eq_true rfl, Nat.le_of_ble_eq_true rfl⟩ (fun r6 M5 H locs h hW hS => ?_)
        refine lv_if_eq (tgt := 50) hx hb dX12_standing_34 (by decide) (fun c7 => ?_) (fun c7 => ?_)
        · have h := h.1 c7
          exact bX12_standing_50 C (fun M9 a09 a19 a29 a39 H9 q9 ls9 h9 hW9 hS9 hl9 => ih M9 a09 a19 a29 a39 H9 q9 ls9 h9 hW9 hS9 hl9) _ _ _ _ _ _ _ _ h hW hS (lv_sub hl [0, 1, 2, 3, 4] rfl)
        · have h := h.2 c7
          refine lv_aload_n hx hb dX12_standing_37 rfl (lv_at hl 0 rfl) ?_
          refine lv_iload_n hx hb dX12_standing_38 rfl (lv_at hl 1 rfl) ?_
          refine lv_iload_n hx hb dX12_standing_39 rfl (lv_at hl 2 rfl) ?_
          refine lv_iload hx hb dX12_standing_40 (lv_at hl 4 rfl) ?_
          refine tq_callVi (As := [.int x1, .int x2, .int x4]) (rest := []) (kX12_hasAct h) ⟨hx, hb, hml, hown, hts⟩ (cwV 3 hts (tq_goodV tw_1811 tw_1813 tw_75 tw_125 tw_1814) rfl rfl rfl (by decide +kernel) ⟨Nat.le_of_ble_eq_true rfl, Nat.le_of_ble_eq_true rfl⟩) hK hG hW hS rfl hl.1 rfl (Nat.le_of_ble_eq_true rfl) dX12_standing_42 ⟨Nat.le_of_ble_eq_true rfl, Nat.le_of_ble_eq_true rfl⟩ (fun r9 M8 H locs h hW hS => ?_)
          refine lv_if_eq (tgt := 50) hx hb dX12_standing_45 (by decide) (fun c10 => ?_) (fun c10 => ?_)
          · have h := h.1 c10
            exact bX12_standing_50 C (fun M9 a09 a19 a29 a39 H9 q9 ls9 h9 hW9 hS9 hl9 => ih M9 a09 a19 a29 a39 H9 q9 ls9 h9 hW9 hS9 hl9) _ _ _ _ _ _ _ _ h hW hS (lv_sub hl [0, 1, 2, 3, 4] rfl)
          · have h := h.2 c10
            refine lv_iconst (v := 0) hx hb dX12_standing_48 (by decide) ?_
            exact W.zret (v := 0) hx hb hr rfl (fun t ht hWm => ⟨⟨_, M8, rfl, h, tq_pe ht hW⟩, hS.F ht⟩) hS.2.2 dX12_standing_49
set_option maxHeartbeats 4000000 in
set_option maxRecDepth 100000 in
theorem kX12_standing {post : tq_St → Int32 → Prop} {M : tq_St} {p0 : Int32} {p1 : Int32} {p2 : Int32} (h : wpX12_standing post M p0 p1 p2) : tq_mI l yX12_standing (tq_ws yX12_standing cX12_standing 5 (some .boolean)) 2 48 D cy z H0 ad N S M [.ref (ad 64 0), .int p0, .int p1, .int p2] post := by
  unfold wpX12_standing at h
  refine Met.ofW (cc := cX12_standing) (maxL := 5) (ret := (some .boolean)) (by decide) rfl ?_
  intro p e s m args below meth c s₁ B hml hv
  obtain ⟨rfl, hW, hK, hG⟩ := hv
  have hx := B.exec
  have hb := B.bytes
  have hr := B.returns
  have hts := atoms_spec (ws := (tq_ws yX12_standing cX12_standing 5 (some .boolean))) B.pre
  have hw : ∀ w ∈ tq_W, w.before _ s = true := fun w h => hts w (List.mem_cons_of_mem _ h)
  have hown : s.vm.findClass RX12 = some m.cls := findClass_of_methodNamed B.named
  have hlocks := B.notSynchronized
  have C : tq_At p s m meth c [.ref (ad 64 0), .int p0, .int p1, .int p2].toArray cX12_standing 5 ((some .boolean)) ((tq_ws yX12_standing cX12_standing 5 (some .boolean))) RX12 D cy z ad := ⟨hx, hb, hr, hml, hown, hts, hlocks, hK, hG⟩
  have hS : va_S (fun q => z ≤ q) s.heap s.heap [] := va_S.rf
  have hl := lv_entry ([.ref (ad 64 0), .int p0, .int p1, .int p2]) (n := 5) (Nat.le_of_ble_eq_true rfl)
  rw [lg_entry_eq]
  generalize (lg_sl ([.ref (ad 64 0), .int p0, .int p1, .int p2]) ++ List.replicate (5 - (lg_sl ([.ref (ad 64 0), .int p0, .int p1, .int p2])).length) Slot.unset).toArray = ls at hl ⊢
  have hl : lv_has ls 5 [(0, .ref (ad 64 0)), (1, .int p0), (2, .int p1), (3, .int p2)] := hl
  have hW : tq_wd D cy z H0 ad N (tq_mix S M) s.heap := hW
  refine lv_iconst (v := 0) hx hb dX12_standing_0 (by decide) ?_
  refine lv_istore (lv' := [(4, .int 0), (0, .ref (ad 64 0)), (1, .int p0), (2, .int p1), (3, .int p2)]) hx hb dX12_standing_1 hl (by decide) rfl (fun ls hl => ?_)
  obtain ⟨nq, h⟩ := h
  exact bX12_standing_3 C  nq _ _ _ _ _ _ _ _ h hW hS (lv_sub hl [1, 2, 3, 4, 0] rfl)
