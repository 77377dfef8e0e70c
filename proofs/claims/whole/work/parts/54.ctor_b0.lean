set_option maxHeartbeats 8000000 in
set_option maxRecDepth 100000 in
theorem kC_2 {l : Launch} {D : va_G} {cy : Nat → ClassId} {z : Nat} {H0 : Heap} {ad : Nat → Nat → Nat} : tq_cC l yX6_init (tq_ws yX6_init cX6_init 1 none) 1 21 1 120 D cy z H0 ad 11 (tqE24 z cy ad) 12 (tqE26 z cy ad) [.ref (z + 10)] := by
  refine Met.ofW (cc := cX6_init) (maxL := 1) (ret := none) (by decide) rfl ?_
  intro p e s m args below meth c s₁ B hml hv
  obtain ⟨rfl, hR, hK, hG⟩ := hv
  have hx := B.exec
  have hb := B.bytes
  have hr := B.returns
  have hts := atoms_spec (ws := tq_ws yX6_init cX6_init 1 none) B.pre
  have hw : ∀ w ∈ tq_W, w.before _ s = true := fun w h => hts w (List.mem_cons_of_mem _ h)
  have hown : s.vm.findClass RX6 = some m.cls := findClass_of_methodNamed B.named
  have hlocks := B.notSynchronized
  have hin2 := (name_of_methodNamed B.named B.method).1
  have hS : va_S (fun q => z ≤ q) s.heap s.heap [] := va_S.rf
  have hl := lv_entry ([.ref (z + 10)]) (n := 1) (Nat.le_of_ble_eq_true rfl)
  rw [lg_entry_eq]
  generalize (lg_sl ([.ref (z + 10)]) ++ List.replicate (1 - (lg_sl ([.ref (z + 10)])).length) Slot.unset).toArray = ls at hl ⊢
  have hl : lv_has ls 1 [(0, .ref (z + 10))] := hl
  refine lv_aload_n hx hb dX6_init_0 rfl (lv_at hl 0 rfl) ?_
  refine W.objInit hx hb hown (hw _ tw_183) (hw _ tw_147) (hw _ tw_148) rfl (by rw [hml]; exact hl.1) rfl dX6_init_1 (Nat.le_of_ble_eq_true rfl) (Nat.le_of_ble_eq_true rfl) ?_
  refine W.eq (g2 := F0 m 4 ls []) rfl ?_
  refine lv_aload_n hx hb dX6_init_4 rfl (lv_at hl 0 rfl) ?_
  refine lv_bipush (v := 120) hx hb dX6_init_5 (by decide) ?_
  refine tqr_newa (E1 := tqE25 z cy ad) (N' := 120) (ty := .int) hx hb rfl (hw _ tw_177) hK hR hS 0 rfl (fun U x h9 => h9) (v := 120) (by decide) (by decide) (by decide) (fun _ => rfl) rfl rfl (Nat.le_of_ble_eq_true rfl) (Nat.le_of_ble_eq_true rfl) dX6_init_7 (fun H hR hS => ?_)
  refine tqr_put (E1 := tqE26 z cy ad) (j := 10) (fs := [.null, .int 0, .int 0, .int 0]) hx hb hw tq_inX6 tyX6 tyX6_ok nmX6 hown hK hR hS (by decide) rfl rfl 0 (by decide) (hw _ tw_184) (fun _ h9 => h9) (Or.inr ⟨rfl, hin2, rfl⟩) rfl rfl (by simp) rfl dX6_init_9 (fun H locs hR hS => ?_)
  refine W.widen (k := 1) (n := 120) (Nat.le_of_ble_eq_true rfl) (Nat.le_of_ble_eq_true rfl) ?_
  exact W.vret hx hb hr (fun t ht hWm => ⟨⟨(), rfl, trivial, by show tq_rw _ _ _ _ _ t.heap; rw [ht]; exact hR⟩, hS.F ht⟩) hS.2.2 dX6_init_12
set_option maxHeartbeats 8000000 in
set_option maxRecDepth 100000 in
theorem kC_3 {l : Launch} {D : va_G} {cy : Nat → ClassId} {z : Nat} {H0 : Heap} {ad : Nat → Nat → Nat} : tq_cC l yX2_init (tq_ws yX2_init cX2_init 1 none) 1 21 16 72 D cy z H0 ad 13 (tqE28 z cy ad) 29 (tqE36 z cy ad) [.ref (z + 12)] := by
  refine Met.ofW (cc := cX2_init) (maxL := 1) (ret := none) (by decide) rfl ?_
  intro p e s m args below meth c s₁ B hml hv
  obtain ⟨rfl, hR, hK, hG⟩ := hv
  have hx := B.exec
  have hb := B.bytes
  have hr := B.returns
  have hts := atoms_spec (ws := tq_ws yX2_init cX2_init 1 none) B.pre
  have hw : ∀ w ∈ tq_W, w.before _ s = true := fun w h => hts w (List.mem_cons_of_mem _ h)
  have hown : s.vm.findClass RX2 = some m.cls := findClass_of_methodNamed B.named
  have hlocks := B.notSynchronized
  have hin2 := (name_of_methodNamed B.named B.method).1
  have hS : va_S (fun q => z ≤ q) s.heap s.heap [] := va_S.rf
  have hl := lv_entry ([.ref (z + 12)]) (n := 1) (Nat.le_of_ble_eq_true rfl)
  rw [lg_entry_eq]
  generalize (lg_sl ([.ref (z + 12)]) ++ List.replicate (1 - (lg_sl ([.ref (z + 12)])).length) Slot.unset).toArray = ls at hl ⊢
  have hl : lv_has ls 1 [(0, .ref (z + 12))] := hl
  refine lv_aload_n hx hb dX2_init_0 rfl (lv_at hl 0 rfl) ?_
  refine W.objInit hx hb hown (hw _ tw_203) (hw _ tw_147) (hw _ tw_148) rfl (by rw [hml]; exact hl.1) rfl dX2_init_1 (Nat.le_of_ble_eq_true rfl) (Nat.le_of_ble_eq_true rfl) ?_
  refine W.eq (g2 := F0 m 4 ls []) rfl ?_
  refine lv_aload_n hx hb dX2_init_4 rfl (lv_at hl 0 rfl) ?_
  refine lv_bipush (v := 6) hx hb dX2_init_5 (by decide) ?_
  refine lv_iconst (v := 4) hx hb dX2_init_7 (by decide) ?_
  refine tqr_multi (E1 := tqE29 z cy ad) (N' := 6) (K' := 4) (n1 := 20) hx hb hown (by rw [tq_sII]; exact hw _ tw_204) hG.2.2.2.2.2.2.2.2.2.2.2.2.1 (hw _ tw_177) hK hR hS (v := 6) (w := 4) (by decide) (by decide) (by decide) (by decide) (by decide) (by decide) rfl rfl (Nat.le_of_ble_eq_true rfl) (Nat.le_of_ble_eq_true rfl) dX2_init_8 (fun H hR hS => ?_)
  refine tqr_put (E1 := tqE30 z cy ad) (j := 12) (fs := [.null, .null, .null, .null, .int 0]) hx hb hw tq_inX2 tyX2 tyX2_ok nmX2 hown hK hR hS (by decide) rfl rfl 0 (by decide) (hw _ tw_206) (fun _ h9 => h9) (Or.inr ⟨rfl, hin2, rfl⟩) rfl rfl (by simp) rfl dX2_init_12 (fun H locs hR hS => ?_)
  refine lv_aload_n hx hb dX2_init_15 rfl (lv_at hl 0 rfl) ?_
  refine lv_bipush (v := 6) hx hb dX2_init_16 (by decide) ?_
  refine lv_iconst (v := 4) hx hb dX2_init_18 (by decide) ?_
  refine tqr_multi (E1 := tqE31 z cy ad) (N' := 6) (K' := 4) (n1 := 27) hx hb hown (by rw [tq_sII]; exact hw _ tw_204) hG.2.2.2.2.2.2.2.2.2.2.2.2.1 (hw _ tw_177) hK hR hS (v := 6) (w := 4) (by decide) (by decide) (by decide) (by decide) (by decide) (by decide) rfl rfl (Nat.le_of_ble_eq_true rfl) (Nat.le_of_ble_eq_true rfl) dX2_init_19 (fun H hR hS => ?_)
  refine tqr_put (E1 := tqE32 z cy ad) (j := 12) (fs := [.ref (z + 13), .null, .null, .null, .int 0]) hx hb hw tq_inX2 tyX2 tyX2_ok nmX2 hown hK hR hS (by decide) rfl rfl 1 (by decide) (hw _ tw_208) (fun _ h9 => h9) (Or.inr ⟨rfl, hin2, rfl⟩) rfl rfl (by simp) rfl dX2_init_23 (fun H locs hR hS => ?_)
  refine lv_aload_n hx hb dX2_init_26 rfl (lv_at hl 0 rfl) ?_
  refine lv_bipush (v := 6) hx hb dX2_init_27 (by decide) ?_
  refine tqr_newa (E1 := tqE33 z cy ad) (N' := 6) (ty := .int) hx hb rfl (hw _ tw_177) hK hR hS 0 rfl (fun U x h9 => h9) (v := 6) (by decide) (by decide) (by decide) (fun _ => rfl) rfl rfl (Nat.le_of_ble_eq_true rfl) (Nat.le_of_ble_eq_true rfl) dX2_init_29 (fun H hR hS => ?_)
  refine tqr_put (E1 := tqE34 z cy ad) (j := 12) (fs := [.ref (z + 13), .ref (z + 20), .null, .null, .int 0]) hx hb hw tq_inX2 tyX2 tyX2_ok nmX2 hown hK hR hS (by decide) rfl rfl 2 (by decide) (hw _ tw_210) (fun _ h9 => h9) (Or.inr ⟨rfl, hin2, rfl⟩) rfl rfl (by simp) rfl dX2_init_31 (fun H locs hR hS => ?_)
  refine lv_aload_n hx hb dX2_init_34 rfl (lv_at hl 0 rfl) ?_
  refine lv_bipush (v := 6) hx hb dX2_init_35 (by decide) ?_
  refine tqr_newa (E1 := tqE35 z cy ad) (N' := 6) (ty := .int) hx hb rfl (hw _ tw_177) hK hR hS 0 rfl (fun U x h9 => h9) (v := 6) (by decide) (by decide) (by decide) (fun _ => rfl) rfl rfl (Nat.le_of_ble_eq_true rfl) (Nat.le_of_ble_eq_true rfl) dX2_init_37 (fun H hR hS => ?_)
  refine tqr_put (E1 := tqE36 z cy ad) (j := 12) (fs := [.ref (z + 13), .ref (z + 20), .ref (z + 27), .null, .int 0]) hx hb hw tq_inX2 tyX2 tyX2_ok nmX2 hown hK hR hS (by decide) rfl rfl 3 (by decide) (hw _ tw_212) (fun _ h9 => h9) (Or.inr ⟨rfl, hin2, rfl⟩) rfl rfl (by simp) rfl dX2_init_39 (fun H locs hR hS => ?_)
  refine W.widen (k := 16) (n := 72) (Nat.le_of_ble_eq_true rfl) (Nat.le_of_ble_eq_true rfl) ?_
  exact W.vret hx hb hr (fun t ht hWm => ⟨⟨(), rfl, trivial, by show tq_rw _ _ _ _ _ t.heap; rw [ht]; exact hR⟩, hS.F ht⟩) hS.2.2 dX2_init_42
set_option maxHeartbeats 8000000 in
set_option maxRecDepth 100000 in
theorem kC_4 {l : Launch} {D : va_G} {cy : Nat → ClassId} {z : Nat} {H0 : Heap} {ad : Nat → Nat → Nat} : tq_cC l yX0_init (tq_ws yX0_init cX0_init 1 none) 1 21 1 20 D cy z H0 ad 37 (tqE44 z cy ad) 38 (tqE46 z cy ad) [.ref (z + 36)] := by
  refine Met.ofW (cc := cX0_init) (maxL := 1) (ret := none) (by decide) rfl ?_
  intro p e s m args below meth c s₁ B hml hv
  obtain ⟨rfl, hR, hK, hG⟩ := hv
  have hx := B.exec
  have hb := B.bytes
  have hr := B.returns
  have hts := atoms_spec (ws := tq_ws yX0_init cX0_init 1 none) B.pre
  have hw : ∀ w ∈ tq_W, w.before _ s = true := fun w h => hts w (List.mem_cons_of_mem _ h)
  have hown : s.vm.findClass RX0 = some m.cls := findClass_of_methodNamed B.named
  have hlocks := B.notSynchronized
  have hin2 := (name_of_methodNamed B.named B.method).1
  have hS : va_S (fun q => z ≤ q) s.heap s.heap [] := va_S.rf
  have hl := lv_entry ([.ref (z + 36)]) (n := 1) (Nat.le_of_ble_eq_true rfl)
  rw [lg_entry_eq]
  generalize (lg_sl ([.ref (z + 36)]) ++ List.replicate (1 - (lg_sl ([.ref (z + 36)])).length) Slot.unset).toArray = ls at hl ⊢
  have hl : lv_has ls 1 [(0, .ref (z + 36))] := hl
  refine lv_aload_n hx hb dX0_init_0 rfl (lv_at hl 0 rfl) ?_
  refine W.objInit hx hb hown (hw _ tw_232) (hw _ tw_147) (hw _ tw_148) rfl (by rw [hml]; exact hl.1) rfl dX0_init_1 (Nat.le_of_ble_eq_true rfl) (Nat.le_of_ble_eq_true rfl) ?_
  refine W.eq (g2 := F0 m 4 ls []) rfl ?_
  refine lv_aload_n hx hb dX0_init_4 rfl (lv_at hl 0 rfl) ?_
  refine lv_bipush (v := 20) hx hb dX0_init_5 (by decide) ?_
  refine tqr_newa (E1 := tqE45 z cy ad) (N' := 20) (ty := .int) hx hb rfl (hw _ tw_177) hK hR hS 0 rfl (fun U x h9 => h9) (v := 20) (by decide) (by decide) (by decide) (fun _ => rfl) rfl rfl (Nat.le_of_ble_eq_true rfl) (Nat.le_of_ble_eq_true rfl) dX0_init_7 (fun H hR hS => ?_)
  refine tqr_put (E1 := tqE46 z cy ad) (j := 36) (fs := [.null, .int 0]) hx hb hw tq_inX0 tyX0 tyX0_ok nmX0 hown hK hR hS (by decide) rfl rfl 0 (by decide) (hw _ tw_233) (fun _ h9 => h9) (Or.inr ⟨rfl, hin2, rfl⟩) rfl rfl (by simp) rfl dX0_init_9 (fun H locs hR hS => ?_)
  refine W.widen (k := 1) (n := 20) (Nat.le_of_ble_eq_true rfl) (Nat.le_of_ble_eq_true rfl) ?_
  exact W.vret hx hb hr (fun t ht hWm => ⟨⟨(), rfl, trivial, by show tq_rw _ _ _ _ _ t.heap; rw [ht]; exact hR⟩, hS.F ht⟩) hS.2.2 dX0_init_12
set_option maxHeartbeats 8000000 in
set_option maxRecDepth 100000 in
theorem kC_5 {l : Launch} {D : va_G} {cy : Nat → ClassId} {z : Nat} {H0 : Heap} {ad : Nat → Nat → Nat} : tq_cC l yX5_init (tq_ws yX5_init cX5_init 2 none) 4 90 9 58 D cy z H0 ad 40 (tqE50 z cy ad) 49 (tqE78 z cy ad) [.ref (z + 39), .int 0] := by
  refine Met.ofW (cc := cX5_init) (maxL := 2) (ret := none) (by decide) rfl ?_
  intro p e s m args below meth c s₁ B hml hv
  obtain ⟨rfl, hR, hK, hG⟩ := hv
  have hx := B.exec
  have hb := B.bytes
  have hr := B.returns
  have hts := atoms_spec (ws := tq_ws yX5_init cX5_init 2 none) B.pre
  have hw : ∀ w ∈ tq_W, w.before _ s = true := fun w h => hts w (List.mem_cons_of_mem _ h)
  have hown : s.vm.findClass RX5 = some m.cls := findClass_of_methodNamed B.named
  have hlocks := B.notSynchronized
  have hin2 := (name_of_methodNamed B.named B.method).1
  have hS : va_S (fun q => z ≤ q) s.heap s.heap [] := va_S.rf
  have hl := lv_entry ([.ref (z + 39), .int 0]) (n := 2) (Nat.le_of_ble_eq_true rfl)
  rw [lg_entry_eq]
  generalize (lg_sl ([.ref (z + 39), .int 0]) ++ List.replicate (2 - (lg_sl ([.ref (z + 39), .int 0])).length) Slot.unset).toArray = ls at hl ⊢
  have hl : lv_has ls 2 [(0, .ref (z + 39)), (1, .int 0)] := hl
  refine lv_aload_n hx hb dX5_init_0 rfl (lv_at hl 0 rfl) ?_
  refine W.objInit hx hb hown (hw _ tw_248) (hw _ tw_147) (hw _ tw_148) rfl (by rw [hml]; exact hl.1) rfl dX5_init_1 (Nat.le_of_ble_eq_true rfl) (Nat.le_of_ble_eq_true rfl) ?_
  refine W.eq (g2 := F0 m 4 ls []) rfl ?_
  refine lv_aload_n hx hb dX5_init_4 rfl (lv_at hl 0 rfl) ?_
  refine lv_iconst (v := 4) hx hb dX5_init_5 (by decide) ?_
  refine tqr_newa (E1 := tqE51 z cy ad) (N' := 4) (ty := .int) hx hb rfl (hw _ tw_177) hK hR hS 0 rfl (fun U x h9 => h9) (v := 4) (by decide) (by decide) (by decide) (fun _ => rfl) rfl rfl (Nat.le_of_ble_eq_true rfl) (Nat.le_of_ble_eq_true rfl) dX5_init_6 (fun H hR hS => ?_)
  refine tqr_put (E1 := tqE52 z cy ad) (j := 39) (fs := [.int 0, .int 0, .null, .int 0, .int 0, .int 0, .null, .null, .int 0, .null, .null, .null, .null, .null, .null, .null, .int 0]) hx hb hw tq_inX5 tyX5 tyX5_ok nmX5 hown hK hR hS (by decide) rfl rfl 2 (by decide) (hw _ tw_256) (fun _ h9 => h9) (Or.inr ⟨rfl, hin2, rfl⟩) rfl rfl (by simp) rfl dX5_init_8 (fun H locs hR hS => ?_)
  refine lv_aload_n hx hb dX5_init_11 rfl (lv_at hl 0 rfl) ?_
  refine lv_bipush (v := 120) hx hb dX5_init_12 (by decide) ?_
  refine tqr_put (E1 := tqE53 z cy ad) (j := 39) (fs := [.int 0, .int 0, .ref (z + 40), .int 0, .int 0, .int 0, .null, .null, .int 0, .null, .null, .null, .null, .null, .null, .null, .int 0]) hx hb hw tq_inX5 tyX5 tyX5_ok nmX5 hown hK hR hS (by decide) rfl rfl 3 (by decide) (hw _ tw_259) (fun _ h9 => h9) (Or.inl rfl) rfl rfl (by simp) rfl dX5_init_14 (fun H locs hR hS => ?_)
  refine lv_aload_n hx hb dX5_init_17 rfl (lv_at hl 0 rfl) ?_
  refine lv_bipush (v := 120) hx hb dX5_init_18 (by decide) ?_
  refine tqr_put (E1 := tqE54 z cy ad) (j := 39) (fs := [.int 0, .int 0, .ref (z + 40), .int 120, .int 0, .int 0, .null, .null, .int 0, .null, .null, .null, .null, .null, .null, .null, .int 0]) hx hb hw tq_inX5 tyX5 tyX5_ok nmX5 hown hK hR hS (by decide) rfl rfl 4 (by decide) (hw _ tw_261) (fun _ h9 => h9) (Or.inl rfl) rfl rfl (by simp) rfl dX5_init_20 (fun H locs hR hS => ?_)
  refine lv_aload_n hx hb dX5_init_23 rfl (lv_at hl 0 rfl) ?_
  refine lv_iconst (v := 4) hx hb dX5_init_24 (by decide) ?_
  refine tqr_newa (E1 := tqE55 z cy ad) (N' := 4) (ty := .int) hx hb rfl (hw _ tw_177) hK hR hS 0 rfl (fun U x h9 => h9) (v := 4) (by decide) (by decide) (by decide) (fun _ => rfl) rfl rfl (Nat.le_of_ble_eq_true rfl) (Nat.le_of_ble_eq_true rfl) dX5_init_25 (fun H hR hS => ?_)
  refine lv_dup hx hb dX5_init_27 rfl ?_
  refine lv_iconst (v := 0) hx hb dX5_init_28 (by decide) ?_
  refine lv_bipush (v := 20) hx hb dX5_init_29 (by decide) ?_
  refine tqr_iast (E1 := tqE56 z cy ad) (j := 41) (len := 4) (f := (fun _ => 0)) (f1 := (upd (fun _ => 0) 0 20)) hx hb hK hR hS (by decide) rfl (by unfold vp_in; decide) rfl rfl dX5_init_31 (fun H locs hR hS => ?_)
  refine lv_dup hx hb dX5_init_32 rfl ?_
  refine lv_iconst (v := 1) hx hb dX5_init_33 (by decide) ?_
  refine lv_bipush (v := 20) hx hb dX5_init_34 (by decide) ?_
  refine tqr_iast (E1 := tqE57 z cy ad) (j := 41) (len := 4) (f := (upd (fun _ => 0) 0 20)) (f1 := (upd (upd (fun _ => 0) 0 20) 1 20)) hx hb hK hR hS (by decide) rfl (by unfold vp_in; decide) rfl rfl dX5_init_36 (fun H locs hR hS => ?_)
  refine lv_dup hx hb dX5_init_37 rfl ?_
  refine lv_iconst (v := 2) hx hb dX5_init_38 (by decide) ?_
  refine lv_bipush (v := 20) hx hb dX5_init_39 (by decide) ?_
  refine tqr_iast (E1 := tqE58 z cy ad) (j := 41) (len := 4) (f := (upd (upd (fun _ => 0) 0 20) 1 20)) (f1 := (upd (upd (upd (fun _ => 0) 0 20) 1 20) 2 20)) hx hb hK hR hS (by decide) rfl (by unfold vp_in; decide) rfl rfl dX5_init_41 (fun H locs hR hS => ?_)
  refine lv_dup hx hb dX5_init_42 rfl ?_
  refine lv_iconst (v := 3) hx hb dX5_init_43 (by decide) ?_
  refine lv_bipush (v := 20) hx hb dX5_init_44 (by decide) ?_
  refine tqr_iast (E1 := tqE59 z cy ad) (j := 41) (len := 4) (f := (upd (upd (upd (fun _ => 0) 0 20) 1 20) 2 20)) (f1 := (upd (upd (upd (upd (fun _ => 0) 0 20) 1 20) 2 20) 3 20)) hx hb hK hR hS (by decide) rfl (by unfold vp_in; decide) rfl rfl dX5_init_46 (fun H locs hR hS => ?_)
  refine tqr_put (E1 := tqE60 z cy ad) (j := 39) (fs := [.int 0, .int 0, .ref (z + 40), .int 120, .int 120, .int 0, .null, .null, .int 0, .null, .null, .null, .null, .null, .null, .null, .int 0]) hx hb hw tq_inX5 tyX5 tyX5_ok nmX5 hown hK hR hS (by decide) rfl rfl 6 (by decide) (hw _ tw_265) (fun _ h9 => h9) (Or.inr ⟨rfl, hin2, rfl⟩) rfl rfl (by simp) rfl dX5_init_47 (fun H locs hR hS => ?_)
  refine lv_aload_n hx hb dX5_init_50 rfl (lv_at hl 0 rfl) ?_
  refine lv_iconst (v := 4) hx hb dX5_init_51 (by decide) ?_
  refine tqr_newa (E1 := tqE61 z cy ad) (N' := 4) (ty := .int) hx hb rfl (hw _ tw_177) hK hR hS 0 rfl (fun U x h9 => h9) (v := 4) (by decide) (by decide) (by decide) (fun _ => rfl) rfl rfl (Nat.le_of_ble_eq_true rfl) (Nat.le_of_ble_eq_true rfl) dX5_init_52 (fun H hR hS => ?_)
  refine tqr_put (E1 := tqE62 z cy ad) (j := 39) (fs := [.int 0, .int 0, .ref (z + 40), .int 120, .int 120, .int 0, .ref (z + 41), .null, .int 0, .null, .null, .null, .null, .null, .null, .null, .int 0]) hx hb hw tq_inX5 tyX5 tyX5_ok nmX5 hown hK hR hS (by decide) rfl rfl 7 (by decide) (hw _ tw_267) (fun _ h9 => h9) (Or.inr ⟨rfl, hin2, rfl⟩) rfl rfl (by simp) rfl dX5_init_54 (fun H locs hR hS => ?_)
  refine lv_aload_n hx hb dX5_init_57 rfl (lv_at hl 0 rfl) ?_
  refine lv_iconst (v := 4) hx hb dX5_init_58 (by decide) ?_
  refine tqr_newa (E1 := tqE63 z cy ad) (N' := 4) (ty := .int) hx hb rfl (hw _ tw_177) hK hR hS 0 rfl (fun U x h9 => h9) (v := 4) (by decide) (by decide) (by decide) (fun _ => rfl) rfl rfl (Nat.le_of_ble_eq_true rfl) (Nat.le_of_ble_eq_true rfl) dX5_init_59 (fun H hR hS => ?_)
  refine tqr_put (E1 := tqE64 z cy ad) (j := 39) (fs := [.int 0, .int 0, .ref (z + 40), .int 120, .int 120, .int 0, .ref (z + 41), .ref (z + 42), .int 0, .null, .null, .null, .null, .null, .null, .null, .int 0]) hx hb hw tq_inX5 tyX5 tyX5_ok nmX5 hown hK hR hS (by decide) rfl rfl 9 (by decide) (hw _ tw_269) (fun _ h9 => h9) (Or.inr ⟨rfl, hin2, rfl⟩) rfl rfl (by simp) rfl dX5_init_61 (fun H locs hR hS => ?_)
  refine lv_aload_n hx hb dX5_init_64 rfl (lv_at hl 0 rfl) ?_
  refine lv_iconst (v := 4) hx hb dX5_init_65 (by decide) ?_
  refine tqr_newa (E1 := tqE65 z cy ad) (N' := 4) (ty := .int) hx hb rfl (hw _ tw_177) hK hR hS 0 rfl (fun U x h9 => h9) (v := 4) (by decide) (by decide) (by decide) (fun _ => rfl) rfl rfl (Nat.le_of_ble_eq_true rfl) (Nat.le_of_ble_eq_true rfl) dX5_init_66 (fun H hR hS => ?_)
  refine tqr_put (E1 := tqE66 z cy ad) (j := 39) (fs := [.int 0, .int 0, .ref (z + 40), .int 120, .int 120, .int 0, .ref (z + 41), .ref (z + 42), .int 0, .ref (z + 43), .null, .null, .null, .null, .null, .null, .int 0]) hx hb hw tq_inX5 tyX5 tyX5_ok nmX5 hown hK hR hS (by decide) rfl rfl 10 (by decide) (hw _ tw_271) (fun _ h9 => h9) (Or.inr ⟨rfl, hin2, rfl⟩) rfl rfl (by simp) rfl dX5_init_68 (fun H locs hR hS => ?_)
  refine lv_aload_n hx hb dX5_init_71 rfl (lv_at hl 0 rfl) ?_
  refine lv_iconst (v := 4) hx hb dX5_init_72 (by decide) ?_
  refine tqr_newa (E1 := tqE67 z cy ad) (N' := 4) (ty := .int) hx hb rfl (hw _ tw_177) hK hR hS 0 rfl (fun U x h9 => h9) (v := 4) (by decide) (by decide) (by decide) (fun _ => rfl) rfl rfl (Nat.le_of_ble_eq_true rfl) (Nat.le_of_ble_eq_true rfl) dX5_init_73 (fun H hR hS => ?_)
  refine tqr_put (E1 := tqE68 z cy ad) (j := 39) (fs := [.int 0, .int 0, .ref (z + 40), .int 120, .int 120, .int 0, .ref (z + 41), .ref (z + 42), .int 0, .ref (z + 43), .ref (z + 44), .null, .null, .null, .null, .null, .int 0]) hx hb hw tq_inX5 tyX5 tyX5_ok nmX5 hown hK hR hS (by decide) rfl rfl 11 (by decide) (hw _ tw_273) (fun _ h9 => h9) (Or.inr ⟨rfl, hin2, rfl⟩) rfl rfl (by simp) rfl dX5_init_75 (fun H locs hR hS => ?_)
  refine lv_aload_n hx hb dX5_init_78 rfl (lv_at hl 0 rfl) ?_
  refine tqr_new (E1 := tqE69 z cy ad) (ci := 0) (fs := [.int 0, .null, .int 0]) hx hb hw tq_inJl tyJx4a65c tyJx4a65c_ok hown (hw _ tw_249) (hw _ tw_152) (hw _ tw_118) hK hR hS rfl (by decide) rfl rfl (Nat.le_of_ble_eq_true rfl) (Nat.le_of_ble_eq_true rfl) dX5_init_79 (fun H hR hS => ?_)
  refine lv_dup hx hb dX5_init_82 rfl ?_
  refine tqr_initL (E1 := tqE70 z cy ad) (j := 46) hx hb hml hl.1 hts hown (hw _ tw_250) hK hG hR hS (by decide) rfl rfl (Nat.le_of_ble_eq_true rfl) (Nat.le_of_ble_eq_true rfl) (Nat.le_of_ble_eq_true rfl) ⟨(Nat.le_of_ble_eq_true rfl), (Nat.le_of_ble_eq_true rfl)⟩ dX5_init_83 (fun H locs hR hS => ?_)
  refine tqr_put (E1 := tqE71 z cy ad) (j := 39) (fs := [.int 0, .int 0, .ref (z + 40), .int 120, .int 120, .int 0, .ref (z + 41), .ref (z + 42), .int 0, .ref (z + 43), .ref (z + 44), .ref (z + 45), .null, .null, .null, .null, .int 0]) hx hb hw tq_inX5 tyX5 tyX5_ok nmX5 hown hK hR hS (by decide) rfl rfl 12 (by decide) (hw _ tw_275) (fun _ h9 => h9) (Or.inr ⟨rfl, hin2, rfl⟩) rfl rfl (by simp) rfl dX5_init_86 (fun H locs hR hS => ?_)
  refine lv_aload_n hx hb dX5_init_89 rfl (lv_at hl 0 rfl) ?_
  refine tqr_new (E1 := tqE72 z cy ad) (ci := 0) (fs := [.int 0, .null, .int 0]) hx hb hw tq_inJl tyJx4a65c tyJx4a65c_ok hown (hw _ tw_249) (hw _ tw_152) (hw _ tw_118) hK hR hS rfl (by decide) rfl rfl (Nat.le_of_ble_eq_true rfl) (Nat.le_of_ble_eq_true rfl) dX5_init_90 (fun H hR hS => ?_)
  refine lv_dup hx hb dX5_init_93 rfl ?_
  refine tqr_initL (E1 := tqE73 z cy ad) (j := 47) hx hb hml hl.1 hts hown (hw _ tw_250) hK hG hR hS (by decide) rfl rfl (Nat.le_of_ble_eq_true rfl) (Nat.le_of_ble_eq_true rfl) (Nat.le_of_ble_eq_true rfl) ⟨(Nat.le_of_ble_eq_true rfl), (Nat.le_of_ble_eq_true rfl)⟩ dX5_init_94 (fun H locs hR hS => ?_)
  refine tqr_put (E1 := tqE74 z cy ad) (j := 39) (fs := [.int 0, .int 0, .ref (z + 40), .int 120, .int 120, .int 0, .ref (z + 41), .ref (z + 42), .int 0, .ref (z + 43), .ref (z + 44), .ref (z + 45), .ref (z + 46), .null, .null, .null, .int 0]) hx hb hw tq_inX5 tyX5 tyX5_ok nmX5 hown hK hR hS (by decide) rfl rfl 13 (by decide) (hw _ tw_276) (fun _ h9 => h9) (Or.inr ⟨rfl, hin2, rfl⟩) rfl rfl (by simp) rfl dX5_init_97 (fun H locs hR hS => ?_)
  refine lv_aload_n hx hb dX5_init_100 rfl (lv_at hl 0 rfl) ?_
  refine lv_bipush (v := 28) hx hb dX5_init_101 (by decide) ?_
  refine tqr_newa (E1 := tqE75 z cy ad) (N' := 28) (ty := .int) hx hb rfl (hw _ tw_177) hK hR hS 0 rfl (fun U x h9 => h9) (v := 28) (by decide) (by decide) (by decide) (fun _ => rfl) rfl rfl (Nat.le_of_ble_eq_true rfl) (Nat.le_of_ble_eq_true rfl) dX5_init_103 (fun H hR hS => ?_)
  refine tqr_put (E1 := tqE76 z cy ad) (j := 39) (fs := [.int 0, .int 0, .ref (z + 40), .int 120, .int 120, .int 0, .ref (z + 41), .ref (z + 42), .int 0, .ref (z + 43), .ref (z + 44), .ref (z + 45), .ref (z + 46), .ref (z + 47), .null, .null, .int 0]) hx hb hw tq_inX5 tyX5 tyX5_ok nmX5 hown hK hR hS (by decide) rfl rfl 14 (by decide) (hw _ tw_278) (fun _ h9 => h9) (Or.inr ⟨rfl, hin2, rfl⟩) rfl rfl (by simp) rfl dX5_init_105 (fun H locs hR hS => ?_)
  refine lv_aload_n hx hb dX5_init_108 rfl (lv_at hl 0 rfl) ?_
  refine lv_iconst (v := (-1)) hx hb dX5_init_109 (by decide) ?_
  refine tqr_put (E1 := tqE77 z cy ad) (j := 39) (fs := [.int 0, .int 0, .ref (z + 40), .int 120, .int 120, .int 0, .ref (z + 41), .ref (z + 42), .int 0, .ref (z + 43), .ref (z + 44), .ref (z + 45), .ref (z + 46), .ref (z + 47), .ref (z + 48), .null, .int 0]) hx hb hw tq_inX5 tyX5 tyX5_ok nmX5 hown hK hR hS (by decide) rfl rfl 16 (by decide) (hw _ tw_280) (fun _ h9 => h9) (Or.inl rfl) rfl rfl (by simp) rfl dX5_init_110 (fun H locs hR hS => ?_)
  refine lv_aload_n hx hb dX5_init_113 rfl (lv_at hl 0 rfl) ?_
  refine lv_iload_n hx hb dX5_init_114 rfl (lv_at hl 1 rfl) ?_
  refine tqr_put (E1 := tqE78 z cy ad) (j := 39) (fs := [.int 0, .int 0, .ref (z + 40), .int 120, .int 120, .int 0, .ref (z + 41), .ref (z + 42), .int 0, .ref (z + 43), .ref (z + 44), .ref (z + 45), .ref (z + 46), .ref (z + 47), .ref (z + 48), .null, .int (-1)]) hx hb hw tq_inX5 tyX5 tyX5_ok nmX5 hown hK hR hS (by decide) rfl rfl 0 (by decide) (hw _ tw_252) (fun _ h9 => h9) (Or.inr ⟨rfl, hin2, rfl⟩) rfl rfl (by simp) rfl dX5_init_115 (fun H locs hR hS => ?_)
  refine W.widen (k := 9) (n := 58) (Nat.le_of_ble_eq_true rfl) (Nat.le_of_ble_eq_true rfl) ?_
  exact W.vret hx hb hr (fun t ht hWm => ⟨⟨(), rfl, trivial, by show tq_rw _ _ _ _ _ t.heap; rw [ht]; exact hR⟩, hS.F ht⟩) hS.2.2 dX5_init_118
set_option maxHeartbeats 8000000 in
set_option maxRecDepth 100000 in
theorem kC_6 {l : Launch} {D : va_G} {cy : Nat → ClassId} {z : Nat} {H0 : Heap} {ad : Nat → Nat → Nat} : tq_cC l yX5_init (tq_ws yX5_init cX5_init 2 none) 4 90 9 58 D cy z H0 ad 50 (tqE80 z cy ad) 59 (tqE108 z cy ad) [.ref (z + 49), .int 1] := by
  refine Met.ofW (cc := cX5_init) (maxL := 2) (ret := none) (by decide) rfl ?_
  intro p e s m args below meth c s₁ B hml hv
  obtain ⟨rfl, hR, hK, hG⟩ := hv
  have hx := B.exec
  have hb := B.bytes
  have hr := B.returns
  have hts := atoms_spec (ws := tq_ws yX5_init cX5_init 2 none) B.pre
  have hw : ∀ w ∈ tq_W, w.before _ s = true := fun w h => hts w (List.mem_cons_of_mem _ h)
  have hown : s.vm.findClass RX5 = some m.cls := findClass_of_methodNamed B.named
  have hlocks := B.notSynchronized
  have hin2 := (name_of_methodNamed B.named B.method).1
  have hS : va_S (fun q => z ≤ q) s.heap s.heap [] := va_S.rf
  have hl := lv_entry ([.ref (z + 49), .int 1]) (n := 2) (Nat.le_of_ble_eq_true rfl)
  rw [lg_entry_eq]
  generalize (lg_sl ([.ref (z + 49), .int 1]) ++ List.replicate (2 - (lg_sl ([.ref (z + 49), .int 1])).length) Slot.unset).toArray = ls at hl ⊢
  have hl : lv_has ls 2 [(0, .ref (z + 49)), (1, .int 1)] := hl
  refine lv_aload_n hx hb dX5_init_0 rfl (lv_at hl 0 rfl) ?_
  refine W.objInit hx hb hown (hw _ tw_248) (hw _ tw_147) (hw _ tw_148) rfl (by rw [hml]; exact hl.1) rfl dX5_init_1 (Nat.le_of_ble_eq_true rfl) (Nat.le_of_ble_eq_true rfl) ?_
  refine W.eq (g2 := F0 m 4 ls []) rfl ?_
  refine lv_aload_n hx hb dX5_init_4 rfl (lv_at hl 0 rfl) ?_
  refine lv_iconst (v := 4) hx hb dX5_init_5 (by decide) ?_
  refine tqr_newa (E1 := tqE81 z cy ad) (N' := 4) (ty := .int) hx hb rfl (hw _ tw_177) hK hR hS 0 rfl (fun U x h9 => h9) (v := 4) (by decide) (by decide) (by decide) (fun _ => rfl) rfl rfl (Nat.le_of_ble_eq_true rfl) (Nat.le_of_ble_eq_true rfl) dX5_init_6 (fun H hR hS => ?_)
  refine tqr_put (E1 := tqE82 z cy ad) (j := 49) (fs := [.int 0, .int 0, .null, .int 0, .int 0, .int 0, .null, .null, .int 0, .null, .null, .null, .null, .null, .null, .null, .int 0]) hx hb hw tq_inX5 tyX5 tyX5_ok nmX5 hown hK hR hS (by decide) rfl rfl 2 (by decide) (hw _ tw_256) (fun _ h9 => h9) (Or.inr ⟨rfl, hin2, rfl⟩) rfl rfl (by simp) rfl dX5_init_8 (fun H locs hR hS => ?_)
  refine lv_aload_n hx hb dX5_init_11 rfl (lv_at hl 0 rfl) ?_
  refine lv_bipush (v := 120) hx hb dX5_init_12 (by decide) ?_
  refine tqr_put (E1 := tqE83 z cy ad) (j := 49) (fs := [.int 0, .int 0, .ref (z + 50), .int 0, .int 0, .int 0, .null, .null, .int 0, .null, .null, .null, .null, .null, .null, .null, .int 0]) hx hb hw tq_inX5 tyX5 tyX5_ok nmX5 hown hK hR hS (by decide) rfl rfl 3 (by decide) (hw _ tw_259) (fun _ h9 => h9) (Or.inl rfl) rfl rfl (by simp) rfl dX5_init_14 (fun H locs hR hS => ?_)
  refine lv_aload_n hx hb dX5_init_17 rfl (lv_at hl 0 rfl) ?_
  refine lv_bipush (v := 120) hx hb dX5_init_18 (by decide) ?_
  refine tqr_put (E1 := tqE84 z cy ad) (j := 49) (fs := [.int 0, .int 0, .ref (z + 50), .int 120, .int 0, .int 0, .null, .null, .int 0, .null, .null, .null, .null, .null, .null, .null, .int 0]) hx hb hw tq_inX5 tyX5 tyX5_ok nmX5 hown hK hR hS (by decide) rfl rfl 4 (by decide) (hw _ tw_261) (fun _ h9 => h9) (Or.inl rfl) rfl rfl (by simp) rfl dX5_init_20 (fun H locs hR hS => ?_)
  refine lv_aload_n hx hb dX5_init_23 rfl (lv_at hl 0 rfl) ?_
  refine lv_iconst (v := 4) hx hb dX5_init_24 (by decide) ?_
  refine tqr_newa (E1 := tqE85 z cy ad) (N' := 4) (ty := .int) hx hb rfl (hw _ tw_177) hK hR hS 0 rfl (fun U x h9 => h9) (v := 4) (by decide) (by decide) (by decide) (fun _ => rfl) rfl rfl (Nat.le_of_ble_eq_true rfl) (Nat.le_of_ble_eq_true rfl) dX5_init_25 (fun H hR hS => ?_)
  refine lv_dup hx hb dX5_init_27 rfl ?_
  refine lv_iconst (v := 0) hx hb dX5_init_28 (by decide) ?_
  refine lv_bipush (v := 20) hx hb dX5_init_29 (by decide) ?_
  refine tqr_iast (E1 := tqE86 z cy ad) (j := 51) (len := 4) (f := (fun _ => 0)) (f1 := (upd (fun _ => 0) 0 20)) hx hb hK hR hS (by decide) rfl (by unfold vp_in; decide) rfl rfl dX5_init_31 (fun H locs hR hS => ?_)
  refine lv_dup hx hb dX5_init_32 rfl ?_
  refine lv_iconst (v := 1) hx hb dX5_init_33 (by decide) ?_
  refine lv_bipush (v := 20) hx hb dX5_init_34 (by decide) ?_
  refine tqr_iast (E1 := tqE87 z cy ad) (j := 51) (len := 4) (f := (upd (fun _ => 0) 0 20)) (f1 := (upd (upd (fun _ => 0) 0 20) 1 20)) hx hb hK hR hS (by decide) rfl (by unfold vp_in; decide) rfl rfl dX5_init_36 (fun H locs hR hS => ?_)
  refine lv_dup hx hb dX5_init_37 rfl ?_
  refine lv_iconst (v := 2) hx hb dX5_init_38 (by decide) ?_
  refine lv_bipush (v := 20) hx hb dX5_init_39 (by decide) ?_
  refine tqr_iast (E1 := tqE88 z cy ad) (j := 51) (len := 4) (f := (upd (upd (fun _ => 0) 0 20) 1 20)) (f1 := (upd (upd (upd (fun _ => 0) 0 20) 1 20) 2 20)) hx hb hK hR hS (by decide) rfl (by unfold vp_in; decide) rfl rfl dX5_init_41 (fun H locs hR hS => ?_)
  refine lv_dup hx hb dX5_init_42 rfl ?_
  refine lv_iconst (v := 3) hx hb dX5_init_43 (by decide) ?_
  refine lv_bipush (v := 20) hx hb dX5_init_44 (by decide) ?_
  refine tqr_iast (E1 := tqE89 z cy ad) (j := 51) (len := 4) (f := (upd (upd (upd (fun _ => 0) 0 20) 1 20) 2 20)) (f1 := (upd (upd (upd (upd (fun _ => 0) 0 20) 1 20) 2 20) 3 20)) hx hb hK hR hS (by decide) rfl (by unfold vp_in; decide) rfl rfl dX5_init_46 (fun H locs hR hS => ?_)
  refine tqr_put (E1 := tqE90 z cy ad) (j := 49) (fs := [.int 0, .int 0, .ref (z + 50), .int 120, .int 120, .int 0, .null, .null, .int 0, .null, .null, .null, .null, .null, .null, .null, .int 0]) hx hb hw tq_inX5 tyX5 tyX5_ok nmX5 hown hK hR hS (by decide) rfl rfl 6 (by decide) (hw _ tw_265) (fun _ h9 => h9) (Or.inr ⟨rfl, hin2, rfl⟩) rfl rfl (by simp) rfl dX5_init_47 (fun H locs hR hS => ?_)
  refine lv_aload_n hx hb dX5_init_50 rfl (lv_at hl 0 rfl) ?_
  refine lv_iconst (v := 4) hx hb dX5_init_51 (by decide) ?_
  refine tqr_newa (E1 := tqE91 z cy ad) (N' := 4) (ty := .int) hx hb rfl (hw _ tw_177) hK hR hS 0 rfl (fun U x h9 => h9) (v := 4) (by decide) (by decide) (by decide) (fun _ => rfl) rfl rfl (Nat.le_of_ble_eq_true rfl) (Nat.le_of_ble_eq_true rfl) dX5_init_52 (fun H hR hS => ?_)
  refine tqr_put (E1 := tqE92 z cy ad) (j := 49) (fs := [.int 0, .int 0, .ref (z + 50), .int 120, .int 120, .int 0, .ref (z + 51), .null, .int 0, .null, .null, .null, .null, .null, .null, .null, .int 0]) hx hb hw tq_inX5 tyX5 tyX5_ok nmX5 hown hK hR hS (by decide) rfl rfl 7 (by decide) (hw _ tw_267) (fun _ h9 => h9) (Or.inr ⟨rfl, hin2, rfl⟩) rfl rfl (by simp) rfl dX5_init_54 (fun H locs hR hS => ?_)
  refine lv_aload_n hx hb dX5_init_57 rfl (lv_at hl 0 rfl) ?_
  refine lv_iconst (v := 4) hx hb dX5_init_58 (by decide) ?_
  refine tqr_newa (E1 := tqE93 z cy ad) (N' := 4) (ty := .int) hx hb rfl (hw _ tw_177) hK hR hS 0 rfl (fun U x h9 => h9) (v := 4) (by decide) (by decide) (by decide) (fun _ => rfl) rfl rfl (Nat.le_of_ble_eq_true rfl) (Nat.le_of_ble_eq_true rfl) dX5_init_59 (fun H hR hS => ?_)
  refine tqr_put (E1 := tqE94 z cy ad) (j := 49) (fs := [.int 0, .int 0, .ref (z + 50), .int 120, .int 120, .int 0, .ref (z + 51), .ref (z + 52), .int 0, .null, .null, .null, .null, .null, .null, .null, .int 0]) hx hb hw tq_inX5 tyX5 tyX5_ok nmX5 hown hK hR hS (by decide) rfl rfl 9 (by decide) (hw _ tw_269) (fun _ h9 => h9) (Or.inr ⟨rfl, hin2, rfl⟩) rfl rfl (by simp) rfl dX5_init_61 (fun H locs hR hS => ?_)
  refine lv_aload_n hx hb dX5_init_64 rfl (lv_at hl 0 rfl) ?_
  refine lv_iconst (v := 4) hx hb dX5_init_65 (by decide) ?_
  refine tqr_newa (E1 := tqE95 z cy ad) (N' := 4) (ty := .int) hx hb rfl (hw _ tw_177) hK hR hS 0 rfl (fun U x h9 => h9) (v := 4) (by decide) (by decide) (by decide) (fun _ => rfl) rfl rfl (Nat.le_of_ble_eq_true rfl) (Nat.le_of_ble_eq_true rfl) dX5_init_66 (fun H hR hS => ?_)
  refine tqr_put (E1 := tqE96 z cy ad) (j := 49) (fs := [.int 0, .int 0, .ref (z + 50), .int 120, .int 120, .int 0, .ref (z + 51), .ref (z + 52), .int 0, .ref (z + 53), .null, .null, .null, .null, .null, .null, .int 0]) hx hb hw tq_inX5 tyX5 tyX5_ok nmX5 hown hK hR hS (by decide) rfl rfl 10 (by decide) (hw _ tw_271) (fun _ h9 => h9) (Or.inr ⟨rfl, hin2, rfl⟩) rfl rfl (by simp) rfl dX5_init_68 (fun H locs hR hS => ?_)
  refine lv_aload_n hx hb dX5_init_71 rfl (lv_at hl 0 rfl) ?_
  refine lv_iconst (v := 4) hx hb dX5_init_72 (by decide) ?_
  refine tqr_newa (E1 := tqE97 z cy ad) (N' := 4) (ty := .int) hx hb rfl (hw _ tw_177) hK hR hS 0 rfl (fun U x h9 => h9) (v := 4) (by decide) (by decide) (by decide) (fun _ => rfl) rfl rfl (Nat.le_of_ble_eq_true rfl) (Nat.le_of_ble_eq_true rfl) dX5_init_73 (fun H hR hS => ?_)
  refine tqr_put (E1 := tqE98 z cy ad) (j := 49) (fs := [.int 0, .int 0, .ref (z + 50), .int 120, .int 120, .int 0, .ref (z + 51), .ref (z + 52), .int 0, .ref (z + 53), .ref (z + 54), .null, .null, .null, .null, .null, .int 0]) hx hb hw tq_inX5 tyX5 tyX5_ok nmX5 hown hK hR hS (by decide) rfl rfl 11 (by decide) (hw _ tw_273) (fun _ h9 => h9) (Or.inr ⟨rfl, hin2, rfl⟩) rfl rfl (by simp) rfl dX5_init_75 (fun H locs hR hS => ?_)
  refine lv_aload_n hx hb dX5_init_78 rfl (lv_at hl 0 rfl) ?_
  refine tqr_new (E1 := tqE99 z cy ad) (ci := 0) (fs := [.int 0, .null, .int 0]) hx hb hw tq_inJl tyJx4a65c tyJx4a65c_ok hown (hw _ tw_249) (hw _ tw_152) (hw _ tw_118) hK hR hS rfl (by decide) rfl rfl (Nat.le_of_ble_eq_true rfl) (Nat.le_of_ble_eq_true rfl) dX5_init_79 (fun H hR hS => ?_)
  refine lv_dup hx hb dX5_init_82 rfl ?_
  refine tqr_initL (E1 := tqE100 z cy ad) (j := 56) hx hb hml hl.1 hts hown (hw _ tw_250) hK hG hR hS (by decide) rfl rfl (Nat.le_of_ble_eq_true rfl) (Nat.le_of_ble_eq_true rfl) (Nat.le_of_ble_eq_true rfl) ⟨(Nat.le_of_ble_eq_true rfl), (Nat.le_of_ble_eq_true rfl)⟩ dX5_init_83 (fun H locs hR hS => ?_)
  refine tqr_put (E1 := tqE101 z cy ad) (j := 49) (fs := [.int 0, .int 0, .ref (z + 50), .int 120, .int 120, .int 0, .ref (z + 51), .ref (z + 52), .int 0, .ref (z + 53), .ref (z + 54), .ref (z + 55), .null, .null, .null, .null, .int 0]) hx hb hw tq_inX5 tyX5 tyX5_ok nmX5 hown hK hR hS (by decide) rfl rfl 12 (by decide) (hw _ tw_275) (fun _ h9 => h9) (Or.inr ⟨rfl, hin2, rfl⟩) rfl rfl (by simp) rfl dX5_init_86 (fun H locs hR hS => ?_)
  refine lv_aload_n hx hb dX5_init_89 rfl (lv_at hl 0 rfl) ?_
  refine tqr_new (E1 := tqE102 z cy ad) (ci := 0) (fs := [.int 0, .null, .int 0]) hx hb hw tq_inJl tyJx4a65c tyJx4a65c_ok hown (hw _ tw_249) (hw _ tw_152) (hw _ tw_118) hK hR hS rfl (by decide) rfl rfl (Nat.le_of_ble_eq_true rfl) (Nat.le_of_ble_eq_true rfl) dX5_init_90 (fun H hR hS => ?_)
  refine lv_dup hx hb dX5_init_93 rfl ?_
  refine tqr_initL (E1 := tqE103 z cy ad) (j := 57) hx hb hml hl.1 hts hown (hw _ tw_250) hK hG hR hS (by decide) rfl rfl (Nat.le_of_ble_eq_true rfl) (Nat.le_of_ble_eq_true rfl) (Nat.le_of_ble_eq_true rfl) ⟨(Nat.le_of_ble_eq_true rfl), (Nat.le_of_ble_eq_true rfl)⟩ dX5_init_94 (fun H locs hR hS => ?_)
  refine tqr_put (E1 := tqE104 z cy ad) (j := 49) (fs := [.int 0, .int 0, .ref (z + 50), .int 120, .int 120, .int 0, .ref (z + 51), .ref (z + 52), .int 0, .ref (z + 53), .ref (z + 54), .ref (z + 55), .ref (z + 56), .null, .null, .null, .int 0]) hx hb hw tq_inX5 tyX5 tyX5_ok nmX5 hown hK hR hS (by decide) rfl rfl 13 (by decide) (hw _ tw_276) (fun _ h9 => h9) (Or.inr ⟨rfl, hin2, rfl⟩) rfl rfl (by simp) rfl dX5_init_97 (fun H locs hR hS => ?_)
  refine lv_aload_n hx hb dX5_init_100 rfl (lv_at hl 0 rfl) ?_
  refine lv_bipush (v := 28) hx hb dX5_init_101 (by decide) ?_
  refine tqr_newa (E1 := tqE105 z cy ad) (N' := 28) (ty := .int) hx hb rfl (hw _ tw_177) hK hR hS 0 rfl (fun U x h9 => h9) (v := 28) (by decide) (by decide) (by decide) (fun _ => rfl) rfl rfl (Nat.le_of_ble_eq_true rfl) (Nat.le_of_ble_eq_true rfl) dX5_init_103 (fun H hR hS => ?_)
  refine tqr_put (E1 := tqE106 z cy ad) (j := 49) (fs := [.int 0, .int 0, .ref (z + 50), .int 120, .int 120, .int 0, .ref (z + 51), .ref (z + 52), .int 0, .ref (z + 53), .ref (z + 54), .ref (z + 55), .ref (z + 56), .ref (z + 57), .null, .null, .int 0]) hx hb hw tq_inX5 tyX5 tyX5_ok nmX5 hown hK hR hS (by decide) rfl rfl 14 (by decide) (hw _ tw_278) (fun _ h9 => h9) (Or.inr ⟨rfl, hin2, rfl⟩) rfl rfl (by simp) rfl dX5_init_105 (fun H locs hR hS => ?_)
  refine lv_aload_n hx hb dX5_init_108 rfl (lv_at hl 0 rfl) ?_
  refine lv_iconst (v := (-1)) hx hb dX5_init_109 (by decide) ?_
  refine tqr_put (E1 := tqE107 z cy ad) (j := 49) (fs := [.int 0, .int 0, .ref (z + 50), .int 120, .int 120, .int 0, .ref (z + 51), .ref (z + 52), .int 0, .ref (z + 53), .ref (z + 54), .ref (z + 55), .ref (z + 56), .ref (z + 57), .ref (z + 58), .null, .int 0]) hx hb hw tq_inX5 tyX5 tyX5_ok nmX5 hown hK hR hS (by decide) rfl rfl 16 (by decide) (hw _ tw_280) (fun _ h9 => h9) (Or.inl rfl) rfl rfl (by simp) rfl dX5_init_110 (fun H locs hR hS => ?_)
  refine lv_aload_n hx hb dX5_init_113 rfl (lv_at hl 0 rfl) ?_
  refine lv_iload_n hx hb dX5_init_114 rfl (lv_at hl 1 rfl) ?_
  refine tqr_put (E1 := tqE108 z cy ad) (j := 49) (fs := [.int 0, .int 0, .ref (z + 50), .int 120, .int 120, .int 0, .ref (z + 51), .ref (z + 52), .int 0, .ref (z + 53), .ref (z + 54), .ref (z + 55), .ref (z + 56), .ref (z + 57), .ref (z + 58), .null, .int (-1)]) hx hb hw tq_inX5 tyX5 tyX5_ok nmX5 hown hK hR hS (by decide) rfl rfl 0 (by decide) (hw _ tw_252) (fun _ h9 => h9) (Or.inr ⟨rfl, hin2, rfl⟩) rfl rfl (by simp) rfl dX5_init_115 (fun H locs hR hS => ?_)
  refine W.widen (k := 9) (n := 58) (Nat.le_of_ble_eq_true rfl) (Nat.le_of_ble_eq_true rfl) ?_
  exact W.vret hx hb hr (fun t ht hWm => ⟨⟨(), rfl, trivial, by show tq_rw _ _ _ _ _ t.heap; rw [ht]; exact hR⟩, hS.F ht⟩) hS.2.2 dX5_init_118
set_option maxHeartbeats 8000000 in
set_option maxRecDepth 100000 in
theorem kC_7 {l : Launch} {D : va_G} {cy : Nat → ClassId} {z : Nat} {H0 : Heap} {ad : Nat → Nat → Nat} : tq_cC l yX5_init (tq_ws yX5_init cX5_init 2 none) 4 90 9 58 D cy z H0 ad 60 (tqE110 z cy ad) 69 (tqE138 z cy ad) [.ref (z + 59), .int 2] := by
  refine Met.ofW (cc := cX5_init) (maxL := 2) (ret := none) (by decide) rfl ?_
  intro p e s m args below meth c s₁ B hml hv
  obtain ⟨rfl, hR, hK, hG⟩ := hv
  have hx := B.exec
  have hb := B.bytes
  have hr := B.returns
  have hts := atoms_spec (ws := tq_ws yX5_init cX5_init 2 none) B.pre
  have hw : ∀ w ∈ tq_W, w.before _ s = true := fun w h => hts w (List.mem_cons_of_mem _ h)
  have hown : s.vm.findClass RX5 = some m.cls := findClass_of_methodNamed B.named
  have hlocks := B.notSynchronized
  have hin2 := (name_of_methodNamed B.named B.method).1
  have hS : va_S (fun q => z ≤ q) s.heap s.heap [] := va_S.rf
  have hl := lv_entry ([.ref (z + 59), .int 2]) (n := 2) (Nat.le_of_ble_eq_true rfl)
  rw [lg_entry_eq]
  generalize (lg_sl ([.ref (z + 59), .int 2]) ++ List.replicate (2 - (lg_sl ([.ref (z + 59), .int 2])).length) Slot.unset).toArray = ls at hl ⊢
  have hl : lv_has ls 2 [(0, .ref (z + 59)), (1, .int 2)] := hl
  refine lv_aload_n hx hb dX5_init_0 rfl (lv_at hl 0 rfl) ?_
  refine W.objInit hx hb hown (hw _ tw_248) (hw _ tw_147) (hw _ tw_148) rfl (by rw [hml]; exact hl.1) rfl dX5_init_1 (Nat.le_of_ble_eq_true rfl) (Nat.le_of_ble_eq_true rfl) ?_
  refine W.eq (g2 := F0 m 4 ls []) rfl ?_
  refine lv_aload_n hx hb dX5_init_4 rfl (lv_at hl 0 rfl) ?_
  refine lv_iconst (v := 4) hx hb dX5_init_5 (by decide) ?_
  refine tqr_newa (E1 := tqE111 z cy ad) (N' := 4) (ty := .int) hx hb rfl (hw _ tw_177) hK hR hS 0 rfl (fun U x h9 => h9) (v := 4) (by decide) (by decide) (by decide) (fun _ => rfl) rfl rfl (Nat.le_of_ble_eq_true rfl) (Nat.le_of_ble_eq_true rfl) dX5_init_6 (fun H hR hS => ?_)
  refine tqr_put (E1 := tqE112 z cy ad) (j := 59) (fs := [.int 0, .int 0, .null, .int 0, .int 0, .int 0, .null, .null, .int 0, .null, .null, .null, .null, .null, .null, .null, .int 0]) hx hb hw tq_inX5 tyX5 tyX5_ok nmX5 hown hK hR hS (by decide) rfl rfl 2 (by decide) (hw _ tw_256) (fun _ h9 => h9) (Or.inr ⟨rfl, hin2, rfl⟩) rfl rfl (by simp) rfl dX5_init_8 (fun H locs hR hS => ?_)
  refine lv_aload_n hx hb dX5_init_11 rfl (lv_at hl 0 rfl) ?_
  refine lv_bipush (v := 120) hx hb dX5_init_12 (by decide) ?_
  refine tqr_put (E1 := tqE113 z cy ad) (j := 59) (fs := [.int 0, .int 0, .ref (z + 60), .int 0, .int 0, .int 0, .null, .null, .int 0, .null, .null, .null, .null, .null, .null, .null, .int 0]) hx hb hw tq_inX5 tyX5 tyX5_ok nmX5 hown hK hR hS (by decide) rfl rfl 3 (by decide) (hw _ tw_259) (fun _ h9 => h9) (Or.inl rfl) rfl rfl (by simp) rfl dX5_init_14 (fun H locs hR hS => ?_)
  refine lv_aload_n hx hb dX5_init_17 rfl (lv_at hl 0 rfl) ?_
  refine lv_bipush (v := 120) hx hb dX5_init_18 (by decide) ?_
  refine tqr_put (E1 := tqE114 z cy ad) (j := 59) (fs := [.int 0, .int 0, .ref (z + 60), .int 120, .int 0, .int 0, .null, .null, .int 0, .null, .null, .null, .null, .null, .null, .null, .int 0]) hx hb hw tq_inX5 tyX5 tyX5_ok nmX5 hown hK hR hS (by decide) rfl rfl 4 (by decide) (hw _ tw_261) (fun _ h9 => h9) (Or.inl rfl) rfl rfl (by simp) rfl dX5_init_20 (fun H locs hR hS => ?_)
  refine lv_aload_n hx hb dX5_init_23 rfl (lv_at hl 0 rfl) ?_
  refine lv_iconst (v := 4) hx hb dX5_init_24 (by decide) ?_
  refine tqr_newa (E1 := tqE115 z cy ad) (N' := 4) (ty := .int) hx hb rfl (hw _ tw_177) hK hR hS 0 rfl (fun U x h9 => h9) (v := 4) (by decide) (by decide) (by decide) (fun _ => rfl) rfl rfl (Nat.le_of_ble_eq_true rfl) (Nat.le_of_ble_eq_true rfl) dX5_init_25 (fun H hR hS => ?_)
  refine lv_dup hx hb dX5_init_27 rfl ?_
  refine lv_iconst (v := 0) hx hb dX5_init_28 (by decide) ?_
  refine lv_bipush (v := 20) hx hb dX5_init_29 (by decide) ?_
  refine tqr_iast (E1 := tqE116 z cy ad) (j := 61) (len := 4) (f := (fun _ => 0)) (f1 := (upd (fun _ => 0) 0 20)) hx hb hK hR hS (by decide) rfl (by unfold vp_in; decide) rfl rfl dX5_init_31 (fun H locs hR hS => ?_)
  refine lv_dup hx hb dX5_init_32 rfl ?_
  refine lv_iconst (v := 1) hx hb dX5_init_33 (by decide) ?_
  refine lv_bipush (v := 20) hx hb dX5_init_34 (by decide) ?_
  refine tqr_iast (E1 := tqE117 z cy ad) (j := 61) (len := 4) (f := (upd (fun _ => 0) 0 20)) (f1 := (upd (upd (fun _ => 0) 0 20) 1 20)) hx hb hK hR hS (by decide) rfl (by unfold vp_in; decide) rfl rfl dX5_init_36 (fun H locs hR hS => ?_)
  refine lv_dup hx hb dX5_init_37 rfl ?_
  refine lv_iconst (v := 2) hx hb dX5_init_38 (by decide) ?_
  refine lv_bipush (v := 20) hx hb dX5_init_39 (by decide) ?_
  refine tqr_iast (E1 := tqE118 z cy ad) (j := 61) (len := 4) (f := (upd (upd (fun _ => 0) 0 20) 1 20)) (f1 := (upd (upd (upd (fun _ => 0) 0 20) 1 20) 2 20)) hx hb hK hR hS (by decide) rfl (by unfold vp_in; decide) rfl rfl dX5_init_41 (fun H locs hR hS => ?_)
  refine lv_dup hx hb dX5_init_42 rfl ?_
  refine lv_iconst (v := 3) hx hb dX5_init_43 (by decide) ?_
  refine lv_bipush (v := 20) hx hb dX5_init_44 (by decide) ?_
  refine tqr_iast (E1 := tqE119 z cy ad) (j := 61) (len := 4) (f := (upd (upd (upd (fun _ => 0) 0 20) 1 20) 2 20)) (f1 := (upd (upd (upd (upd (fun _ => 0) 0 20) 1 20) 2 20) 3 20)) hx hb hK hR hS (by decide) rfl (by unfold vp_in; decide) rfl rfl dX5_init_46 (fun H locs hR hS => ?_)
  refine tqr_put (E1 := tqE120 z cy ad) (j := 59) (fs := [.int 0, .int 0, .ref (z + 60), .int 120, .int 120, .int 0, .null, .null, .int 0, .null, .null, .null, .null, .null, .null, .null, .int 0]) hx hb hw tq_inX5 tyX5 tyX5_ok nmX5 hown hK hR hS (by decide) rfl rfl 6 (by decide) (hw _ tw_265) (fun _ h9 => h9) (Or.inr ⟨rfl, hin2, rfl⟩) rfl rfl (by simp) rfl dX5_init_47 (fun H locs hR hS => ?_)
  refine lv_aload_n hx hb dX5_init_50 rfl (lv_at hl 0 rfl) ?_
  refine lv_iconst (v := 4) hx hb dX5_init_51 (by decide) ?_
  refine tqr_newa (E1 := tqE121 z cy ad) (N' := 4) (ty := .int) hx hb rfl (hw _ tw_177) hK hR hS 0 rfl (fun U x h9 => h9) (v := 4) (by decide) (by decide) (by decide) (fun _ => rfl) rfl rfl (Nat.le_of_ble_eq_true rfl) (Nat.le_of_ble_eq_true rfl) dX5_init_52 (fun H hR hS => ?_)
  refine tqr_put (E1 := tqE122 z cy ad) (j := 59) (fs := [.int 0, .int 0, .ref (z + 60), .int 120, .int 120, .int 0, .ref (z + 61), .null, .int 0, .null, .null, .null, .null, .null, .null, .null, .int 0]) hx hb hw tq_inX5 tyX5 tyX5_ok nmX5 hown hK hR hS (by decide) rfl rfl 7 (by decide) (hw _ tw_267) (fun _ h9 => h9) (Or.inr ⟨rfl, hin2, rfl⟩) rfl rfl (by simp) rfl dX5_init_54 (fun H locs hR hS => ?_)
  refine lv_aload_n hx hb dX5_init_57 rfl (lv_at hl 0 rfl) ?_
  refine lv_iconst (v := 4) hx hb dX5_init_58 (by decide) ?_
  refine tqr_newa (E1 := tqE123 z cy ad) (N' := 4) (ty := .int) hx hb rfl (hw _ tw_177) hK hR hS 0 rfl (fun U x h9 => h9) (v := 4) (by decide) (by decide) (by decide) (fun _ => rfl) rfl rfl (Nat.le_of_ble_eq_true rfl) (Nat.le_of_ble_eq_true rfl) dX5_init_59 (fun H hR hS => ?_)
  refine tqr_put (E1 := tqE124 z cy ad) (j := 59) (fs := [.int 0, .int 0, .ref (z + 60), .int 120, .int 120, .int 0, .ref (z + 61), .ref (z + 62), .int 0, .null, .null, .null, .null, .null, .null, .null, .int 0]) hx hb hw tq_inX5 tyX5 tyX5_ok nmX5 hown hK hR hS (by decide) rfl rfl 9 (by decide) (hw _ tw_269) (fun _ h9 => h9) (Or.inr ⟨rfl, hin2, rfl⟩) rfl rfl (by simp) rfl dX5_init_61 (fun H locs hR hS => ?_)
  refine lv_aload_n hx hb dX5_init_64 rfl (lv_at hl 0 rfl) ?_
  refine lv_iconst (v := 4) hx hb dX5_init_65 (by decide) ?_
  refine tqr_newa (E1 := tqE125 z cy ad) (N' := 4) (ty := .int) hx hb rfl (hw _ tw_177) hK hR hS 0 rfl (fun U x h9 => h9) (v := 4) (by decide) (by decide) (by decide) (fun _ => rfl) rfl rfl (Nat.le_of_ble_eq_true rfl) (Nat.le_of_ble_eq_true rfl) dX5_init_66 (fun H hR hS => ?_)
  refine tqr_put (E1 := tqE126 z cy ad) (j := 59) (fs := [.int 0, .int 0, .ref (z + 60), .int 120, .int 120, .int 0, .ref (z + 61), .ref (z + 62), .int 0, .ref (z + 63), .null, .null, .null, .null, .null, .null, .int 0]) hx hb hw tq_inX5 tyX5 tyX5_ok nmX5 hown hK hR hS (by decide) rfl rfl 10 (by decide) (hw _ tw_271) (fun _ h9 => h9) (Or.inr ⟨rfl, hin2, rfl⟩) rfl rfl (by simp) rfl dX5_init_68 (fun H locs hR hS => ?_)
  refine lv_aload_n hx hb dX5_init_71 rfl (lv_at hl 0 rfl) ?_
  refine lv_iconst (v := 4) hx hb dX5_init_72 (by decide) ?_
  refine tqr_newa (E1 := tqE127 z cy ad) (N' := 4) (ty := .int) hx hb rfl (hw _ tw_177) hK hR hS 0 rfl (fun U x h9 => h9) (v := 4) (by decide) (by decide) (by decide) (fun _ => rfl) rfl rfl (Nat.le_of_ble_eq_true rfl) (Nat.le_of_ble_eq_true rfl) dX5_init_73 (fun H hR hS => ?_)
  refine tqr_put (E1 := tqE128 z cy ad) (j := 59) (fs := [.int 0, .int 0, .ref (z + 60), .int 120, .int 120, .int 0, .ref (z + 61), .ref (z + 62), .int 0, .ref (z + 63), .ref (z + 64), .null, .null, .null, .null, .null, .int 0]) hx hb hw tq_inX5 tyX5 tyX5_ok nmX5 hown hK hR hS (by decide) rfl rfl 11 (by decide) (hw _ tw_273) (fun _ h9 => h9) (Or.inr ⟨rfl, hin2, rfl⟩) rfl rfl (by simp) rfl dX5_init_75 (fun H locs hR hS => ?_)
  refine lv_aload_n hx hb dX5_init_78 rfl (lv_at hl 0 rfl) ?_
  refine tqr_new (E1 := tqE129 z cy ad) (ci := 0) (fs := [.int 0, .null, .int 0]) hx hb hw tq_inJl tyJx4a65c tyJx4a65c_ok hown (hw _ tw_249) (hw _ tw_152) (hw _ tw_118) hK hR hS rfl (by decide) rfl rfl (Nat.le_of_ble_eq_true rfl) (Nat.le_of_ble_eq_true rfl) dX5_init_79 (fun H hR hS => ?_)
  refine lv_dup hx hb dX5_init_82 rfl ?_
  refine tqr_initL (E1 := tqE130 z cy ad) (j := 66) hx hb hml hl.1 hts hown (hw _ tw_250) hK hG hR hS (by decide) rfl rfl (Nat.le_of_ble_eq_true rfl) (Nat.le_of_ble_eq_true rfl) (Nat.le_of_ble_eq_true rfl) ⟨(Nat.le_of_ble_eq_true rfl), (Nat.le_of_ble_eq_true rfl)⟩ dX5_init_83 (fun H locs hR hS => ?_)
  refine tqr_put (E1 := tqE131 z cy ad) (j := 59) (fs := [.int 0, .int 0, .ref (z + 60), .int 120, .int 120, .int 0, .ref (z + 61), .ref (z + 62), .int 0, .ref (z + 63), .ref (z + 64), .ref (z + 65), .null, .null, .null, .null, .int 0]) hx hb hw tq_inX5 tyX5 tyX5_ok nmX5 hown hK hR hS (by decide) rfl rfl 12 (by decide) (hw _ tw_275) (fun _ h9 => h9) (Or.inr ⟨rfl, hin2, rfl⟩) rfl rfl (by simp) rfl dX5_init_86 (fun H locs hR hS => ?_)
  refine lv_aload_n hx hb dX5_init_89 rfl (lv_at hl 0 rfl) ?_
  refine tqr_new (E1 := tqE132 z cy ad) (ci := 0) (fs := [.int 0, .null, .int 0]) hx hb hw tq_inJl tyJx4a65c tyJx4a65c_ok hown (hw _ tw_249) (hw _ tw_152) (hw _ tw_118) hK hR hS rfl (by decide) rfl rfl (Nat.le_of_ble_eq_true rfl) (Nat.le_of_ble_eq_true rfl) dX5_init_90 (fun H hR hS => ?_)
  refine lv_dup hx hb dX5_init_93 rfl ?_
  refine tqr_initL (E1 := tqE133 z cy ad) (j := 67) hx hb hml hl.1 hts hown (hw _ tw_250) hK hG hR hS (by decide) rfl rfl (Nat.le_of_ble_eq_true rfl) (Nat.le_of_ble_eq_true rfl) (Nat.le_of_ble_eq_true rfl) ⟨(Nat.le_of_ble_eq_true rfl), (Nat.le_of_ble_eq_true rfl)⟩ dX5_init_94 (fun H locs hR hS => ?_)
  refine tqr_put (E1 := tqE134 z cy ad) (j := 59) (fs := [.int 0, .int 0, .ref (z + 60), .int 120, .int 120, .int 0, .ref (z + 61), .ref (z + 62), .int 0, .ref (z + 63), .ref (z + 64), .ref (z + 65), .ref (z + 66), .null, .null, .null, .int 0]) hx hb hw tq_inX5 tyX5 tyX5_ok nmX5 hown hK hR hS (by decide) rfl rfl 13 (by decide) (hw _ tw_276) (fun _ h9 => h9) (Or.inr ⟨rfl, hin2, rfl⟩) rfl rfl (by simp) rfl dX5_init_97 (fun H locs hR hS => ?_)
  refine lv_aload_n hx hb dX5_init_100 rfl (lv_at hl 0 rfl) ?_
  refine lv_bipush (v := 28) hx hb dX5_init_101 (by decide) ?_
  refine tqr_newa (E1 := tqE135 z cy ad) (N' := 28) (ty := .int) hx hb rfl (hw _ tw_177) hK hR hS 0 rfl (fun U x h9 => h9) (v := 28) (by decide) (by decide) (by decide) (fun _ => rfl) rfl rfl (Nat.le_of_ble_eq_true rfl) (Nat.le_of_ble_eq_true rfl) dX5_init_103 (fun H hR hS => ?_)
  refine tqr_put (E1 := tqE136 z cy ad) (j := 59) (fs := [.int 0, .int 0, .ref (z + 60), .int 120, .int 120, .int 0, .ref (z + 61), .ref (z + 62), .int 0, .ref (z + 63), .ref (z + 64), .ref (z + 65), .ref (z + 66), .ref (z + 67), .null, .null, .int 0]) hx hb hw tq_inX5 tyX5 tyX5_ok nmX5 hown hK hR hS (by decide) rfl rfl 14 (by decide) (hw _ tw_278) (fun _ h9 => h9) (Or.inr ⟨rfl, hin2, rfl⟩) rfl rfl (by simp) rfl dX5_init_105 (fun H locs hR hS => ?_)
  refine lv_aload_n hx hb dX5_init_108 rfl (lv_at hl 0 rfl) ?_
  refine lv_iconst (v := (-1)) hx hb dX5_init_109 (by decide) ?_
  refine tqr_put (E1 := tqE137 z cy ad) (j := 59) (fs := [.int 0, .int 0, .ref (z + 60), .int 120, .int 120, .int 0, .ref (z + 61), .ref (z + 62), .int 0, .ref (z + 63), .ref (z + 64), .ref (z + 65), .ref (z + 66), .ref (z + 67), .ref (z + 68), .null, .int 0]) hx hb hw tq_inX5 tyX5 tyX5_ok nmX5 hown hK hR hS (by decide) rfl rfl 16 (by decide) (hw _ tw_280) (fun _ h9 => h9) (Or.inl rfl) rfl rfl (by simp) rfl dX5_init_110 (fun H locs hR hS => ?_)
  refine lv_aload_n hx hb dX5_init_113 rfl (lv_at hl 0 rfl) ?_
  refine lv_iload_n hx hb dX5_init_114 rfl (lv_at hl 1 rfl) ?_
  refine tqr_put (E1 := tqE138 z cy ad) (j := 59) (fs := [.int 0, .int 0, .ref (z + 60), .int 120, .int 120, .int 0, .ref (z + 61), .ref (z + 62), .int 0, .ref (z + 63), .ref (z + 64), .ref (z + 65), .ref (z + 66), .ref (z + 67), .ref (z + 68), .null, .int (-1)]) hx hb hw tq_inX5 tyX5 tyX5_ok nmX5 hown hK hR hS (by decide) rfl rfl 0 (by decide) (hw _ tw_252) (fun _ h9 => h9) (Or.inr ⟨rfl, hin2, rfl⟩) rfl rfl (by simp) rfl dX5_init_115 (fun H locs hR hS => ?_)
  refine W.widen (k := 9) (n := 58) (Nat.le_of_ble_eq_true rfl) (Nat.le_of_ble_eq_true rfl) ?_
  exact W.vret hx hb hr (fun t ht hWm => ⟨⟨(), rfl, trivial, by show tq_rw _ _ _ _ _ t.heap; rw [ht]; exact hR⟩, hS.F ht⟩) hS.2.2 dX5_init_118
set_option maxHeartbeats 8000000 in
set_option maxRecDepth 100000 in
theorem kC_8 {l : Launch} {D : va_G} {cy : Nat → ClassId} {z : Nat} {H0 : Heap} {ad : Nat → Nat → Nat} : tq_cC l yX5_init (tq_ws yX5_init cX5_init 2 none) 4 90 9 58 D cy z H0 ad 70 (tqE140 z cy ad) 79 (tqE168 z cy ad) [.ref (z + 69), .int 3] := by
  refine Met.ofW (cc := cX5_init) (maxL := 2) (ret := none) (by decide) rfl ?_
  intro p e s m args below meth c s₁ B hml hv
  obtain ⟨rfl, hR, hK, hG⟩ := hv
  have hx := B.exec
  have hb := B.bytes
  have hr := B.returns
  have hts := atoms_spec (ws := tq_ws yX5_init cX5_init 2 none) B.pre
  have hw : ∀ w ∈ tq_W, w.before _ s = true := fun w h => hts w (List.mem_cons_of_mem _ h)
  have hown : s.vm.findClass RX5 = some m.cls := findClass_of_methodNamed B.named
  have hlocks := B.notSynchronized
  have hin2 := (name_of_methodNamed B.named B.method).1
  have hS : va_S (fun q => z ≤ q) s.heap s.heap [] := va_S.rf
  have hl := lv_entry ([.ref (z + 69), .int 3]) (n := 2) (Nat.le_of_ble_eq_true rfl)
  rw [lg_entry_eq]
  generalize (lg_sl ([.ref (z + 69), .int 3]) ++ List.replicate (2 - (lg_sl ([.ref (z + 69), .int 3])).length) Slot.unset).toArray = ls at hl ⊢
  have hl : lv_has ls 2 [(0, .ref (z + 69)), (1, .int 3)] := hl
  refine lv_aload_n hx hb dX5_init_0 rfl (lv_at hl 0 rfl) ?_
  refine W.objInit hx hb hown (hw _ tw_248) (hw _ tw_147) (hw _ tw_148) rfl (by rw [hml]; exact hl.1) rfl dX5_init_1 (Nat.le_of_ble_eq_true rfl) (Nat.le_of_ble_eq_true rfl) ?_
  refine W.eq (g2 := F0 m 4 ls []) rfl ?_
  refine lv_aload_n hx hb dX5_init_4 rfl (lv_at hl 0 rfl) ?_
  refine lv_iconst (v := 4) hx hb dX5_init_5 (by decide) ?_
  refine tqr_newa (E1 := tqE141 z cy ad) (N' := 4) (ty := .int) hx hb rfl (hw _ tw_177) hK hR hS 0 rfl (fun U x h9 => h9) (v := 4) (by decide) (by decide) (by decide) (fun _ => rfl) rfl rfl (Nat.le_of_ble_eq_true rfl) (Nat.le_of_ble_eq_true rfl) dX5_init_6 (fun H hR hS => ?_)
  refine tqr_put (E1 := tqE142 z cy ad) (j := 69) (fs := [.int 0, .int 0, .null, .int 0, .int 0, .int 0, .null, .null, .int 0, .null, .null, .null, .null, .null, .null, .null, .int 0]) hx hb hw tq_inX5 tyX5 tyX5_ok nmX5 hown hK hR hS (by decide) rfl rfl 2 (by decide) (hw _ tw_256) (fun _ h9 => h9) (Or.inr ⟨rfl, hin2, rfl⟩) rfl rfl (by simp) rfl dX5_init_8 (fun H locs hR hS => ?_)
  refine lv_aload_n hx hb dX5_init_11 rfl (lv_at hl 0 rfl) ?_
  refine lv_bipush (v := 120) hx hb dX5_init_12 (by decide) ?_
  refine tqr_put (E1 := tqE143 z cy ad) (j := 69) (fs := [.int 0, .int 0, .ref (z + 70), .int 0, .int 0, .int 0, .null, .null, .int 0, .null, .null, .null, .null, .null, .null, .null, .int 0]) hx hb hw tq_inX5 tyX5 tyX5_ok nmX5 hown hK hR hS (by decide) rfl rfl 3 (by decide) (hw _ tw_259) (fun _ h9 => h9) (Or.inl rfl) rfl rfl (by simp) rfl dX5_init_14 (fun H locs hR hS => ?_)
  refine lv_aload_n hx hb dX5_init_17 rfl (lv_at hl 0 rfl) ?_
  refine lv_bipush (v := 120) hx hb dX5_init_18 (by decide) ?_
  refine tqr_put (E1 := tqE144 z cy ad) (j := 69) (fs := [.int 0, .int 0, .ref (z + 70), .int 120, .int 0, .int 0, .null, .null, .int 0, .null, .null, .null, .null, .null, .null, .null, .int 0]) hx hb hw tq_inX5 tyX5 tyX5_ok nmX5 hown hK hR hS (by decide) rfl rfl 4 (by decide) (hw _ tw_261) (fun _ h9 => h9) (Or.inl rfl) rfl rfl (by simp) rfl dX5_init_20 (fun H locs hR hS => ?_)
  refine lv_aload_n hx hb dX5_init_23 rfl (lv_at hl 0 rfl) ?_
  refine lv_iconst (v := 4) hx hb dX5_init_24 (by decide) ?_
  refine tqr_newa (E1 := tqE145 z cy ad) (N' := 4) (ty := .int) hx hb rfl (hw _ tw_177) hK hR hS 0 rfl (fun U x h9 => h9) (v := 4) (by decide) (by decide) (by decide) (fun _ => rfl) rfl rfl (Nat.le_of_ble_eq_true rfl) (Nat.le_of_ble_eq_true rfl) dX5_init_25 (fun H hR hS => ?_)
  refine lv_dup hx hb dX5_init_27 rfl ?_
  refine lv_iconst (v := 0) hx hb dX5_init_28 (by decide) ?_
  refine lv_bipush (v := 20) hx hb dX5_init_29 (by decide) ?_
  refine tqr_iast (E1 := tqE146 z cy ad) (j := 71) (len := 4) (f := (fun _ => 0)) (f1 := (upd (fun _ => 0) 0 20)) hx hb hK hR hS (by decide) rfl (by unfold vp_in; decide) rfl rfl dX5_init_31 (fun H locs hR hS => ?_)
  refine lv_dup hx hb dX5_init_32 rfl ?_
  refine lv_iconst (v := 1) hx hb dX5_init_33 (by decide) ?_
  refine lv_bipush (v := 20) hx hb dX5_init_34 (by decide) ?_
  refine tqr_iast (E1 := tqE147 z cy ad) (j := 71) (len := 4) (f := (upd (fun _ => 0) 0 20)) (f1 := (upd (upd (fun _ => 0) 0 20) 1 20)) hx hb hK hR hS (by decide) rfl (by unfold vp_in; decide) rfl rfl dX5_init_36 (fun H locs hR hS => ?_)
  refine lv_dup hx hb dX5_init_37 rfl ?_
  refine lv_iconst (v := 2) hx hb dX5_init_38 (by decide) ?_
  refine lv_bipush (v := 20) hx hb dX5_init_39 (by decide) ?_
  refine tqr_iast (E1 := tqE148 z cy ad) (j := 71) (len := 4) (f := (upd (upd (fun _ => 0) 0 20) 1 20)) (f1 := (upd (upd (upd (fun _ => 0) 0 20) 1 20) 2 20)) hx hb hK hR hS (by decide) rfl (by unfold vp_in; decide) rfl rfl dX5_init_41 (fun H locs hR hS => ?_)
  refine lv_dup hx hb dX5_init_42 rfl ?_
  refine lv_iconst (v := 3) hx hb dX5_init_43 (by decide) ?_
  refine lv_bipush (v := 20) hx hb dX5_init_44 (by decide) ?_
  refine tqr_iast (E1 := tqE149 z cy ad) (j := 71) (len := 4) (f := (upd (upd (upd (fun _ => 0) 0 20) 1 20) 2 20)) (f1 := (upd (upd (upd (upd (fun _ => 0) 0 20) 1 20) 2 20) 3 20)) hx hb hK hR hS (by decide) rfl (by unfold vp_in; decide) rfl rfl dX5_init_46 (fun H locs hR hS => ?_)
  refine tqr_put (E1 := tqE150 z cy ad) (j := 69) (fs := [.int 0, .int 0, .ref (z + 70), .int 120, .int 120, .int 0, .null, .null, .int 0, .null, .null, .null, .null, .null, .null, .null, .int 0]) hx hb hw tq_inX5 tyX5 tyX5_ok nmX5 hown hK hR hS (by decide) rfl rfl 6 (by decide) (hw _ tw_265) (fun _ h9 => h9) (Or.inr ⟨rfl, hin2, rfl⟩) rfl rfl (by simp) rfl dX5_init_47 (fun H locs hR hS => ?_)
  refine lv_aload_n hx hb dX5_init_50 rfl (lv_at hl 0 rfl) ?_
  refine lv_iconst (v := 4) hx hb dX5_init_51 (by decide) ?_
  refine tqr_newa (E1 := tqE151 z cy ad) (N' := 4) (ty := .int) hx hb rfl (hw _ tw_177) hK hR hS 0 rfl (fun U x h9 => h9) (v := 4) (by decide) (by decide) (by decide) (fun _ => rfl) rfl rfl (Nat.le_of_ble_eq_true rfl) (Nat.le_of_ble_eq_true rfl) dX5_init_52 (fun H hR hS => ?_)
  refine tqr_put (E1 := tqE152 z cy ad) (j := 69) (fs := [.int 0, .int 0, .ref (z + 70), .int 120, .int 120, .int 0, .ref (z + 71), .null, .int 0, .null, .null, .null, .null, .null, .null, .null, .int 0]) hx hb hw tq_inX5 tyX5 tyX5_ok nmX5 hown hK hR hS (by decide) rfl rfl 7 (by decide) (hw _ tw_267) (fun _ h9 => h9) (Or.inr ⟨rfl, hin2, rfl⟩) rfl rfl (by simp) rfl dX5_init_54 (fun H locs hR hS => ?_)
  refine lv_aload_n hx hb dX5_init_57 rfl (lv_at hl 0 rfl) ?_
  refine lv_iconst (v := 4) hx hb dX5_init_58 (by decide) ?_
  refine tqr_newa (E1 := tqE153 z cy ad) (N' := 4) (ty := .int) hx hb rfl (hw _ tw_177) hK hR hS 0 rfl (fun U x h9 => h9) (v := 4) (by decide) (by decide) (by decide) (fun _ => rfl) rfl rfl (Nat.le_of_ble_eq_true rfl) (Nat.le_of_ble_eq_true rfl) dX5_init_59 (fun H hR hS => ?_)
  refine tqr_put (E1 := tqE154 z cy ad) (j := 69) (fs := [.int 0, .int 0, .ref (z + 70), .int 120, .int 120, .int 0, .ref (z + 71), .ref (z + 72), .int 0, .null, .null, .null, .null, .null, .null, .null, .int 0]) hx hb hw tq_inX5 tyX5 tyX5_ok nmX5 hown hK hR hS (by decide) rfl rfl 9 (by decide) (hw _ tw_269) (fun _ h9 => h9) (Or.inr ⟨rfl, hin2, rfl⟩) rfl rfl (by simp) rfl dX5_init_61 (fun H locs hR hS => ?_)
  refine lv_aload_n hx hb dX5_init_64 rfl (lv_at hl 0 rfl) ?_
  refine lv_iconst (v := 4) hx hb dX5_init_65 (by decide) ?_
  refine tqr_newa (E1 := tqE155 z cy ad) (N' := 4) (ty := .int) hx hb rfl (hw _ tw_177) hK hR hS 0 rfl (fun U x h9 => h9) (v := 4) (by decide) (by decide) (by decide) (fun _ => rfl) rfl rfl (Nat.le_of_ble_eq_true rfl) (Nat.le_of_ble_eq_true rfl) dX5_init_66 (fun H hR hS => ?_)
  refine tqr_put (E1 := tqE156 z cy ad) (j := 69) (fs := [.int 0, .int 0, .ref (z + 70), .int 120, .int 120, .int 0, .ref (z + 71), .ref (z + 72), .int 0, .ref (z + 73), .null, .null, .null, .null, .null, .null, .int 0]) hx hb hw tq_inX5 tyX5 tyX5_ok nmX5 hown hK hR hS (by decide) rfl rfl 10 (by decide) (hw _ tw_271) (fun _ h9 => h9) (Or.inr ⟨rfl, hin2, rfl⟩) rfl rfl (by simp) rfl dX5_init_68 (fun H locs hR hS => ?_)
  refine lv_aload_n hx hb dX5_init_71 rfl (lv_at hl 0 rfl) ?_
  refine lv_iconst (v := 4) hx hb dX5_init_72 (by decide) ?_
  refine tqr_newa (E1 := tqE157 z cy ad) (N' := 4) (ty := .int) hx hb rfl (hw _ tw_177) hK hR hS 0 rfl (fun U x h9 => h9) (v := 4) (by decide) (by decide) (by decide) (fun _ => rfl) rfl rfl (Nat.le_of_ble_eq_true rfl) (Nat.le_of_ble_eq_true rfl) dX5_init_73 (fun H hR hS => ?_)
  refine tqr_put (E1 := tqE158 z cy ad) (j := 69) (fs := [.int 0, .int 0, .ref (z + 70), .int 120, .int 120, .int 0, .ref (z + 71), .ref (z + 72), .int 0, .ref (z + 73), .ref (z + 74), .null, .null, .null, .null, .null, .int 0]) hx hb hw tq_inX5 tyX5 tyX5_ok nmX5 hown hK hR hS (by decide) rfl rfl 11 (by decide) (hw _ tw_273) (fun _ h9 => h9) (Or.inr ⟨rfl, hin2, rfl⟩) rfl rfl (by simp) rfl dX5_init_75 (fun H locs hR hS => ?_)
  refine lv_aload_n hx hb dX5_init_78 rfl (lv_at hl 0 rfl) ?_
  refine tqr_new (E1 := tqE159 z cy ad) (ci := 0) (fs := [.int 0, .null, .int 0]) hx hb hw tq_inJl tyJx4a65c tyJx4a65c_ok hown (hw _ tw_249) (hw _ tw_152) (hw _ tw_118) hK hR hS rfl (by decide) rfl rfl (Nat.le_of_ble_eq_true rfl) (Nat.le_of_ble_eq_true rfl) dX5_init_79 (fun H hR hS => ?_)
  refine lv_dup hx hb dX5_init_82 rfl ?_
  refine tqr_initL (E1 := tqE160 z cy ad) (j := 76) hx hb hml hl.1 hts hown (hw _ tw_250) hK hG hR hS (by decide) rfl rfl (Nat.le_of_ble_eq_true rfl) (Nat.le_of_ble_eq_true rfl) (Nat.le_of_ble_eq_true rfl) ⟨(Nat.le_of_ble_eq_true rfl), (Nat.le_of_ble_eq_true rfl)⟩ dX5_init_83 (fun H locs hR hS => ?_)
  refine tqr_put (E1 := tqE161 z cy ad) (j := 69) (fs := [.int 0, .int 0, .ref (z + 70), .int 120, .int 120, .int 0, .ref (z + 71), .ref (z + 72), .int 0, .ref (z + 73), .ref (z + 74), .ref (z + 75), .null, .null, .null, .null, .int 0]) hx hb hw tq_inX5 tyX5 tyX5_ok nmX5 hown hK hR hS (by decide) rfl rfl 12 (by decide) (hw _ tw_275) (fun _ h9 => h9) (Or.inr ⟨rfl, hin2, rfl⟩) rfl rfl (by simp) rfl dX5_init_86 (fun H locs hR hS => ?_)
  refine lv_aload_n hx hb dX5_init_89 rfl (lv_at hl 0 rfl) ?_
  refine tqr_new (E1 := tqE162 z cy ad) (ci := 0) (fs := [.int 0, .null, .int 0]) hx hb hw tq_inJl tyJx4a65c tyJx4a65c_ok hown (hw _ tw_249) (hw _ tw_152) (hw _ tw_118) hK hR hS rfl (by decide) rfl rfl (Nat.le_of_ble_eq_true rfl) (Nat.le_of_ble_eq_true rfl) dX5_init_90 (fun H hR hS => ?_)
  refine lv_dup hx hb dX5_init_93 rfl ?_
  refine tqr_initL (E1 := tqE163 z cy ad) (j := 77) hx hb hml hl.1 hts hown (hw _ tw_250) hK hG hR hS (by decide) rfl rfl (Nat.le_of_ble_eq_true rfl) (Nat.le_of_ble_eq_true rfl) (Nat.le_of_ble_eq_true rfl) ⟨(Nat.le_of_ble_eq_true rfl), (Nat.le_of_ble_eq_true rfl)⟩ dX5_init_94 (fun H locs hR hS => ?_)
  refine tqr_put (E1 := tqE164 z cy ad) (j := 69) (fs := [.int 0, .int 0, .ref (z + 70), .int 120, .int 120, .int 0, .ref (z + 71), .ref (z + 72), .int 0, .ref (z + 73), .ref (z + 74), .ref (z + 75), .ref (z + 76), .null, .null, .null, .int 0]) hx hb hw tq_inX5 tyX5 tyX5_ok nmX5 hown hK hR hS (by decide) rfl rfl 13 (by decide) (hw _ tw_276) (fun _ h9 => h9) (Or.inr ⟨rfl, hin2, rfl⟩) rfl rfl (by simp) rfl dX5_init_97 (fun H locs hR hS => ?_)
  refine lv_aload_n hx hb dX5_init_100 rfl (lv_at hl 0 rfl) ?_
  refine lv_bipush (v := 28) hx hb dX5_init_101 (by decide) ?_
  refine tqr_newa (E1 := tqE165 z cy ad) (N' := 28) (ty := .int) hx hb rfl (hw _ tw_177) hK hR hS 0 rfl (fun U x h9 => h9) (v := 28) (by decide) (by decide) (by decide) (fun _ => rfl) rfl rfl (Nat.le_of_ble_eq_true rfl) (Nat.le_of_ble_eq_true rfl) dX5_init_103 (fun H hR hS => ?_)
  refine tqr_put (E1 := tqE166 z cy ad) (j := 69) (fs := [.int 0, .int 0, .ref (z + 70), .int 120, .int 120, .int 0, .ref (z + 71), .ref (z + 72), .int 0, .ref (z + 73), .ref (z + 74), .ref (z + 75), .ref (z + 76), .ref (z + 77), .null, .null, .int 0]) hx hb hw tq_inX5 tyX5 tyX5_ok nmX5 hown hK hR hS (by decide) rfl rfl 14 (by decide) (hw _ tw_278) (fun _ h9 => h9) (Or.inr ⟨rfl, hin2, rfl⟩) rfl rfl (by simp) rfl dX5_init_105 (fun H locs hR hS => ?_)
  refine lv_aload_n hx hb dX5_init_108 rfl (lv_at hl 0 rfl) ?_
  refine lv_iconst (v := (-1)) hx hb dX5_init_109 (by decide) ?_
  refine tqr_put (E1 := tqE167 z cy ad) (j := 69) (fs := [.int 0, .int 0, .ref (z + 70), .int 120, .int 120, .int 0, .ref (z + 71), .ref (z + 72), .int 0, .ref (z + 73), .ref (z + 74), .ref (z + 75), .ref (z + 76), .ref (z + 77), .ref (z + 78), .null, .int 0]) hx hb hw tq_inX5 tyX5 tyX5_ok nmX5 hown hK hR hS (by decide) rfl rfl 16 (by decide) (hw _ tw_280) (fun _ h9 => h9) (Or.inl rfl) rfl rfl (by simp) rfl dX5_init_110 (fun H locs hR hS => ?_)
  refine lv_aload_n hx hb dX5_init_113 rfl (lv_at hl 0 rfl) ?_
  refine lv_iload_n hx hb dX5_init_114 rfl (lv_at hl 1 rfl) ?_
  refine tqr_put (E1 := tqE168 z cy ad) (j := 69) (fs := [.int 0, .int 0, .ref (z + 70), .int 120, .int 120, .int 0, .ref (z + 71), .ref (z + 72), .int 0, .ref (z + 73), .ref (z + 74), .ref (z + 75), .ref (z + 76), .ref (z + 77), .ref (z + 78), .null, .int (-1)]) hx hb hw tq_inX5 tyX5 tyX5_ok nmX5 hown hK hR hS (by decide) rfl rfl 0 (by decide) (hw _ tw_252) (fun _ h9 => h9) (Or.inr ⟨rfl, hin2, rfl⟩) rfl rfl (by simp) rfl dX5_init_115 (fun H locs hR hS => ?_)
  refine W.widen (k := 9) (n := 58) (Nat.le_of_ble_eq_true rfl) (Nat.le_of_ble_eq_true rfl) ?_
  exact W.vret hx hb hr (fun t ht hWm => ⟨⟨(), rfl, trivial, by show tq_rw _ _ _ _ _ t.heap; rw [ht]; exact hR⟩, hS.F ht⟩) hS.2.2 dX5_init_118
set_option maxHeartbeats 8000000 in
set_option maxRecDepth 100000 in
theorem kC_9 {l : Launch} {D : va_G} {cy : Nat → ClassId} {z : Nat} {H0 : Heap} {ad : Nat → Nat → Nat} : tq_cC l yX5_init (tq_ws yX5_init cX5_init 2 none) 4 90 9 58 D cy z H0 ad 80 (tqE170 z cy ad) 89 (tqE198 z cy ad) [.ref (z + 79), .int 4] := by
  refine Met.ofW (cc := cX5_init) (maxL := 2) (ret := none) (by decide) rfl ?_
  intro p e s m args below meth c s₁ B hml hv
  obtain ⟨rfl, hR, hK, hG⟩ := hv
  have hx := B.exec
  have hb := B.bytes
  have hr := B.returns
  have hts := atoms_spec (ws := tq_ws yX5_init cX5_init 2 none) B.pre
  have hw : ∀ w ∈ tq_W, w.before _ s = true := fun w h => hts w (List.mem_cons_of_mem _ h)
  have hown : s.vm.findClass RX5 = some m.cls := findClass_of_methodNamed B.named
  have hlocks := B.notSynchronized
  have hin2 := (name_of_methodNamed B.named B.method).1
  have hS : va_S (fun q => z ≤ q) s.heap s.heap [] := va_S.rf
  have hl := lv_entry ([.ref (z + 79), .int 4]) (n := 2) (Nat.le_of_ble_eq_true rfl)
  rw [lg_entry_eq]
  generalize (lg_sl ([.ref (z + 79), .int 4]) ++ List.replicate (2 - (lg_sl ([.ref (z + 79), .int 4])).length) Slot.unset).toArray = ls at hl ⊢
  have hl : lv_has ls 2 [(0, .ref (z + 79)), (1, .int 4)] := hl
  refine lv_aload_n hx hb dX5_init_0 rfl (lv_at hl 0 rfl) ?_
  refine W.objInit hx hb hown (hw _ tw_248) (hw _ tw_147) (hw _ tw_148) rfl (by rw [hml]; exact hl.1) rfl dX5_init_1 (Nat.le_of_ble_eq_true rfl) (Nat.le_of_ble_eq_true rfl) ?_
  refine W.eq (g2 := F0 m 4 ls []) rfl ?_
  refine lv_aload_n hx hb dX5_init_4 rfl (lv_at hl 0 rfl) ?_
  refine lv_iconst (v := 4) hx hb dX5_init_5 (by decide) ?_
  refine tqr_newa (E1 := tqE171 z cy ad) (N' := 4) (ty := .int) hx hb rfl (hw _ tw_177) hK hR hS 0 rfl (fun U x h9 => h9) (v := 4) (by decide) (by decide) (by decide) (fun _ => rfl) rfl rfl (Nat.le_of_ble_eq_true rfl) (Nat.le_of_ble_eq_true rfl) dX5_init_6 (fun H hR hS => ?_)
  refine tqr_put (E1 := tqE172 z cy ad) (j := 79) (fs := [.int 0, .int 0, .null, .int 0, .int 0, .int 0, .null, .null, .int 0, .null, .null, .null, .null, .null, .null, .null, .int 0]) hx hb hw tq_inX5 tyX5 tyX5_ok nmX5 hown hK hR hS (by decide) rfl rfl 2 (by decide) (hw _ tw_256) (fun _ h9 => h9) (Or.inr ⟨rfl, hin2, rfl⟩) rfl rfl (by simp) rfl dX5_init_8 (fun H locs hR hS => ?_)
  refine lv_aload_n hx hb dX5_init_11 rfl (lv_at hl 0 rfl) ?_
  refine lv_bipush (v := 120) hx hb dX5_init_12 (by decide) ?_
  refine tqr_put (E1 := tqE173 z cy ad) (j := 79) (fs := [.int 0, .int 0, .ref (z + 80), .int 0, .int 0, .int 0, .null, .null, .int 0, .null, .null, .null, .null, .null, .null, .null, .int 0]) hx hb hw tq_inX5 tyX5 tyX5_ok nmX5 hown hK hR hS (by decide) rfl rfl 3 (by decide) (hw _ tw_259) (fun _ h9 => h9) (Or.inl rfl) rfl rfl (by simp) rfl dX5_init_14 (fun H locs hR hS => ?_)
  refine lv_aload_n hx hb dX5_init_17 rfl (lv_at hl 0 rfl) ?_
  refine lv_bipush (v := 120) hx hb dX5_init_18 (by decide) ?_
  refine tqr_put (E1 := tqE174 z cy ad) (j := 79) (fs := [.int 0, .int 0, .ref (z + 80), .int 120, .int 0, .int 0, .null, .null, .int 0, .null, .null, .null, .null, .null, .null, .null, .int 0]) hx hb hw tq_inX5 tyX5 tyX5_ok nmX5 hown hK hR hS (by decide) rfl rfl 4 (by decide) (hw _ tw_261) (fun _ h9 => h9) (Or.inl rfl) rfl rfl (by simp) rfl dX5_init_20 (fun H locs hR hS => ?_)
  refine lv_aload_n hx hb dX5_init_23 rfl (lv_at hl 0 rfl) ?_
  refine lv_iconst (v := 4) hx hb dX5_init_24 (by decide) ?_
  refine tqr_newa (E1 := tqE175 z cy ad) (N' := 4) (ty := .int) hx hb rfl (hw _ tw_177) hK hR hS 0 rfl (fun U x h9 => h9) (v := 4) (by decide) (by decide) (by decide) (fun _ => rfl) rfl rfl (Nat.le_of_ble_eq_true rfl) (Nat.le_of_ble_eq_true rfl) dX5_init_25 (fun H hR hS => ?_)
  refine lv_dup hx hb dX5_init_27 rfl ?_
  refine lv_iconst (v := 0) hx hb dX5_init_28 (by decide) ?_
  refine lv_bipush (v := 20) hx hb dX5_init_29 (by decide) ?_
  refine tqr_iast (E1 := tqE176 z cy ad) (j := 81) (len := 4) (f := (fun _ => 0)) (f1 := (upd (fun _ => 0) 0 20)) hx hb hK hR hS (by decide) rfl (by unfold vp_in; decide) rfl rfl dX5_init_31 (fun H locs hR hS => ?_)
  refine lv_dup hx hb dX5_init_32 rfl ?_
  refine lv_iconst (v := 1) hx hb dX5_init_33 (by decide) ?_
  refine lv_bipush (v := 20) hx hb dX5_init_34 (by decide) ?_
  refine tqr_iast (E1 := tqE177 z cy ad) (j := 81) (len := 4) (f := (upd (fun _ => 0) 0 20)) (f1 := (upd (upd (fun _ => 0) 0 20) 1 20)) hx hb hK hR hS (by decide) rfl (by unfold vp_in; decide) rfl rfl dX5_init_36 (fun H locs hR hS => ?_)
  refine lv_dup hx hb dX5_init_37 rfl ?_
  refine lv_iconst (v := 2) hx hb dX5_init_38 (by decide) ?_
  refine lv_bipush (v := 20) hx hb dX5_init_39 (by decide) ?_
  refine tqr_iast (E1 := tqE178 z cy ad) (j := 81) (len := 4) (f := (upd (upd (fun _ => 0) 0 20) 1 20)) (f1 := (upd (upd (upd (fun _ => 0) 0 20) 1 20) 2 20)) hx hb hK hR hS (by decide) rfl (by unfold vp_in; decide) rfl rfl dX5_init_41 (fun H locs hR hS => ?_)
  refine lv_dup hx hb dX5_init_42 rfl ?_
  refine lv_iconst (v := 3) hx hb dX5_init_43 (by decide) ?_
  refine lv_bipush (v := 20) hx hb dX5_init_44 (by decide) ?_
  refine tqr_iast (E1 := tqE179 z cy ad) (j := 81) (len := 4) (f := (upd (upd (upd (fun _ => 0) 0 20) 1 20) 2 20)) (f1 := (upd (upd (upd (upd (fun _ => 0) 0 20) 1 20) 2 20) 3 20)) hx hb hK hR hS (by decide) rfl (by unfold vp_in; decide) rfl rfl dX5_init_46 (fun H locs hR hS => ?_)
  refine tqr_put (E1 := tqE180 z cy ad) (j := 79) (fs := [.int 0, .int 0, .ref (z + 80), .int 120, .int 120, .int 0, .null, .null, .int 0, .null, .null, .null, .null, .null, .null, .null, .int 0]) hx hb hw tq_inX5 tyX5 tyX5_ok nmX5 hown hK hR hS (by decide) rfl rfl 6 (by decide) (hw _ tw_265) (fun _ h9 => h9) (Or.inr ⟨rfl, hin2, rfl⟩) rfl rfl (by simp) rfl dX5_init_47 (fun H locs hR hS => ?_)
  refine lv_aload_n hx hb dX5_init_50 rfl (lv_at hl 0 rfl) ?_
  refine lv_iconst (v := 4) hx hb dX5_init_51 (by decide) ?_
  refine tqr_newa (E1 := tqE181 z cy ad) (N' := 4) (ty := .int) hx hb rfl (hw _ tw_177) hK hR hS 0 rfl (fun U x h9 => h9) (v := 4) (by decide) (by decide) (by decide) (fun _ => rfl) rfl rfl (Nat.le_of_ble_eq_true rfl) (Nat.le_of_ble_eq_true rfl) dX5_init_52 (fun H hR hS => ?_)
  refine tqr_put (E1 := tqE182 z cy ad) (j := 79) (fs := [.int 0, .int 0, .ref (z + 80), .int 120, .int 120, .int 0, .ref (z + 81), .null, .int 0, .null, .null, .null, .null, .null, .null, .null, .int 0]) hx hb hw tq_inX5 tyX5 tyX5_ok nmX5 hown hK hR hS (by decide) rfl rfl 7 (by decide) (hw _ tw_267) (fun _ h9 => h9) (Or.inr ⟨rfl, hin2, rfl⟩) rfl rfl (by simp) rfl dX5_init_54 (fun H locs hR hS => ?_)
  refine lv_aload_n hx hb dX5_init_57 rfl (lv_at hl 0 rfl) ?_
  refine lv_iconst (v := 4) hx hb dX5_init_58 (by decide) ?_
  refine tqr_newa (E1 := tqE183 z cy ad) (N' := 4) (ty := .int) hx hb rfl (hw _ tw_177) hK hR hS 0 rfl (fun U x h9 => h9) (v := 4) (by decide) (by decide) (by decide) (fun _ => rfl) rfl rfl (Nat.le_of_ble_eq_true rfl) (Nat.le_of_ble_eq_true rfl) dX5_init_59 (fun H hR hS => ?_)
  refine tqr_put (E1 := tqE184 z cy ad) (j := 79) (fs := [.int 0, .int 0, .ref (z + 80), .int 120, .int 120, .int 0, .ref (z + 81), .ref (z + 82), .int 0, .null, .null, .null, .null, .null, .null, .null, .int 0]) hx hb hw tq_inX5 tyX5 tyX5_ok nmX5 hown hK hR hS (by decide) rfl rfl 9 (by decide) (hw _ tw_269) (fun _ h9 => h9) (Or.inr ⟨rfl, hin2, rfl⟩) rfl rfl (by simp) rfl dX5_init_61 (fun H locs hR hS => ?_)
  refine lv_aload_n hx hb dX5_init_64 rfl (lv_at hl 0 rfl) ?_
  refine lv_iconst (v := 4) hx hb dX5_init_65 (by decide) ?_
  refine tqr_newa (E1 := tqE185 z cy ad) (N' := 4) (ty := .int) hx hb rfl (hw _ tw_177) hK hR hS 0 rfl (fun U x h9 => h9) (v := 4) (by decide) (by decide) (by decide) (fun _ => rfl) rfl rfl (Nat.le_of_ble_eq_true rfl) (Nat.le_of_ble_eq_true rfl) dX5_init_66 (fun H hR hS => ?_)
  refine tqr_put (E1 := tqE186 z cy ad) (j := 79) (fs := [.int 0, .int 0, .ref (z + 80), .int 120, .int 120, .int 0, .ref (z + 81), .ref (z + 82), .int 0, .ref (z + 83), .null, .null, .null, .null, .null, .null, .int 0]) hx hb hw tq_inX5 tyX5 tyX5_ok nmX5 hown hK hR hS (by decide) rfl rfl 10 (by decide) (hw _ tw_271) (fun _ h9 => h9) (Or.inr ⟨rfl, hin2, rfl⟩) rfl rfl (by simp) rfl dX5_init_68 (fun H locs hR hS => ?_)
  refine lv_aload_n hx hb dX5_init_71 rfl (lv_at hl 0 rfl) ?_
  refine lv_iconst (v := 4) hx hb dX5_init_72 (by decide) ?_
  refine tqr_newa (E1 := tqE187 z cy ad) (N' := 4) (ty := .int) hx hb rfl (hw _ tw_177) hK hR hS 0 rfl (fun U x h9 => h9) (v := 4) (by decide) (by decide) (by decide) (fun _ => rfl) rfl rfl (Nat.le_of_ble_eq_true rfl) (Nat.le_of_ble_eq_true rfl) dX5_init_73 (fun H hR hS => ?_)
  refine tqr_put (E1 := tqE188 z cy ad) (j := 79) (fs := [.int 0, .int 0, .ref (z + 80), .int 120, .int 120, .int 0, .ref (z + 81), .ref (z + 82), .int 0, .ref (z + 83), .ref (z + 84), .null, .null, .null, .null, .null, .int 0]) hx hb hw tq_inX5 tyX5 tyX5_ok nmX5 hown hK hR hS (by decide) rfl rfl 11 (by decide) (hw _ tw_273) (fun _ h9 => h9) (Or.inr ⟨rfl, hin2, rfl⟩) rfl rfl (by simp) rfl dX5_init_75 (fun H locs hR hS => ?_)
  refine lv_aload_n hx hb dX5_init_78 rfl (lv_at hl 0 rfl) ?_
  refine tqr_new (E1 := tqE189 z cy ad) (ci := 0) (fs := [.int 0, .null, .int 0]) hx hb hw tq_inJl tyJx4a65c tyJx4a65c_ok hown (hw _ tw_249) (hw _ tw_152) (hw _ tw_118) hK hR hS rfl (by decide) rfl rfl (Nat.le_of_ble_eq_true rfl) (Nat.le_of_ble_eq_true rfl) dX5_init_79 (fun H hR hS => ?_)
  refine lv_dup hx hb dX5_init_82 rfl ?_
  refine tqr_initL (E1 := tqE190 z cy ad) (j := 86) hx hb hml hl.1 hts hown (hw _ tw_250) hK hG hR hS (by decide) rfl rfl (Nat.le_of_ble_eq_true rfl) (Nat.le_of_ble_eq_true rfl) (Nat.le_of_ble_eq_true rfl) ⟨(Nat.le_of_ble_eq_true rfl), (Nat.le_of_ble_eq_true rfl)⟩ dX5_init_83 (fun H locs hR hS => ?_)
  refine tqr_put (E1 := tqE191 z cy ad) (j := 79) (fs := [.int 0, .int 0, .ref (z + 80), .int 120, .int 120, .int 0, .ref (z + 81), .ref (z + 82), .int 0, .ref (z + 83), .ref (z + 84), .ref (z + 85), .null, .null, .null, .null, .int 0]) hx hb hw tq_inX5 tyX5 tyX5_ok nmX5 hown hK hR hS (by decide) rfl rfl 12 (by decide) (hw _ tw_275) (fun _ h9 => h9) (Or.inr ⟨rfl, hin2, rfl⟩) rfl rfl (by simp) rfl dX5_init_86 (fun H locs hR hS => ?_)
  refine lv_aload_n hx hb dX5_init_89 rfl (lv_at hl 0 rfl) ?_
  refine tqr_new (E1 := tqE192 z cy ad) (ci := 0) (fs := [.int 0, .null, .int 0]) hx hb hw tq_inJl tyJx4a65c tyJx4a65c_ok hown (hw _ tw_249) (hw _ tw_152) (hw _ tw_118) hK hR hS rfl (by decide) rfl rfl (Nat.le_of_ble_eq_true rfl) (Nat.le_of_ble_eq_true rfl) dX5_init_90 (fun H hR hS => ?_)
  refine lv_dup hx hb dX5_init_93 rfl ?_
  refine tqr_initL (E1 := tqE193 z cy ad) (j := 87) hx hb hml hl.1 hts hown (hw _ tw_250) hK hG hR hS (by decide) rfl rfl (Nat.le_of_ble_eq_true rfl) (Nat.le_of_ble_eq_true rfl) (Nat.le_of_ble_eq_true rfl) ⟨(Nat.le_of_ble_eq_true rfl), (Nat.le_of_ble_eq_true rfl)⟩ dX5_init_94 (fun H locs hR hS => ?_)
  refine tqr_put (E1 := tqE194 z cy ad) (j := 79) (fs := [.int 0, .int 0, .ref (z + 80), .int 120, .int 120, .int 0, .ref (z + 81), .ref (z + 82), .int 0, .ref (z + 83), .ref (z + 84), .ref (z + 85), .ref (z + 86), .null, .null, .null, .int 0]) hx hb hw tq_inX5 tyX5 tyX5_ok nmX5 hown hK hR hS (by decide) rfl rfl 13 (by decide) (hw _ tw_276) (fun _ h9 => h9) (Or.inr ⟨rfl, hin2, rfl⟩) rfl rfl (by simp) rfl dX5_init_97 (fun H locs hR hS => ?_)
  refine lv_aload_n hx hb dX5_init_100 rfl (lv_at hl 0 rfl) ?_
  refine lv_bipush (v := 28) hx hb dX5_init_101 (by decide) ?_
  refine tqr_newa (E1 := tqE195 z cy ad) (N' := 28) (ty := .int) hx hb rfl (hw _ tw_177) hK hR hS 0 rfl (fun U x h9 => h9) (v := 28) (by decide) (by decide) (by decide) (fun _ => rfl) rfl rfl (Nat.le_of_ble_eq_true rfl) (Nat.le_of_ble_eq_true rfl) dX5_init_103 (fun H hR hS => ?_)
  refine tqr_put (E1 := tqE196 z cy ad) (j := 79) (fs := [.int 0, .int 0, .ref (z + 80), .int 120, .int 120, .int 0, .ref (z + 81), .ref (z + 82), .int 0, .ref (z + 83), .ref (z + 84), .ref (z + 85), .ref (z + 86), .ref (z + 87), .null, .null, .int 0]) hx hb hw tq_inX5 tyX5 tyX5_ok nmX5 hown hK hR hS (by decide) rfl rfl 14 (by decide) (hw _ tw_278) (fun _ h9 => h9) (Or.inr ⟨rfl, hin2, rfl⟩) rfl rfl (by simp) rfl dX5_init_105 (fun H locs hR hS => ?_)
  refine lv_aload_n hx hb dX5_init_108 rfl (lv_at hl 0 rfl) ?_
  refine lv_iconst (v := (-1)) hx hb dX5_init_109 (by decide) ?_
  refine tqr_put (E1 := tqE197 z cy ad) (j := 79) (fs := [.int 0, .int 0, .ref (z + 80), .int 120, .int 120, .int 0, .ref (z + 81), .ref (z + 82), .int 0, .ref (z + 83), .ref (z + 84), .ref (z + 85), .ref (z + 86), .ref (z + 87), .ref (z + 88), .null, .int 0]) hx hb hw tq_inX5 tyX5 tyX5_ok nmX5 hown hK hR hS (by decide) rfl rfl 16 (by decide) (hw _ tw_280) (fun _ h9 => h9) (Or.inl rfl) rfl rfl (by simp) rfl dX5_init_110 (fun H locs hR hS => ?_)
  refine lv_aload_n hx hb dX5_init_113 rfl (lv_at hl 0 rfl) ?_
  refine lv_iload_n hx hb dX5_init_114 rfl (lv_at hl 1 rfl) ?_
  refine tqr_put (E1 := tqE198 z cy ad) (j := 79) (fs := [.int 0, .int 0, .ref (z + 80), .int 120, .int 120, .int 0, .ref (z + 81), .ref (z + 82), .int 0, .ref (z + 83), .ref (z + 84), .ref (z + 85), .ref (z + 86), .ref (z + 87), .ref (z + 88), .null, .int (-1)]) hx hb hw tq_inX5 tyX5 tyX5_ok nmX5 hown hK hR hS (by decide) rfl rfl 0 (by decide) (hw _ tw_252) (fun _ h9 => h9) (Or.inr ⟨rfl, hin2, rfl⟩) rfl rfl (by simp) rfl dX5_init_115 (fun H locs hR hS => ?_)
  refine W.widen (k := 9) (n := 58) (Nat.le_of_ble_eq_true rfl) (Nat.le_of_ble_eq_true rfl) ?_
  exact W.vret hx hb hr (fun t ht hWm => ⟨⟨(), rfl, trivial, by show tq_rw _ _ _ _ _ t.heap; rw [ht]; exact hR⟩, hS.F ht⟩) hS.2.2 dX5_init_118
set_option maxHeartbeats 8000000 in
set_option maxRecDepth 100000 in
theorem kC_10 {l : Launch} {D : va_G} {cy : Nat → ClassId} {z : Nat} {H0 : Heap} {ad : Nat → Nat → Nat} : tq_cC l yX7_init (tq_ws yX7_init cX7_init 1 none) 1 21 1 64 D cy z H0 ad 90 (tqE200 z cy ad) 91 (tqE203 z cy ad) [.ref (z + 89)] := by
  refine Met.ofW (cc := cX7_init) (maxL := 1) (ret := none) (by decide) rfl ?_
  intro p e s m args below meth c s₁ B hml hv
  obtain ⟨rfl, hR, hK, hG⟩ := hv
  have hx := B.exec
  have hb := B.bytes
  have hr := B.returns
  have hts := atoms_spec (ws := tq_ws yX7_init cX7_init 1 none) B.pre
  have hw : ∀ w ∈ tq_W, w.before _ s = true := fun w h => hts w (List.mem_cons_of_mem _ h)
  have hown : s.vm.findClass RX7 = some m.cls := findClass_of_methodNamed B.named
  have hlocks := B.notSynchronized
  have hin2 := (name_of_methodNamed B.named B.method).1
  have hS : va_S (fun q => z ≤ q) s.heap s.heap [] := va_S.rf
  have hl := lv_entry ([.ref (z + 89)]) (n := 1) (Nat.le_of_ble_eq_true rfl)
  rw [lg_entry_eq]
  generalize (lg_sl ([.ref (z + 89)]) ++ List.replicate (1 - (lg_sl ([.ref (z + 89)])).length) Slot.unset).toArray = ls at hl ⊢
  have hl : lv_has ls 1 [(0, .ref (z + 89))] := hl
  refine lv_aload_n hx hb dX7_init_0 rfl (lv_at hl 0 rfl) ?_
  refine W.objInit hx hb hown (hw _ tw_321) (hw _ tw_147) (hw _ tw_148) rfl (by rw [hml]; exact hl.1) rfl dX7_init_1 (Nat.le_of_ble_eq_true rfl) (Nat.le_of_ble_eq_true rfl) ?_
  refine W.eq (g2 := F0 m 4 ls []) rfl ?_
  refine lv_aload_n hx hb dX7_init_4 rfl (lv_at hl 0 rfl) ?_
  refine lv_iconst (v := (-1)) hx hb dX7_init_5 (by decide) ?_
  refine tqr_put (E1 := tqE201 z cy ad) (j := 89) (fs := [.int 0, .int 0, .null]) hx hb hw tq_inX7 tyX7 tyX7_ok nmX7 hown hK hR hS (by decide) rfl rfl 0 (by decide) (hw _ tw_322) (fun _ h9 => h9) (Or.inl rfl) rfl rfl (by simp) rfl dX7_init_6 (fun H locs hR hS => ?_)
  refine lv_aload_n hx hb dX7_init_9 rfl (lv_at hl 0 rfl) ?_
  refine lv_bipush (v := 64) hx hb dX7_init_10 (by decide) ?_
  refine tqr_newa (E1 := tqE202 z cy ad) (N' := 64) (ty := .int) hx hb rfl (hw _ tw_177) hK hR hS 0 rfl (fun U x h9 => h9) (v := 64) (by decide) (by decide) (by decide) (fun _ => rfl) rfl rfl (Nat.le_of_ble_eq_true rfl) (Nat.le_of_ble_eq_true rfl) dX7_init_12 (fun H hR hS => ?_)
  refine tqr_put (E1 := tqE203 z cy ad) (j := 89) (fs := [.int (-1), .int 0, .null]) hx hb hw tq_inX7 tyX7 tyX7_ok nmX7 hown hK hR hS (by decide) rfl rfl 2 (by decide) (hw _ tw_325) (fun _ h9 => h9) (Or.inr ⟨rfl, hin2, rfl⟩) rfl rfl (by simp) rfl dX7_init_14 (fun H locs hR hS => ?_)
  refine W.widen (k := 1) (n := 64) (Nat.le_of_ble_eq_true rfl) (Nat.le_of_ble_eq_true rfl) ?_
  exact W.vret hx hb hr (fun t ht hWm => ⟨⟨(), rfl, trivial, by show tq_rw _ _ _ _ _ t.heap; rw [ht]; exact hR⟩, hS.F ht⟩) hS.2.2 dX7_init_17
set_option maxHeartbeats 8000000 in
set_option maxRecDepth 100000 in
theorem kC_11 {l : Launch} {D : va_G} {cy : Nat → ClassId} {z : Nat} {H0 : Heap} {ad : Nat → Nat → Nat} : tq_cC l yX7_init (tq_ws yX7_init cX7_init 1 none) 1 21 1 64 D cy z H0 ad 92 (tqE205 z cy ad) 93 (tqE208 z cy ad) [.ref (z + 91)] := by
  refine Met.ofW (cc := cX7_init) (maxL := 1) (ret := none) (by decide) rfl ?_
  intro p e s m args below meth c s₁ B hml hv
  obtain ⟨rfl, hR, hK, hG⟩ := hv
  have hx := B.exec
  have hb := B.bytes
  have hr := B.returns
  have hts := atoms_spec (ws := tq_ws yX7_init cX7_init 1 none) B.pre
  have hw : ∀ w ∈ tq_W, w.before _ s = true := fun w h => hts w (List.mem_cons_of_mem _ h)
  have hown : s.vm.findClass RX7 = some m.cls := findClass_of_methodNamed B.named
  have hlocks := B.notSynchronized
  have hin2 := (name_of_methodNamed B.named B.method).1
  have hS : va_S (fun q => z ≤ q) s.heap s.heap [] := va_S.rf
  have hl := lv_entry ([.ref (z + 91)]) (n := 1) (Nat.le_of_ble_eq_true rfl)
  rw [lg_entry_eq]
  generalize (lg_sl ([.ref (z + 91)]) ++ List.replicate (1 - (lg_sl ([.ref (z + 91)])).length) Slot.unset).toArray = ls at hl ⊢
  have hl : lv_has ls 1 [(0, .ref (z + 91))] := hl
  refine lv_aload_n hx hb dX7_init_0 rfl (lv_at hl 0 rfl) ?_
  refine W.objInit hx hb hown (hw _ tw_321) (hw _ tw_147) (hw _ tw_148) rfl (by rw [hml]; exact hl.1) rfl dX7_init_1 (Nat.le_of_ble_eq_true rfl) (Nat.le_of_ble_eq_true rfl) ?_
  refine W.eq (g2 := F0 m 4 ls []) rfl ?_
  refine lv_aload_n hx hb dX7_init_4 rfl (lv_at hl 0 rfl) ?_
  refine lv_iconst (v := (-1)) hx hb dX7_init_5 (by decide) ?_
  refine tqr_put (E1 := tqE206 z cy ad) (j := 91) (fs := [.int 0, .int 0, .null]) hx hb hw tq_inX7 tyX7 tyX7_ok nmX7 hown hK hR hS (by decide) rfl rfl 0 (by decide) (hw _ tw_322) (fun _ h9 => h9) (Or.inl rfl) rfl rfl (by simp) rfl dX7_init_6 (fun H locs hR hS => ?_)
  refine lv_aload_n hx hb dX7_init_9 rfl (lv_at hl 0 rfl) ?_
  refine lv_bipush (v := 64) hx hb dX7_init_10 (by decide) ?_
  refine tqr_newa (E1 := tqE207 z cy ad) (N' := 64) (ty := .int) hx hb rfl (hw _ tw_177) hK hR hS 0 rfl (fun U x h9 => h9) (v := 64) (by decide) (by decide) (by decide) (fun _ => rfl) rfl rfl (Nat.le_of_ble_eq_true rfl) (Nat.le_of_ble_eq_true rfl) dX7_init_12 (fun H hR hS => ?_)
  refine tqr_put (E1 := tqE208 z cy ad) (j := 91) (fs := [.int (-1), .int 0, .null]) hx hb hw tq_inX7 tyX7 tyX7_ok nmX7 hown hK hR hS (by decide) rfl rfl 2 (by decide) (hw _ tw_325) (fun _ h9 => h9) (Or.inr ⟨rfl, hin2, rfl⟩) rfl rfl (by simp) rfl dX7_init_14 (fun H locs hR hS => ?_)
  refine W.widen (k := 1) (n := 64) (Nat.le_of_ble_eq_true rfl) (Nat.le_of_ble_eq_true rfl) ?_
  exact W.vret hx hb hr (fun t ht hWm => ⟨⟨(), rfl, trivial, by show tq_rw _ _ _ _ _ t.heap; rw [ht]; exact hR⟩, hS.F ht⟩) hS.2.2 dX7_init_17
set_option maxHeartbeats 8000000 in
set_option maxRecDepth 100000 in
theorem kC_12 {l : Launch} {D : va_G} {cy : Nat → ClassId} {z : Nat} {H0 : Heap} {ad : Nat → Nat → Nat} : tq_cC l yX7_init (tq_ws yX7_init cX7_init 1 none) 1 21 1 64 D cy z H0 ad 94 (tqE210 z cy ad) 95 (tqE213 z cy ad) [.ref (z + 93)] := by
  refine Met.ofW (cc := cX7_init) (maxL := 1) (ret := none) (by decide) rfl ?_
  intro p e s m args below meth c s₁ B hml hv
  obtain ⟨rfl, hR, hK, hG⟩ := hv
  have hx := B.exec
  have hb := B.bytes
  have hr := B.returns
  have hts := atoms_spec (ws := tq_ws yX7_init cX7_init 1 none) B.pre
  have hw : ∀ w ∈ tq_W, w.before _ s = true := fun w h => hts w (List.mem_cons_of_mem _ h)
  have hown : s.vm.findClass RX7 = some m.cls := findClass_of_methodNamed B.named
  have hlocks := B.notSynchronized
  have hin2 := (name_of_methodNamed B.named B.method).1
  have hS : va_S (fun q => z ≤ q) s.heap s.heap [] := va_S.rf
  have hl := lv_entry ([.ref (z + 93)]) (n := 1) (Nat.le_of_ble_eq_true rfl)
  rw [lg_entry_eq]
  generalize (lg_sl ([.ref (z + 93)]) ++ List.replicate (1 - (lg_sl ([.ref (z + 93)])).length) Slot.unset).toArray = ls at hl ⊢
  have hl : lv_has ls 1 [(0, .ref (z + 93))] := hl
  refine lv_aload_n hx hb dX7_init_0 rfl (lv_at hl 0 rfl) ?_
  refine W.objInit hx hb hown (hw _ tw_321) (hw _ tw_147) (hw _ tw_148) rfl (by rw [hml]; exact hl.1) rfl dX7_init_1 (Nat.le_of_ble_eq_true rfl) (Nat.le_of_ble_eq_true rfl) ?_
  refine W.eq (g2 := F0 m 4 ls []) rfl ?_
  refine lv_aload_n hx hb dX7_init_4 rfl (lv_at hl 0 rfl) ?_
  refine lv_iconst (v := (-1)) hx hb dX7_init_5 (by decide) ?_
  refine tqr_put (E1 := tqE211 z cy ad) (j := 93) (fs := [.int 0, .int 0, .null]) hx hb hw tq_inX7 tyX7 tyX7_ok nmX7 hown hK hR hS (by decide) rfl rfl 0 (by decide) (hw _ tw_322) (fun _ h9 => h9) (Or.inl rfl) rfl rfl (by simp) rfl dX7_init_6 (fun H locs hR hS => ?_)
  refine lv_aload_n hx hb dX7_init_9 rfl (lv_at hl 0 rfl) ?_
  refine lv_bipush (v := 64) hx hb dX7_init_10 (by decide) ?_
  refine tqr_newa (E1 := tqE212 z cy ad) (N' := 64) (ty := .int) hx hb rfl (hw _ tw_177) hK hR hS 0 rfl (fun U x h9 => h9) (v := 64) (by decide) (by decide) (by decide) (fun _ => rfl) rfl rfl (Nat.le_of_ble_eq_true rfl) (Nat.le_of_ble_eq_true rfl) dX7_init_12 (fun H hR hS => ?_)
  refine tqr_put (E1 := tqE213 z cy ad) (j := 93) (fs := [.int (-1), .int 0, .null]) hx hb hw tq_inX7 tyX7 tyX7_ok nmX7 hown hK hR hS (by decide) rfl rfl 2 (by decide) (hw _ tw_325) (fun _ h9 => h9) (Or.inr ⟨rfl, hin2, rfl⟩) rfl rfl (by simp) rfl dX7_init_14 (fun H locs hR hS => ?_)
  refine W.widen (k := 1) (n := 64) (Nat.le_of_ble_eq_true rfl) (Nat.le_of_ble_eq_true rfl) ?_
  exact W.vret hx hb hr (fun t ht hWm => ⟨⟨(), rfl, trivial, by show tq_rw _ _ _ _ _ t.heap; rw [ht]; exact hR⟩, hS.F ht⟩) hS.2.2 dX7_init_17
set_option maxHeartbeats 8000000 in
set_option maxRecDepth 100000 in
theorem kC_13 {l : Launch} {D : va_G} {cy : Nat → ClassId} {z : Nat} {H0 : Heap} {ad : Nat → Nat → Nat} : tq_cC l yJ7_fill_53178 (tq_ws yJ7_fill_53178 cJ7_fill_53178 4 none) 0 0 0 0 D cy z H0 ad 95 (tqE214 z cy ad) 95 (tqE222 z cy ad) [.ref (z + 29), .int 100] := by
  refine Met.ofW (cc := cJ7_fill_53178) (maxL := 4) (ret := none) (by decide) rfl ?_
  intro p e s m args below meth c s₁ B hml hv
  obtain ⟨rfl, hR, hK, hG⟩ := hv
  have hx := B.exec
  have hb := B.bytes
  have hr := B.returns
  have hts := atoms_spec (ws := tq_ws yJ7_fill_53178 cJ7_fill_53178 4 none) B.pre
  have hw : ∀ w ∈ tq_W, w.before _ s = true := fun w h => hts w (List.mem_cons_of_mem _ h)
  have hown : s.vm.findClass RJ7 = some m.cls := findClass_of_methodNamed B.named
  have hlocks := B.notSynchronized
  have hin2 := (name_of_methodNamed B.named B.method).1
  have hS : va_S (fun q => z ≤ q) s.heap s.heap [] := va_S.rf
  have hl := lv_entry ([.ref (z + 29), .int 100]) (n := 4) (Nat.le_of_ble_eq_true rfl)
  rw [lg_entry_eq]
  generalize (lg_sl ([.ref (z + 29), .int 100]) ++ List.replicate (4 - (lg_sl ([.ref (z + 29), .int 100])).length) Slot.unset).toArray = ls at hl ⊢
  have hl : lv_has ls 4 [(0, .ref (z + 29)), (1, .int 100)] := hl
  refine lv_iconst (v := 0) hx hb dJ7_fill_53178_0 (by decide) ?_
  refine lv_istore_n (lv' := [(2, .int 0), (0, .ref (z + 29)), (1, .int 100)]) hx hb dJ7_fill_53178_1 rfl hl (by decide) rfl (fun ls hl => ?_)
  refine lv_aload_n hx hb dJ7_fill_53178_2 rfl (lv_at hl 1 rfl) ?_
  refine tqr_alen (v := 8) (j := 29) hx hb hK hR (by decide) rfl 0 rfl rfl dJ7_fill_53178_3 ?_
  refine lv_istore_n (lv' := [(3, .int 8), (2, .int 0), (0, .ref (z + 29)), (1, .int 100)]) hx hb dJ7_fill_53178_4 rfl hl (by decide) rfl (fun ls hl => ?_)
  refine lv_iload_n hx hb dJ7_fill_53178_5 rfl (lv_at hl 1 rfl) ?_
  refine lv_iload_n hx hb dJ7_fill_53178_6 rfl (lv_at hl 0 rfl) ?_
  refine lv_icmp_ge (tgt := 20) hx hb dJ7_fill_53178_7 (by decide) (fun q => absurd q (by decide)) (fun _ => ?_)
  refine lv_aload_n hx hb dJ7_fill_53178_10 rfl (lv_at hl 2 rfl) ?_
  refine lv_iload_n hx hb dJ7_fill_53178_11 rfl (lv_at hl 1 rfl) ?_
  refine lv_iload_n hx hb dJ7_fill_53178_12 rfl (lv_at hl 3 rfl) ?_
  refine tqr_iast (E1 := tqE215 z cy ad) (j := 29) (len := 8) (f := (fun _ => 0)) (f1 := (upd (fun _ => 0) 0 100)) hx hb hK hR hS (by decide) rfl (by unfold vp_in; decide) rfl rfl dJ7_fill_53178_13 (fun H locs hR hS => ?_)
  refine lv_iinc (v := 1) (lv' := [(2, .int 1), (3, .int 8), (0, .ref (z + 29)), (1, .int 100)]) hx hb dJ7_fill_53178_14 hl (k := 1) rfl rfl (by decide) rfl (fun ls hl => ?_)
  refine lv_goto (tgt := 5) hx hb dJ7_fill_53178_17 (by decide) ?_
  refine lv_iload_n hx hb dJ7_fill_53178_5 rfl (lv_at hl 0 rfl) ?_
  refine lv_iload_n hx hb dJ7_fill_53178_6 rfl (lv_at hl 1 rfl) ?_
  refine lv_icmp_ge (tgt := 20) hx hb dJ7_fill_53178_7 (by decide) (fun q => absurd q (by decide)) (fun _ => ?_)
  refine lv_aload_n hx hb dJ7_fill_53178_10 rfl (lv_at hl 2 rfl) ?_
  refine lv_iload_n hx hb dJ7_fill_53178_11 rfl (lv_at hl 0 rfl) ?_
  refine lv_iload_n hx hb dJ7_fill_53178_12 rfl (lv_at hl 3 rfl) ?_
  refine tqr_iast (E1 := tqE216 z cy ad) (j := 29) (len := 8) (f := (upd (fun _ => 0) 0 100)) (f1 := (upd (upd (fun _ => 0) 0 100) 1 100)) hx hb hK hR hS (by decide) rfl (by unfold vp_in; decide) rfl rfl dJ7_fill_53178_13 (fun H locs hR hS => ?_)
  refine lv_iinc (v := 2) (lv' := [(2, .int 2), (3, .int 8), (0, .ref (z + 29)), (1, .int 100)]) hx hb dJ7_fill_53178_14 hl (k := 0) rfl rfl (by decide) rfl (fun ls hl => ?_)
  refine lv_goto (tgt := 5) hx hb dJ7_fill_53178_17 (by decide) ?_
  refine lv_iload_n hx hb dJ7_fill_53178_5 rfl (lv_at hl 0 rfl) ?_
  refine lv_iload_n hx hb dJ7_fill_53178_6 rfl (lv_at hl 1 rfl) ?_
  refine lv_icmp_ge (tgt := 20) hx hb dJ7_fill_53178_7 (by decide) (fun q => absurd q (by decide)) (fun _ => ?_)
  refine lv_aload_n hx hb dJ7_fill_53178_10 rfl (lv_at hl 2 rfl) ?_
  refine lv_iload_n hx hb dJ7_fill_53178_11 rfl (lv_at hl 0 rfl) ?_
  refine lv_iload_n hx hb dJ7_fill_53178_12 rfl (lv_at hl 3 rfl) ?_
  refine tqr_iast (E1 := tqE217 z cy ad) (j := 29) (len := 8) (f := (upd (upd (fun _ => 0) 0 100) 1 100)) (f1 := (upd (upd (upd (fun _ => 0) 0 100) 1 100) 2 100)) hx hb hK hR hS (by decide) rfl (by unfold vp_in; decide) rfl rfl dJ7_fill_53178_13 (fun H locs hR hS => ?_)
  refine lv_iinc (v := 3) (lv' := [(2, .int 3), (3, .int 8), (0, .ref (z + 29)), (1, .int 100)]) hx hb dJ7_fill_53178_14 hl (k := 0) rfl rfl (by decide) rfl (fun ls hl => ?_)
  refine lv_goto (tgt := 5) hx hb dJ7_fill_53178_17 (by decide) ?_
  refine lv_iload_n hx hb dJ7_fill_53178_5 rfl (lv_at hl 0 rfl) ?_
  refine lv_iload_n hx hb dJ7_fill_53178_6 rfl (lv_at hl 1 rfl) ?_
  refine lv_icmp_ge (tgt := 20) hx hb dJ7_fill_53178_7 (by decide) (fun q => absurd q (by decide)) (fun _ => ?_)
  refine lv_aload_n hx hb dJ7_fill_53178_10 rfl (lv_at hl 2 rfl) ?_
  refine lv_iload_n hx hb dJ7_fill_53178_11 rfl (lv_at hl 0 rfl) ?_
  refine lv_iload_n hx hb dJ7_fill_53178_12 rfl (lv_at hl 3 rfl) ?_
  refine tqr_iast (E1 := tqE218 z cy ad) (j := 29) (len := 8) (f := (upd (upd (upd (fun _ => 0) 0 100) 1 100) 2 100)) (f1 := (upd (upd (upd (upd (fun _ => 0) 0 100) 1 100) 2 100) 3 100)) hx hb hK hR hS (by decide) rfl (by unfold vp_in; decide) rfl rfl dJ7_fill_53178_13 (fun H locs hR hS => ?_)
  refine lv_iinc (v := 4) (lv' := [(2, .int 4), (3, .int 8), (0, .ref (z + 29)), (1, .int 100)]) hx hb dJ7_fill_53178_14 hl (k := 0) rfl rfl (by decide) rfl (fun ls hl => ?_)
  refine lv_goto (tgt := 5) hx hb dJ7_fill_53178_17 (by decide) ?_
  refine lv_iload_n hx hb dJ7_fill_53178_5 rfl (lv_at hl 0 rfl) ?_
  refine lv_iload_n hx hb dJ7_fill_53178_6 rfl (lv_at hl 1 rfl) ?_
  refine lv_icmp_ge (tgt := 20) hx hb dJ7_fill_53178_7 (by decide) (fun q => absurd q (by decide)) (fun _ => ?_)
  refine lv_aload_n hx hb dJ7_fill_53178_10 rfl (lv_at hl 2 rfl) ?_
  refine lv_iload_n hx hb dJ7_fill_53178_11 rfl (lv_at hl 0 rfl) ?_
  refine lv_iload_n hx hb dJ7_fill_53178_12 rfl (lv_at hl 3 rfl) ?_
  refine tqr_iast (E1 := tqE219 z cy ad) (j := 29) (len := 8) (f := (upd (upd (upd (upd (fun _ => 0) 0 100) 1 100) 2 100) 3 100)) (f1 := (upd (upd (upd (upd (upd (fun _ => 0) 0 100) 1 100) 2 100) 3 100) 4 100)) hx hb hK hR hS (by decide) rfl (by unfold vp_in; decide) rfl rfl dJ7_fill_53178_13 (fun H locs hR hS => ?_)
  refine lv_iinc (v := 5) (lv' := [(2, .int 5), (3, .int 8), (0, .ref (z + 29)), (1, .int 100)]) hx hb dJ7_fill_53178_14 hl (k := 0) rfl rfl (by decide) rfl (fun ls hl => ?_)
  refine lv_goto (tgt := 5) hx hb dJ7_fill_53178_17 (by decide) ?_
  refine lv_iload_n hx hb dJ7_fill_53178_5 rfl (lv_at hl 0 rfl) ?_
  refine lv_iload_n hx hb dJ7_fill_53178_6 rfl (lv_at hl 1 rfl) ?_
  refine lv_icmp_ge (tgt := 20) hx hb dJ7_fill_53178_7 (by decide) (fun q => absurd q (by decide)) (fun _ => ?_)
  refine lv_aload_n hx hb dJ7_fill_53178_10 rfl (lv_at hl 2 rfl) ?_
  refine lv_iload_n hx hb dJ7_fill_53178_11 rfl (lv_at hl 0 rfl) ?_
  refine lv_iload_n hx hb dJ7_fill_53178_12 rfl (lv_at hl 3 rfl) ?_
  refine tqr_iast (E1 := tqE220 z cy ad) (j := 29) (len := 8) (f := (upd (upd (upd (upd (upd (fun _ => 0) 0 100) 1 100) 2 100) 3 100) 4 100)) (f1 := (upd (upd (upd (upd (upd (upd (fun _ => 0) 0 100) 1 100) 2 100) 3 100) 4 100) 5 100)) hx hb hK hR hS (by decide) rfl (by unfold vp_in; decide) rfl rfl dJ7_fill_53178_13 (fun H locs hR hS => ?_)
  refine lv_iinc (v := 6) (lv' := [(2, .int 6), (3, .int 8), (0, .ref (z + 29)), (1, .int 100)]) hx hb dJ7_fill_53178_14 hl (k := 0) rfl rfl (by decide) rfl (fun ls hl => ?_)
  refine lv_goto (tgt := 5) hx hb dJ7_fill_53178_17 (by decide) ?_
  refine lv_iload_n hx hb dJ7_fill_53178_5 rfl (lv_at hl 0 rfl) ?_
  refine lv_iload_n hx hb dJ7_fill_53178_6 rfl (lv_at hl 1 rfl) ?_
  refine lv_icmp_ge (tgt := 20) hx hb dJ7_fill_53178_7 (by decide) (fun q => absurd q (by decide)) (fun _ => ?_)
  refine lv_aload_n hx hb dJ7_fill_53178_10 rfl (lv_at hl 2 rfl) ?_
  refine lv_iload_n hx hb dJ7_fill_53178_11 rfl (lv_at hl 0 rfl) ?_
  refine lv_iload_n hx hb dJ7_fill_53178_12 rfl (lv_at hl 3 rfl) ?_
  refine tqr_iast (E1 := tqE221 z cy ad) (j := 29) (len := 8) (f := (upd (upd (upd (upd (upd (upd (fun _ => 0) 0 100) 1 100) 2 100) 3 100) 4 100) 5 100)) (f1 := (upd (upd (upd (upd (upd (upd (upd (fun _ => 0) 0 100) 1 100) 2 100) 3 100) 4 100) 5 100) 6 100)) hx hb hK hR hS (by decide) rfl (by unfold vp_in; decide) rfl rfl dJ7_fill_53178_13 (fun H locs hR hS => ?_)
  refine lv_iinc (v := 7) (lv' := [(2, .int 7), (3, .int 8), (0, .ref (z + 29)), (1, .int 100)]) hx hb dJ7_fill_53178_14 hl (k := 0) rfl rfl (by decide) rfl (fun ls hl => ?_)
  refine lv_goto (tgt := 5) hx hb dJ7_fill_53178_17 (by decide) ?_
  refine lv_iload_n hx hb dJ7_fill_53178_5 rfl (lv_at hl 0 rfl) ?_
  refine lv_iload_n hx hb dJ7_fill_53178_6 rfl (lv_at hl 1 rfl) ?_
  refine lv_icmp_ge (tgt := 20) hx hb dJ7_fill_53178_7 (by decide) (fun q => absurd q (by decide)) (fun _ => ?_)
  refine lv_aload_n hx hb dJ7_fill_53178_10 rfl (lv_at hl 2 rfl) ?_
  refine lv_iload_n hx hb dJ7_fill_53178_11 rfl (lv_at hl 0 rfl) ?_
  refine lv_iload_n hx hb dJ7_fill_53178_12 rfl (lv_at hl 3 rfl) ?_
  refine tqr_iast (E1 := tqE222 z cy ad) (j := 29) (len := 8) (f := (upd (upd (upd (upd (upd (upd (upd (fun _ => 0) 0 100) 1 100) 2 100) 3 100) 4 100) 5 100) 6 100)) (f1 := (upd (upd (upd (upd (upd (upd (upd (upd (fun _ => 0) 0 100) 1 100) 2 100) 3 100) 4 100) 5 100) 6 100) 7 100)) hx hb hK hR hS (by decide) rfl (by unfold vp_in; decide) rfl rfl dJ7_fill_53178_13 (fun H locs hR hS => ?_)
  refine lv_iinc (v := 8) (lv' := [(2, .int 8), (3, .int 8), (0, .ref (z + 29)), (1, .int 100)]) hx hb dJ7_fill_53178_14 hl (k := 0) rfl rfl (by decide) rfl (fun ls hl => ?_)
  refine lv_goto (tgt := 5) hx hb dJ7_fill_53178_17 (by decide) ?_
  refine lv_iload_n hx hb dJ7_fill_53178_5 rfl (lv_at hl 0 rfl) ?_
  refine lv_iload_n hx hb dJ7_fill_53178_6 rfl (lv_at hl 1 rfl) ?_
  refine lv_icmp_ge (tgt := 20) hx hb dJ7_fill_53178_7 (by decide) (fun _ => ?_) (fun q => absurd (by decide) q)
  refine W.widen (k := 0) (n := 0) (Nat.le_of_ble_eq_true rfl) (Nat.le_of_ble_eq_true rfl) ?_
  exact W.vret hx hb hr (fun t ht hWm => ⟨⟨(), rfl, trivial, by show tq_rw _ _ _ _ _ t.heap; rw [ht]; exact hR⟩, hS.F ht⟩) hS.2.2 dJ7_fill_53178_20
