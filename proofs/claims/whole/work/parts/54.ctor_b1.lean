set_option maxHeartbeats 8000000 in
set_option maxRecDepth 100000 in
theorem kC_1 {l : Launch} {D : va_G} {cy : Nat → ClassId} {z : Nat} {H0 : Heap} {ad : Nat → Nat → Nat} : tq_cC l yX11_init (tq_ws yX11_init cX11_init 2 none) 5 111 94 4899 D cy z H0 ad 1 (tqE1 z cy ad) 95 (tqE222 z cy ad) [.ref (z + 0)] := by
  refine Met.ofW (cc := cX11_init) (maxL := 2) (ret := none) (by decide) rfl ?_
  intro p e s m args below meth c s₁ B hml hv
  obtain ⟨rfl, hR, hK, hG⟩ := hv
  have hx := B.exec
  have hb := B.bytes
  have hr := B.returns
  have hts := atoms_spec (ws := tq_ws yX11_init cX11_init 2 none) B.pre
  have hw : ∀ w ∈ tq_W, w.before _ s = true := fun w h => hts w (List.mem_cons_of_mem _ h)
  have hown : s.vm.findClass RX11 = some m.cls := findClass_of_methodNamed B.named
  have hlocks := B.notSynchronized
  have hin2 := (name_of_methodNamed B.named B.method).1
  have hS : va_S (fun q => z ≤ q) s.heap s.heap [] := va_S.rf
  have hl := lv_entry ([.ref (z + 0)]) (n := 2) (Nat.le_of_ble_eq_true rfl)
  rw [lg_entry_eq]
  generalize (lg_sl ([.ref (z + 0)]) ++ List.replicate (2 - (lg_sl ([.ref (z + 0)])).length) Slot.unset).toArray = ls at hl ⊢
  have hl : lv_has ls 2 [(0, .ref (z + 0))] := hl
  refine lv_aload_n hx hb dX11_init_0 rfl (lv_at hl 0 rfl) ?_
  refine W.objInit hx hb hown (hw _ tw_146) (hw _ tw_147) (hw _ tw_148) rfl (by rw [hml]; exact hl.1) rfl dX11_init_1 (Nat.le_of_ble_eq_true rfl) (Nat.le_of_ble_eq_true rfl) ?_
  refine W.eq (g2 := F0 m 4 ls []) rfl ?_
  refine lv_aload_n hx hb dX11_init_4 rfl (lv_at hl 0 rfl) ?_
  refine lv_iconst (v := 5) hx hb dX11_init_5 (by decide) ?_
  refine tqr_anew (E1 := tqE2 z cy ad) (N' := 5) (C := "TwoSeas$Place") hx hb hown (hw _ tw_149) (hG.2.2.2.2.2.2.2.2.2.2.2.1 "TwoSeas$Place" (by decide)) hK hR hS 3 rfl (v := 5) (by decide) (by decide) (by decide) rfl rfl (Nat.le_of_ble_eq_true rfl) (Nat.le_of_ble_eq_true rfl) dX11_init_6 (fun H hR hS => ?_)
  refine tqr_put (E1 := tqE3 z cy ad) (j := 0) (fs := [.int 0, .null, .int 0, .null, .null, .null, .null, .null, .null, .null, .int 0, .null, .null, .null, .null, .null, .int 0, .null, .null, .null]) hx hb hw tq_inX11 tyX11 tyX11_ok nmX11 hown hK hR hS (by decide) rfl rfl 1 (by decide) (hw _ tw_338) (fun _ h9 => h9) (Or.inr ⟨rfl, hin2, rfl⟩) rfl rfl (by simp) rfl dX11_init_9 (fun H locs hR hS => ?_)
  refine lv_aload_n hx hb dX11_init_12 rfl (lv_at hl 0 rfl) ?_
  refine lv_bipush (v := 20) hx hb dX11_init_13 (by decide) ?_
  refine tqr_newa (E1 := tqE4 z cy ad) (N' := 20) (ty := .int) hx hb rfl (hw _ tw_177) hK hR hS 0 rfl (fun U x h9 => h9) (v := 20) (by decide) (by decide) (by decide) (fun _ => rfl) rfl rfl (Nat.le_of_ble_eq_true rfl) (Nat.le_of_ble_eq_true rfl) dX11_init_15 (fun H hR hS => ?_)
  refine tqr_put (E1 := tqE5 z cy ad) (j := 0) (fs := [.int 0, .ref (z + 1), .int 0, .null, .null, .null, .null, .null, .null, .null, .int 0, .null, .null, .null, .null, .null, .int 0, .null, .null, .null]) hx hb hw tq_inX11 tyX11 tyX11_ok nmX11 hown hK hR hS (by decide) rfl rfl 3 (by decide) (hw _ tw_340) (fun _ h9 => h9) (Or.inr ⟨rfl, hin2, rfl⟩) rfl rfl (by simp) rfl dX11_init_17 (fun H locs hR hS => ?_)
  refine lv_aload_n hx hb dX11_init_20 rfl (lv_at hl 0 rfl) ?_
  refine lv_bipush (v := 20) hx hb dX11_init_21 (by decide) ?_
  refine tqr_newa (E1 := tqE6 z cy ad) (N' := 20) (ty := .int) hx hb rfl (hw _ tw_177) hK hR hS 0 rfl (fun U x h9 => h9) (v := 20) (by decide) (by decide) (by decide) (fun _ => rfl) rfl rfl (Nat.le_of_ble_eq_true rfl) (Nat.le_of_ble_eq_true rfl) dX11_init_23 (fun H hR hS => ?_)
  refine tqr_put (E1 := tqE7 z cy ad) (j := 0) (fs := [.int 0, .ref (z + 1), .int 0, .ref (z + 2), .null, .null, .null, .null, .null, .null, .int 0, .null, .null, .null, .null, .null, .int 0, .null, .null, .null]) hx hb hw tq_inX11 tyX11 tyX11_ok nmX11 hown hK hR hS (by decide) rfl rfl 4 (by decide) (hw _ tw_341) (fun _ h9 => h9) (Or.inr ⟨rfl, hin2, rfl⟩) rfl rfl (by simp) rfl dX11_init_25 (fun H locs hR hS => ?_)
  refine lv_aload_n hx hb dX11_init_28 rfl (lv_at hl 0 rfl) ?_
  refine tqr_new (E1 := tqE8 z cy ad) (ci := 0) (fs := [.int 0, .null, .int 0]) hx hb hw tq_inJl tyJx4a65c tyJx4a65c_ok hown (hw _ tw_151) (hw _ tw_152) (hw _ tw_118) hK hR hS rfl (by decide) rfl rfl (Nat.le_of_ble_eq_true rfl) (Nat.le_of_ble_eq_true rfl) dX11_init_29 (fun H hR hS => ?_)
  refine lv_dup hx hb dX11_init_32 rfl ?_
  refine tqr_initL (E1 := tqE9 z cy ad) (j := 4) hx hb hml hl.1 hts hown (hw _ tw_153) hK hG hR hS (by decide) rfl rfl (Nat.le_of_ble_eq_true rfl) (Nat.le_of_ble_eq_true rfl) (Nat.le_of_ble_eq_true rfl) ⟨(Nat.le_of_ble_eq_true rfl), (Nat.le_of_ble_eq_true rfl)⟩ dX11_init_33 (fun H locs hR hS => ?_)
  refine tqr_put (E1 := tqE10 z cy ad) (j := 0) (fs := [.int 0, .ref (z + 1), .int 0, .ref (z + 2), .ref (z + 3), .null, .null, .null, .null, .null, .int 0, .null, .null, .null, .null, .null, .int 0, .null, .null, .null]) hx hb hw tq_inX11 tyX11 tyX11_ok nmX11 hown hK hR hS (by decide) rfl rfl 5 (by decide) (hw _ tw_342) (fun _ h9 => h9) (Or.inr ⟨rfl, hin2, rfl⟩) rfl rfl (by simp) rfl dX11_init_36 (fun H locs hR hS => ?_)
  refine lv_aload_n hx hb dX11_init_39 rfl (lv_at hl 0 rfl) ?_
  refine tqr_new (E1 := tqE11 z cy ad) (ci := 0) (fs := [.int 0, .null, .int 0]) hx hb hw tq_inJl tyJx4a65c tyJx4a65c_ok hown (hw _ tw_151) (hw _ tw_152) (hw _ tw_118) hK hR hS rfl (by decide) rfl rfl (Nat.le_of_ble_eq_true rfl) (Nat.le_of_ble_eq_true rfl) dX11_init_40 (fun H hR hS => ?_)
  refine lv_dup hx hb dX11_init_43 rfl ?_
  refine tqr_initL (E1 := tqE12 z cy ad) (j := 5) hx hb hml hl.1 hts hown (hw _ tw_153) hK hG hR hS (by decide) rfl rfl (Nat.le_of_ble_eq_true rfl) (Nat.le_of_ble_eq_true rfl) (Nat.le_of_ble_eq_true rfl) ⟨(Nat.le_of_ble_eq_true rfl), (Nat.le_of_ble_eq_true rfl)⟩ dX11_init_44 (fun H locs hR hS => ?_)
  refine tqr_put (E1 := tqE13 z cy ad) (j := 0) (fs := [.int 0, .ref (z + 1), .int 0, .ref (z + 2), .ref (z + 3), .ref (z + 4), .null, .null, .null, .null, .int 0, .null, .null, .null, .null, .null, .int 0, .null, .null, .null]) hx hb hw tq_inX11 tyX11 tyX11_ok nmX11 hown hK hR hS (by decide) rfl rfl 6 (by decide) (hw _ tw_343) (fun _ h9 => h9) (Or.inr ⟨rfl, hin2, rfl⟩) rfl rfl (by simp) rfl dX11_init_47 (fun H locs hR hS => ?_)
  refine lv_aload_n hx hb dX11_init_50 rfl (lv_at hl 0 rfl) ?_
  refine tqr_new (E1 := tqE14 z cy ad) (ci := 0) (fs := [.int 0, .null, .int 0]) hx hb hw tq_inJl tyJx4a65c tyJx4a65c_ok hown (hw _ tw_151) (hw _ tw_152) (hw _ tw_118) hK hR hS rfl (by decide) rfl rfl (Nat.le_of_ble_eq_true rfl) (Nat.le_of_ble_eq_true rfl) dX11_init_51 (fun H hR hS => ?_)
  refine lv_dup hx hb dX11_init_54 rfl ?_
  refine tqr_initL (E1 := tqE15 z cy ad) (j := 6) hx hb hml hl.1 hts hown (hw _ tw_153) hK hG hR hS (by decide) rfl rfl (Nat.le_of_ble_eq_true rfl) (Nat.le_of_ble_eq_true rfl) (Nat.le_of_ble_eq_true rfl) ⟨(Nat.le_of_ble_eq_true rfl), (Nat.le_of_ble_eq_true rfl)⟩ dX11_init_55 (fun H locs hR hS => ?_)
  refine tqr_put (E1 := tqE16 z cy ad) (j := 0) (fs := [.int 0, .ref (z + 1), .int 0, .ref (z + 2), .ref (z + 3), .ref (z + 4), .ref (z + 5), .null, .null, .null, .int 0, .null, .null, .null, .null, .null, .int 0, .null, .null, .null]) hx hb hw tq_inX11 tyX11 tyX11_ok nmX11 hown hK hR hS (by decide) rfl rfl 7 (by decide) (hw _ tw_344) (fun _ h9 => h9) (Or.inr ⟨rfl, hin2, rfl⟩) rfl rfl (by simp) rfl dX11_init_58 (fun H locs hR hS => ?_)
  refine lv_aload_n hx hb dX11_init_61 rfl (lv_at hl 0 rfl) ?_
  refine lv_iconst (v := 4) hx hb dX11_init_62 (by decide) ?_
  refine tqr_newa (E1 := tqE17 z cy ad) (N' := 4) (ty := .int) hx hb rfl (hw _ tw_177) hK hR hS 0 rfl (fun U x h9 => h9) (v := 4) (by decide) (by decide) (by decide) (fun _ => rfl) rfl rfl (Nat.le_of_ble_eq_true rfl) (Nat.le_of_ble_eq_true rfl) dX11_init_63 (fun H hR hS => ?_)
  refine tqr_put (E1 := tqE18 z cy ad) (j := 0) (fs := [.int 0, .ref (z + 1), .int 0, .ref (z + 2), .ref (z + 3), .ref (z + 4), .ref (z + 5), .ref (z + 6), .null, .null, .int 0, .null, .null, .null, .null, .null, .int 0, .null, .null, .null]) hx hb hw tq_inX11 tyX11 tyX11_ok nmX11 hown hK hR hS (by decide) rfl rfl 8 (by decide) (hw _ tw_345) (fun _ h9 => h9) (Or.inr ⟨rfl, hin2, rfl⟩) rfl rfl (by simp) rfl dX11_init_65 (fun H locs hR hS => ?_)
  refine lv_aload_n hx hb dX11_init_68 rfl (lv_at hl 0 rfl) ?_
  refine tqr_new (E1 := tqE19 z cy ad) (ci := 0) (fs := [.int 0, .null, .int 0]) hx hb hw tq_inJl tyJx4a65c tyJx4a65c_ok hown (hw _ tw_151) (hw _ tw_152) (hw _ tw_118) hK hR hS rfl (by decide) rfl rfl (Nat.le_of_ble_eq_true rfl) (Nat.le_of_ble_eq_true rfl) dX11_init_69 (fun H hR hS => ?_)
  refine lv_dup hx hb dX11_init_72 rfl ?_
  refine tqr_initL (E1 := tqE20 z cy ad) (j := 8) hx hb hml hl.1 hts hown (hw _ tw_153) hK hG hR hS (by decide) rfl rfl (Nat.le_of_ble_eq_true rfl) (Nat.le_of_ble_eq_true rfl) (Nat.le_of_ble_eq_true rfl) ⟨(Nat.le_of_ble_eq_true rfl), (Nat.le_of_ble_eq_true rfl)⟩ dX11_init_73 (fun H locs hR hS => ?_)
  refine tqr_put (E1 := tqE21 z cy ad) (j := 0) (fs := [.int 0, .ref (z + 1), .int 0, .ref (z + 2), .ref (z + 3), .ref (z + 4), .ref (z + 5), .ref (z + 6), .ref (z + 7), .null, .int 0, .null, .null, .null, .null, .null, .int 0, .null, .null, .null]) hx hb hw tq_inX11 tyX11 tyX11_ok nmX11 hown hK hR hS (by decide) rfl rfl 9 (by decide) (hw _ tw_346) (fun _ h9 => h9) (Or.inr ⟨rfl, hin2, rfl⟩) rfl rfl (by simp) rfl dX11_init_76 (fun H locs hR hS => ?_)
  refine lv_aload_n hx hb dX11_init_79 rfl (lv_at hl 0 rfl) ?_
  refine lv_sipush (v := 4000) hx hb dX11_init_80 (by decide) ?_
  refine tqr_newa (E1 := tqE22 z cy ad) (N' := 4000) (ty := .int) hx hb rfl (hw _ tw_177) hK hR hS 0 rfl (fun U x h9 => h9) (v := 4000) (by decide) (by decide) (by decide) (fun _ => rfl) rfl rfl (Nat.le_of_ble_eq_true rfl) (Nat.le_of_ble_eq_true rfl) dX11_init_83 (fun H hR hS => ?_)
  refine tqr_put (E1 := tqE23 z cy ad) (j := 0) (fs := [.int 0, .ref (z + 1), .int 0, .ref (z + 2), .ref (z + 3), .ref (z + 4), .ref (z + 5), .ref (z + 6), .ref (z + 7), .ref (z + 8), .int 0, .null, .null, .null, .null, .null, .int 0, .null, .null, .null]) hx hb hw tq_inX11 tyX11 tyX11_ok nmX11 hown hK hR hS (by decide) rfl rfl 11 (by decide) (hw _ tw_348) (fun _ h9 => h9) (Or.inr ⟨rfl, hin2, rfl⟩) rfl rfl (by simp) rfl dX11_init_85 (fun H locs hR hS => ?_)
  refine lv_aload_n hx hb dX11_init_88 rfl (lv_at hl 0 rfl) ?_
  refine tqr_new (E1 := tqE24 z cy ad) (ci := 7) (fs := [.null, .int 0, .int 0, .int 0]) hx hb hw tq_inX6 tyX6 tyX6_ok hown (hw _ tw_178) (hw _ tw_179) (hw _ tw_119) hK hR hS rfl (by decide) rfl rfl (Nat.le_of_ble_eq_true rfl) (Nat.le_of_ble_eq_true rfl) dX11_init_89 (fun H hR hS => ?_)
  refine lv_dup hx hb dX11_init_92 rfl ?_
  refine tqr_callIN (As := []) (rest := [.ref (z + 10), .ref (z + 0)]) kC_2 ⟨hx, hb, hml, hown, hts⟩ (⟨va_cnB 0 hts (tq_goodO tw_182) rfl rfl rfl (hG.2.2.2.2.2.2.2.2.1 ("TwoSeas", 46, yX6_init, "TwoSeas") (by decide)) (hw _ tw_119) (by decide +kernel) ⟨(Nat.le_of_ble_eq_true rfl), (Nat.le_of_ble_eq_true rfl)⟩, rfl, hw _ tw_181⟩) hK hG hR hS rfl hl.1 rfl (Nat.le_of_ble_eq_true rfl) dX11_init_93 ⟨(Nat.le_of_ble_eq_true rfl), (Nat.le_of_ble_eq_true rfl)⟩ (fun H locs hR hS => ?_)
  refine tqr_put (E1 := tqE27 z cy ad) (j := 0) (fs := [.int 0, .ref (z + 1), .int 0, .ref (z + 2), .ref (z + 3), .ref (z + 4), .ref (z + 5), .ref (z + 6), .ref (z + 7), .ref (z + 8), .int 0, .ref (z + 9), .null, .null, .null, .null, .int 0, .null, .null, .null]) hx hb hw tq_inX11 tyX11 tyX11_ok nmX11 hown hK hR hS (by decide) rfl rfl 12 (by decide) (hw _ tw_349) (fun _ h9 => h9) (Or.inr ⟨rfl, hin2, rfl⟩) rfl rfl (by simp) rfl dX11_init_96 (fun H locs hR hS => ?_)
  refine lv_aload_n hx hb dX11_init_99 rfl (lv_at hl 0 rfl) ?_
  refine tqr_new (E1 := tqE28 z cy ad) (ci := 3) (fs := [.null, .null, .null, .null, .int 0]) hx hb hw tq_inX2 tyX2 tyX2_ok hown (hw _ tw_198) (hw _ tw_199) (hw _ tw_120) hK hR hS rfl (by decide) rfl rfl (Nat.le_of_ble_eq_true rfl) (Nat.le_of_ble_eq_true rfl) dX11_init_100 (fun H hR hS => ?_)
  refine lv_dup hx hb dX11_init_103 rfl ?_
  refine tqr_callIN (As := []) (rest := [.ref (z + 12), .ref (z + 0)]) kC_3 ⟨hx, hb, hml, hown, hts⟩ (⟨va_cnB 0 hts (tq_goodO tw_202) rfl rfl rfl (hG.2.2.2.2.2.2.2.2.1 ("TwoSeas", 53, yX2_init, "TwoSeas") (by decide)) (hw _ tw_120) (by decide +kernel) ⟨(Nat.le_of_ble_eq_true rfl), (Nat.le_of_ble_eq_true rfl)⟩, rfl, hw _ tw_201⟩) hK hG hR hS rfl hl.1 rfl (Nat.le_of_ble_eq_true rfl) dX11_init_104 ⟨(Nat.le_of_ble_eq_true rfl), (Nat.le_of_ble_eq_true rfl)⟩ (fun H locs hR hS => ?_)
  refine tqr_put (E1 := tqE37 z cy ad) (j := 0) (fs := [.int 0, .ref (z + 1), .int 0, .ref (z + 2), .ref (z + 3), .ref (z + 4), .ref (z + 5), .ref (z + 6), .ref (z + 7), .ref (z + 8), .int 0, .ref (z + 9), .ref (z + 10), .null, .null, .null, .int 0, .null, .null, .null]) hx hb hw tq_inX11 tyX11 tyX11_ok nmX11 hown hK hR hS (by decide) rfl rfl 13 (by decide) (hw _ tw_350) (fun _ h9 => h9) (Or.inr ⟨rfl, hin2, rfl⟩) rfl rfl (by simp) rfl dX11_init_107 (fun H locs hR hS => ?_)
  refine lv_aload_n hx hb dX11_init_110 rfl (lv_at hl 0 rfl) ?_
  refine lv_bipush (v := 8) hx hb dX11_init_111 (by decide) ?_
  refine tqr_newa (E1 := tqE38 z cy ad) (N' := 8) (ty := .int) hx hb rfl (hw _ tw_177) hK hR hS 0 rfl (fun U x h9 => h9) (v := 8) (by decide) (by decide) (by decide) (fun _ => rfl) rfl rfl (Nat.le_of_ble_eq_true rfl) (Nat.le_of_ble_eq_true rfl) dX11_init_113 (fun H hR hS => ?_)
  refine tqr_put (E1 := tqE39 z cy ad) (j := 0) (fs := [.int 0, .ref (z + 1), .int 0, .ref (z + 2), .ref (z + 3), .ref (z + 4), .ref (z + 5), .ref (z + 6), .ref (z + 7), .ref (z + 8), .int 0, .ref (z + 9), .ref (z + 10), .ref (z + 12), .null, .null, .int 0, .null, .null, .null]) hx hb hw tq_inX11 tyX11 tyX11_ok nmX11 hown hK hR hS (by decide) rfl rfl 14 (by decide) (hw _ tw_351) (fun _ h9 => h9) (Or.inr ⟨rfl, hin2, rfl⟩) rfl rfl (by simp) rfl dX11_init_115 (fun H locs hR hS => ?_)
  refine lv_aload_n hx hb dX11_init_118 rfl (lv_at hl 0 rfl) ?_
  refine lv_bipush (v := 8) hx hb dX11_init_119 (by decide) ?_
  refine tqr_newa (E1 := tqE40 z cy ad) (N' := 8) (ty := .int) hx hb rfl (hw _ tw_177) hK hR hS 0 rfl (fun U x h9 => h9) (v := 8) (by decide) (by decide) (by decide) (fun _ => rfl) rfl rfl (Nat.le_of_ble_eq_true rfl) (Nat.le_of_ble_eq_true rfl) dX11_init_121 (fun H hR hS => ?_)
  refine tqr_put (E1 := tqE41 z cy ad) (j := 0) (fs := [.int 0, .ref (z + 1), .int 0, .ref (z + 2), .ref (z + 3), .ref (z + 4), .ref (z + 5), .ref (z + 6), .ref (z + 7), .ref (z + 8), .int 0, .ref (z + 9), .ref (z + 10), .ref (z + 12), .ref (z + 29), .null, .int 0, .null, .null, .null]) hx hb hw tq_inX11 tyX11 tyX11_ok nmX11 hown hK hR hS (by decide) rfl rfl 15 (by decide) (hw _ tw_352) (fun _ h9 => h9) (Or.inr ⟨rfl, hin2, rfl⟩) rfl rfl (by simp) rfl dX11_init_123 (fun H locs hR hS => ?_)
  refine lv_aload_n hx hb dX11_init_126 rfl (lv_at hl 0 rfl) ?_
  refine lv_iconst (v := 4) hx hb dX11_init_127 (by decide) ?_
  refine lv_iconst (v := 4) hx hb dX11_init_128 (by decide) ?_
  refine tqr_multi (E1 := tqE42 z cy ad) (N' := 4) (K' := 4) (n1 := 36) hx hb hown (by rw [tq_sII]; exact hw _ tw_226) hG.2.2.2.2.2.2.2.2.2.2.2.2.1 (hw _ tw_177) hK hR hS (v := 4) (w := 4) (by decide) (by decide) (by decide) (by decide) (by decide) (by decide) rfl rfl (Nat.le_of_ble_eq_true rfl) (Nat.le_of_ble_eq_true rfl) dX11_init_129 (fun H hR hS => ?_)
  refine tqr_put (E1 := tqE43 z cy ad) (j := 0) (fs := [.int 0, .ref (z + 1), .int 0, .ref (z + 2), .ref (z + 3), .ref (z + 4), .ref (z + 5), .ref (z + 6), .ref (z + 7), .ref (z + 8), .int 0, .ref (z + 9), .ref (z + 10), .ref (z + 12), .ref (z + 29), .ref (z + 30), .int 0, .null, .null, .null]) hx hb hw tq_inX11 tyX11 tyX11_ok nmX11 hown hK hR hS (by decide) rfl rfl 17 (by decide) (hw _ tw_354) (fun _ h9 => h9) (Or.inr ⟨rfl, hin2, rfl⟩) rfl rfl (by simp) rfl dX11_init_133 (fun H locs hR hS => ?_)
  refine lv_aload_n hx hb dX11_init_136 rfl (lv_at hl 0 rfl) ?_
  refine tqr_new (E1 := tqE44 z cy ad) (ci := 1) (fs := [.null, .int 0]) hx hb hw tq_inX0 tyX0 tyX0_ok hown (hw _ tw_227) (hw _ tw_228) (hw _ tw_121) hK hR hS rfl (by decide) rfl rfl (Nat.le_of_ble_eq_true rfl) (Nat.le_of_ble_eq_true rfl) dX11_init_137 (fun H hR hS => ?_)
  refine lv_dup hx hb dX11_init_140 rfl ?_
  refine tqr_callIN (As := []) (rest := [.ref (z + 36), .ref (z + 0)]) kC_4 ⟨hx, hb, hml, hown, hts⟩ (⟨va_cnB 0 hts (tq_goodO tw_231) rfl rfl rfl (hG.2.2.2.2.2.2.2.2.1 ("TwoSeas", 71, yX0_init, "TwoSeas") (by decide)) (hw _ tw_121) (by decide +kernel) ⟨(Nat.le_of_ble_eq_true rfl), (Nat.le_of_ble_eq_true rfl)⟩, rfl, hw _ tw_230⟩) hK hG hR hS rfl hl.1 rfl (Nat.le_of_ble_eq_true rfl) dX11_init_141 ⟨(Nat.le_of_ble_eq_true rfl), (Nat.le_of_ble_eq_true rfl)⟩ (fun H locs hR hS => ?_)
  refine tqr_put (E1 := tqE47 z cy ad) (j := 0) (fs := [.int 0, .ref (z + 1), .int 0, .ref (z + 2), .ref (z + 3), .ref (z + 4), .ref (z + 5), .ref (z + 6), .ref (z + 7), .ref (z + 8), .int 0, .ref (z + 9), .ref (z + 10), .ref (z + 12), .ref (z + 29), .ref (z + 30), .int 0, .ref (z + 31), .null, .null]) hx hb hw tq_inX11 tyX11 tyX11_ok nmX11 hown hK hR hS (by decide) rfl rfl 18 (by decide) (hw _ tw_355) (fun _ h9 => h9) (Or.inr ⟨rfl, hin2, rfl⟩) rfl rfl (by simp) rfl dX11_init_144 (fun H locs hR hS => ?_)
  refine lv_aload_n hx hb dX11_init_147 rfl (lv_at hl 0 rfl) ?_
  refine lv_iconst (v := 3) hx hb dX11_init_148 (by decide) ?_
  refine tqr_anew (E1 := tqE48 z cy ad) (N' := 3) (C := "TwoSeas$Sheet") hx hb hown (hw _ tw_242) (hG.2.2.2.2.2.2.2.2.2.2.2.1 "TwoSeas$Sheet" (by decide)) hK hR hS 4 rfl (v := 3) (by decide) (by decide) (by decide) rfl rfl (Nat.le_of_ble_eq_true rfl) (Nat.le_of_ble_eq_true rfl) dX11_init_149 (fun H hR hS => ?_)
  refine tqr_put (E1 := tqE49 z cy ad) (j := 0) (fs := [.int 0, .ref (z + 1), .int 0, .ref (z + 2), .ref (z + 3), .ref (z + 4), .ref (z + 5), .ref (z + 6), .ref (z + 7), .ref (z + 8), .int 0, .ref (z + 9), .ref (z + 10), .ref (z + 12), .ref (z + 29), .ref (z + 30), .int 0, .ref (z + 31), .ref (z + 36), .null]) hx hb hw tq_inX11 tyX11 tyX11_ok nmX11 hown hK hR hS (by decide) rfl rfl 19 (by decide) (hw _ tw_356) (fun _ h9 => h9) (Or.inr ⟨rfl, hin2, rfl⟩) rfl rfl (by simp) rfl dX11_init_152 (fun H locs hR hS => ?_)
  refine lv_iconst (v := 0) hx hb dX11_init_155 (by decide) ?_
  refine lv_istore_n (lv' := [(1, .int 0), (0, .ref (z + 0))]) hx hb dX11_init_156 rfl hl (by decide) rfl (fun ls hl => ?_)
  refine lv_iload_n hx hb dX11_init_157 rfl (lv_at hl 0 rfl) ?_
  refine lv_iconst (v := 5) hx hb dX11_init_158 (by decide) ?_
  refine lv_icmp_ge (tgt := 182) hx hb dX11_init_159 (by decide) (fun q => absurd q (by decide)) (fun _ => ?_)
  refine lv_aload_n hx hb dX11_init_162 rfl (lv_at hl 1 rfl) ?_
  refine tqr_get (v := .ref (z + 1)) (j := 0) (fs := [.int 0, .ref (z + 1), .int 0, .ref (z + 2), .ref (z + 3), .ref (z + 4), .ref (z + 5), .ref (z + 6), .ref (z + 7), .ref (z + 8), .int 0, .ref (z + 9), .ref (z + 10), .ref (z + 12), .ref (z + 29), .ref (z + 30), .int 0, .ref (z + 31), .ref (z + 36), .ref (z + 38)]) hx hb hw tq_inX11 hown hK hR (by decide) rfl rfl 1 (by decide) (hw _ tw_338) (fun _ h9 => h9) rfl dX11_init_163 ?_
  refine lv_iload_n hx hb dX11_init_166 rfl (lv_at hl 0 rfl) ?_
  refine tqr_new (E1 := tqE50 z cy ad) (ci := 6) (fs := [.int 0, .int 0, .null, .int 0, .int 0, .int 0, .null, .null, .int 0, .null, .null, .null, .null, .null, .null, .null, .int 0]) hx hb hw tq_inX5 tyX5 tyX5_ok hown (hw _ tw_149) (hw _ tw_244) (hw _ tw_122) hK hR hS rfl (by decide) rfl rfl (Nat.le_of_ble_eq_true rfl) (Nat.le_of_ble_eq_true rfl) dX11_init_167 (fun H hR hS => ?_)
  refine lv_dup hx hb dX11_init_170 rfl ?_
  refine lv_iload_n hx hb dX11_init_171 rfl (lv_at hl 0 rfl) ?_
  refine tqr_callI (As := [.int 0]) (rest := [.ref (z + 39), .int 0, .ref (z + 1)]) kC_5 ⟨hx, hb, hml, hown, hts⟩ (cwI 1 hts (tq_goodO tw_247) rfl rfl rfl (hw _ tw_122) (hw _ tw_245) (hw _ tw_246) rfl (by decide +kernel) ⟨(Nat.le_of_ble_eq_true rfl), (Nat.le_of_ble_eq_true rfl)⟩) hK hG hR hS rfl hl.1 rfl (Nat.le_of_ble_eq_true rfl) dX11_init_172 ⟨(Nat.le_of_ble_eq_true rfl), (Nat.le_of_ble_eq_true rfl)⟩ (fun H locs hR hS => ?_)
  refine tqr_aast (E1 := tqE79 z cy ad) (j := 1) (jv := 39) (len := 5) (ci := 6) (f := (fun _ => none)) (f1 := (va_up (fun _ => none) 0 (some (z + 39)))) (vs := [.int 0, .int 0, .ref (z + 40), .int 120, .int 120, .int 0, .ref (z + 41), .ref (z + 42), .int 0, .ref (z + 43), .ref (z + 44), .ref (z + 45), .ref (z + 46), .ref (z + 47), .ref (z + 48), .null, .int (-1)]) hx hb hK hR hS (by decide) rfl 3 rfl (by decide) rfl rfl (by unfold vp_in; decide) rfl rfl dX11_init_175 (fun H locs hR hS => ?_)
  refine lv_iinc (v := 1) (lv' := [(1, .int 1), (0, .ref (z + 0))]) hx hb dX11_init_176 hl (k := 0) rfl rfl (by decide) rfl (fun ls hl => ?_)
  refine lv_goto (tgt := 157) hx hb dX11_init_179 (by decide) ?_
  refine lv_iload_n hx hb dX11_init_157 rfl (lv_at hl 0 rfl) ?_
  refine lv_iconst (v := 5) hx hb dX11_init_158 (by decide) ?_
  refine lv_icmp_ge (tgt := 182) hx hb dX11_init_159 (by decide) (fun q => absurd q (by decide)) (fun _ => ?_)
  refine lv_aload_n hx hb dX11_init_162 rfl (lv_at hl 1 rfl) ?_
  refine tqr_get (v := .ref (z + 1)) (j := 0) (fs := [.int 0, .ref (z + 1), .int 0, .ref (z + 2), .ref (z + 3), .ref (z + 4), .ref (z + 5), .ref (z + 6), .ref (z + 7), .ref (z + 8), .int 0, .ref (z + 9), .ref (z + 10), .ref (z + 12), .ref (z + 29), .ref (z + 30), .int 0, .ref (z + 31), .ref (z + 36), .ref (z + 38)]) hx hb hw tq_inX11 hown hK hR (by decide) rfl rfl 1 (by decide) (hw _ tw_338) (fun _ h9 => h9) rfl dX11_init_163 ?_
  refine lv_iload_n hx hb dX11_init_166 rfl (lv_at hl 0 rfl) ?_
  refine tqr_new (E1 := tqE80 z cy ad) (ci := 6) (fs := [.int 0, .int 0, .null, .int 0, .int 0, .int 0, .null, .null, .int 0, .null, .null, .null, .null, .null, .null, .null, .int 0]) hx hb hw tq_inX5 tyX5 tyX5_ok hown (hw _ tw_149) (hw _ tw_244) (hw _ tw_122) hK hR hS rfl (by decide) rfl rfl (Nat.le_of_ble_eq_true rfl) (Nat.le_of_ble_eq_true rfl) dX11_init_167 (fun H hR hS => ?_)
  refine lv_dup hx hb dX11_init_170 rfl ?_
  refine lv_iload_n hx hb dX11_init_171 rfl (lv_at hl 0 rfl) ?_
  refine tqr_callI (As := [.int 1]) (rest := [.ref (z + 49), .int 1, .ref (z + 1)]) kC_6 ⟨hx, hb, hml, hown, hts⟩ (cwI 1 hts (tq_goodO tw_247) rfl rfl rfl (hw _ tw_122) (hw _ tw_245) (hw _ tw_246) rfl (by decide +kernel) ⟨(Nat.le_of_ble_eq_true rfl), (Nat.le_of_ble_eq_true rfl)⟩) hK hG hR hS rfl hl.1 rfl (Nat.le_of_ble_eq_true rfl) dX11_init_172 ⟨(Nat.le_of_ble_eq_true rfl), (Nat.le_of_ble_eq_true rfl)⟩ (fun H locs hR hS => ?_)
  refine tqr_aast (E1 := tqE109 z cy ad) (j := 1) (jv := 49) (len := 5) (ci := 6) (f := (va_up (fun _ => none) 0 (some (z + 39)))) (f1 := (va_up (va_up (fun _ => none) 0 (some (z + 39))) 1 (some (z + 49)))) (vs := [.int 1, .int 0, .ref (z + 50), .int 120, .int 120, .int 0, .ref (z + 51), .ref (z + 52), .int 0, .ref (z + 53), .ref (z + 54), .ref (z + 55), .ref (z + 56), .ref (z + 57), .ref (z + 58), .null, .int (-1)]) hx hb hK hR hS (by decide) rfl 3 rfl (by decide) rfl rfl (by unfold vp_in; decide) rfl rfl dX11_init_175 (fun H locs hR hS => ?_)
  refine lv_iinc (v := 2) (lv' := [(1, .int 2), (0, .ref (z + 0))]) hx hb dX11_init_176 hl (k := 0) rfl rfl (by decide) rfl (fun ls hl => ?_)
  refine lv_goto (tgt := 157) hx hb dX11_init_179 (by decide) ?_
  refine lv_iload_n hx hb dX11_init_157 rfl (lv_at hl 0 rfl) ?_
  refine lv_iconst (v := 5) hx hb dX11_init_158 (by decide) ?_
  refine lv_icmp_ge (tgt := 182) hx hb dX11_init_159 (by decide) (fun q => absurd q (by decide)) (fun _ => ?_)
  refine lv_aload_n hx hb dX11_init_162 rfl (lv_at hl 1 rfl) ?_
  refine tqr_get (v := .ref (z + 1)) (j := 0) (fs := [.int 0, .ref (z + 1), .int 0, .ref (z + 2), .ref (z + 3), .ref (z + 4), .ref (z + 5), .ref (z + 6), .ref (z + 7), .ref (z + 8), .int 0, .ref (z + 9), .ref (z + 10), .ref (z + 12), .ref (z + 29), .ref (z + 30), .int 0, .ref (z + 31), .ref (z + 36), .ref (z + 38)]) hx hb hw tq_inX11 hown hK hR (by decide) rfl rfl 1 (by decide) (hw _ tw_338) (fun _ h9 => h9) rfl dX11_init_163 ?_
  refine lv_iload_n hx hb dX11_init_166 rfl (lv_at hl 0 rfl) ?_
  refine tqr_new (E1 := tqE110 z cy ad) (ci := 6) (fs := [.int 0, .int 0, .null, .int 0, .int 0, .int 0, .null, .null, .int 0, .null, .null, .null, .null, .null, .null, .null, .int 0]) hx hb hw tq_inX5 tyX5 tyX5_ok hown (hw _ tw_149) (hw _ tw_244) (hw _ tw_122) hK hR hS rfl (by decide) rfl rfl (Nat.le_of_ble_eq_true rfl) (Nat.le_of_ble_eq_true rfl) dX11_init_167 (fun H hR hS => ?_)
  refine lv_dup hx hb dX11_init_170 rfl ?_
  refine lv_iload_n hx hb dX11_init_171 rfl (lv_at hl 0 rfl) ?_
  refine tqr_callI (As := [.int 2]) (rest := [.ref (z + 59), .int 2, .ref (z + 1)]) kC_7 ⟨hx, hb, hml, hown, hts⟩ (cwI 1 hts (tq_goodO tw_247) rfl rfl rfl (hw _ tw_122) (hw _ tw_245) (hw _ tw_246) rfl (by decide +kernel) ⟨(Nat.le_of_ble_eq_true rfl), (Nat.le_of_ble_eq_true rfl)⟩) hK hG hR hS rfl hl.1 rfl (Nat.le_of_ble_eq_true rfl) dX11_init_172 ⟨(Nat.le_of_ble_eq_true rfl), (Nat.le_of_ble_eq_true rfl)⟩ (fun H locs hR hS => ?_)
  refine tqr_aast (E1 := tqE139 z cy ad) (j := 1) (jv := 59) (len := 5) (ci := 6) (f := (va_up (va_up (fun _ => none) 0 (some (z + 39))) 1 (some (z + 49)))) (f1 := (va_up (va_up (va_up (fun _ => none) 0 (some (z + 39))) 1 (some (z + 49))) 2 (some (z + 59)))) (vs := [.int 2, .int 0, .ref (z + 60), .int 120, .int 120, .int 0, .ref (z + 61), .ref (z + 62), .int 0, .ref (z + 63), .ref (z + 64), .ref (z + 65), .ref (z + 66), .ref (z + 67), .ref (z + 68), .null, .int (-1)]) hx hb hK hR hS (by decide) rfl 3 rfl (by decide) rfl rfl (by unfold vp_in; decide) rfl rfl dX11_init_175 (fun H locs hR hS => ?_)
  refine lv_iinc (v := 3) (lv' := [(1, .int 3), (0, .ref (z + 0))]) hx hb dX11_init_176 hl (k := 0) rfl rfl (by decide) rfl (fun ls hl => ?_)
  refine lv_goto (tgt := 157) hx hb dX11_init_179 (by decide) ?_
  refine lv_iload_n hx hb dX11_init_157 rfl (lv_at hl 0 rfl) ?_
  refine lv_iconst (v := 5) hx hb dX11_init_158 (by decide) ?_
  refine lv_icmp_ge (tgt := 182) hx hb dX11_init_159 (by decide) (fun q => absurd q (by decide)) (fun _ => ?_)
  refine lv_aload_n hx hb dX11_init_162 rfl (lv_at hl 1 rfl) ?_
  refine tqr_get (v := .ref (z + 1)) (j := 0) (fs := [.int 0, .ref (z + 1), .int 0, .ref (z + 2), .ref (z + 3), .ref (z + 4), .ref (z + 5), .ref (z + 6), .ref (z + 7), .ref (z + 8), .int 0, .ref (z + 9), .ref (z + 10), .ref (z + 12), .ref (z + 29), .ref (z + 30), .int 0, .ref (z + 31), .ref (z + 36), .ref (z + 38)]) hx hb hw tq_inX11 hown hK hR (by decide) rfl rfl 1 (by decide) (hw _ tw_338) (fun _ h9 => h9) rfl dX11_init_163 ?_
  refine lv_iload_n hx hb dX11_init_166 rfl (lv_at hl 0 rfl) ?_
  refine tqr_new (E1 := tqE140 z cy ad) (ci := 6) (fs := [.int 0, .int 0, .null, .int 0, .int 0, .int 0, .null, .null, .int 0, .null, .null, .null, .null, .null, .null, .null, .int 0]) hx hb hw tq_inX5 tyX5 tyX5_ok hown (hw _ tw_149) (hw _ tw_244) (hw _ tw_122) hK hR hS rfl (by decide) rfl rfl (Nat.le_of_ble_eq_true rfl) (Nat.le_of_ble_eq_true rfl) dX11_init_167 (fun H hR hS => ?_)
  refine lv_dup hx hb dX11_init_170 rfl ?_
  refine lv_iload_n hx hb dX11_init_171 rfl (lv_at hl 0 rfl) ?_
  refine tqr_callI (As := [.int 3]) (rest := [.ref (z + 69), .int 3, .ref (z + 1)]) kC_8 ⟨hx, hb, hml, hown, hts⟩ (cwI 1 hts (tq_goodO tw_247) rfl rfl rfl (hw _ tw_122) (hw _ tw_245) (hw _ tw_246) rfl (by decide +kernel) ⟨(Nat.le_of_ble_eq_true rfl), (Nat.le_of_ble_eq_true rfl)⟩) hK hG hR hS rfl hl.1 rfl (Nat.le_of_ble_eq_true rfl) dX11_init_172 ⟨(Nat.le_of_ble_eq_true rfl), (Nat.le_of_ble_eq_true rfl)⟩ (fun H locs hR hS => ?_)
  refine tqr_aast (E1 := tqE169 z cy ad) (j := 1) (jv := 69) (len := 5) (ci := 6) (f := (va_up (va_up (va_up (fun _ => none) 0 (some (z + 39))) 1 (some (z + 49))) 2 (some (z + 59)))) (f1 := (va_up (va_up (va_up (va_up (fun _ => none) 0 (some (z + 39))) 1 (some (z + 49))) 2 (some (z + 59))) 3 (some (z + 69)))) (vs := [.int 3, .int 0, .ref (z + 70), .int 120, .int 120, .int 0, .ref (z + 71), .ref (z + 72), .int 0, .ref (z + 73), .ref (z + 74), .ref (z + 75), .ref (z + 76), .ref (z + 77), .ref (z + 78), .null, .int (-1)]) hx hb hK hR hS (by decide) rfl 3 rfl (by decide) rfl rfl (by unfold vp_in; decide) rfl rfl dX11_init_175 (fun H locs hR hS => ?_)
  refine lv_iinc (v := 4) (lv' := [(1, .int 4), (0, .ref (z + 0))]) hx hb dX11_init_176 hl (k := 0) rfl rfl (by decide) rfl (fun ls hl => ?_)
  refine lv_goto (tgt := 157) hx hb dX11_init_179 (by decide) ?_
  refine lv_iload_n hx hb dX11_init_157 rfl (lv_at hl 0 rfl) ?_
  refine lv_iconst (v := 5) hx hb dX11_init_158 (by decide) ?_
  refine lv_icmp_ge (tgt := 182) hx hb dX11_init_159 (by decide) (fun q => absurd q (by decide)) (fun _ => ?_)
  refine lv_aload_n hx hb dX11_init_162 rfl (lv_at hl 1 rfl) ?_
  refine tqr_get (v := .ref (z + 1)) (j := 0) (fs := [.int 0, .ref (z + 1), .int 0, .ref (z + 2), .ref (z + 3), .ref (z + 4), .ref (z + 5), .ref (z + 6), .ref (z + 7), .ref (z + 8), .int 0, .ref (z + 9), .ref (z + 10), .ref (z + 12), .ref (z + 29), .ref (z + 30), .int 0, .ref (z + 31), .ref (z + 36), .ref (z + 38)]) hx hb hw tq_inX11 hown hK hR (by decide) rfl rfl 1 (by decide) (hw _ tw_338) (fun _ h9 => h9) rfl dX11_init_163 ?_
  refine lv_iload_n hx hb dX11_init_166 rfl (lv_at hl 0 rfl) ?_
  refine tqr_new (E1 := tqE170 z cy ad) (ci := 6) (fs := [.int 0, .int 0, .null, .int 0, .int 0, .int 0, .null, .null, .int 0, .null, .null, .null, .null, .null, .null, .null, .int 0]) hx hb hw tq_inX5 tyX5 tyX5_ok hown (hw _ tw_149) (hw _ tw_244) (hw _ tw_122) hK hR hS rfl (by decide) rfl rfl (Nat.le_of_ble_eq_true rfl) (Nat.le_of_ble_eq_true rfl) dX11_init_167 (fun H hR hS => ?_)
  refine lv_dup hx hb dX11_init_170 rfl ?_
  refine lv_iload_n hx hb dX11_init_171 rfl (lv_at hl 0 rfl) ?_
  refine tqr_callI (As := [.int 4]) (rest := [.ref (z + 79), .int 4, .ref (z + 1)]) kC_9 ⟨hx, hb, hml, hown, hts⟩ (cwI 1 hts (tq_goodO tw_247) rfl rfl rfl (hw _ tw_122) (hw _ tw_245) (hw _ tw_246) rfl (by decide +kernel) ⟨(Nat.le_of_ble_eq_true rfl), (Nat.le_of_ble_eq_true rfl)⟩) hK hG hR hS rfl hl.1 rfl (Nat.le_of_ble_eq_true rfl) dX11_init_172 ⟨(Nat.le_of_ble_eq_true rfl), (Nat.le_of_ble_eq_true rfl)⟩ (fun H locs hR hS => ?_)
  refine tqr_aast (E1 := tqE199 z cy ad) (j := 1) (jv := 79) (len := 5) (ci := 6) (f := (va_up (va_up (va_up (va_up (fun _ => none) 0 (some (z + 39))) 1 (some (z + 49))) 2 (some (z + 59))) 3 (some (z + 69)))) (f1 := (va_up (va_up (va_up (va_up (va_up (fun _ => none) 0 (some (z + 39))) 1 (some (z + 49))) 2 (some (z + 59))) 3 (some (z + 69))) 4 (some (z + 79)))) (vs := [.int 4, .int 0, .ref (z + 80), .int 120, .int 120, .int 0, .ref (z + 81), .ref (z + 82), .int 0, .ref (z + 83), .ref (z + 84), .ref (z + 85), .ref (z + 86), .ref (z + 87), .ref (z + 88), .null, .int (-1)]) hx hb hK hR hS (by decide) rfl 3 rfl (by decide) rfl rfl (by unfold vp_in; decide) rfl rfl dX11_init_175 (fun H locs hR hS => ?_)
  refine lv_iinc (v := 5) (lv' := [(1, .int 5), (0, .ref (z + 0))]) hx hb dX11_init_176 hl (k := 0) rfl rfl (by decide) rfl (fun ls hl => ?_)
  refine lv_goto (tgt := 157) hx hb dX11_init_179 (by decide) ?_
  refine lv_iload_n hx hb dX11_init_157 rfl (lv_at hl 0 rfl) ?_
  refine lv_iconst (v := 5) hx hb dX11_init_158 (by decide) ?_
  refine lv_icmp_ge (tgt := 182) hx hb dX11_init_159 (by decide) (fun _ => ?_) (fun q => absurd (by decide) q)
  refine lv_iconst (v := 0) hx hb dX11_init_182 (by decide) ?_
  refine lv_istore_n (lv' := [(1, .int 0), (0, .ref (z + 0))]) hx hb dX11_init_183 rfl hl (by decide) rfl (fun ls hl => ?_)
  refine lv_iload_n hx hb dX11_init_184 rfl (lv_at hl 0 rfl) ?_
  refine lv_iconst (v := 3) hx hb dX11_init_185 (by decide) ?_
  refine lv_icmp_ge (tgt := 208) hx hb dX11_init_186 (by decide) (fun q => absurd q (by decide)) (fun _ => ?_)
  refine lv_aload_n hx hb dX11_init_189 rfl (lv_at hl 1 rfl) ?_
  refine tqr_get (v := .ref (z + 38)) (j := 0) (fs := [.int 0, .ref (z + 1), .int 0, .ref (z + 2), .ref (z + 3), .ref (z + 4), .ref (z + 5), .ref (z + 6), .ref (z + 7), .ref (z + 8), .int 0, .ref (z + 9), .ref (z + 10), .ref (z + 12), .ref (z + 29), .ref (z + 30), .int 0, .ref (z + 31), .ref (z + 36), .ref (z + 38)]) hx hb hw tq_inX11 hown hK hR (by decide) rfl rfl 19 (by decide) (hw _ tw_356) (fun _ h9 => h9) rfl dX11_init_190 ?_
  refine lv_iload_n hx hb dX11_init_193 rfl (lv_at hl 0 rfl) ?_
  refine tqr_new (E1 := tqE200 z cy ad) (ci := 8) (fs := [.int 0, .int 0, .null]) hx hb hw tq_inX7 tyX7 tyX7_ok hown (hw _ tw_242) (hw _ tw_317) (hw _ tw_123) hK hR hS rfl (by decide) rfl rfl (Nat.le_of_ble_eq_true rfl) (Nat.le_of_ble_eq_true rfl) dX11_init_194 (fun H hR hS => ?_)
  refine lv_dup hx hb dX11_init_197 rfl ?_
  refine tqr_callIN (As := []) (rest := [.ref (z + 89), .int 0, .ref (z + 38)]) kC_10 ⟨hx, hb, hml, hown, hts⟩ (⟨va_cnB 0 hts (tq_goodO tw_320) rfl rfl rfl (hG.2.2.2.2.2.2.2.2.1 ("TwoSeas", 85, yX7_init, "TwoSeas") (by decide)) (hw _ tw_123) (by decide +kernel) ⟨(Nat.le_of_ble_eq_true rfl), (Nat.le_of_ble_eq_true rfl)⟩, rfl, hw _ tw_319⟩) hK hG hR hS rfl hl.1 rfl (Nat.le_of_ble_eq_true rfl) dX11_init_198 ⟨(Nat.le_of_ble_eq_true rfl), (Nat.le_of_ble_eq_true rfl)⟩ (fun H locs hR hS => ?_)
  refine tqr_aast (E1 := tqE204 z cy ad) (j := 38) (jv := 89) (len := 3) (ci := 8) (f := (fun _ => none)) (f1 := (va_up (fun _ => none) 0 (some (z + 89)))) (vs := [.int (-1), .int 0, .ref (z + 90)]) hx hb hK hR hS (by decide) rfl 4 rfl (by decide) rfl rfl (by unfold vp_in; decide) rfl rfl dX11_init_201 (fun H locs hR hS => ?_)
  refine lv_iinc (v := 1) (lv' := [(1, .int 1), (0, .ref (z + 0))]) hx hb dX11_init_202 hl (k := 0) rfl rfl (by decide) rfl (fun ls hl => ?_)
  refine lv_goto (tgt := 184) hx hb dX11_init_205 (by decide) ?_
  refine lv_iload_n hx hb dX11_init_184 rfl (lv_at hl 0 rfl) ?_
  refine lv_iconst (v := 3) hx hb dX11_init_185 (by decide) ?_
  refine lv_icmp_ge (tgt := 208) hx hb dX11_init_186 (by decide) (fun q => absurd q (by decide)) (fun _ => ?_)
  refine lv_aload_n hx hb dX11_init_189 rfl (lv_at hl 1 rfl) ?_
  refine tqr_get (v := .ref (z + 38)) (j := 0) (fs := [.int 0, .ref (z + 1), .int 0, .ref (z + 2), .ref (z + 3), .ref (z + 4), .ref (z + 5), .ref (z + 6), .ref (z + 7), .ref (z + 8), .int 0, .ref (z + 9), .ref (z + 10), .ref (z + 12), .ref (z + 29), .ref (z + 30), .int 0, .ref (z + 31), .ref (z + 36), .ref (z + 38)]) hx hb hw tq_inX11 hown hK hR (by decide) rfl rfl 19 (by decide) (hw _ tw_356) (fun _ h9 => h9) rfl dX11_init_190 ?_
  refine lv_iload_n hx hb dX11_init_193 rfl (lv_at hl 0 rfl) ?_
  refine tqr_new (E1 := tqE205 z cy ad) (ci := 8) (fs := [.int 0, .int 0, .null]) hx hb hw tq_inX7 tyX7 tyX7_ok hown (hw _ tw_242) (hw _ tw_317) (hw _ tw_123) hK hR hS rfl (by decide) rfl rfl (Nat.le_of_ble_eq_true rfl) (Nat.le_of_ble_eq_true rfl) dX11_init_194 (fun H hR hS => ?_)
  refine lv_dup hx hb dX11_init_197 rfl ?_
  refine tqr_callIN (As := []) (rest := [.ref (z + 91), .int 1, .ref (z + 38)]) kC_11 ⟨hx, hb, hml, hown, hts⟩ (⟨va_cnB 0 hts (tq_goodO tw_320) rfl rfl rfl (hG.2.2.2.2.2.2.2.2.1 ("TwoSeas", 85, yX7_init, "TwoSeas") (by decide)) (hw _ tw_123) (by decide +kernel) ⟨(Nat.le_of_ble_eq_true rfl), (Nat.le_of_ble_eq_true rfl)⟩, rfl, hw _ tw_319⟩) hK hG hR hS rfl hl.1 rfl (Nat.le_of_ble_eq_true rfl) dX11_init_198 ⟨(Nat.le_of_ble_eq_true rfl), (Nat.le_of_ble_eq_true rfl)⟩ (fun H locs hR hS => ?_)
  refine tqr_aast (E1 := tqE209 z cy ad) (j := 38) (jv := 91) (len := 3) (ci := 8) (f := (va_up (fun _ => none) 0 (some (z + 89)))) (f1 := (va_up (va_up (fun _ => none) 0 (some (z + 89))) 1 (some (z + 91)))) (vs := [.int (-1), .int 0, .ref (z + 92)]) hx hb hK hR hS (by decide) rfl 4 rfl (by decide) rfl rfl (by unfold vp_in; decide) rfl rfl dX11_init_201 (fun H locs hR hS => ?_)
  refine lv_iinc (v := 2) (lv' := [(1, .int 2), (0, .ref (z + 0))]) hx hb dX11_init_202 hl (k := 0) rfl rfl (by decide) rfl (fun ls hl => ?_)
  refine lv_goto (tgt := 184) hx hb dX11_init_205 (by decide) ?_
  refine lv_iload_n hx hb dX11_init_184 rfl (lv_at hl 0 rfl) ?_
  refine lv_iconst (v := 3) hx hb dX11_init_185 (by decide) ?_
  refine lv_icmp_ge (tgt := 208) hx hb dX11_init_186 (by decide) (fun q => absurd q (by decide)) (fun _ => ?_)
  refine lv_aload_n hx hb dX11_init_189 rfl (lv_at hl 1 rfl) ?_
  refine tqr_get (v := .ref (z + 38)) (j := 0) (fs := [.int 0, .ref (z + 1), .int 0, .ref (z + 2), .ref (z + 3), .ref (z + 4), .ref (z + 5), .ref (z + 6), .ref (z + 7), .ref (z + 8), .int 0, .ref (z + 9), .ref (z + 10), .ref (z + 12), .ref (z + 29), .ref (z + 30), .int 0, .ref (z + 31), .ref (z + 36), .ref (z + 38)]) hx hb hw tq_inX11 hown hK hR (by decide) rfl rfl 19 (by decide) (hw _ tw_356) (fun _ h9 => h9) rfl dX11_init_190 ?_
  refine lv_iload_n hx hb dX11_init_193 rfl (lv_at hl 0 rfl) ?_
  refine tqr_new (E1 := tqE210 z cy ad) (ci := 8) (fs := [.int 0, .int 0, .null]) hx hb hw tq_inX7 tyX7 tyX7_ok hown (hw _ tw_242) (hw _ tw_317) (hw _ tw_123) hK hR hS rfl (by decide) rfl rfl (Nat.le_of_ble_eq_true rfl) (Nat.le_of_ble_eq_true rfl) dX11_init_194 (fun H hR hS => ?_)
  refine lv_dup hx hb dX11_init_197 rfl ?_
  refine tqr_callIN (As := []) (rest := [.ref (z + 93), .int 2, .ref (z + 38)]) kC_12 ⟨hx, hb, hml, hown, hts⟩ (⟨va_cnB 0 hts (tq_goodO tw_320) rfl rfl rfl (hG.2.2.2.2.2.2.2.2.1 ("TwoSeas", 85, yX7_init, "TwoSeas") (by decide)) (hw _ tw_123) (by decide +kernel) ⟨(Nat.le_of_ble_eq_true rfl), (Nat.le_of_ble_eq_true rfl)⟩, rfl, hw _ tw_319⟩) hK hG hR hS rfl hl.1 rfl (Nat.le_of_ble_eq_true rfl) dX11_init_198 ⟨(Nat.le_of_ble_eq_true rfl), (Nat.le_of_ble_eq_true rfl)⟩ (fun H locs hR hS => ?_)
  refine tqr_aast (E1 := tqE214 z cy ad) (j := 38) (jv := 93) (len := 3) (ci := 8) (f := (va_up (va_up (fun _ => none) 0 (some (z + 89))) 1 (some (z + 91)))) (f1 := (va_up (va_up (va_up (fun _ => none) 0 (some (z + 89))) 1 (some (z + 91))) 2 (some (z + 93)))) (vs := [.int (-1), .int 0, .ref (z + 94)]) hx hb hK hR hS (by decide) rfl 4 rfl (by decide) rfl rfl (by unfold vp_in; decide) rfl rfl dX11_init_201 (fun H locs hR hS => ?_)
  refine lv_iinc (v := 3) (lv' := [(1, .int 3), (0, .ref (z + 0))]) hx hb dX11_init_202 hl (k := 0) rfl rfl (by decide) rfl (fun ls hl => ?_)
  refine lv_goto (tgt := 184) hx hb dX11_init_205 (by decide) ?_
  refine lv_iload_n hx hb dX11_init_184 rfl (lv_at hl 0 rfl) ?_
  refine lv_iconst (v := 3) hx hb dX11_init_185 (by decide) ?_
  refine lv_icmp_ge (tgt := 208) hx hb dX11_init_186 (by decide) (fun _ => ?_) (fun q => absurd (by decide) q)
  refine lv_aload_n hx hb dX11_init_208 rfl (lv_at hl 1 rfl) ?_
  refine tqr_get (v := .ref (z + 29)) (j := 0) (fs := [.int 0, .ref (z + 1), .int 0, .ref (z + 2), .ref (z + 3), .ref (z + 4), .ref (z + 5), .ref (z + 6), .ref (z + 7), .ref (z + 8), .int 0, .ref (z + 9), .ref (z + 10), .ref (z + 12), .ref (z + 29), .ref (z + 30), .int 0, .ref (z + 31), .ref (z + 36), .ref (z + 38)]) hx hb hw tq_inX11 hown hK hR (by decide) rfl rfl 14 (by decide) (hw _ tw_351) (fun _ h9 => h9) rfl dX11_init_209 ?_
  refine lv_bipush (v := 100) hx hb dX11_init_212 (by decide) ?_
  refine tqr_callS (As := [.ref (z + 29), .int 100]) (rest := []) kC_13 ⟨hx, hb, hml, hown, hts⟩ (va_cwS 2 hts (tq_goodS tw_334 tw_335 tw_124 tw_336) rfl rfl rfl (by decide +kernel) ⟨(Nat.le_of_ble_eq_true rfl), (Nat.le_of_ble_eq_true rfl)⟩) hK hG hR hS rfl hl.1 rfl (Nat.le_of_ble_eq_true rfl) dX11_init_214 ⟨(Nat.le_of_ble_eq_true rfl), (Nat.le_of_ble_eq_true rfl)⟩ (fun H locs hR hS => ?_)
  refine W.widen (k := 94) (n := 4899) (Nat.le_of_ble_eq_true rfl) (Nat.le_of_ble_eq_true rfl) ?_
  exact W.vret hx hb hr (fun t ht hWm => ⟨⟨(), rfl, trivial, by show tq_rw _ _ _ _ _ t.heap; rw [ht]; exact hR⟩, hS.F ht⟩) hS.2.2 dX11_init_217
