variable {l : Launch} {D : va_G} {cy : Nat → ClassId} {z A0 : Nat} {H0 : Heap} {ad : Nat → Nat → Nat} {M : tq_St}
-- X10 init
def wpX10_init (post : tq_Nn → tq_St → Prop) (N : tq_Nn) (S : tq_St) (o : Nat) (p1 : Int32) (p2 : Nat) (p3 : Int32) (p4 : Int32) (p5 : Int32) : Prop :=
  ¬ o < 1 ∧ N 1 o = 4 ∧ N 0 0 = o + 1 ∧ ((∀ S1, S1 = tq_up S 1 o 9 0 → ((∀ S2, S2 = tq_up S1 1 o 10 ((-1)) → ((∀ S3, S3 = tq_up S2 1 o 0 p1 → (N 8 p2 = 1 ∧ ((∀ S5, S5 = tq_up S3 1 o 1 (S3 8 p2 0) → ((∀ S6, S6 = tq_up S5 1 o 2 (S5 8 p2 3) → ((∀ S7, S7 = tq_up S6 1 o 3 p3 → ((∀ S8, S8 = tq_up S7 1 o 4 p4 → ((∀ S9, S9 = tq_up S8 1 o 5 p5 → (N 54 p2 = 1 ∧ N 0 0 + 1 ≤ tq_CX ∧ N 0 1 + 4 ≤ tq_CY ∧ (∀ N13, N13 = tq_na N (N 0 0 + 1) 57 o 1 4 → ∀ S14, S14 = tq_cp S9 57 o (S9 54 p2) → ((∀ S18, S18 = tq_up S14 1 o 6 1 → (N13 8 p2 = 1 ∧ (N13 54 p2 = 1 ∧ N13 0 0 + 1 ≤ tq_CX ∧ N13 0 1 + 4 ≤ tq_CY ∧ (∀ N23, N23 = tq_na N13 (N13 0 0 + 1) 58 o 1 4 → ∀ S24, S24 = tq_cp S18 58 o (S18 54 p2) → ((∀ S28, S28 = tq_up S24 1 o 7 1 → (¬ S28 1 o 6 = 0 ∧ ¬ S28 1 o 7 = 0 ∧ post (tq_pr N23 o 9) (tq_cp S28 9 o (S28 1 o)))))))))))))))))))))))))))))
set_option maxHeartbeats 4000000 in
set_option maxRecDepth 100000 in
theorem kX10_init {post : tq_Nn → tq_St → Prop} {N : tq_Nn} {S : tq_St} {sz sl : Nat} {o : Nat} {p1 : Int32} {p2 : Nat} {p3 : Int32} {p4 : Int32} {p5 : Int32} (h : wpX10_init post N S o p1 p2 p3 p4 p5) : tq_bV l yX10_init (tq_ws yX10_init cX10_init 6 none) 1 24 D cy z A0 H0 ad N M S sz sl [.ref (ad 1 o), .int p1, .ref (ad 8 p2), .int p3, .int p4, .int p5] post := by
  unfold wpX10_init at h
  refine Met.ofW (cc := cX10_init) (maxL := 6) (ret := none) (by decide) rfl ?_
  intro p e s m args below meth c s₁ B hml hv
  obtain ⟨rfl, ⟨hW, hK, hG⟩, rfl, rfl, hN1, hN2, hN3, hN4⟩ := hv
  have hN : tq_nb z A0 s N := ⟨hN1, hN2, hN3, hN4⟩
  have hx := B.exec
  have hb := B.bytes
  have hr := B.returns
  have hts := atoms_spec (ws := (tq_ws yX10_init cX10_init 6 none)) B.pre
  have hw : ∀ w ∈ tq_W, w.before _ s = true := fun w h => hts w (List.mem_cons_of_mem _ h)
  have hown : s.vm.findClass RX10 = some m.cls := findClass_of_methodNamed B.named
  have hlocks := B.notSynchronized
  have C : tq_At p s m meth c [.ref (ad 1 o), .int p1, .ref (ad 8 p2), .int p3, .int p4, .int p5].toArray cX10_init 6 (none) ((tq_ws yX10_init cX10_init 6 none)) RX10 D cy z ad := ⟨hx, hb, hr, hml, hown, hts, hlocks, hK, hG⟩
  have hS : va_S (fun q => z ≤ q) s.heap s.heap [] := va_S.rf
  have hl := lv_entry ([.ref (ad 1 o), .int p1, .ref (ad 8 p2), .int p3, .int p4, .int p5]) (n := 6) (Nat.le_of_ble_eq_true rfl)
  rw [lg_entry_eq]
  generalize (lg_sl ([.ref (ad 1 o), .int p1, .ref (ad 8 p2), .int p3, .int p4, .int p5]) ++ List.replicate (6 - (lg_sl ([.ref (ad 1 o), .int p1, .ref (ad 8 p2), .int p3, .int p4, .int p5])).length) Slot.unset).toArray = ls at hl ⊢
  have hl : lv_has ls 6 [(0, .ref (ad 1 o)), (1, .int p1), (2, .ref (ad 8 p2)), (3, .int p3), (4, .int p4), (5, .int p5)] := hl
  have hW : tq_wd D cy z H0 ad N (tq_mix S M) s.heap := hW
  refine tq_tight (c1 := z + N 0 0 - s.heap.size) (n1 := A0 + N 0 1 - tq_all s.heap) (by omega) (by omega) ?_
  obtain ⟨ho, hP0, hj0, h⟩ := h
  have hin2 : meth.name = "<init>" := (name_of_methodNamed B.named B.method).1
  refine lv_aload_n hx hb dX10_init_0 rfl (lv_at hl 0 rfl) ?_
  refine W.objInit hx hb hown (hw _ tw_983) (hw _ tw_147) (hw _ tw_148) rfl (by rw [hml]; exact hl.1) rfl dX10_init_1 (Nat.le_of_ble_eq_true rfl) (Nat.le_of_ble_eq_true rfl) ?_
  refine W.eq (g2 := F0 m 4 ls []) rfl ?_
  refine lv_aload_n hx hb dX10_init_4 rfl (lv_at hl 0 rfl) ?_
  refine lv_iconst (v := 0) hx hb dX10_init_5 (by decide) ?_
  refine tq_putG (T1 := tq_mix (tq_up S 1 o 9 0) M) (v := .int 0) (fs := [.int (S 1 o 0), .int (S 1 o 1), .int (S 1 o 2), .int (S 1 o 3), .int (S 1 o 4), .int (S 1 o 5), tq_pf (S 1 o 6) (ad 57 o), tq_pf (S 1 o 7) (ad 58 o), .int (S 1 o 8), .int (S 1 o 9), .int (S 1 o 10), .int (S 1 o 11)]) hx hb hw tq_inX10 tyX10 tyX10_ok nmX10 hown hK hW hS (tq_pm_4 ho hP0) rfl 9 (by decide) (hw _ tw_1003) (fun _ h9 => h9) rfl rfl rfl (by simp) (tq_mixT (by decide)) (by rw [tq_pm_4 ho hP0, tq_up_cell]; rfl) dX10_init_6 (fun H locs hW hS => ?_)
  generalize eS1 : tq_up S 1 o 9 0 = S1 at hW
  have h := h S1 eS1.symm
  refine lv_aload_n hx hb dX10_init_9 rfl (lv_at hl 0 rfl) ?_
  refine lv_iconst (v := (-1)) hx hb dX10_init_10 (by decide) ?_
  refine tq_putG (T1 := tq_mix (tq_up S1 1 o 10 ((-1))) M) (v := .int ((-1))) (fs := [.int (S1 1 o 0), .int (S1 1 o 1), .int (S1 1 o 2), .int (S1 1 o 3), .int (S1 1 o 4), .int (S1 1 o 5), tq_pf (S1 1 o 6) (ad 57 o), tq_pf (S1 1 o 7) (ad 58 o), .int (S1 1 o 8), .int (S1 1 o 9), .int (S1 1 o 10), .int (S1 1 o 11)]) hx hb hw tq_inX10 tyX10 tyX10_ok nmX10 hown hK hW hS (tq_pm_4 ho hP0) rfl 10 (by decide) (hw _ tw_1005) (fun _ h9 => h9) rfl rfl rfl (by simp) (tq_mixT (by decide)) (by rw [tq_pm_4 ho hP0, tq_up_cell]; rfl) dX10_init_11 (fun H locs hW hS => ?_)
  generalize eS2 : tq_up S1 1 o 10 ((-1)) = S2 at hW
  have h := h S2 eS2.symm
  refine lv_aload_n hx hb dX10_init_14 rfl (lv_at hl 0 rfl) ?_
  refine lv_iload_n hx hb dX10_init_15 rfl (lv_at hl 1 rfl) ?_
  refine tq_putGF (T1 := tq_mix (tq_up S2 1 o 0 p1) M) (v := .int p1) (fs := [.int (S2 1 o 0), .int (S2 1 o 1), .int (S2 1 o 2), .int (S2 1 o 3), .int (S2 1 o 4), .int (S2 1 o 5), tq_pf (S2 1 o 6) (ad 57 o), tq_pf (S2 1 o 7) (ad 58 o), .int (S2 1 o 8), .int (S2 1 o 9), .int (S2 1 o 10), .int (S2 1 o 11)]) hx hb hw tq_inX10 tyX10 tyX10_ok nmX10 hown hK hW hS (tq_pm_4 ho hP0) rfl 0 (by decide) (hw _ tw_986) (fun _ h9 => h9) rfl hin2 rfl rfl rfl (by simp) (tq_mixT (by decide)) (by rw [tq_pm_4 ho hP0, tq_up_cell]; rfl) dX10_init_16 (fun H locs hz9 hW hS => ?_)
  generalize eS3 : tq_up S2 1 o 0 p1 = S3 at hW
  have h := h S3 eS3.symm
  refine lv_aload_n hx hb dX10_init_19 rfl (lv_at hl 0 rfl) ?_
  refine lv_aload_n hx hb dX10_init_20 rfl (lv_at hl 2 rfl) ?_
  obtain ⟨b4, h⟩ := h
  refine tqc_get (v := .int (S3 8 p2 0)) hx hb hw tq_inX8 hown hK hW (by decide) (tq_mk_8 b4) rfl 0 (by decide) (hw _ tw_897) (fun _ h9 => h9) rfl dX10_init_21 ?_
  refine tq_putGF (T1 := tq_mix (tq_up S3 1 o 1 (S3 8 p2 0)) M) (v := .int (S3 8 p2 0)) (fs := [.int (S3 1 o 0), .int (S3 1 o 1), .int (S3 1 o 2), .int (S3 1 o 3), .int (S3 1 o 4), .int (S3 1 o 5), tq_pf (S3 1 o 6) (ad 57 o), tq_pf (S3 1 o 7) (ad 58 o), .int (S3 1 o 8), .int (S3 1 o 9), .int (S3 1 o 10), .int (S3 1 o 11)]) hx hb hw tq_inX10 tyX10 tyX10_ok nmX10 hown hK hW hS (tq_pm_4 ho hP0) rfl 1 (by decide) (hw _ tw_988) (fun _ h9 => h9) rfl hin2 rfl rfl rfl (by simp) (tq_mixT (by decide)) (by rw [tq_pm_4 ho hP0, tq_up_cell]; rfl) dX10_init_24 (fun H locs hz9 hW hS => ?_)
  generalize eS5 : tq_up S3 1 o 1 (S3 8 p2 0) = S5 at hW
  have h := h S5 eS5.symm
  refine lv_aload_n hx hb dX10_init_27 rfl (lv_at hl 0 rfl) ?_
  refine lv_aload_n hx hb dX10_init_28 rfl (lv_at hl 2 rfl) ?_
  refine tqc_get (v := .int (S5 8 p2 3)) hx hb hw tq_inX8 hown hK hW (by decide) (tq_mk_8 b4) rfl 3 (by decide) (hw _ tw_903) (fun _ h9 => h9) rfl dX10_init_29 ?_
  refine tq_putGF (T1 := tq_mix (tq_up S5 1 o 2 (S5 8 p2 3)) M) (v := .int (S5 8 p2 3)) (fs := [.int (S5 1 o 0), .int (S5 1 o 1), .int (S5 1 o 2), .int (S5 1 o 3), .int (S5 1 o 4), .int (S5 1 o 5), tq_pf (S5 1 o 6) (ad 57 o), tq_pf (S5 1 o 7) (ad 58 o), .int (S5 1 o 8), .int (S5 1 o 9), .int (S5 1 o 10), .int (S5 1 o 11)]) hx hb hw tq_inX10 tyX10 tyX10_ok nmX10 hown hK hW hS (tq_pm_4 ho hP0) rfl 2 (by decide) (hw _ tw_990) (fun _ h9 => h9) rfl hin2 rfl rfl rfl (by simp) (tq_mixT (by decide)) (by rw [tq_pm_4 ho hP0, tq_up_cell]; rfl) dX10_init_32 (fun H locs hz9 hW hS => ?_)
  generalize eS6 : tq_up S5 1 o 2 (S5 8 p2 3) = S6 at hW
  have h := h S6 eS6.symm
  refine lv_aload_n hx hb dX10_init_35 rfl (lv_at hl 0 rfl) ?_
  refine lv_iload_n hx hb dX10_init_36 rfl (lv_at hl 3 rfl) ?_
  refine tq_putGF (T1 := tq_mix (tq_up S6 1 o 3 p3) M) (v := .int p3) (fs := [.int (S6 1 o 0), .int (S6 1 o 1), .int (S6 1 o 2), .int (S6 1 o 3), .int (S6 1 o 4), .int (S6 1 o 5), tq_pf (S6 1 o 6) (ad 57 o), tq_pf (S6 1 o 7) (ad 58 o), .int (S6 1 o 8), .int (S6 1 o 9), .int (S6 1 o 10), .int (S6 1 o 11)]) hx hb hw tq_inX10 tyX10 tyX10_ok nmX10 hown hK hW hS (tq_pm_4 ho hP0) rfl 3 (by decide) (hw _ tw_992) (fun _ h9 => h9) rfl hin2 rfl rfl rfl (by simp) (tq_mixT (by decide)) (by rw [tq_pm_4 ho hP0, tq_up_cell]; rfl) dX10_init_37 (fun H locs hz9 hW hS => ?_)
  generalize eS7 : tq_up S6 1 o 3 p3 = S7 at hW
  have h := h S7 eS7.symm
  refine lv_aload_n hx hb dX10_init_40 rfl (lv_at hl 0 rfl) ?_
  refine lv_iload hx hb dX10_init_41 (lv_at hl 4 rfl) ?_
  refine tq_putGF (T1 := tq_mix (tq_up S7 1 o 4 p4) M) (v := .int p4) (fs := [.int (S7 1 o 0), .int (S7 1 o 1), .int (S7 1 o 2), .int (S7 1 o 3), .int (S7 1 o 4), .int (S7 1 o 5), tq_pf (S7 1 o 6) (ad 57 o), tq_pf (S7 1 o 7) (ad 58 o), .int (S7 1 o 8), .int (S7 1 o 9), .int (S7 1 o 10), .int (S7 1 o 11)]) hx hb hw tq_inX10 tyX10 tyX10_ok nmX10 hown hK hW hS (tq_pm_4 ho hP0) rfl 4 (by decide) (hw _ tw_994) (fun _ h9 => h9) rfl hin2 rfl rfl rfl (by simp) (tq_mixT (by decide)) (by rw [tq_pm_4 ho hP0, tq_up_cell]; rfl) dX10_init_43 (fun H locs hz9 hW hS => ?_)
  generalize eS8 : tq_up S7 1 o 4 p4 = S8 at hW
  have h := h S8 eS8.symm
  refine lv_aload_n hx hb dX10_init_46 rfl (lv_at hl 0 rfl) ?_
  refine lv_iload hx hb dX10_init_47 (lv_at hl 5 rfl) ?_
  refine tq_putGF (T1 := tq_mix (tq_up S8 1 o 5 p5) M) (v := .int p5) (fs := [.int (S8 1 o 0), .int (S8 1 o 1), .int (S8 1 o 2), .int (S8 1 o 3), .int (S8 1 o 4), .int (S8 1 o 5), tq_pf (S8 1 o 6) (ad 57 o), tq_pf (S8 1 o 7) (ad 58 o), .int (S8 1 o 8), .int (S8 1 o 9), .int (S8 1 o 10), .int (S8 1 o 11)]) hx hb hw tq_inX10 tyX10 tyX10_ok nmX10 hown hK hW hS (tq_pm_4 ho hP0) rfl 5 (by decide) (hw _ tw_996) (fun _ h9 => h9) rfl hin2 rfl rfl rfl (by simp) (tq_mixT (by decide)) (by rw [tq_pm_4 ho hP0, tq_up_cell]; rfl) dX10_init_49 (fun H locs hz9 hW hS => ?_)
  generalize eS9 : tq_up S8 1 o 5 p5 = S9 at hW
  have h := h S9 eS9.symm
  refine lv_aload_n hx hb dX10_init_52 rfl (lv_at hl 0 rfl) ?_
  refine lv_aload_n hx hb dX10_init_53 rfl (lv_at hl 2 rfl) ?_
  refine tqc_get (v := .ref (ad 54 p2)) hx hb hw tq_inX8 hown hK hW (by decide) (tq_mk_8 b4) rfl 8 (by decide) (hw _ tw_913) (fun _ h9 => h9) rfl dX10_init_54 ?_
  obtain ⟨b10, h⟩ := h
  obtain ⟨b11, b12, h⟩ := h
  refine tq_last (K := 1) (o := o) hW hN (tq_pm_4 ho hP0) (by rw [tq_ads_1 hG.adr ho, hj0]; omega) (fun hz9 => ?_)
  refine tqw_clone (k0 := 54) (i0 := p2) (k := 57) (i := o) (n := 4) (a := N 0 0 + 1) hx hb (hml.trans hl.1.symm) hown (hw _ tw_984) (hw _ tw_497) (hw _ tw_498) (hw _ tw_499) (hw _ tw_500) (hG.2.2.2.2.2.2.2.2.2.2.1 ("[I", "java/lang/Cloneable") (by decide)) hK hW hS hN (by decide) (tq_mk_54 b10) (by decide) (by decide) (fun N f h9 => tq_mk_57 h9) (by rw [hz9, tq_ads_57 hG.adr, hj0]; omega) (by omega) b11 b12 (Nat.le_of_ble_eq_true rfl) (Nat.le_of_ble_eq_true rfl) dX10_init_57 (fun H hz9 hN hW hS => ?_)
  generalize eN13 : tq_na N (N 0 0 + 1) 57 o 1 4 = N13 at hN hW ⊢
  generalize eS14 : tq_cp S9 57 o (S9 54 p2) = S14 at hW
  have hj15 : N13 0 0 = o + 1 + 1 := by rw [← eN13, tq_na00, hj0]
  have hP16 : N13 1 o = 4 := by rw [← eN13, tq_na_ne (by decide) (fun q => absurd q.1 (by decide))]; exact hP0
  have hl17 : N13 57 o = 1 := by rw [← eN13, tq_na_self _ _ _ _ _ _ (by decide)]
  have h := h N13 eN13.symm S14 eS14.symm
  refine va_castA (ws := [(ad 57 o, .inl (cy 0, 4, .inl (S14 57 o)))]) hx hb hown (hw _ tw_985) (tq_one (hW.1 57 o _ (by rw [tq_mixC _ _ (by decide)]; exact tq_mk_57 hl17))) 0 rfl (hK.2 0 _ rfl).2 dX10_init_60 ?_
  refine tq_putGF (T1 := tq_mix (tq_up S14 1 o 6 1) M) (v := .ref (ad 57 o)) (fs := [.int (S14 1 o 0), .int (S14 1 o 1), .int (S14 1 o 2), .int (S14 1 o 3), .int (S14 1 o 4), .int (S14 1 o 5), tq_pf (S14 1 o 6) (ad 57 o), tq_pf (S14 1 o 7) (ad 58 o), .int (S14 1 o 8), .int (S14 1 o 9), .int (S14 1 o 10), .int (S14 1 o 11)]) hx hb hw tq_inX10 tyX10 tyX10_ok nmX10 hown hK hW hS (tq_pm_4 ho hP16) rfl 6 (by decide) (hw _ tw_998) (fun _ h9 => h9) rfl hin2 rfl rfl rfl (by simp) (tq_mixT (by decide)) (by rw [tq_pm_4 ho hP16, tq_up_cell]; rfl) dX10_init_63 (fun H locs hz9 hW hS => ?_)
  generalize eS18 : tq_up S14 1 o 6 1 = S18 at hW
  have h := h S18 eS18.symm
  refine lv_aload_n hx hb dX10_init_66 rfl (lv_at hl 0 rfl) ?_
  refine lv_aload_n hx hb dX10_init_67 rfl (lv_at hl 2 rfl) ?_
  obtain ⟨b19, h⟩ := h
  refine tqc_get (v := .ref (ad 54 p2)) hx hb hw tq_inX8 hown hK hW (by decide) (tq_mk_8 b19) rfl 8 (by decide) (hw _ tw_913) (fun _ h9 => h9) rfl dX10_init_68 ?_
  obtain ⟨b20, h⟩ := h
  obtain ⟨b21, b22, h⟩ := h
  refine tq_last (K := 57) (o := o) hW hN (by rw [tq_mixC _ _ (by decide)]; exact tq_mk_57 hl17) (by rw [tq_ads_57 hG.adr, hj15]; omega) (fun hz9 => ?_)
  refine tqw_clone (k0 := 54) (i0 := p2) (k := 58) (i := o) (n := 4) (a := N13 0 0 + 1) hx hb (hml.trans hl.1.symm) hown (hw _ tw_984) (hw _ tw_497) (hw _ tw_498) (hw _ tw_499) (hw _ tw_500) (hG.2.2.2.2.2.2.2.2.2.2.1 ("[I", "java/lang/Cloneable") (by decide)) hK hW hS hN (by decide) (tq_mk_54 b20) (by decide) (by decide) (fun N f h9 => tq_mk_58 h9) (by rw [hz9, tq_ads_58 hG.adr, hj15]; omega) (by omega) b21 b22 (Nat.le_of_ble_eq_true rfl) (Nat.le_of_ble_eq_true rfl) dX10_init_71 (fun H hz9 hN hW hS => ?_)
  generalize eN23 : tq_na N13 (N13 0 0 + 1) 58 o 1 4 = N23 at hN hW ⊢
  generalize eS24 : tq_cp S18 58 o (S18 54 p2) = S24 at hW
  have hj25 : N23 0 0 = o + 1 + 2 := by rw [← eN23, tq_na00, hj15]
  have hP26 : N23 1 o = 4 := by rw [← eN23, tq_na_ne (by decide) (fun q => absurd q.1 (by decide))]; exact hP16
  have hl27 : N23 58 o = 1 := by rw [← eN23, tq_na_self _ _ _ _ _ _ (by decide)]
  have h := h N23 eN23.symm S24 eS24.symm
  refine va_castA (ws := [(ad 58 o, .inl (cy 0, 4, .inl (S24 58 o)))]) hx hb hown (hw _ tw_985) (tq_one (hW.1 58 o _ (by rw [tq_mixC _ _ (by decide)]; exact tq_mk_58 hl27))) 0 rfl (hK.2 0 _ rfl).2 dX10_init_74 ?_
  refine tq_putGF (T1 := tq_mix (tq_up S24 1 o 7 1) M) (v := .ref (ad 58 o)) (fs := [.int (S24 1 o 0), .int (S24 1 o 1), .int (S24 1 o 2), .int (S24 1 o 3), .int (S24 1 o 4), .int (S24 1 o 5), tq_pf (S24 1 o 6) (ad 57 o), tq_pf (S24 1 o 7) (ad 58 o), .int (S24 1 o 8), .int (S24 1 o 9), .int (S24 1 o 10), .int (S24 1 o 11)]) hx hb hw tq_inX10 tyX10 tyX10_ok nmX10 hown hK hW hS (tq_pm_4 ho hP26) rfl 7 (by decide) (hw _ tw_1000) (fun _ h9 => h9) rfl hin2 rfl rfl rfl (by simp) (tq_mixT (by decide)) (by rw [tq_pm_4 ho hP26, tq_up_cell]; rfl) dX10_init_77 (fun H locs hz9 hW hS => ?_)
  generalize eS28 : tq_up S24 1 o 7 1 = S28 at hW
  have h := h S28 eS28.symm
  obtain ⟨b29, h⟩ := h
  obtain ⟨b30, h⟩ := h
  have hW := hW.prom (K := 9) (f := (S28 1 o)) ho (by decide) (by decide) (tq_ad1_9 hG.adr ho).symm (by rw [hP26]; exact tq_pd_4) (fun N h9 => by rw [tq_mk_9 h9, tq_pf1 b29, tq_pf1 b30]; rfl)
  exact tqb_vretP hx hb hr hN (by decide) h hW hS dX10_init_80 hlocks
-- X4 init
def wpX4_init (post : tq_Nn → tq_St → Prop) (N : tq_Nn) (S : tq_St) (o : Nat) (p1 : Int32) (p2 : Int32) (p3 : Int32) (p4 : Int32) (p5 : Int32) : Prop :=
  ¬ o < 1 ∧ N 1 o = 5 ∧ N 0 0 = o + 1 ∧ (N 0 0 + 1 ≤ tq_CX ∧ N 0 1 + 3 ≤ tq_CY ∧ (∀ N3, N3 = tq_na N (N 0 0 + 1) 59 o 1 3 → ∀ S4, S4 = tq_cp S 59 o (fun _ => 0) → ((∀ S8, S8 = tq_up S4 1 o 6 1 → ((∀ S9, S9 = tq_up S8 1 o 0 p1 → ((∀ S10, S10 = tq_up S9 1 o 1 p2 → ((∀ S11, S11 = tq_up S10 1 o 2 p3 → ((∀ S12, S12 = tq_up S11 1 o 3 p4 → ((∀ S13, S13 = tq_up S12 1 o 4 p5 → ((∀ S14, S14 = tq_up S13 1 o 5 ((p3 * 4) + (if p4 < 0 then 0 else p4)) → (¬ S14 1 o 6 = 0 ∧ post (tq_pr N3 o 10) (tq_cp S14 10 o (S14 1 o)))))))))))))))))))
set_option maxHeartbeats 4000000 in
set_option maxRecDepth 100000 in
theorem kX4_init {post : tq_Nn → tq_St → Prop} {N : tq_Nn} {S : tq_St} {sz sl : Nat} {o : Nat} {p1 : Int32} {p2 : Int32} {p3 : Int32} {p4 : Int32} {p5 : Int32} (h : wpX4_init post N S o p1 p2 p3 p4 p5) : tq_bV l yX4_init (tq_ws yX4_init cX4_init 6 none) 4 90 D cy z A0 H0 ad N M S sz sl [.ref (ad 1 o), .int p1, .int p2, .int p3, .int p4, .int p5] post := by
  unfold wpX4_init at h
  refine Met.ofW (cc := cX4_init) (maxL := 6) (ret := none) (by decide) rfl ?_
  intro p e s m args below meth c s₁ B hml hv
  obtain ⟨rfl, ⟨hW, hK, hG⟩, rfl, rfl, hN1, hN2, hN3, hN4⟩ := hv
  have hN : tq_nb z A0 s N := ⟨hN1, hN2, hN3, hN4⟩
  have hx := B.exec
  have hb := B.bytes
  have hr := B.returns
  have hts := atoms_spec (ws := (tq_ws yX4_init cX4_init 6 none)) B.pre
  have hw : ∀ w ∈ tq_W, w.before _ s = true := fun w h => hts w (List.mem_cons_of_mem _ h)
  have hown : s.vm.findClass RX4 = some m.cls := findClass_of_methodNamed B.named
  have hlocks := B.notSynchronized
  have C : tq_At p s m meth c [.ref (ad 1 o), .int p1, .int p2, .int p3, .int p4, .int p5].toArray cX4_init 6 (none) ((tq_ws yX4_init cX4_init 6 none)) RX4 D cy z ad := ⟨hx, hb, hr, hml, hown, hts, hlocks, hK, hG⟩
  have hS : va_S (fun q => z ≤ q) s.heap s.heap [] := va_S.rf
  have hl := lv_entry ([.ref (ad 1 o), .int p1, .int p2, .int p3, .int p4, .int p5]) (n := 6) (Nat.le_of_ble_eq_true rfl)
  rw [lg_entry_eq]
  generalize (lg_sl ([.ref (ad 1 o), .int p1, .int p2, .int p3, .int p4, .int p5]) ++ List.replicate (6 - (lg_sl ([.ref (ad 1 o), .int p1, .int p2, .int p3, .int p4, .int p5])).length) Slot.unset).toArray = ls at hl ⊢
  have hl : lv_has ls 6 [(0, .ref (ad 1 o)), (1, .int p1), (2, .int p2), (3, .int p3), (4, .int p4), (5, .int p5)] := hl
  have hW : tq_wd D cy z H0 ad N (tq_mix S M) s.heap := hW
  refine tq_tight (c1 := z + N 0 0 - s.heap.size) (n1 := A0 + N 0 1 - tq_all s.heap) (by omega) (by omega) ?_
  obtain ⟨ho, hP0, hj0, h⟩ := h
  have hin2 : meth.name = "<init>" := (name_of_methodNamed B.named B.method).1
  refine lv_aload_n hx hb dX4_init_0 rfl (lv_at hl 0 rfl) ?_
  refine W.objInit hx hb hown (hw _ tw_656) (hw _ tw_147) (hw _ tw_148) rfl (by rw [hml]; exact hl.1) rfl dX4_init_1 (Nat.le_of_ble_eq_true rfl) (Nat.le_of_ble_eq_true rfl) ?_
  refine W.eq (g2 := F0 m 4 ls []) rfl ?_
  refine lv_aload_n hx hb dX4_init_4 rfl (lv_at hl 0 rfl) ?_
  obtain ⟨b1, b2, h⟩ := h
  refine tq_last (K := 1) (o := o) hW hN (tq_pm_5 ho hP0) (by rw [tq_ads_1 hG.adr ho, hj0]; omega) (fun hz9 => ?_)
  refine tqw_newL (k := 59) (i := o) (a := N 0 0 + 1) (kd := 60) hx hb hml hl.1 hts hown (hw _ tw_657) (hw _ tw_658) hK hG hW hS hN (by decide) (by decide) (fun N f h9 => tq_mk_59 h9) (by rw [hz9, tq_ads_59 hG.adr, hj0]; omega) (by omega) b1 b2 (Nat.le_of_ble_eq_true rfl) (Nat.le_of_ble_eq_true rfl) (Nat.le_of_ble_eq_true rfl) dX4_init_5 dX4_init_8 dX4_init_9 (fun H locs hz9 hN hW hS => ?_)
  generalize eN3 : tq_na N (N 0 0 + 1) 59 o 1 3 = N3 at hN hW ⊢
  generalize eS4 : tq_cp S 59 o (fun _ => 0) = S4 at hW
  have hj5 : N3 0 0 = o + 1 + 1 := by rw [← eN3, tq_na00, hj0]
  have hP6 : N3 1 o = 5 := by rw [← eN3, tq_na_ne (by decide) (fun q => absurd q.1 (by decide))]; exact hP0
  have hl7 : N3 59 o = 1 := by rw [← eN3, tq_na_self _ _ _ _ _ _ (by decide)]
  have h := h N3 eN3.symm S4 eS4.symm
  refine tq_putGF (T1 := tq_mix (tq_up S4 1 o 6 1) M) (v := .ref (ad 59 o)) (fs := [.int (S4 1 o 0), .int (S4 1 o 1), .int (S4 1 o 2), .int (S4 1 o 3), .int (S4 1 o 4), .int (S4 1 o 5), tq_pf (S4 1 o 6) (ad 59 o)]) hx hb hw tq_inX4 tyX4 tyX4_ok nmX4 hown hK hW hS (tq_pm_5 ho hP6) rfl 6 (by decide) (hw _ tw_674) (fun _ h9 => h9) rfl hin2 rfl rfl rfl (by simp) (tq_mixT (by decide)) (by rw [tq_pm_5 ho hP6, tq_up_cell]; rfl) dX4_init_12 (fun H locs hz9 hW hS => ?_)
  generalize eS8 : tq_up S4 1 o 6 1 = S8 at hW
  have h := h S8 eS8.symm
  refine lv_aload_n hx hb dX4_init_15 rfl (lv_at hl 0 rfl) ?_
  refine lv_iload_n hx hb dX4_init_16 rfl (lv_at hl 1 rfl) ?_
  refine tq_putGF (T1 := tq_mix (tq_up S8 1 o 0 p1) M) (v := .int p1) (fs := [.int (S8 1 o 0), .int (S8 1 o 1), .int (S8 1 o 2), .int (S8 1 o 3), .int (S8 1 o 4), .int (S8 1 o 5), tq_pf (S8 1 o 6) (ad 59 o)]) hx hb hw tq_inX4 tyX4 tyX4_ok nmX4 hown hK hW hS (tq_pm_5 ho hP6) rfl 0 (by decide) (hw _ tw_662) (fun _ h9 => h9) rfl hin2 rfl rfl rfl (by simp) (tq_mixT (by decide)) (by rw [tq_pm_5 ho hP6, tq_up_cell]; rfl) dX4_init_17 (fun H locs hz9 hW hS => ?_)
  generalize eS9 : tq_up S8 1 o 0 p1 = S9 at hW
  have h := h S9 eS9.symm
  refine lv_aload_n hx hb dX4_init_20 rfl (lv_at hl 0 rfl) ?_
  refine lv_iload_n hx hb dX4_init_21 rfl (lv_at hl 2 rfl) ?_
  refine tq_putGF (T1 := tq_mix (tq_up S9 1 o 1 p2) M) (v := .int p2) (fs := [.int (S9 1 o 0), .int (S9 1 o 1), .int (S9 1 o 2), .int (S9 1 o 3), .int (S9 1 o 4), .int (S9 1 o 5), tq_pf (S9 1 o 6) (ad 59 o)]) hx hb hw tq_inX4 tyX4 tyX4_ok nmX4 hown hK hW hS (tq_pm_5 ho hP6) rfl 1 (by decide) (hw _ tw_664) (fun _ h9 => h9) rfl hin2 rfl rfl rfl (by simp) (tq_mixT (by decide)) (by rw [tq_pm_5 ho hP6, tq_up_cell]; rfl) dX4_init_22 (fun H locs hz9 hW hS => ?_)
  generalize eS10 : tq_up S9 1 o 1 p2 = S10 at hW
  have h := h S10 eS10.symm
  refine lv_aload_n hx hb dX4_init_25 rfl (lv_at hl 0 rfl) ?_
  refine lv_iload_n hx hb dX4_init_26 rfl (lv_at hl 3 rfl) ?_
  refine tq_putGF (T1 := tq_mix (tq_up S10 1 o 2 p3) M) (v := .int p3) (fs := [.int (S10 1 o 0), .int (S10 1 o 1), .int (S10 1 o 2), .int (S10 1 o 3), .int (S10 1 o 4), .int (S10 1 o 5), tq_pf (S10 1 o 6) (ad 59 o)]) hx hb hw tq_inX4 tyX4 tyX4_ok nmX4 hown hK hW hS (tq_pm_5 ho hP6) rfl 2 (by decide) (hw _ tw_666) (fun _ h9 => h9) rfl hin2 rfl rfl rfl (by simp) (tq_mixT (by decide)) (by rw [tq_pm_5 ho hP6, tq_up_cell]; rfl) dX4_init_27 (fun H locs hz9 hW hS => ?_)
  generalize eS11 : tq_up S10 1 o 2 p3 = S11 at hW
  have h := h S11 eS11.symm
  refine lv_aload_n hx hb dX4_init_30 rfl (lv_at hl 0 rfl) ?_
  refine lv_iload hx hb dX4_init_31 (lv_at hl 4 rfl) ?_
  refine tq_putGF (T1 := tq_mix (tq_up S11 1 o 3 p4) M) (v := .int p4) (fs := [.int (S11 1 o 0), .int (S11 1 o 1), .int (S11 1 o 2), .int (S11 1 o 3), .int (S11 1 o 4), .int (S11 1 o 5), tq_pf (S11 1 o 6) (ad 59 o)]) hx hb hw tq_inX4 tyX4 tyX4_ok nmX4 hown hK hW hS (tq_pm_5 ho hP6) rfl 3 (by decide) (hw _ tw_668) (fun _ h9 => h9) rfl hin2 rfl rfl rfl (by simp) (tq_mixT (by decide)) (by rw [tq_pm_5 ho hP6, tq_up_cell]; rfl) dX4_init_33 (fun H locs hz9 hW hS => ?_)
  generalize eS12 : tq_up S11 1 o 3 p4 = S12 at hW
  have h := h S12 eS12.symm
  refine lv_aload_n hx hb dX4_init_36 rfl (lv_at hl 0 rfl) ?_
  refine lv_iload hx hb dX4_init_37 (lv_at hl 5 rfl) ?_
  refine tq_putGF (T1 := tq_mix (tq_up S12 1 o 4 p5) M) (v := .int p5) (fs := [.int (S12 1 o 0), .int (S12 1 o 1), .int (S12 1 o 2), .int (S12 1 o 3), .int (S12 1 o 4), .int (S12 1 o 5), tq_pf (S12 1 o 6) (ad 59 o)]) hx hb hw tq_inX4 tyX4 tyX4_ok nmX4 hown hK hW hS (tq_pm_5 ho hP6) rfl 4 (by decide) (hw _ tw_670) (fun _ h9 => h9) rfl hin2 rfl rfl rfl (by simp) (tq_mixT (by decide)) (by rw [tq_pm_5 ho hP6, tq_up_cell]; rfl) dX4_init_39 (fun H locs hz9 hW hS => ?_)
  generalize eS13 : tq_up S12 1 o 4 p5 = S13 at hW
  have h := h S13 eS13.symm
  refine lv_aload_n hx hb dX4_init_42 rfl (lv_at hl 0 rfl) ?_
  refine lv_iload_n hx hb dX4_init_43 rfl (lv_at hl 3 rfl) ?_
  refine lv_iconst (v := 4) hx hb dX4_init_44 (by decide) ?_
  refine lv_imul hx hb dX4_init_45 ?_
  refine lv_iload hx hb dX4_init_46 (lv_at hl 4 rfl) ?_
  refine lv_iconst (v := 0) hx hb dX4_init_48 (by decide) ?_
  refine va_mmax hx hb (hml.trans hl.1.symm) hown (hw _ tw_659) (hw _ tw_660) (hw _ tw_132) (hw _ tw_661) (Nat.le_of_ble_eq_true rfl) (Nat.le_of_ble_eq_true rfl) (hN.f).1 (hN.f).2 dX4_init_49 ?_
  refine lv_iadd hx hb dX4_init_52 ?_
  refine tq_putGF (T1 := tq_mix (tq_up S13 1 o 5 ((p3 * 4) + (if p4 < 0 then 0 else p4))) M) (v := .int ((p3 * 4) + (if p4 < 0 then 0 else p4))) (fs := [.int (S13 1 o 0), .int (S13 1 o 1), .int (S13 1 o 2), .int (S13 1 o 3), .int (S13 1 o 4), .int (S13 1 o 5), tq_pf (S13 1 o 6) (ad 59 o)]) hx hb hw tq_inX4 tyX4 tyX4_ok nmX4 hown hK hW hS (tq_pm_5 ho hP6) rfl 5 (by decide) (hw _ tw_672) (fun _ h9 => h9) rfl hin2 rfl rfl rfl (by simp) (tq_mixT (by decide)) (by rw [tq_pm_5 ho hP6, tq_up_cell]; rfl) dX4_init_53 (fun H locs hz9 hW hS => ?_)
  generalize eS14 : tq_up S13 1 o 5 ((p3 * 4) + (if p4 < 0 then 0 else p4)) = S14 at hW
  have h := h S14 eS14.symm
  obtain ⟨b15, h⟩ := h
  have hW := hW.prom (K := 10) (f := (S14 1 o)) ho (by decide) (by decide) (tq_ad1_10 hG.adr ho).symm (by rw [hP6]; exact tq_pd_5) (fun N h9 => by rw [tq_mk_10 h9, tq_pf1 b15]; rfl)
  exact tqb_vretP hx hb hr hN (by decide) h hW hS dX4_init_56 hlocks
-- X9 init
def wpX9_init (post : tq_Nn → tq_St → Prop) (N : tq_Nn) (S : tq_St) (o : Nat) (p1 : Int32) (p2 : Int32) (p3 : Int32) (p4 : Int32) (p5 : Int32) (p6 : Int32) : Prop :=
  ¬ o < 1 ∧ N 1 o = 6 ∧ N 0 0 = o + 1 ∧ (narrow .boolean (.int p1) = .int p1 ∧ (∀ S2, S2 = tq_up S 1 o 0 p1 → (narrow .boolean (.int p2) = .int p2 ∧ (∀ S4, S4 = tq_up S2 1 o 1 p2 → ((∀ S5, S5 = tq_up S4 1 o 2 p3 → ((∀ S6, S6 = tq_up S5 1 o 3 p4 → ((∀ S7, S7 = tq_up S6 1 o 4 p5 → ((∀ S8, S8 = tq_up S7 1 o 5 p6 → (post (tq_pr N o 11) (tq_cp S8 11 o (S8 1 o)))))))))))))))
set_option maxHeartbeats 4000000 in
set_option maxRecDepth 100000 in
theorem kX9_init {post : tq_Nn → tq_St → Prop} {N : tq_Nn} {S : tq_St} {sz sl : Nat} {o : Nat} {p1 : Int32} {p2 : Int32} {p3 : Int32} {p4 : Int32} {p5 : Int32} {p6 : Int32} (h : wpX9_init post N S o p1 p2 p3 p4 p5 p6) : tq_bV l yX9_init (tq_ws yX9_init cX9_init 7 none) 1 21 D cy z A0 H0 ad N M S sz sl [.ref (ad 1 o), .int p1, .int p2, .int p3, .int p4, .int p5, .int p6] post := by
  unfold wpX9_init at h
  refine Met.ofW (cc := cX9_init) (maxL := 7) (ret := none) (by decide) rfl ?_
  intro p e s m args below meth c s₁ B hml hv
  obtain ⟨rfl, ⟨hW, hK, hG⟩, rfl, rfl, hN1, hN2, hN3, hN4⟩ := hv
  have hN : tq_nb z A0 s N := ⟨hN1, hN2, hN3, hN4⟩
  have hx := B.exec
  have hb := B.bytes
  have hr := B.returns
  have hts := atoms_spec (ws := (tq_ws yX9_init cX9_init 7 none)) B.pre
  have hw : ∀ w ∈ tq_W, w.before _ s = true := fun w h => hts w (List.mem_cons_of_mem _ h)
  have hown : s.vm.findClass RX9 = some m.cls := findClass_of_methodNamed B.named
  have hlocks := B.notSynchronized
  have C : tq_At p s m meth c [.ref (ad 1 o), .int p1, .int p2, .int p3, .int p4, .int p5, .int p6].toArray cX9_init 7 (none) ((tq_ws yX9_init cX9_init 7 none)) RX9 D cy z ad := ⟨hx, hb, hr, hml, hown, hts, hlocks, hK, hG⟩
  have hS : va_S (fun q => z ≤ q) s.heap s.heap [] := va_S.rf
  have hl := lv_entry ([.ref (ad 1 o), .int p1, .int p2, .int p3, .int p4, .int p5, .int p6]) (n := 7) (Nat.le_of_ble_eq_true rfl)
  rw [lg_entry_eq]
  generalize (lg_sl ([.ref (ad 1 o), .int p1, .int p2, .int p3, .int p4, .int p5, .int p6]) ++ List.replicate (7 - (lg_sl ([.ref (ad 1 o), .int p1, .int p2, .int p3, .int p4, .int p5, .int p6])).length) Slot.unset).toArray = ls at hl ⊢
  have hl : lv_has ls 7 [(0, .ref (ad 1 o)), (1, .int p1), (2, .int p2), (3, .int p3), (4, .int p4), (5, .int p5), (6, .int p6)] := hl
  have hW : tq_wd D cy z H0 ad N (tq_mix S M) s.heap := hW
  refine tq_tight (c1 := z + N 0 0 - s.heap.size) (n1 := A0 + N 0 1 - tq_all s.heap) (by omega) (by omega) ?_
  obtain ⟨ho, hP0, hj0, h⟩ := h
  have hin2 : meth.name = "<init>" := (name_of_methodNamed B.named B.method).1
  refine lv_aload_n hx hb dX9_init_0 rfl (lv_at hl 0 rfl) ?_
  refine W.objInit hx hb hown (hw _ tw_722) (hw _ tw_147) (hw _ tw_148) rfl (by rw [hml]; exact hl.1) rfl dX9_init_1 (Nat.le_of_ble_eq_true rfl) (Nat.le_of_ble_eq_true rfl) ?_
  refine W.eq (g2 := F0 m 4 ls []) rfl ?_
  refine lv_aload_n hx hb dX9_init_4 rfl (lv_at hl 0 rfl) ?_
  refine lv_iload_n hx hb dX9_init_5 rfl (lv_at hl 1 rfl) ?_
  obtain ⟨b1, h⟩ := h
  refine tq_putGF (T1 := tq_mix (tq_up S 1 o 0 p1) M) (v := .int p1) (fs := [.int (S 1 o 0), .int (S 1 o 1), .int (S 1 o 2), .int (S 1 o 3), .int (S 1 o 4), .int (S 1 o 5)]) hx hb hw tq_inX9 tyX9 tyX9_ok nmX9 hown hK hW hS (tq_pm_6 ho hP0) rfl 0 (by decide) (hw _ tw_723) (fun _ h9 => h9) rfl hin2 rfl b1 (by have q := fits_narrow_boolean p1; rw [b1] at q; exact q) (by simp) (tq_mixT (by decide)) (by rw [tq_pm_6 ho hP0, tq_up_cell]; rfl) dX9_init_6 (fun H locs hz9 hW hS => ?_)
  generalize eS2 : tq_up S 1 o 0 p1 = S2 at hW
  have h := h S2 eS2.symm
  refine lv_aload_n hx hb dX9_init_9 rfl (lv_at hl 0 rfl) ?_
  refine lv_iload_n hx hb dX9_init_10 rfl (lv_at hl 2 rfl) ?_
  obtain ⟨b3, h⟩ := h
  refine tq_putGF (T1 := tq_mix (tq_up S2 1 o 1 p2) M) (v := .int p2) (fs := [.int (S2 1 o 0), .int (S2 1 o 1), .int (S2 1 o 2), .int (S2 1 o 3), .int (S2 1 o 4), .int (S2 1 o 5)]) hx hb hw tq_inX9 tyX9 tyX9_ok nmX9 hown hK hW hS (tq_pm_6 ho hP0) rfl 1 (by decide) (hw _ tw_725) (fun _ h9 => h9) rfl hin2 rfl b3 (by have q := fits_narrow_boolean p2; rw [b3] at q; exact q) (by simp) (tq_mixT (by decide)) (by rw [tq_pm_6 ho hP0, tq_up_cell]; rfl) dX9_init_11 (fun H locs hz9 hW hS => ?_)
  generalize eS4 : tq_up S2 1 o 1 p2 = S4 at hW
  have h := h S4 eS4.symm
  refine lv_aload_n hx hb dX9_init_14 rfl (lv_at hl 0 rfl) ?_
  refine lv_iload_n hx hb dX9_init_15 rfl (lv_at hl 3 rfl) ?_
  refine tq_putGF (T1 := tq_mix (tq_up S4 1 o 2 p3) M) (v := .int p3) (fs := [.int (S4 1 o 0), .int (S4 1 o 1), .int (S4 1 o 2), .int (S4 1 o 3), .int (S4 1 o 4), .int (S4 1 o 5)]) hx hb hw tq_inX9 tyX9 tyX9_ok nmX9 hown hK hW hS (tq_pm_6 ho hP0) rfl 2 (by decide) (hw _ tw_726) (fun _ h9 => h9) rfl hin2 rfl rfl rfl (by simp) (tq_mixT (by decide)) (by rw [tq_pm_6 ho hP0, tq_up_cell]; rfl) dX9_init_16 (fun H locs hz9 hW hS => ?_)
  generalize eS5 : tq_up S4 1 o 2 p3 = S5 at hW
  have h := h S5 eS5.symm
  refine lv_aload_n hx hb dX9_init_19 rfl (lv_at hl 0 rfl) ?_
  refine lv_iload hx hb dX9_init_20 (lv_at hl 4 rfl) ?_
  refine tq_putGF (T1 := tq_mix (tq_up S5 1 o 3 p4) M) (v := .int p4) (fs := [.int (S5 1 o 0), .int (S5 1 o 1), .int (S5 1 o 2), .int (S5 1 o 3), .int (S5 1 o 4), .int (S5 1 o 5)]) hx hb hw tq_inX9 tyX9 tyX9_ok nmX9 hown hK hW hS (tq_pm_6 ho hP0) rfl 3 (by decide) (hw _ tw_728) (fun _ h9 => h9) rfl hin2 rfl rfl rfl (by simp) (tq_mixT (by decide)) (by rw [tq_pm_6 ho hP0, tq_up_cell]; rfl) dX9_init_22 (fun H locs hz9 hW hS => ?_)
  generalize eS6 : tq_up S5 1 o 3 p4 = S6 at hW
  have h := h S6 eS6.symm
  refine lv_aload_n hx hb dX9_init_25 rfl (lv_at hl 0 rfl) ?_
  refine lv_iload hx hb dX9_init_26 (lv_at hl 5 rfl) ?_
  refine tq_putGF (T1 := tq_mix (tq_up S6 1 o 4 p5) M) (v := .int p5) (fs := [.int (S6 1 o 0), .int (S6 1 o 1), .int (S6 1 o 2), .int (S6 1 o 3), .int (S6 1 o 4), .int (S6 1 o 5)]) hx hb hw tq_inX9 tyX9 tyX9_ok nmX9 hown hK hW hS (tq_pm_6 ho hP0) rfl 4 (by decide) (hw _ tw_730) (fun _ h9 => h9) rfl hin2 rfl rfl rfl (by simp) (tq_mixT (by decide)) (by rw [tq_pm_6 ho hP0, tq_up_cell]; rfl) dX9_init_28 (fun H locs hz9 hW hS => ?_)
  generalize eS7 : tq_up S6 1 o 4 p5 = S7 at hW
  have h := h S7 eS7.symm
  refine lv_aload_n hx hb dX9_init_31 rfl (lv_at hl 0 rfl) ?_
  refine lv_iload hx hb dX9_init_32 (lv_at hl 6 rfl) ?_
  refine tq_putGF (T1 := tq_mix (tq_up S7 1 o 5 p6) M) (v := .int p6) (fs := [.int (S7 1 o 0), .int (S7 1 o 1), .int (S7 1 o 2), .int (S7 1 o 3), .int (S7 1 o 4), .int (S7 1 o 5)]) hx hb hw tq_inX9 tyX9 tyX9_ok nmX9 hown hK hW hS (tq_pm_6 ho hP0) rfl 5 (by decide) (hw _ tw_731) (fun _ h9 => h9) rfl hin2 rfl rfl rfl (by simp) (tq_mixT (by decide)) (by rw [tq_pm_6 ho hP0, tq_up_cell]; rfl) dX9_init_34 (fun H locs hz9 hW hS => ?_)
  generalize eS8 : tq_up S7 1 o 5 p6 = S8 at hW
  have h := h S8 eS8.symm
  have hW := hW.prom (K := 11) (f := (S8 1 o)) ho (by decide) (by decide) (tq_ad1_11 hG.adr ho).symm (by rw [hP0]; exact tq_pd_6) (fun N h9 => by rw [tq_mk_11 h9]; rfl)
  exact tqb_vretP hx hb hr hN (by decide) h hW hS dX9_init_37 hlocks
-- X6 readTest
def wbX6_readTest_39 (post : tq_Nn → tq_St → Nat → Prop)  (N : tq_Nn) (S : tq_St) (x1 : Int32) (x2 : Int32) (x3 : Int32) (y0 : Int32) : Prop :=
  wpX6_readSign N (fun S11 r12 => N 0 0 + 1 ≤ tq_CX ∧ N 0 1 + 6 ≤ tq_CY ∧ (∀ i15, ¬ i15 < 1 → i15 ≤ N 0 0 → tq_fr N i15 → ∀ N16, N16 = tq_na N (i15 + 1) 1 i15 6 6 → ∀ S17, S17 = tq_cp S11 1 i15 (fun _ => 0) → (wpX6_readNumber N16 (fun S19 r20 => wpX9_init (fun N21 S22 => post N21 S22 i15) N16 S19 i15 x1 x2 x3 y0 r12 r20) S17 ))) S 
def wbX6_readTest_31 (post : tq_Nn → tq_St → Nat → Prop)  (N : tq_Nn) (S : tq_St) (x1 : Int32) (x2 : Int32) (x3 : Int32) : Prop :=
  wpX6_readSort N (fun S9 r10 => wbX6_readTest_39 post N S9 x1 x2 x3 r10) S 
def wbX6_readTest_17 (post : tq_Nn → tq_St → Nat → Prop)  (N : tq_Nn) (S : tq_St) (x1 : Int32) (x2 : Int32) : Prop :=
  wpX6_readField N (fun S5 r6 => (r6 = 0 → (wbX6_readTest_31 post N S5 x1 x2 r6)) ∧ (¬ r6 = 0 → ((¬ r6 = 1 → (wbX6_readTest_39 post N S5 x1 x2 r6 ((-1)))) ∧ (r6 = 1 → (wbX6_readTest_31 post N S5 x1 x2 r6))))) S 
def wpX6_readTest (post : tq_Nn → tq_St → Nat → Prop) (N : tq_Nn) (S : tq_St) (p0 : Int32) : Prop :=
  wpX6_takes N (fun S1 r2 => (r2 = 0 → (wbX6_readTest_17 post N S1 p0 r2)) ∧ (¬ r2 = 0 → (wpX6_expect N (fun S4 => wbX6_readTest_17 post N S4 p0 r2) S1 10))) S 110
set_option maxHeartbeats 4000000 in
set_option maxRecDepth 100000 in
theorem bX6_readTest_39 {p : Program} {e : Env} {s : State} {m : MethodId} {args : Array Value} {below : List Frame} {meth : Method} {c : Code} {post : tq_Nn → tq_St → Nat → Prop} (C : tq_At p s m meth c args cX6_readTest 6 ((some (.object "TwoSeas$Test"))) ((tq_ws yX6_readTest cX6_readTest 6 (some (.object "TwoSeas$Test")))) RX6 D cy z ad)  : ∀ (N : tq_Nn) (S : tq_St) (x1 : Int32) (x2 : Int32) (x3 : Int32) (y0 : Int32) (H : Heap) (locs : List Loc) (ls : Array Slot), wbX6_readTest_39 post  N S x1 x2 x3 y0 → tq_nb z A0 s N → tq_wd D cy z H0 ad N (tq_mix S M) H → va_S (fun q => z ≤ q) s.heap H locs → lv_has ls 6 [(0, .ref (ad 3 0)), (1, .int x1), (2, .int x2), (3, .int x3)] → tq_Wb p l e 6 128 s m args below meth c z A0 N H locs (MQ below (va_Qr (fun (u : (tq_Nn × tq_St) × Nat) => post u.1.1 u.1.2 u.2) (fun u a t => a = ad 11 u.2 ∧ tq_PB D cy z A0 H0 ad M u.1 t) (fun q => z ≤ q)) args s (z + tq_CX - s.heap.size) (A0 + tq_CY - tq_all s.heap) (fun q => z ≤ q)) (F0 m 39 ls [.int y0]) := by
  obtain ⟨hx, hb, hr, hml, hown, hts, hlocks, hK, hG⟩ := id C
  have hw : ∀ w ∈ tq_W, w.before args s = true := fun w h => hts w (List.mem_cons_of_mem _ h)
  intro N S x1 x2 x3 y0 H locs ls h hN hW hS hl
  unfold wbX6_readTest_39 at h
  refine lv_istore (lv' := [(4, .int y0), (0, .ref (ad 3 0)), (1, .int x1), (2, .int x2), (3, .int x3)]) hx hb dX6_readTest_39 hl (by decide) rfl (fun ls hl => ?_)
  refine lv_aload_n hx hb dX6_readTest_41 rfl (lv_at hl 1 rfl) ?_
  refine tqc_callVi (As := []) (rest := []) (kX6_readSign h) ⟨hx, hb, hml, hown, hts⟩ (cwV 0 hts (tq_goodV tw_712 tw_714 tw_13 tw_119 tw_715) rfl rfl rfl (by decide +kernel) ⟨(Nat.le_of_ble_eq_true rfl), (Nat.le_of_ble_eq_true rfl)⟩) (tq_recvC hK hW (by decide) (tq_mk_3 (by decide)) rfl) hK hG hW hS rfl hl.1 rfl (Nat.le_of_ble_eq_true rfl) dX6_readTest_42 hN.f (fun r12 S11 H locs h hW hS => ?_)
  refine lv_istore (lv' := [(5, .int r12), (4, .int y0), (0, .ref (ad 3 0)), (1, .int x1), (2, .int x2), (3, .int x3)]) hx hb dX6_readTest_45 hl (by decide) rfl (fun ls hl => ?_)
  obtain ⟨b13, b14, h⟩ := h
  refine tqw_new (ci := 10) (t := 6) (fs := [.int 0, .int 0, .int 0, .int 0, .int 0, .int 0]) hx hb hw tq_inX9 tyX9 tyX9_ok hown (hw _ tw_717) (hw _ tw_718) (hw _ tw_133) hK hG hW hS hN rfl (by decide) (fun _ => rfl) b13 b14 dX6_readTest_47 (fun i15 H hz9 hi18 hi2 hfr hN hW hS => ?_)
  generalize eN16 : tq_na N (i15 + 1) 1 i15 6 6 = N16 at hN hW ⊢
  generalize eS17 : tq_cp S11 1 i15 (fun _ => 0) = S17 at hW
  have h := h i15 hi18 hi2 hfr N16 eN16.symm S17 eS17.symm
  refine lv_dup hx hb dX6_readTest_50 rfl ?_
  refine lv_iload_n hx hb dX6_readTest_51 rfl (lv_at hl 3 rfl) ?_
  refine lv_iload_n hx hb dX6_readTest_52 rfl (lv_at hl 4 rfl) ?_
  refine lv_iload_n hx hb dX6_readTest_53 rfl (lv_at hl 5 rfl) ?_
  refine lv_iload hx hb dX6_readTest_54 (lv_at hl 1 rfl) ?_
  refine lv_iload hx hb dX6_readTest_56 (lv_at hl 0 rfl) ?_
  refine lv_aload_n hx hb dX6_readTest_58 rfl (lv_at hl 2 rfl) ?_
  refine tqc_callVi (As := []) (rest := [.int r12, .int y0, .int x3, .int x2, .int x1, .ref (ad 1 i15), .ref (ad 1 i15)]) (kX6_readNumber h) ⟨hx, hb, hml, hown, hts⟩ (cwV 0 hts (tq_goodV tw_645 tw_647 tw_8 tw_119 tw_648) rfl rfl rfl (by decide +kernel) ⟨(Nat.le_of_ble_eq_true rfl), (Nat.le_of_ble_eq_true rfl)⟩) (tq_recvC hK hW (by decide) (tq_mk_3 (by decide)) rfl) hK hG hW hS rfl hl.1 rfl (Nat.le_of_ble_eq_true rfl) dX6_readTest_59 hN.f (fun r20 S19 H locs h hW hS => ?_)
  refine tqb_callIv (As := [.int x1, .int x2, .int x3, .int y0, .int r12, .int r20]) (rest := [.ref (ad 1 i15)]) (kX9_init h) ⟨hx, hb, hml, hown, hts⟩ (cwI 6 hts (tq_goodO tw_721) rfl rfl rfl (hw _ tw_133) (hw _ tw_719) (hw _ tw_720) rfl (by decide +kernel) ⟨(Nat.le_of_ble_eq_true rfl), (Nat.le_of_ble_eq_true rfl)⟩) hK hG hW hS rfl hl.1 rfl (Nat.le_of_ble_eq_true rfl) dX6_readTest_62 hN (fun N21 S22 H locs h hN hW hS => ?_)
  refine W.eq (g2 := F0 m 65 ls [.ref (ad 11 i15)]) (by rw [tq_ad1_11 hG.adr hi18]) ?_
  exact tqb_aret (k := 11) (i := i15) hx hb hr (Or.inl ⟨_, rfl⟩) hN h hW hS dX6_readTest_65 hlocks
set_option maxHeartbeats 4000000 in
set_option maxRecDepth 100000 in
theorem bX6_readTest_31 {p : Program} {e : Env} {s : State} {m : MethodId} {args : Array Value} {below : List Frame} {meth : Method} {c : Code} {post : tq_Nn → tq_St → Nat → Prop} (C : tq_At p s m meth c args cX6_readTest 6 ((some (.object "TwoSeas$Test"))) ((tq_ws yX6_readTest cX6_readTest 6 (some (.object "TwoSeas$Test")))) RX6 D cy z ad)  : ∀ (N : tq_Nn) (S : tq_St) (x1 : Int32) (x2 : Int32) (x3 : Int32) (H : Heap) (locs : List Loc) (ls : Array Slot), wbX6_readTest_31 post  N S x1 x2 x3 → tq_nb z A0 s N → tq_wd D cy z H0 ad N (tq_mix S M) H → va_S (fun q => z ≤ q) s.heap H locs → lv_has ls 6 [(0, .ref (ad 3 0)), (1, .int x1), (2, .int x2), (3, .int x3)] → tq_Wb p l e 6 128 s m args below meth c z A0 N H locs (MQ below (va_Qr (fun (u : (tq_Nn × tq_St) × Nat) => post u.1.1 u.1.2 u.2) (fun u a t => a = ad 11 u.2 ∧ tq_PB D cy z A0 H0 ad M u.1 t) (fun q => z ≤ q)) args s (z + tq_CX - s.heap.size) (A0 + tq_CY - tq_all s.heap) (fun q => z ≤ q)) (F0 m 31 ls []) := by
  obtain ⟨hx, hb, hr, hml, hown, hts, hlocks, hK, hG⟩ := id C
  have hw : ∀ w ∈ tq_W, w.before args s = true := fun w h => hts w (List.mem_cons_of_mem _ h)
  intro N S x1 x2 x3 H locs ls h hN hW hS hl
  unfold wbX6_readTest_31 at h
  refine lv_aload_n hx hb dX6_readTest_31 rfl (lv_at hl 0 rfl) ?_
  refine tqc_callVi (As := []) (rest := []) (kX6_readSort h) ⟨hx, hb, hml, hown, hts⟩ (cwV 0 hts (tq_goodV tw_638 tw_640 tw_7 tw_119 tw_641) rfl rfl rfl (by decide +kernel) ⟨(Nat.le_of_ble_eq_true rfl), (Nat.le_of_ble_eq_true rfl)⟩) (tq_recvC hK hW (by decide) (tq_mk_3 (by decide)) rfl) hK hG hW hS rfl hl.1 rfl (Nat.le_of_ble_eq_true rfl) dX6_readTest_32 hN.f (fun r10 S9 H locs h hW hS => ?_)
  refine lv_goto (tgt := 39) hx hb dX6_readTest_35 (by decide) ?_
  exact bX6_readTest_39 C  _ _ _ _ _ _ _ _ _ h hN hW hS (lv_sub hl [0, 1, 2, 3] rfl)
set_option maxHeartbeats 4000000 in
set_option maxRecDepth 100000 in
theorem bX6_readTest_17 {p : Program} {e : Env} {s : State} {m : MethodId} {args : Array Value} {below : List Frame} {meth : Method} {c : Code} {post : tq_Nn → tq_St → Nat → Prop} (C : tq_At p s m meth c args cX6_readTest 6 ((some (.object "TwoSeas$Test"))) ((tq_ws yX6_readTest cX6_readTest 6 (some (.object "TwoSeas$Test")))) RX6 D cy z ad)  : ∀ (N : tq_Nn) (S : tq_St) (x1 : Int32) (x2 : Int32) (H : Heap) (locs : List Loc) (ls : Array Slot), wbX6_readTest_17 post  N S x1 x2 → tq_nb z A0 s N → tq_wd D cy z H0 ad N (tq_mix S M) H → va_S (fun q => z ≤ q) s.heap H locs → lv_has ls 6 [(0, .ref (ad 3 0)), (1, .int x1), (2, .int x2)] → tq_Wb p l e 6 128 s m args below meth c z A0 N H locs (MQ below (va_Qr (fun (u : (tq_Nn × tq_St) × Nat) => post u.1.1 u.1.2 u.2) (fun u a t => a = ad 11 u.2 ∧ tq_PB D cy z A0 H0 ad M u.1 t) (fun q => z ≤ q)) args s (z + tq_CX - s.heap.size) (A0 + tq_CY - tq_all s.heap) (fun q => z ≤ q)) (F0 m 17 ls []) := by
  obtain ⟨hx, hb, hr, hml, hown, hts, hlocks, hK, hG⟩ := id C
  have hw : ∀ w ∈ tq_W, w.before args s = true := fun w h => hts w (List.mem_cons_of_mem _ h)
  intro N S x1 x2 H locs ls h hN hW hS hl
  unfold wbX6_readTest_17 at h
  refine lv_aload_n hx hb dX6_readTest_17 rfl (lv_at hl 0 rfl) ?_
  refine tqc_callVi (As := []) (rest := []) (kX6_readField h) ⟨hx, hb, hml, hown, hts⟩ (cwV 0 hts (tq_goodV tw_703 tw_705 tw_12 tw_119 tw_706) rfl rfl rfl (by decide +kernel) ⟨(Nat.le_of_ble_eq_true rfl), (Nat.le_of_ble_eq_true rfl)⟩) (tq_recvC hK hW (by decide) (tq_mk_3 (by decide)) rfl) hK hG hW hS rfl hl.1 rfl (Nat.le_of_ble_eq_true rfl) dX6_readTest_18 hN.f (fun r6 S5 H locs h hW hS => ?_)
  refine lv_istore_n (lv' := [(3, .int r6), (0, .ref (ad 3 0)), (1, .int x1), (2, .int x2)]) hx hb dX6_readTest_21 rfl hl (by decide) rfl (fun ls hl => ?_)
  refine lv_iload_n hx hb dX6_readTest_22 rfl (lv_at hl 0 rfl) ?_
  refine lv_if_eq (tgt := 31) hx hb dX6_readTest_23 (by decide) (fun c7 => ?_) (fun c7 => ?_)
  · have h := h.1 c7
    exact bX6_readTest_31 C  _ _ _ _ _ _ _ _ h hN hW hS (lv_sub hl [1, 2, 3, 0] rfl)
  · have h := h.2 c7
    refine lv_iload_n hx hb dX6_readTest_26 rfl (lv_at hl 0 rfl) ?_
    refine lv_iconst (v := 1) hx hb dX6_readTest_27 (by decide) ?_
    refine lv_icmp_ne (tgt := 38) hx hb dX6_readTest_28 (by decide) (fun c8 => ?_) (fun c8 => ?_)
    · have h := h.1 c8
      refine lv_iconst (v := (-1)) hx hb dX6_readTest_38 (by decide) ?_
      exact bX6_readTest_39 C  _ _ _ _ _ _ _ _ _ h hN hW hS (lv_sub hl [1, 2, 3, 0] rfl)
    · have h := h.2 c8
      exact bX6_readTest_31 C  _ _ _ _ _ _ _ _ h hN hW hS (lv_sub hl [1, 2, 3, 0] rfl)
set_option maxHeartbeats 4000000 in
set_option maxRecDepth 100000 in
theorem kX6_readTest {post : tq_Nn → tq_St → Nat → Prop} {N : tq_Nn} {S : tq_St} {sz sl : Nat} {p0 : Int32} (h : wpX6_readTest post N S p0) : tq_bR 11 l yX6_readTest (tq_ws yX6_readTest cX6_readTest 6 (some (.object "TwoSeas$Test"))) 6 128 D cy z A0 H0 ad N M S sz sl [.ref (ad 3 0), .int p0] post := by
  unfold wpX6_readTest at h
  refine Met.ofW (cc := cX6_readTest) (maxL := 6) (ret := (some (.object "TwoSeas$Test"))) (by decide) rfl ?_
  intro p e s m args below meth c s₁ B hml hv
  obtain ⟨rfl, ⟨hW, hK, hG⟩, rfl, rfl, hN1, hN2, hN3, hN4⟩ := hv
  have hN : tq_nb z A0 s N := ⟨hN1, hN2, hN3, hN4⟩
  have hx := B.exec
  have hb := B.bytes
  have hr := B.returns
  have hts := atoms_spec (ws := (tq_ws yX6_readTest cX6_readTest 6 (some (.object "TwoSeas$Test")))) B.pre
  have hw : ∀ w ∈ tq_W, w.before _ s = true := fun w h => hts w (List.mem_cons_of_mem _ h)
  have hown : s.vm.findClass RX6 = some m.cls := findClass_of_methodNamed B.named
  have hlocks := B.notSynchronized
  have C : tq_At p s m meth c [.ref (ad 3 0), .int p0].toArray cX6_readTest 6 ((some (.object "TwoSeas$Test"))) ((tq_ws yX6_readTest cX6_readTest 6 (some (.object "TwoSeas$Test")))) RX6 D cy z ad := ⟨hx, hb, hr, hml, hown, hts, hlocks, hK, hG⟩
  have hS : va_S (fun q => z ≤ q) s.heap s.heap [] := va_S.rf
  have hl := lv_entry ([.ref (ad 3 0), .int p0]) (n := 6) (Nat.le_of_ble_eq_true rfl)
  rw [lg_entry_eq]
  generalize (lg_sl ([.ref (ad 3 0), .int p0]) ++ List.replicate (6 - (lg_sl ([.ref (ad 3 0), .int p0])).length) Slot.unset).toArray = ls at hl ⊢
  have hl : lv_has ls 6 [(0, .ref (ad 3 0)), (1, .int p0)] := hl
  have hW : tq_wd D cy z H0 ad N (tq_mix S M) s.heap := hW
  refine tq_tight (c1 := z + N 0 0 - s.heap.size) (n1 := A0 + N 0 1 - tq_all s.heap) (by omega) (by omega) ?_
  refine lv_aload_n hx hb dX6_readTest_0 rfl (lv_at hl 0 rfl) ?_
  refine lv_bipush (v := 110) hx hb dX6_readTest_1 (by decide) ?_
  refine tqc_callVi (As := [.int 110]) (rest := []) (kX6_takes h) ⟨hx, hb, hml, hown, hts⟩ (cwV 1 hts (tq_goodV tw_572 tw_574 tw_4 tw_119 tw_575) rfl rfl rfl (by decide +kernel) ⟨(Nat.le_of_ble_eq_true rfl), (Nat.le_of_ble_eq_true rfl)⟩) (tq_recvC hK hW (by decide) (tq_mk_3 (by decide)) rfl) hK hG hW hS rfl hl.1 rfl (Nat.le_of_ble_eq_true rfl) dX6_readTest_3 hN.f (fun r2 S1 H locs h hW hS => ?_)
  refine lv_istore_n (lv' := [(2, .int r2), (0, .ref (ad 3 0)), (1, .int p0)]) hx hb dX6_readTest_6 rfl hl (by decide) rfl (fun ls hl => ?_)
  refine lv_iload_n hx hb dX6_readTest_7 rfl (lv_at hl 0 rfl) ?_
  refine lv_if_eq (tgt := 17) hx hb dX6_readTest_8 (by decide) (fun c3 => ?_) (fun c3 => ?_)
  · have h := h.1 c3
    exact bX6_readTest_17 C  _ _ _ _ _ _ _ h hN hW hS (lv_sub hl [1, 2, 0] rfl)
  · have h := h.2 c3
    refine lv_aload_n hx hb dX6_readTest_11 rfl (lv_at hl 1 rfl) ?_
    refine va_ldcS hx hb hown (hG.2.1 ("TwoSeas$Reader", 101, "ot ", 10) (by decide)) dX6_readTest_12 ?_
    refine tqc_callVv (As := [.ref (ad 61 10)]) (rest := []) (kX6_expect h) ⟨hx, hb, hml, hown, hts⟩ (cwV 1 hts (tq_goodV tw_577 tw_579 tw_5 tw_119 tw_580) rfl rfl rfl (by decide +kernel) ⟨(Nat.le_of_ble_eq_true rfl), (Nat.le_of_ble_eq_true rfl)⟩) (tq_recvC hK hW (by decide) (tq_mk_3 (by decide)) rfl) hK hG hW hS rfl hl.1 rfl (Nat.le_of_ble_eq_true rfl) dX6_readTest_14 hN.f (fun S4 H locs h hW hS => ?_)
    exact bX6_readTest_17 C  _ _ _ _ _ _ _ h hN hW hS (lv_sub hl [1, 2, 0] rfl)
-- X6 readTests
def wbX6_readTests_58 (post : tq_Nn → tq_St → Prop) (L4 : tq_Nn → tq_St → Nat → Int32 → Int32 → Prop) (N : tq_Nn) (S : tq_St) (x1 : Nat) (x2 : Int32) (x3 : Int32) (y0 : Nat) : Prop :=
  wpX6_expect N (fun S18 => L4 N S18 x1 x2 (x3 + 1)) S y0
def wbX6_readTests_67 (post : tq_Nn → tq_St → Prop)  (N : tq_Nn) (S : tq_St) : Prop :=
  post N S
def wbX6_readTests_4 (post : tq_Nn → tq_St → Prop) : Nat → tq_Nn → tq_St → Nat → Int32 → Int32 → Prop
  | 0, _, _, _, _, _ => False
  | n + 1, N, S, x1, x2, x3 =>
    (4 ≤ x3 → (wbX6_readTests_67 post N S )) ∧ (¬ 4 ≤ x3 → (N 10 x1 = 1 ∧ (wpX6_readTest (fun N3 S4 r5 => N3 59 x1 = 1 ∧ tq_aok N3 S4 59 60 11 x1 r5 ∧ (∀ N7 S8, tq_added N3 S4 59 60 x1 r5 N7 S8 → ((x3 = 3 → (wbX6_readTests_67 post N7 S8 )) ∧ (¬ x3 = 3 → (wpX6_takes N7 (fun S12 r13 => (¬ r13 = 0 → (wpX6_takes N7 (fun S15 r16 => (r16 = 0 → (wbX6_readTests_58 post (wbX6_readTests_4 post n) N7 S15 x1 r16 x3 9)) ∧ (¬ r16 = 0 → (wbX6_readTests_58 post (wbX6_readTests_4 post n) N7 S15 x1 r16 x3 8))) S12 111)) ∧ (r13 = 0 → (wbX6_readTests_67 post N7 S12 ))) S8 32))))) N S x2)))
def wpX6_readTests (post : tq_Nn → tq_St → Prop) (N : tq_Nn) (S : tq_St) (p0 : Nat) : Prop :=
  ∃ nq, wbX6_readTests_4 post nq N S p0 0 0
set_option maxHeartbeats 4000000 in
set_option maxRecDepth 100000 in
theorem bX6_readTests_58 {p : Program} {e : Env} {s : State} {m : MethodId} {args : Array Value} {below : List Frame} {meth : Method} {c : Code} {post : tq_Nn → tq_St → Prop} (C : tq_At p s m meth c args cX6_readTests 4 (none) ((tq_ws yX6_readTests cX6_readTests 4 none)) RX6 D cy z ad) {L4 : tq_Nn → tq_St → Nat → Int32 → Int32 → Prop} (hL4 : ∀ (N : tq_Nn) (S : tq_St) (x1 : Nat) (x2 : Int32) (x3 : Int32) (H : Heap) (locs : List Loc) (ls : Array Slot), L4 N S x1 x2 x3 → tq_nb z A0 s N → tq_wd D cy z H0 ad N (tq_mix S M) H → va_S (fun q => z ≤ q) s.heap H locs → lv_has ls 4 [(0, .ref (ad 3 0)), (1, .ref (ad 10 x1)), (2, .int x2), (3, .int x3)] → tq_Wb p l e 7 241 s m args below meth c z A0 N H locs (MQ below (va_Qv (fun (u : tq_Nn × tq_St) => post u.1 u.2) (tq_PB D cy z A0 H0 ad M) (fun q => z ≤ q)) args s (z + tq_CX - s.heap.size) (A0 + tq_CY - tq_all s.heap) (fun q => z ≤ q)) (F0 m 4 ls [])) : ∀ (N : tq_Nn) (S : tq_St) (x1 : Nat) (x2 : Int32) (x3 : Int32) (y0 : Nat) (H : Heap) (locs : List Loc) (ls : Array Slot), wbX6_readTests_58 post L4 N S x1 x2 x3 y0 → tq_nb z A0 s N → tq_wd D cy z H0 ad N (tq_mix S M) H → va_S (fun q => z ≤ q) s.heap H locs → lv_has ls 4 [(0, .ref (ad 3 0)), (1, .ref (ad 10 x1)), (2, .int x2), (3, .int x3)] → tq_Wb p l e 7 241 s m args below meth c z A0 N H locs (MQ below (va_Qv (fun (u : tq_Nn × tq_St) => post u.1 u.2) (tq_PB D cy z A0 H0 ad M) (fun q => z ≤ q)) args s (z + tq_CX - s.heap.size) (A0 + tq_CY - tq_all s.heap) (fun q => z ≤ q)) (F0 m 58 ls [.ref (ad 61 y0), .ref (ad 3 0)]) := by
  obtain ⟨hx, hb, hr, hml, hown, hts, hlocks, hK, hG⟩ := id C
  have hw : ∀ w ∈ tq_W, w.before args s = true := fun w h => hts w (List.mem_cons_of_mem _ h)
  intro N S x1 x2 x3 y0 H locs ls h hN hW hS hl
  unfold wbX6_readTests_58 at h
  refine tqc_callVv (As := [.ref (ad 61 y0)]) (rest := []) (kX6_expect h) ⟨hx, hb, hml, hown, hts⟩ (cwV 1 hts (tq_goodV tw_577 tw_579 tw_5 tw_119 tw_580) rfl rfl rfl (by decide +kernel) ⟨(Nat.le_of_ble_eq_true rfl), (Nat.le_of_ble_eq_true rfl)⟩) (tq_recvC hK hW (by decide) (tq_mk_3 (by decide)) rfl) hK hG hW hS rfl hl.1 rfl (Nat.le_of_ble_eq_true rfl) dX6_readTests_58 hN.f (fun S18 H locs h hW hS => ?_)
  refine lv_iinc (v := x3 + 1) (lv' := [(3, .int (x3 + 1)), (0, .ref (ad 3 0)), (1, .ref (ad 10 x1)), (2, .int x2)]) hx hb dX6_readTests_61 hl (k := 3) rfl rfl (by decide) rfl (fun ls hl => ?_)
  refine lv_goto (tgt := 4) hx hb dX6_readTests_64 (by decide) ?_
  exact hL4 _ _ _ _ _ _ _ _ h hN hW hS (lv_sub hl [1, 2, 3, 0] rfl)
set_option maxHeartbeats 4000000 in
set_option maxRecDepth 100000 in
theorem bX6_readTests_67 {p : Program} {e : Env} {s : State} {m : MethodId} {args : Array Value} {below : List Frame} {meth : Method} {c : Code} {post : tq_Nn → tq_St → Prop} (C : tq_At p s m meth c args cX6_readTests 4 (none) ((tq_ws yX6_readTests cX6_readTests 4 none)) RX6 D cy z ad)  : ∀ (N : tq_Nn) (S : tq_St)  (H : Heap) (locs : List Loc) (ls : Array Slot), wbX6_readTests_67 post  N S  → tq_nb z A0 s N → tq_wd D cy z H0 ad N (tq_mix S M) H → va_S (fun q => z ≤ q) s.heap H locs → lv_has ls 4 [] → tq_Wb p l e 7 241 s m args below meth c z A0 N H locs (MQ below (va_Qv (fun (u : tq_Nn × tq_St) => post u.1 u.2) (tq_PB D cy z A0 H0 ad M) (fun q => z ≤ q)) args s (z + tq_CX - s.heap.size) (A0 + tq_CY - tq_all s.heap) (fun q => z ≤ q)) (F0 m 67 ls []) := by
  obtain ⟨hx, hb, hr, hml, hown, hts, hlocks, hK, hG⟩ := id C
  have hw : ∀ w ∈ tq_W, w.before args s = true := fun w h => hts w (List.mem_cons_of_mem _ h)
  intro N S  H locs ls h hN hW hS hl
  unfold wbX6_readTests_67 at h
  exact tqb_vret hx hb hr hN h hW hS dX6_readTests_67 hlocks
set_option maxHeartbeats 4000000 in
set_option maxRecDepth 100000 in
theorem bX6_readTests_4 {p : Program} {e : Env} {s : State} {m : MethodId} {args : Array Value} {below : List Frame} {meth : Method} {c : Code} {post : tq_Nn → tq_St → Prop} (C : tq_At p s m meth c args cX6_readTests 4 (none) ((tq_ws yX6_readTests cX6_readTests 4 none)) RX6 D cy z ad)  : ∀ n : Nat, ∀ (N : tq_Nn) (S : tq_St) (x1 : Nat) (x2 : Int32) (x3 : Int32) (H : Heap) (locs : List Loc) (ls : Array Slot), wbX6_readTests_4 post  n N S x1 x2 x3 → tq_nb z A0 s N → tq_wd D cy z H0 ad N (tq_mix S M) H → va_S (fun q => z ≤ q) s.heap H locs → lv_has ls 4 [(0, .ref (ad 3 0)), (1, .ref (ad 10 x1)), (2, .int x2), (3, .int x3)] → tq_Wb p l e 7 241 s m args below meth c z A0 N H locs (MQ below (va_Qv (fun (u : tq_Nn × tq_St) => post u.1 u.2) (tq_PB D cy z A0 H0 ad M) (fun q => z ≤ q)) args s (z + tq_CX - s.heap.size) (A0 + tq_CY - tq_all s.heap) (fun q => z ≤ q)) (F0 m 4 ls []) := by
  obtain ⟨hx, hb, hr, hml, hown, hts, hlocks, hK, hG⟩ := id C
  have hw : ∀ w ∈ tq_W, w.before args s = true := fun w h => hts w (List.mem_cons_of_mem _ h)
  intro n
  induction n with
  | zero =>
    intro N S x1 x2 x3 H locs ls h
    exact absurd h (by unfold wbX6_readTests_4; exact id)
  | succ n ih =>
    intro N S x1 x2 x3 H locs ls h hN hW hS hl
    unfold wbX6_readTests_4 at h
    refine lv_iload_n hx hb dX6_readTests_4 rfl (lv_at hl 3 rfl) ?_
    refine lv_iconst (v := 4) hx hb dX6_readTests_5 (by decide) ?_
    refine lv_icmp_ge (tgt := 67) hx hb dX6_readTests_6 (by decide) (fun c1 => ?_) (fun c1 => ?_)
    · have h := h.1 c1
      exact bX6_readTests_67 C  _ _  _ _ _ h hN hW hS (lv_sub hl [] rfl)
    · have h := h.2 c1
      refine lv_aload_n hx hb dX6_readTests_9 rfl (lv_at hl 1 rfl) ?_
      obtain ⟨b2, h⟩ := h
      refine tqc_get (v := .ref (ad 59 x1)) hx hb hw tq_inX4 hown hK hW (by decide) (tq_mk_10 b2) rfl 6 (by decide) (hw _ tw_675) (fun _ h9 => h9) rfl dX6_readTests_10 ?_
      refine lv_aload_n hx hb dX6_readTests_13 rfl (lv_at hl 0 rfl) ?_
      refine lv_iload_n hx hb dX6_readTests_14 rfl (lv_at hl 2 rfl) ?_
      refine tqb_callVr (kr := 11) (As := [.int x2]) (rest := [.ref (ad 59 x1)]) (kX6_readTest h) ⟨hx, hb, hml, hown, hts⟩ (cwV 1 hts (tq_goodV tw_698 tw_700 tw_11 tw_119 tw_701) rfl rfl rfl (by decide +kernel) ⟨(Nat.le_of_ble_eq_true rfl), (Nat.le_of_ble_eq_true rfl)⟩) (tq_recvC hK hW (by decide) (tq_mk_3 (by decide)) rfl) hK hG hW hS rfl hl.1 rfl (Nat.le_of_ble_eq_true rfl) dX6_readTests_15 hN (fun r5 N3 S4 H locs h hN hW hS => ?_)
      obtain ⟨b6, h⟩ := h
      obtain ⟨b10, h⟩ := h
      refine tqb_callVi (C := RJx4a65c) (As := [.ref (ad 11 r5)]) (rest := []) (kJl_add (post := fun N1 S1 r => r = 1 ∧ tq_added N3 S4 59 60 x1 r5 N1 S1) (tq_LK_59 hG.adr b6) b10 (fun N1 S1 q => ⟨rfl, q⟩)) ⟨hx, hb, hml, hown, hts⟩ (cwV 1 hts (tq_goodV tw_745 tw_746 tw_747 tw_118 tw_748) rfl rfl rfl (by decide +kernel) ⟨(Nat.le_of_ble_eq_true rfl), (Nat.le_of_ble_eq_true rfl)⟩) (tq_recvL hK hW (by decide) (tq_mk_59 b6)) hK hG hW hS rfl hl.1 rfl (Nat.le_of_ble_eq_true rfl) dX6_readTests_18 hN (fun r9 N7 S8 H locs q9 hN hW hS => ?_)
      rw [q9.1]
      have h := h N7 S8 q9.2
      refine lv_pop hx hb dX6_readTests_21 rfl ?_
      refine lv_iload_n hx hb dX6_readTests_22 rfl (lv_at hl 3 rfl) ?_
      refine lv_iconst (v := 3) hx hb dX6_readTests_23 (by decide) ?_
      refine lv_icmp_eq (tgt := 67) hx hb dX6_readTests_24 (by decide) (fun c11 => ?_) (fun c11 => ?_)
      · have h := h.1 c11
        exact bX6_readTests_67 C  _ _  _ _ _ h hN hW hS (lv_sub hl [] rfl)
      · have h := h.2 c11
        refine lv_aload_n hx hb dX6_readTests_27 rfl (lv_at hl 0 rfl) ?_
        refine lv_bipush (v := 32) hx hb dX6_readTests_28 (by decide) ?_
        refine tqc_callVi (As := [.int 32]) (rest := []) (kX6_takes h) ⟨hx, hb, hml, hown, hts⟩ (cwV 1 hts (tq_goodV tw_572 tw_574 tw_4 tw_119 tw_575) rfl rfl rfl (by decide +kernel) ⟨(Nat.le_of_ble_eq_true rfl), (Nat.le_of_ble_eq_true rfl)⟩) (tq_recvC hK hW (by decide) (tq_mk_3 (by decide)) rfl) hK hG hW hS rfl hl.1 rfl (Nat.le_of_ble_eq_true rfl) dX6_readTests_30 hN.f (fun r13 S12 H locs h hW hS => ?_)
        refine lv_if_ne (tgt := 39) hx hb dX6_readTests_33 (by decide) (fun c14 => ?_) (fun c14 => ?_)
        · have h := h.1 c14
          refine lv_aload_n hx hb dX6_readTests_39 rfl (lv_at hl 0 rfl) ?_
          refine lv_bipush (v := 111) hx hb dX6_readTests_40 (by decide) ?_
          refine tqc_callVi (As := [.int 111]) (rest := []) (kX6_takes h) ⟨hx, hb, hml, hown, hts⟩ (cwV 1 hts (tq_goodV tw_572 tw_574 tw_4 tw_119 tw_575) rfl rfl rfl (by decide +kernel) ⟨(Nat.le_of_ble_eq_true rfl), (Nat.le_of_ble_eq_true rfl)⟩) (tq_recvC hK hW (by decide) (tq_mk_3 (by decide)) rfl) hK hG hW hS rfl hl.1 rfl (Nat.le_of_ble_eq_true rfl) dX6_readTests_42 hN.f (fun r16 S15 H locs h hW hS => ?_)
          refine lv_istore_n (lv' := [(2, .int r16), (0, .ref (ad 3 0)), (1, .ref (ad 10 x1)), (3, .int x3)]) hx hb dX6_readTests_45 rfl hl (by decide) rfl (fun ls hl => ?_)
          refine lv_aload_n hx hb dX6_readTests_46 rfl (lv_at hl 1 rfl) ?_
          refine lv_iload_n hx hb dX6_readTests_47 rfl (lv_at hl 0 rfl) ?_
          refine lv_if_eq (tgt := 56) hx hb dX6_readTests_48 (by decide) (fun c17 => ?_) (fun c17 => ?_)
          · have h := h.1 c17
            refine va_ldcS hx hb hown (hG.2.1 ("TwoSeas$Reader", 99, "and ", 9) (by decide)) dX6_readTests_56 ?_
            exact bX6_readTests_58 C (fun N9 M9 a09 a19 a29 H9 q9 ls9 h9 hN9 hW9 hS9 hl9 => ih N9 M9 a09 a19 a29 H9 q9 ls9 h9 hN9 hW9 hS9 hl9) _ _ _ _ _ _ _ _ _ h hN hW hS (lv_sub hl [1, 2, 0, 3] rfl)
          · have h := h.2 c17
            refine va_ldcS hx hb hown (hG.2.1 ("TwoSeas$Reader", 97, "r ", 8) (by decide)) dX6_readTests_51 ?_
            refine lv_goto (tgt := 58) hx hb dX6_readTests_53 (by decide) ?_
            exact bX6_readTests_58 C (fun N9 M9 a09 a19 a29 H9 q9 ls9 h9 hN9 hW9 hS9 hl9 => ih N9 M9 a09 a19 a29 H9 q9 ls9 h9 hN9 hW9 hS9 hl9) _ _ _ _ _ _ _ _ _ h hN hW hS (lv_sub hl [1, 2, 0, 3] rfl)
        · have h := h.2 c14
          refine lv_goto (tgt := 67) hx hb dX6_readTests_36 (by decide) ?_
          exact bX6_readTests_67 C  _ _  _ _ _ h hN hW hS (lv_sub hl [] rfl)
set_option maxHeartbeats 4000000 in
set_option maxRecDepth 100000 in
theorem kX6_readTests {post : tq_Nn → tq_St → Prop} {N : tq_Nn} {S : tq_St} {sz sl : Nat} {p0 : Nat} (h : wpX6_readTests post N S p0) : tq_bV l yX6_readTests (tq_ws yX6_readTests cX6_readTests 4 none) 7 241 D cy z A0 H0 ad N M S sz sl [.ref (ad 3 0), .ref (ad 10 p0)] post := by
  unfold wpX6_readTests at h
  refine Met.ofW (cc := cX6_readTests) (maxL := 4) (ret := none) (by decide) rfl ?_
  intro p e s m args below meth c s₁ B hml hv
  obtain ⟨rfl, ⟨hW, hK, hG⟩, rfl, rfl, hN1, hN2, hN3, hN4⟩ := hv
  have hN : tq_nb z A0 s N := ⟨hN1, hN2, hN3, hN4⟩
  have hx := B.exec
  have hb := B.bytes
  have hr := B.returns
  have hts := atoms_spec (ws := (tq_ws yX6_readTests cX6_readTests 4 none)) B.pre
  have hw : ∀ w ∈ tq_W, w.before _ s = true := fun w h => hts w (List.mem_cons_of_mem _ h)
  have hown : s.vm.findClass RX6 = some m.cls := findClass_of_methodNamed B.named
  have hlocks := B.notSynchronized
  have C : tq_At p s m meth c [.ref (ad 3 0), .ref (ad 10 p0)].toArray cX6_readTests 4 (none) ((tq_ws yX6_readTests cX6_readTests 4 none)) RX6 D cy z ad := ⟨hx, hb, hr, hml, hown, hts, hlocks, hK, hG⟩
  have hS : va_S (fun q => z ≤ q) s.heap s.heap [] := va_S.rf
  have hl := lv_entry ([.ref (ad 3 0), .ref (ad 10 p0)]) (n := 4) (Nat.le_of_ble_eq_true rfl)
  rw [lg_entry_eq]
  generalize (lg_sl ([.ref (ad 3 0), .ref (ad 10 p0)]) ++ List.replicate (4 - (lg_sl ([.ref (ad 3 0), .ref (ad 10 p0)])).length) Slot.unset).toArray = ls at hl ⊢
  have hl : lv_has ls 4 [(0, .ref (ad 3 0)), (1, .ref (ad 10 p0))] := hl
  have hW : tq_wd D cy z H0 ad N (tq_mix S M) s.heap := hW
  refine tq_tight (c1 := z + N 0 0 - s.heap.size) (n1 := A0 + N 0 1 - tq_all s.heap) (by omega) (by omega) ?_
  refine lv_iconst (v := 0) hx hb dX6_readTests_0 (by decide) ?_
  refine lv_istore_n (lv' := [(2, .int 0), (0, .ref (ad 3 0)), (1, .ref (ad 10 p0))]) hx hb dX6_readTests_1 rfl hl (by decide) rfl (fun ls hl => ?_)
  refine lv_iconst (v := 0) hx hb dX6_readTests_2 (by decide) ?_
  refine lv_istore_n (lv' := [(3, .int 0), (2, .int 0), (0, .ref (ad 3 0)), (1, .ref (ad 10 p0))]) hx hb dX6_readTests_3 rfl hl (by decide) rfl (fun ls hl => ?_)
  obtain ⟨nq, h⟩ := h
  exact bX6_readTests_4 C  nq _ _ _ _ _ _ _ _ h hN hW hS (lv_sub hl [2, 3, 1, 0] rfl)
