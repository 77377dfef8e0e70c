variable {l : Launch} {D : va_G} {cy : Nat → ClassId} {z A0 : Nat} {H0 : Heap} {ad : Nat → Nat → Nat} {M : tq_St}
-- X3 init
def wpX3_init (post : tq_Nn → tq_St → Prop) (N : tq_Nn) (S : tq_St) (o : Nat) (p1 : Int32) (p2 : Int32) (p3 : Nat) (p4 : Int32) (p5 : Int32) : Prop :=
  ¬ o < 1 ∧ N 1 o = 1 ∧ N 0 0 = o + 1 ∧ (N 0 0 + 1 ≤ tq_CX ∧ N 0 1 + 5 ≤ tq_CY ∧ (∀ N3, N3 = tq_na N (N 0 0 + 1) 50 o 1 5 → ∀ S4, S4 = tq_cp S 50 o (fun _ => 0) → ((∀ S8, S8 = tq_up S4 1 o 5 1 → (N3 0 0 + 1 ≤ tq_CX ∧ N3 0 1 + 3 ≤ tq_CY ∧ (∀ N11, N11 = tq_na N3 (N3 0 0 + 1) 52 o 1 3 → ∀ S12, S12 = tq_cp S8 52 o (fun _ => 0) → ((∀ S16, S16 = tq_up S12 1 o 7 1 → ((∀ S17, S17 = tq_up S16 1 o 0 p1 → ((∀ S18, S18 = tq_up S17 1 o 1 p2 → (p3 < 5 ∧ ((∀ S20, S20 = tq_up S18 1 o 2 (S18 2 p3 0) → ((∀ S21, S21 = tq_up S20 1 o 3 p4 → ((∀ S22, S22 = tq_up S21 1 o 4 p5 → (N11 0 0 + 1 ≤ tq_CX ∧ N11 0 1 + 4 ≤ tq_CY ∧ (∀ N25, N25 = tq_na N11 (N11 0 0 + 1) 51 o 1 4 → ∀ S26, S26 = tq_cp S22 51 o (S22 30 p3) → ((∀ S30, S30 = tq_up S26 1 o 6 1 → (¬ S30 1 o 5 = 0 ∧ (N25 50 o = 1 ∧ (∀ S33, S33 = tq_cp S30 50 o (tq_fl (S30 50 o) 5 (-1)) → (¬ S33 1 o 5 = 0 ∧ (vp_in (S33 2 p3 0) 5 ∧ (∀ S36, S36 = tq_up S33 50 o ((S33 2 p3 0).toNatClampNeg) p5 → (¬ S36 1 o 5 = 0 ∧ ¬ S36 1 o 6 = 0 ∧ ¬ S36 1 o 7 = 0 ∧ post (tq_pr N25 o 7) (tq_cp S36 7 o (fun t => if t = 13 then 0 else S36 1 o t))))))))))))))))))))))))))))))))
set_option maxHeartbeats 4000000 in
set_option maxRecDepth 100000 in
theorem kX3_init {post : tq_Nn → tq_St → Prop} {N : tq_Nn} {S : tq_St} {sz sl : Nat} {o : Nat} {p1 : Int32} {p2 : Int32} {p3 : Nat} {p4 : Int32} {p5 : Int32} (h : wpX3_init post N S o p1 p2 p3 p4 p5) : tq_bV l yX3_init (tq_ws yX3_init cX3_init 6 none) 4 90 D cy z A0 H0 ad N M S sz sl [.ref (ad 1 o), .int p1, .int p2, .ref (ad 2 p3), .int p4, .int p5] post := by
  unfold wpX3_init at h
  refine Met.ofW (cc := cX3_init) (maxL := 6) (ret := none) (by decide) rfl ?_
  intro p e s m args below meth c s₁ B hml hv
  obtain ⟨rfl, ⟨hW, hK, hG⟩, rfl, rfl, hN1, hN2, hN3, hN4⟩ := hv
  have hN : tq_nb z A0 s N := ⟨hN1, hN2, hN3, hN4⟩
  have hx := B.exec
  have hb := B.bytes
  have hr := B.returns
  have hts := atoms_spec (ws := (tq_ws yX3_init cX3_init 6 none)) B.pre
  have hw : ∀ w ∈ tq_W, w.before _ s = true := fun w h => hts w (List.mem_cons_of_mem _ h)
  have hown : s.vm.findClass RX3 = some m.cls := findClass_of_methodNamed B.named
  have hlocks := B.notSynchronized
  have C : tq_At p s m meth c [.ref (ad 1 o), .int p1, .int p2, .ref (ad 2 p3), .int p4, .int p5].toArray cX3_init 6 (none) ((tq_ws yX3_init cX3_init 6 none)) RX3 D cy z ad := ⟨hx, hb, hr, hml, hown, hts, hlocks, hK, hG⟩
  have hS : va_S (fun q => z ≤ q) s.heap s.heap [] := va_S.rf
  have hl := lv_entry ([.ref (ad 1 o), .int p1, .int p2, .ref (ad 2 p3), .int p4, .int p5]) (n := 6) (Nat.le_of_ble_eq_true rfl)
  rw [lg_entry_eq]
  generalize (lg_sl ([.ref (ad 1 o), .int p1, .int p2, .ref (ad 2 p3), .int p4, .int p5]) ++ List.replicate (6 - (lg_sl ([.ref (ad 1 o), .int p1, .int p2, .ref (ad 2 p3), .int p4, .int p5])).length) Slot.unset).toArray = ls at hl ⊢
  have hl : lv_has ls 6 [(0, .ref (ad 1 o)), (1, .int p1), (2, .int p2), (3, .ref (ad 2 p3)), (4, .int p4), (5, .int p5)] := hl
  have hW : tq_wd D cy z H0 ad N (tq_mix S M) s.heap := hW
  refine tq_tight (c1 := z + N 0 0 - s.heap.size) (n1 := A0 + N 0 1 - tq_all s.heap) (by omega) (by omega) ?_
  obtain ⟨ho, hP0, hj0, h⟩ := h
  have hin2 : meth.name = "<init>" := (name_of_methodNamed B.named B.method).1
  refine lv_aload_n hx hb dX3_init_0 rfl (lv_at hl 0 rfl) ?_
  refine W.objInit hx hb hown (hw _ tw_493) (hw _ tw_147) (hw _ tw_148) rfl (by rw [hml]; exact hl.1) rfl dX3_init_1 (Nat.le_of_ble_eq_true rfl) (Nat.le_of_ble_eq_true rfl) ?_
  refine W.eq (g2 := F0 m 4 ls []) rfl ?_
  refine lv_aload_n hx hb dX3_init_4 rfl (lv_at hl 0 rfl) ?_
  refine lv_iconst (v := 5) hx hb dX3_init_5 (by decide) ?_
  obtain ⟨b1, b2, h⟩ := h
  refine tq_last (K := 1) (o := o) hW hN (tq_pm_1 ho hP0) (by rw [tq_ads_1 hG.adr ho, hj0]; omega) (fun hz9 => ?_)
  refine tqw_newa (k := 50) (i := o) (n := 5) (a := N 0 0 + 1) hx hb (hw _ tw_177) hK hW hS hN (by decide) (by decide) (fun N f h9 => tq_mk_50 h9) (by rw [hz9, tq_ads_50 hG.adr, hj0]; omega) (by omega) b1 b2 (by decide) (by decide) (by decide) dX3_init_6 (fun H hz9 hN hW hS => ?_)
  generalize eN3 : tq_na N (N 0 0 + 1) 50 o 1 5 = N3 at hN hW ⊢
  generalize eS4 : tq_cp S 50 o (fun _ => 0) = S4 at hW
  have hj5 : N3 0 0 = o + 1 + 1 := by rw [← eN3, tq_na00, hj0]
  have hP6 : N3 1 o = 1 := by rw [← eN3, tq_na_ne (by decide) (fun q => absurd q.1 (by decide))]; exact hP0
  have hl7 : N3 50 o = 1 := by rw [← eN3, tq_na_self _ _ _ _ _ _ (by decide)]
  have h := h N3 eN3.symm S4 eS4.symm
  refine tq_putGF (T1 := tq_mix (tq_up S4 1 o 5 1) M) (v := .ref (ad 50 o)) (fs := [.int (S4 1 o 0), .int (S4 1 o 1), .int (S4 1 o 2), .int (S4 1 o 3), .int (S4 1 o 4), tq_pf (S4 1 o 5) (ad 50 o), tq_pf (S4 1 o 6) (ad 51 o), tq_pf (S4 1 o 7) (ad 52 o), .int (S4 1 o 8), .int (S4 1 o 9)]) hx hb hw tq_inX3 tyX3 tyX3_ok nmX3 hown hK hW hS (tq_pm_1 ho hP6) rfl 5 (by decide) (hw _ tw_523) (fun _ h9 => h9) rfl hin2 rfl rfl rfl (by simp) (tq_mixT (by decide)) (by rw [tq_pm_1 ho hP6, tq_up_cell]; rfl) dX3_init_8 (fun H locs hz9 hW hS => ?_)
  generalize eS8 : tq_up S4 1 o 5 1 = S8 at hW
  have h := h S8 eS8.symm
  refine lv_aload_n hx hb dX3_init_11 rfl (lv_at hl 0 rfl) ?_
  obtain ⟨b9, b10, h⟩ := h
  refine tq_last (K := 50) (o := o) hW hN (by rw [tq_mixC _ _ (by decide)]; exact tq_mk_50 hl7) (by rw [tq_ads_50 hG.adr, hj5]; omega) (fun hz9 => ?_)
  refine tqw_newL (k := 52) (i := o) (a := N3 0 0 + 1) (kd := 53) hx hb hml hl.1 hts hown (hw _ tw_494) (hw _ tw_495) hK hG hW hS hN (by decide) (by decide) (fun N f h9 => tq_mk_52 h9) (by rw [hz9, tq_ads_52 hG.adr, hj5]; omega) (by omega) b9 b10 (Nat.le_of_ble_eq_true rfl) (Nat.le_of_ble_eq_true rfl) (Nat.le_of_ble_eq_true rfl) dX3_init_12 dX3_init_15 dX3_init_16 (fun H locs hz9 hN hW hS => ?_)
  generalize eN11 : tq_na N3 (N3 0 0 + 1) 52 o 1 3 = N11 at hN hW ⊢
  generalize eS12 : tq_cp S8 52 o (fun _ => 0) = S12 at hW
  have hj13 : N11 0 0 = o + 1 + 2 := by rw [← eN11, tq_na00, hj5]
  have hP14 : N11 1 o = 1 := by rw [← eN11, tq_na_ne (by decide) (fun q => absurd q.1 (by decide))]; exact hP6
  have hl15 : N11 52 o = 1 := by rw [← eN11, tq_na_self _ _ _ _ _ _ (by decide)]
  have h := h N11 eN11.symm S12 eS12.symm
  refine tq_putGF (T1 := tq_mix (tq_up S12 1 o 7 1) M) (v := .ref (ad 52 o)) (fs := [.int (S12 1 o 0), .int (S12 1 o 1), .int (S12 1 o 2), .int (S12 1 o 3), .int (S12 1 o 4), tq_pf (S12 1 o 5) (ad 50 o), tq_pf (S12 1 o 6) (ad 51 o), tq_pf (S12 1 o 7) (ad 52 o), .int (S12 1 o 8), .int (S12 1 o 9)]) hx hb hw tq_inX3 tyX3 tyX3_ok nmX3 hown hK hW hS (tq_pm_1 ho hP14) rfl 7 (by decide) (hw _ tw_530) (fun _ h9 => h9) rfl hin2 rfl rfl rfl (by simp) (tq_mixT (by decide)) (by rw [tq_pm_1 ho hP14, tq_up_cell]; rfl) dX3_init_19 (fun H locs hz9 hW hS => ?_)
  generalize eS16 : tq_up S12 1 o 7 1 = S16 at hW
  have h := h S16 eS16.symm
  refine lv_aload_n hx hb dX3_init_22 rfl (lv_at hl 0 rfl) ?_
  refine lv_iload_n hx hb dX3_init_23 rfl (lv_at hl 1 rfl) ?_
  refine tq_putGF (T1 := tq_mix (tq_up S16 1 o 0 p1) M) (v := .int p1) (fs := [.int (S16 1 o 0), .int (S16 1 o 1), .int (S16 1 o 2), .int (S16 1 o 3), .int (S16 1 o 4), tq_pf (S16 1 o 5) (ad 50 o), tq_pf (S16 1 o 6) (ad 51 o), tq_pf (S16 1 o 7) (ad 52 o), .int (S16 1 o 8), .int (S16 1 o 9)]) hx hb hw tq_inX3 tyX3 tyX3_ok nmX3 hown hK hW hS (tq_pm_1 ho hP14) rfl 0 (by decide) (hw _ tw_504) (fun _ h9 => h9) rfl hin2 rfl rfl rfl (by simp) (tq_mixT (by decide)) (by rw [tq_pm_1 ho hP14, tq_up_cell]; rfl) dX3_init_24 (fun H locs hz9 hW hS => ?_)
  generalize eS17 : tq_up S16 1 o 0 p1 = S17 at hW
  have h := h S17 eS17.symm
  refine lv_aload_n hx hb dX3_init_27 rfl (lv_at hl 0 rfl) ?_
  refine lv_iload_n hx hb dX3_init_28 rfl (lv_at hl 2 rfl) ?_
  refine tq_putGF (T1 := tq_mix (tq_up S17 1 o 1 p2) M) (v := .int p2) (fs := [.int (S17 1 o 0), .int (S17 1 o 1), .int (S17 1 o 2), .int (S17 1 o 3), .int (S17 1 o 4), tq_pf (S17 1 o 5) (ad 50 o), tq_pf (S17 1 o 6) (ad 51 o), tq_pf (S17 1 o 7) (ad 52 o), .int (S17 1 o 8), .int (S17 1 o 9)]) hx hb hw tq_inX3 tyX3 tyX3_ok nmX3 hown hK hW hS (tq_pm_1 ho hP14) rfl 1 (by decide) (hw _ tw_511) (fun _ h9 => h9) rfl hin2 rfl rfl rfl (by simp) (tq_mixT (by decide)) (by rw [tq_pm_1 ho hP14, tq_up_cell]; rfl) dX3_init_29 (fun H locs hz9 hW hS => ?_)
  generalize eS18 : tq_up S17 1 o 1 p2 = S18 at hW
  have h := h S18 eS18.symm
  refine lv_aload_n hx hb dX3_init_32 rfl (lv_at hl 0 rfl) ?_
  refine lv_aload_n hx hb dX3_init_33 rfl (lv_at hl 3 rfl) ?_
  obtain ⟨b19, h⟩ := h
  refine tqc_get (v := .int (S18 2 p3 0)) hx hb hw tq_inX5 hown hK hW (by decide) (tq_mk_2 b19) rfl 0 (by decide) (hw _ tw_251) (fun _ h9 => h9) rfl dX3_init_34 ?_
  refine tq_putGF (T1 := tq_mix (tq_up S18 1 o 2 (S18 2 p3 0)) M) (v := .int (S18 2 p3 0)) (fs := [.int (S18 1 o 0), .int (S18 1 o 1), .int (S18 1 o 2), .int (S18 1 o 3), .int (S18 1 o 4), tq_pf (S18 1 o 5) (ad 50 o), tq_pf (S18 1 o 6) (ad 51 o), tq_pf (S18 1 o 7) (ad 52 o), .int (S18 1 o 8), .int (S18 1 o 9)]) hx hb hw tq_inX3 tyX3 tyX3_ok nmX3 hown hK hW hS (tq_pm_1 ho hP14) rfl 2 (by decide) (hw _ tw_514) (fun _ h9 => h9) rfl hin2 rfl rfl rfl (by simp) (tq_mixT (by decide)) (by rw [tq_pm_1 ho hP14, tq_up_cell]; rfl) dX3_init_37 (fun H locs hz9 hW hS => ?_)
  generalize eS20 : tq_up S18 1 o 2 (S18 2 p3 0) = S20 at hW
  have h := h S20 eS20.symm
  refine lv_aload_n hx hb dX3_init_40 rfl (lv_at hl 0 rfl) ?_
  refine lv_iload hx hb dX3_init_41 (lv_at hl 4 rfl) ?_
  refine tq_putGF (T1 := tq_mix (tq_up S20 1 o 3 p4) M) (v := .int p4) (fs := [.int (S20 1 o 0), .int (S20 1 o 1), .int (S20 1 o 2), .int (S20 1 o 3), .int (S20 1 o 4), tq_pf (S20 1 o 5) (ad 50 o), tq_pf (S20 1 o 6) (ad 51 o), tq_pf (S20 1 o 7) (ad 52 o), .int (S20 1 o 8), .int (S20 1 o 9)]) hx hb hw tq_inX3 tyX3 tyX3_ok nmX3 hown hK hW hS (tq_pm_1 ho hP14) rfl 3 (by decide) (hw _ tw_516) (fun _ h9 => h9) rfl hin2 rfl rfl rfl (by simp) (tq_mixT (by decide)) (by rw [tq_pm_1 ho hP14, tq_up_cell]; rfl) dX3_init_43 (fun H locs hz9 hW hS => ?_)
  generalize eS21 : tq_up S20 1 o 3 p4 = S21 at hW
  have h := h S21 eS21.symm
  refine lv_aload_n hx hb dX3_init_46 rfl (lv_at hl 0 rfl) ?_
  refine lv_iload hx hb dX3_init_47 (lv_at hl 5 rfl) ?_
  refine tq_putGF (T1 := tq_mix (tq_up S21 1 o 4 p5) M) (v := .int p5) (fs := [.int (S21 1 o 0), .int (S21 1 o 1), .int (S21 1 o 2), .int (S21 1 o 3), .int (S21 1 o 4), tq_pf (S21 1 o 5) (ad 50 o), tq_pf (S21 1 o 6) (ad 51 o), tq_pf (S21 1 o 7) (ad 52 o), .int (S21 1 o 8), .int (S21 1 o 9)]) hx hb hw tq_inX3 tyX3 tyX3_ok nmX3 hown hK hW hS (tq_pm_1 ho hP14) rfl 4 (by decide) (hw _ tw_518) (fun _ h9 => h9) rfl hin2 rfl rfl rfl (by simp) (tq_mixT (by decide)) (by rw [tq_pm_1 ho hP14, tq_up_cell]; rfl) dX3_init_49 (fun H locs hz9 hW hS => ?_)
  generalize eS22 : tq_up S21 1 o 4 p5 = S22 at hW
  have h := h S22 eS22.symm
  refine lv_aload_n hx hb dX3_init_52 rfl (lv_at hl 0 rfl) ?_
  refine lv_aload_n hx hb dX3_init_53 rfl (lv_at hl 3 rfl) ?_
  refine tqc_get (v := .ref (ad 30 p3)) hx hb hw tq_inX5 hown hK hW (by decide) (tq_mk_2 b19) rfl 2 (by decide) (hw _ tw_257) (fun _ h9 => h9) rfl dX3_init_54 ?_
  obtain ⟨b23, b24, h⟩ := h
  refine tq_last (K := 52) (o := o) hW hN (by rw [tq_mixC _ _ (by decide)]; exact tq_mk_52 hl15) (by rw [tq_ads_52 hG.adr, hj13]; omega) (fun hz9 => ?_)
  refine tqw_clone (k0 := 30) (i0 := p3) (k := 51) (i := o) (n := 4) (a := N11 0 0 + 1) hx hb (hml.trans hl.1.symm) hown (hw _ tw_496) (hw _ tw_497) (hw _ tw_498) (hw _ tw_499) (hw _ tw_500) (hG.2.2.2.2.2.2.2.2.2.2.1 ("[I", "java/lang/Cloneable") (by decide)) hK hW hS hN (by decide) (tq_mk_30 b19) (by decide) (by decide) (fun N f h9 => tq_mk_51 h9) (by rw [hz9, tq_ads_51 hG.adr, hj13]; omega) (by omega) b23 b24 (Nat.le_of_ble_eq_true rfl) (Nat.le_of_ble_eq_true rfl) dX3_init_57 (fun H hz9 hN hW hS => ?_)
  generalize eN25 : tq_na N11 (N11 0 0 + 1) 51 o 1 4 = N25 at hN hW ⊢
  generalize eS26 : tq_cp S22 51 o (S22 30 p3) = S26 at hW
  have hj27 : N25 0 0 = o + 1 + 3 := by rw [← eN25, tq_na00, hj13]
  have hP28 : N25 1 o = 1 := by rw [← eN25, tq_na_ne (by decide) (fun q => absurd q.1 (by decide))]; exact hP14
  have hl29 : N25 51 o = 1 := by rw [← eN25, tq_na_self _ _ _ _ _ _ (by decide)]
  have h := h N25 eN25.symm S26 eS26.symm
  refine va_castA (ws := [(ad 51 o, .inl (cy 0, 4, .inl (S26 51 o)))]) hx hb hown (hw _ tw_502) (tq_one (hW.1 51 o _ (by rw [tq_mixC _ _ (by decide)]; exact tq_mk_51 hl29))) 0 rfl (hK.2 0 _ rfl).2 dX3_init_60 ?_
  refine tq_putGF (T1 := tq_mix (tq_up S26 1 o 6 1) M) (v := .ref (ad 51 o)) (fs := [.int (S26 1 o 0), .int (S26 1 o 1), .int (S26 1 o 2), .int (S26 1 o 3), .int (S26 1 o 4), tq_pf (S26 1 o 5) (ad 50 o), tq_pf (S26 1 o 6) (ad 51 o), tq_pf (S26 1 o 7) (ad 52 o), .int (S26 1 o 8), .int (S26 1 o 9)]) hx hb hw tq_inX3 tyX3 tyX3_ok nmX3 hown hK hW hS (tq_pm_1 ho hP28) rfl 6 (by decide) (hw _ tw_528) (fun _ h9 => h9) rfl hin2 rfl rfl rfl (by simp) (tq_mixT (by decide)) (by rw [tq_pm_1 ho hP28, tq_up_cell]; rfl) dX3_init_63 (fun H locs hz9 hW hS => ?_)
  generalize eS30 : tq_up S26 1 o 6 1 = S30 at hW
  have h := h S30 eS30.symm
  refine lv_aload_n hx hb dX3_init_66 rfl (lv_at hl 0 rfl) ?_
  obtain ⟨b31, h⟩ := h
  refine va_get (v := .ref (ad 50 o)) (ws := [(ad 1 o, .inr (4, [.int (S30 1 o 0), .int (S30 1 o 1), .int (S30 1 o 2), .int (S30 1 o 3), .int (S30 1 o 4), tq_pf (S30 1 o 5) (ad 50 o), tq_pf (S30 1 o 6) (ad 51 o), tq_pf (S30 1 o 7) (ad 52 o), .int (S30 1 o 8), .int (S30 1 o 9)]))]) hx hb hw tq_inX3 hown hK (tq_one (hW.1 1 o _ (tq_pm_1 ho hP28))) 0 rfl rfl 5 (by decide) (hw _ tw_523) (fun _ h9 => h9) (by rw [tq_pf1 b31]; rfl) dX3_init_67 ?_
  refine lv_iconst (v := (-1)) hx hb dX3_init_70 (by decide) ?_
  obtain ⟨b32, h⟩ := h
  refine tqc_callSv (As := [.ref (ad 50 o), .int ((-1))]) (rest := []) (kJ7_fill (n := 5) (post := fun u => u = tq_cp S30 50 o (tq_fl (S30 50 o) 5 (-1))) (by decide) (by decide) (fun f => tq_mk_50 b32) rfl) ⟨hx, hb, hml, hown, hts⟩ (va_cwS 2 hts (tq_goodS tw_503 tw_335 tw_124 tw_336) rfl rfl rfl (by decide +kernel) ⟨(Nat.le_of_ble_eq_true rfl), (Nat.le_of_ble_eq_true rfl)⟩) hK hG hW hS rfl hl.1 rfl (Nat.le_of_ble_eq_true rfl) dX3_init_71 hN.f (fun S33 H locs q9 hW hS => ?_)
  have h := h S33 q9
  refine lv_aload_n hx hb dX3_init_74 rfl (lv_at hl 0 rfl) ?_
  obtain ⟨b34, h⟩ := h
  refine va_get (v := .ref (ad 50 o)) (ws := [(ad 1 o, .inr (4, [.int (S33 1 o 0), .int (S33 1 o 1), .int (S33 1 o 2), .int (S33 1 o 3), .int (S33 1 o 4), tq_pf (S33 1 o 5) (ad 50 o), tq_pf (S33 1 o 6) (ad 51 o), tq_pf (S33 1 o 7) (ad 52 o), .int (S33 1 o 8), .int (S33 1 o 9)]))]) hx hb hw tq_inX3 hown hK (tq_one (hW.1 1 o _ (tq_pm_1 ho hP28))) 0 rfl rfl 5 (by decide) (hw _ tw_523) (fun _ h9 => h9) (by rw [tq_pf1 b34]; rfl) dX3_init_75 ?_
  refine lv_aload_n hx hb dX3_init_78 rfl (lv_at hl 3 rfl) ?_
  refine tqc_get (v := .int (S33 2 p3 0)) hx hb hw tq_inX5 hown hK hW (by decide) (tq_mk_2 b19) rfl 0 (by decide) (hw _ tw_251) (fun _ h9 => h9) rfl dX3_init_79 ?_
  refine lv_iload hx hb dX3_init_82 (lv_at hl 5 rfl) ?_
  obtain ⟨b35, h⟩ := h
  refine tqc_iast (jn := (S33 2 p3 0).toNatClampNeg) hx hb hK hW hS (by decide) (tq_mk_50 b32) b35 rfl (tq_mk_50 b32) dX3_init_84 (fun H locs hW hS => ?_)
  generalize eS36 : tq_up S33 50 o ((S33 2 p3 0).toNatClampNeg) p5 = S36 at hW
  have h := h S36 eS36.symm
  obtain ⟨b37, h⟩ := h
  obtain ⟨b38, h⟩ := h
  obtain ⟨b39, h⟩ := h
  have hW := hW.prom (K := 7) (f := (fun t => if t = 13 then 0 else S36 1 o t)) ho (by decide) (by decide) (tq_ad1_7 hG.adr ho).symm (by rw [hP28]; exact tq_pd_1) (fun N h9 => by rw [tq_mk_7 h9 rfl, tq_pf1 b37, tq_pf1 b38, tq_pf1 b39]; rfl)
  exact tqb_vretP hx hb hr hN (by decide) h hW hS dX3_init_85 hlocks
-- X3 init_B
def wpX3_init_B (post : tq_Nn → tq_St → Prop) (N : tq_Nn) (S : tq_St) (o : Nat) (p1 : Int32) (p2 : Int32) (p3 : Nat) (p4 : Int32) (p5 : Int32) : Prop :=
  ¬ o < 1 ∧ N 1 o = 2 ∧ N 0 0 = o + 1 ∧ (N 0 0 + 1 ≤ tq_CX ∧ N 0 1 + 5 ≤ tq_CY ∧ (∀ N3, N3 = tq_na N (N 0 0 + 1) 50 o 1 5 → ∀ S4, S4 = tq_cp S 50 o (fun _ => 0) → ((∀ S8, S8 = tq_up S4 1 o 5 1 → (N3 0 0 + 1 ≤ tq_CX ∧ N3 0 1 + 3 ≤ tq_CY ∧ (∀ N11, N11 = tq_na N3 (N3 0 0 + 1) 52 o 1 3 → ∀ S12, S12 = tq_cp S8 52 o (fun _ => 0) → ((∀ S16, S16 = tq_up S12 1 o 7 1 → ((∀ S17, S17 = tq_up S16 1 o 0 p1 → ((∀ S18, S18 = tq_up S17 1 o 1 p2 → (p3 < 5 ∧ ((∀ S20, S20 = tq_up S18 1 o 2 (S18 2 p3 0) → ((∀ S21, S21 = tq_up S20 1 o 3 p4 → ((∀ S22, S22 = tq_up S21 1 o 4 p5 → (N11 0 0 + 1 ≤ tq_CX ∧ N11 0 1 + 4 ≤ tq_CY ∧ (∀ N25, N25 = tq_na N11 (N11 0 0 + 1) 51 o 1 4 → ∀ S26, S26 = tq_cp S22 51 o (S22 30 p3) → ((∀ S30, S30 = tq_up S26 1 o 6 1 → (¬ S30 1 o 5 = 0 ∧ (N25 50 o = 1 ∧ (∀ S33, S33 = tq_cp S30 50 o (tq_fl (S30 50 o) 5 (-1)) → (¬ S33 1 o 5 = 0 ∧ (vp_in (S33 2 p3 0) 5 ∧ (∀ S36, S36 = tq_up S33 50 o ((S33 2 p3 0).toNatClampNeg) p5 → (post N25 S36))))))))))))))))))))))))))))))
set_option maxHeartbeats 4000000 in
set_option maxRecDepth 100000 in
theorem kX3_init_B {post : tq_Nn → tq_St → Prop} {N : tq_Nn} {S : tq_St} {sz sl : Nat} {o : Nat} {p1 : Int32} {p2 : Int32} {p3 : Nat} {p4 : Int32} {p5 : Int32} (h : wpX3_init_B post N S o p1 p2 p3 p4 p5) : tq_bV l yX3_init (tq_ws yX3_init cX3_init 6 none) 4 90 D cy z A0 H0 ad N M S sz sl [.ref (ad 1 o), .int p1, .int p2, .ref (ad 2 p3), .int p4, .int p5] post := by
  unfold wpX3_init_B at h
  refine Met.ofW (cc := cX3_init) (maxL := 6) (ret := none) (by decide) rfl ?_
  intro p e s m args below meth c s₁ B hml hv
  obtain ⟨rfl, ⟨hW, hK, hG⟩, rfl, rfl, hN1, hN2, hN3, hN4⟩ := hv
  have hN : tq_nb z A0 s N := ⟨hN1, hN2, hN3, hN4⟩
  have hx := B.exec
  have hb := B.bytes
  have hr := B.returns
  have hts := atoms_spec (ws := (tq_ws yX3_init cX3_init 6 none)) B.pre
  have hw : ∀ w ∈ tq_W, w.before _ s = true := fun w h => hts w (List.mem_cons_of_mem _ h)
  have hown : s.vm.findClass RX3 = some m.cls := findClass_of_methodNamed B.named
  have hlocks := B.notSynchronized
  have C : tq_At p s m meth c [.ref (ad 1 o), .int p1, .int p2, .ref (ad 2 p3), .int p4, .int p5].toArray cX3_init 6 (none) ((tq_ws yX3_init cX3_init 6 none)) RX3 D cy z ad := ⟨hx, hb, hr, hml, hown, hts, hlocks, hK, hG⟩
  have hS : va_S (fun q => z ≤ q) s.heap s.heap [] := va_S.rf
  have hl := lv_entry ([.ref (ad 1 o), .int p1, .int p2, .ref (ad 2 p3), .int p4, .int p5]) (n := 6) (Nat.le_of_ble_eq_true rfl)
  rw [lg_entry_eq]
  generalize (lg_sl ([.ref (ad 1 o), .int p1, .int p2, .ref (ad 2 p3), .int p4, .int p5]) ++ List.replicate (6 - (lg_sl ([.ref (ad 1 o), .int p1, .int p2, .ref (ad 2 p3), .int p4, .int p5])).length) Slot.unset).toArray = ls at hl ⊢
  have hl : lv_has ls 6 [(0, .ref (ad 1 o)), (1, .int p1), (2, .int p2), (3, .ref (ad 2 p3)), (4, .int p4), (5, .int p5)] := hl
  have hW : tq_wd D cy z H0 ad N (tq_mix S M) s.heap := hW
  refine tq_tight (c1 := z + N 0 0 - s.heap.size) (n1 := A0 + N 0 1 - tq_all s.heap) (by omega) (by omega) ?_
  obtain ⟨ho, hP0, hj0, h⟩ := h
  have hin2 : meth.name = "<init>" := (name_of_methodNamed B.named B.method).1
  refine lv_aload_n hx hb dX3_init_0 rfl (lv_at hl 0 rfl) ?_
  refine W.objInit hx hb hown (hw _ tw_493) (hw _ tw_147) (hw _ tw_148) rfl (by rw [hml]; exact hl.1) rfl dX3_init_1 (Nat.le_of_ble_eq_true rfl) (Nat.le_of_ble_eq_true rfl) ?_
  refine W.eq (g2 := F0 m 4 ls []) rfl ?_
  refine lv_aload_n hx hb dX3_init_4 rfl (lv_at hl 0 rfl) ?_
  refine lv_iconst (v := 5) hx hb dX3_init_5 (by decide) ?_
  obtain ⟨b1, b2, h⟩ := h
  refine tq_last (K := 1) (o := o) hW hN (tq_pm_2 ho hP0) (by rw [tq_ads_1 hG.adr ho, hj0]; omega) (fun hz9 => ?_)
  refine tqw_newa (k := 50) (i := o) (n := 5) (a := N 0 0 + 1) hx hb (hw _ tw_177) hK hW hS hN (by decide) (by decide) (fun N f h9 => tq_mk_50 h9) (by rw [hz9, tq_ads_50 hG.adr, hj0]; omega) (by omega) b1 b2 (by decide) (by decide) (by decide) dX3_init_6 (fun H hz9 hN hW hS => ?_)
  generalize eN3 : tq_na N (N 0 0 + 1) 50 o 1 5 = N3 at hN hW ⊢
  generalize eS4 : tq_cp S 50 o (fun _ => 0) = S4 at hW
  have hj5 : N3 0 0 = o + 1 + 1 := by rw [← eN3, tq_na00, hj0]
  have hP6 : N3 1 o = 2 := by rw [← eN3, tq_na_ne (by decide) (fun q => absurd q.1 (by decide))]; exact hP0
  have hl7 : N3 50 o = 1 := by rw [← eN3, tq_na_self _ _ _ _ _ _ (by decide)]
  have h := h N3 eN3.symm S4 eS4.symm
  refine tq_putGF (T1 := tq_mix (tq_up S4 1 o 5 1) M) (v := .ref (ad 50 o)) (fs := [.int (S4 1 o 0), .int (S4 1 o 1), .int (S4 1 o 2), .int (S4 1 o 3), .int (S4 1 o 4), tq_pf (S4 1 o 5) (ad 50 o), tq_pf (S4 1 o 6) (ad 51 o), tq_pf (S4 1 o 7) (ad 52 o), .int (S4 1 o 8), .int (S4 1 o 9), .int (S4 1 o 10), .int (S4 1 o 11), .int (S4 1 o 12)]) hx hb hw tq_inX1 tyX1 tyX1_ok nmX1 hown hK hW hS (tq_pm_2 ho hP6) rfl 5 (by decide) (hw _ tw_523) (fun _ h9 => h9) rfl hin2 rfl rfl rfl (by simp) (tq_mixT (by decide)) (by rw [tq_pm_2 ho hP6, tq_up_cell]; rfl) dX3_init_8 (fun H locs hz9 hW hS => ?_)
  generalize eS8 : tq_up S4 1 o 5 1 = S8 at hW
  have h := h S8 eS8.symm
  refine lv_aload_n hx hb dX3_init_11 rfl (lv_at hl 0 rfl) ?_
  obtain ⟨b9, b10, h⟩ := h
  refine tq_last (K := 50) (o := o) hW hN (by rw [tq_mixC _ _ (by decide)]; exact tq_mk_50 hl7) (by rw [tq_ads_50 hG.adr, hj5]; omega) (fun hz9 => ?_)
  refine tqw_newL (k := 52) (i := o) (a := N3 0 0 + 1) (kd := 53) hx hb hml hl.1 hts hown (hw _ tw_494) (hw _ tw_495) hK hG hW hS hN (by decide) (by decide) (fun N f h9 => tq_mk_52 h9) (by rw [hz9, tq_ads_52 hG.adr, hj5]; omega) (by omega) b9 b10 (Nat.le_of_ble_eq_true rfl) (Nat.le_of_ble_eq_true rfl) (Nat.le_of_ble_eq_true rfl) dX3_init_12 dX3_init_15 dX3_init_16 (fun H locs hz9 hN hW hS => ?_)
  generalize eN11 : tq_na N3 (N3 0 0 + 1) 52 o 1 3 = N11 at hN hW ⊢
  generalize eS12 : tq_cp S8 52 o (fun _ => 0) = S12 at hW
  have hj13 : N11 0 0 = o + 1 + 2 := by rw [← eN11, tq_na00, hj5]
  have hP14 : N11 1 o = 2 := by rw [← eN11, tq_na_ne (by decide) (fun q => absurd q.1 (by decide))]; exact hP6
  have hl15 : N11 52 o = 1 := by rw [← eN11, tq_na_self _ _ _ _ _ _ (by decide)]
  have h := h N11 eN11.symm S12 eS12.symm
  refine tq_putGF (T1 := tq_mix (tq_up S12 1 o 7 1) M) (v := .ref (ad 52 o)) (fs := [.int (S12 1 o 0), .int (S12 1 o 1), .int (S12 1 o 2), .int (S12 1 o 3), .int (S12 1 o 4), tq_pf (S12 1 o 5) (ad 50 o), tq_pf (S12 1 o 6) (ad 51 o), tq_pf (S12 1 o 7) (ad 52 o), .int (S12 1 o 8), .int (S12 1 o 9), .int (S12 1 o 10), .int (S12 1 o 11), .int (S12 1 o 12)]) hx hb hw tq_inX1 tyX1 tyX1_ok nmX1 hown hK hW hS (tq_pm_2 ho hP14) rfl 7 (by decide) (hw _ tw_530) (fun _ h9 => h9) rfl hin2 rfl rfl rfl (by simp) (tq_mixT (by decide)) (by rw [tq_pm_2 ho hP14, tq_up_cell]; rfl) dX3_init_19 (fun H locs hz9 hW hS => ?_)
  generalize eS16 : tq_up S12 1 o 7 1 = S16 at hW
  have h := h S16 eS16.symm
  refine lv_aload_n hx hb dX3_init_22 rfl (lv_at hl 0 rfl) ?_
  refine lv_iload_n hx hb dX3_init_23 rfl (lv_at hl 1 rfl) ?_
  refine tq_putGF (T1 := tq_mix (tq_up S16 1 o 0 p1) M) (v := .int p1) (fs := [.int (S16 1 o 0), .int (S16 1 o 1), .int (S16 1 o 2), .int (S16 1 o 3), .int (S16 1 o 4), tq_pf (S16 1 o 5) (ad 50 o), tq_pf (S16 1 o 6) (ad 51 o), tq_pf (S16 1 o 7) (ad 52 o), .int (S16 1 o 8), .int (S16 1 o 9), .int (S16 1 o 10), .int (S16 1 o 11), .int (S16 1 o 12)]) hx hb hw tq_inX1 tyX1 tyX1_ok nmX1 hown hK hW hS (tq_pm_2 ho hP14) rfl 0 (by decide) (hw _ tw_504) (fun _ h9 => h9) rfl hin2 rfl rfl rfl (by simp) (tq_mixT (by decide)) (by rw [tq_pm_2 ho hP14, tq_up_cell]; rfl) dX3_init_24 (fun H locs hz9 hW hS => ?_)
  generalize eS17 : tq_up S16 1 o 0 p1 = S17 at hW
  have h := h S17 eS17.symm
  refine lv_aload_n hx hb dX3_init_27 rfl (lv_at hl 0 rfl) ?_
  refine lv_iload_n hx hb dX3_init_28 rfl (lv_at hl 2 rfl) ?_
  refine tq_putGF (T1 := tq_mix (tq_up S17 1 o 1 p2) M) (v := .int p2) (fs := [.int (S17 1 o 0), .int (S17 1 o 1), .int (S17 1 o 2), .int (S17 1 o 3), .int (S17 1 o 4), tq_pf (S17 1 o 5) (ad 50 o), tq_pf (S17 1 o 6) (ad 51 o), tq_pf (S17 1 o 7) (ad 52 o), .int (S17 1 o 8), .int (S17 1 o 9), .int (S17 1 o 10), .int (S17 1 o 11), .int (S17 1 o 12)]) hx hb hw tq_inX1 tyX1 tyX1_ok nmX1 hown hK hW hS (tq_pm_2 ho hP14) rfl 1 (by decide) (hw _ tw_511) (fun _ h9 => h9) rfl hin2 rfl rfl rfl (by simp) (tq_mixT (by decide)) (by rw [tq_pm_2 ho hP14, tq_up_cell]; rfl) dX3_init_29 (fun H locs hz9 hW hS => ?_)
  generalize eS18 : tq_up S17 1 o 1 p2 = S18 at hW
  have h := h S18 eS18.symm
  refine lv_aload_n hx hb dX3_init_32 rfl (lv_at hl 0 rfl) ?_
  refine lv_aload_n hx hb dX3_init_33 rfl (lv_at hl 3 rfl) ?_
  obtain ⟨b19, h⟩ := h
  refine tqc_get (v := .int (S18 2 p3 0)) hx hb hw tq_inX5 hown hK hW (by decide) (tq_mk_2 b19) rfl 0 (by decide) (hw _ tw_251) (fun _ h9 => h9) rfl dX3_init_34 ?_
  refine tq_putGF (T1 := tq_mix (tq_up S18 1 o 2 (S18 2 p3 0)) M) (v := .int (S18 2 p3 0)) (fs := [.int (S18 1 o 0), .int (S18 1 o 1), .int (S18 1 o 2), .int (S18 1 o 3), .int (S18 1 o 4), tq_pf (S18 1 o 5) (ad 50 o), tq_pf (S18 1 o 6) (ad 51 o), tq_pf (S18 1 o 7) (ad 52 o), .int (S18 1 o 8), .int (S18 1 o 9), .int (S18 1 o 10), .int (S18 1 o 11), .int (S18 1 o 12)]) hx hb hw tq_inX1 tyX1 tyX1_ok nmX1 hown hK hW hS (tq_pm_2 ho hP14) rfl 2 (by decide) (hw _ tw_514) (fun _ h9 => h9) rfl hin2 rfl rfl rfl (by simp) (tq_mixT (by decide)) (by rw [tq_pm_2 ho hP14, tq_up_cell]; rfl) dX3_init_37 (fun H locs hz9 hW hS => ?_)
  generalize eS20 : tq_up S18 1 o 2 (S18 2 p3 0) = S20 at hW
  have h := h S20 eS20.symm
  refine lv_aload_n hx hb dX3_init_40 rfl (lv_at hl 0 rfl) ?_
  refine lv_iload hx hb dX3_init_41 (lv_at hl 4 rfl) ?_
  refine tq_putGF (T1 := tq_mix (tq_up S20 1 o 3 p4) M) (v := .int p4) (fs := [.int (S20 1 o 0), .int (S20 1 o 1), .int (S20 1 o 2), .int (S20 1 o 3), .int (S20 1 o 4), tq_pf (S20 1 o 5) (ad 50 o), tq_pf (S20 1 o 6) (ad 51 o), tq_pf (S20 1 o 7) (ad 52 o), .int (S20 1 o 8), .int (S20 1 o 9), .int (S20 1 o 10), .int (S20 1 o 11), .int (S20 1 o 12)]) hx hb hw tq_inX1 tyX1 tyX1_ok nmX1 hown hK hW hS (tq_pm_2 ho hP14) rfl 3 (by decide) (hw _ tw_516) (fun _ h9 => h9) rfl hin2 rfl rfl rfl (by simp) (tq_mixT (by decide)) (by rw [tq_pm_2 ho hP14, tq_up_cell]; rfl) dX3_init_43 (fun H locs hz9 hW hS => ?_)
  generalize eS21 : tq_up S20 1 o 3 p4 = S21 at hW
  have h := h S21 eS21.symm
  refine lv_aload_n hx hb dX3_init_46 rfl (lv_at hl 0 rfl) ?_
  refine lv_iload hx hb dX3_init_47 (lv_at hl 5 rfl) ?_
  refine tq_putGF (T1 := tq_mix (tq_up S21 1 o 4 p5) M) (v := .int p5) (fs := [.int (S21 1 o 0), .int (S21 1 o 1), .int (S21 1 o 2), .int (S21 1 o 3), .int (S21 1 o 4), tq_pf (S21 1 o 5) (ad 50 o), tq_pf (S21 1 o 6) (ad 51 o), tq_pf (S21 1 o 7) (ad 52 o), .int (S21 1 o 8), .int (S21 1 o 9), .int (S21 1 o 10), .int (S21 1 o 11), .int (S21 1 o 12)]) hx hb hw tq_inX1 tyX1 tyX1_ok nmX1 hown hK hW hS (tq_pm_2 ho hP14) rfl 4 (by decide) (hw _ tw_518) (fun _ h9 => h9) rfl hin2 rfl rfl rfl (by simp) (tq_mixT (by decide)) (by rw [tq_pm_2 ho hP14, tq_up_cell]; rfl) dX3_init_49 (fun H locs hz9 hW hS => ?_)
  generalize eS22 : tq_up S21 1 o 4 p5 = S22 at hW
  have h := h S22 eS22.symm
  refine lv_aload_n hx hb dX3_init_52 rfl (lv_at hl 0 rfl) ?_
  refine lv_aload_n hx hb dX3_init_53 rfl (lv_at hl 3 rfl) ?_
  refine tqc_get (v := .ref (ad 30 p3)) hx hb hw tq_inX5 hown hK hW (by decide) (tq_mk_2 b19) rfl 2 (by decide) (hw _ tw_257) (fun _ h9 => h9) rfl dX3_init_54 ?_
  obtain ⟨b23, b24, h⟩ := h
  refine tq_last (K := 52) (o := o) hW hN (by rw [tq_mixC _ _ (by decide)]; exact tq_mk_52 hl15) (by rw [tq_ads_52 hG.adr, hj13]; omega) (fun hz9 => ?_)
  refine tqw_clone (k0 := 30) (i0 := p3) (k := 51) (i := o) (n := 4) (a := N11 0 0 + 1) hx hb (hml.trans hl.1.symm) hown (hw _ tw_496) (hw _ tw_497) (hw _ tw_498) (hw _ tw_499) (hw _ tw_500) (hG.2.2.2.2.2.2.2.2.2.2.1 ("[I", "java/lang/Cloneable") (by decide)) hK hW hS hN (by decide) (tq_mk_30 b19) (by decide) (by decide) (fun N f h9 => tq_mk_51 h9) (by rw [hz9, tq_ads_51 hG.adr, hj13]; omega) (by omega) b23 b24 (Nat.le_of_ble_eq_true rfl) (Nat.le_of_ble_eq_true rfl) dX3_init_57 (fun H hz9 hN hW hS => ?_)
  generalize eN25 : tq_na N11 (N11 0 0 + 1) 51 o 1 4 = N25 at hN hW ⊢
  generalize eS26 : tq_cp S22 51 o (S22 30 p3) = S26 at hW
  have hj27 : N25 0 0 = o + 1 + 3 := by rw [← eN25, tq_na00, hj13]
  have hP28 : N25 1 o = 2 := by rw [← eN25, tq_na_ne (by decide) (fun q => absurd q.1 (by decide))]; exact hP14
  have hl29 : N25 51 o = 1 := by rw [← eN25, tq_na_self _ _ _ _ _ _ (by decide)]
  have h := h N25 eN25.symm S26 eS26.symm
  refine va_castA (ws := [(ad 51 o, .inl (cy 0, 4, .inl (S26 51 o)))]) hx hb hown (hw _ tw_502) (tq_one (hW.1 51 o _ (by rw [tq_mixC _ _ (by decide)]; exact tq_mk_51 hl29))) 0 rfl (hK.2 0 _ rfl).2 dX3_init_60 ?_
  refine tq_putGF (T1 := tq_mix (tq_up S26 1 o 6 1) M) (v := .ref (ad 51 o)) (fs := [.int (S26 1 o 0), .int (S26 1 o 1), .int (S26 1 o 2), .int (S26 1 o 3), .int (S26 1 o 4), tq_pf (S26 1 o 5) (ad 50 o), tq_pf (S26 1 o 6) (ad 51 o), tq_pf (S26 1 o 7) (ad 52 o), .int (S26 1 o 8), .int (S26 1 o 9), .int (S26 1 o 10), .int (S26 1 o 11), .int (S26 1 o 12)]) hx hb hw tq_inX1 tyX1 tyX1_ok nmX1 hown hK hW hS (tq_pm_2 ho hP28) rfl 6 (by decide) (hw _ tw_528) (fun _ h9 => h9) rfl hin2 rfl rfl rfl (by simp) (tq_mixT (by decide)) (by rw [tq_pm_2 ho hP28, tq_up_cell]; rfl) dX3_init_63 (fun H locs hz9 hW hS => ?_)
  generalize eS30 : tq_up S26 1 o 6 1 = S30 at hW
  have h := h S30 eS30.symm
  refine lv_aload_n hx hb dX3_init_66 rfl (lv_at hl 0 rfl) ?_
  obtain ⟨b31, h⟩ := h
  refine va_get (v := .ref (ad 50 o)) (ws := [(ad 1 o, .inr (2, [.int (S30 1 o 0), .int (S30 1 o 1), .int (S30 1 o 2), .int (S30 1 o 3), .int (S30 1 o 4), tq_pf (S30 1 o 5) (ad 50 o), tq_pf (S30 1 o 6) (ad 51 o), tq_pf (S30 1 o 7) (ad 52 o), .int (S30 1 o 8), .int (S30 1 o 9), .int (S30 1 o 10), .int (S30 1 o 11), .int (S30 1 o 12)]))]) hx hb hw tq_inX1 hown hK (tq_one (hW.1 1 o _ (tq_pm_2 ho hP28))) 0 rfl rfl 5 (by decide) (hw _ tw_523) (fun _ h9 => h9) (by rw [tq_pf1 b31]; rfl) dX3_init_67 ?_
  refine lv_iconst (v := (-1)) hx hb dX3_init_70 (by decide) ?_
  obtain ⟨b32, h⟩ := h
  refine tqc_callSv (As := [.ref (ad 50 o), .int ((-1))]) (rest := []) (kJ7_fill (n := 5) (post := fun u => u = tq_cp S30 50 o (tq_fl (S30 50 o) 5 (-1))) (by decide) (by decide) (fun f => tq_mk_50 b32) rfl) ⟨hx, hb, hml, hown, hts⟩ (va_cwS 2 hts (tq_goodS tw_503 tw_335 tw_124 tw_336) rfl rfl rfl (by decide +kernel) ⟨(Nat.le_of_ble_eq_true rfl), (Nat.le_of_ble_eq_true rfl)⟩) hK hG hW hS rfl hl.1 rfl (Nat.le_of_ble_eq_true rfl) dX3_init_71 hN.f (fun S33 H locs q9 hW hS => ?_)
  have h := h S33 q9
  refine lv_aload_n hx hb dX3_init_74 rfl (lv_at hl 0 rfl) ?_
  obtain ⟨b34, h⟩ := h
  refine va_get (v := .ref (ad 50 o)) (ws := [(ad 1 o, .inr (2, [.int (S33 1 o 0), .int (S33 1 o 1), .int (S33 1 o 2), .int (S33 1 o 3), .int (S33 1 o 4), tq_pf (S33 1 o 5) (ad 50 o), tq_pf (S33 1 o 6) (ad 51 o), tq_pf (S33 1 o 7) (ad 52 o), .int (S33 1 o 8), .int (S33 1 o 9), .int (S33 1 o 10), .int (S33 1 o 11), .int (S33 1 o 12)]))]) hx hb hw tq_inX1 hown hK (tq_one (hW.1 1 o _ (tq_pm_2 ho hP28))) 0 rfl rfl 5 (by decide) (hw _ tw_523) (fun _ h9 => h9) (by rw [tq_pf1 b34]; rfl) dX3_init_75 ?_
  refine lv_aload_n hx hb dX3_init_78 rfl (lv_at hl 3 rfl) ?_
  refine tqc_get (v := .int (S33 2 p3 0)) hx hb hw tq_inX5 hown hK hW (by decide) (tq_mk_2 b19) rfl 0 (by decide) (hw _ tw_251) (fun _ h9 => h9) rfl dX3_init_79 ?_
  refine lv_iload hx hb dX3_init_82 (lv_at hl 5 rfl) ?_
  obtain ⟨b35, h⟩ := h
  refine tqc_iast (jn := (S33 2 p3 0).toNatClampNeg) hx hb hK hW hS (by decide) (tq_mk_50 b32) b35 rfl (tq_mk_50 b32) dX3_init_84 (fun H locs hW hS => ?_)
  generalize eS36 : tq_up S33 50 o ((S33 2 p3 0).toNatClampNeg) p5 = S36 at hW
  have h := h S36 eS36.symm
  exact tqb_vret hx hb hr hN h hW hS dX3_init_85 hlocks
-- X1 init
def wpX1_init (post : tq_Nn → tq_St → Prop) (N : tq_Nn) (S : tq_St) (o : Nat) (p1 : Int32) (p2 : Nat) (p3 : Int32) (p4 : Int32) : Prop :=
  ¬ o < 1 ∧ N 1 o = 2 ∧ N 0 0 = o + 1 ∧ (wpX3_init_B (fun N1 S2 => N1 1 o = 2 ∧ (∀ S4, S4 = tq_up S2 1 o 10 0 → ((∀ S5, S5 = tq_up S4 1 o 11 ((-1)) → ((∀ S6, S6 = tq_up S5 1 o 8 p4 → (¬ S6 1 o 5 = 0 ∧ ¬ S6 1 o 6 = 0 ∧ ¬ S6 1 o 7 = 0 ∧ post (tq_pr N1 o 7) (tq_cp S6 7 o (fun t => if t = 13 then 1 else S6 1 o t))))))))) N S o p1 5 p2 0 p3)
set_option maxHeartbeats 4000000 in
set_option maxRecDepth 100000 in
theorem kX1_init {post : tq_Nn → tq_St → Prop} {N : tq_Nn} {S : tq_St} {sz sl : Nat} {o : Nat} {p1 : Int32} {p2 : Nat} {p3 : Int32} {p4 : Int32} (h : wpX1_init post N S o p1 p2 p3 p4) : tq_bV l yX1_init (tq_ws yX1_init cX1_init 5 none) 5 115 D cy z A0 H0 ad N M S sz sl [.ref (ad 1 o), .int p1, .ref (ad 2 p2), .int p3, .int p4] post := by
  unfold wpX1_init at h
  refine Met.ofW (cc := cX1_init) (maxL := 5) (ret := none) (by decide) rfl ?_
  intro p e s m args below meth c s₁ B hml hv
  obtain ⟨rfl, ⟨hW, hK, hG⟩, rfl, rfl, hN1, hN2, hN3, hN4⟩ := hv
  have hN : tq_nb z A0 s N := ⟨hN1, hN2, hN3, hN4⟩
  have hx := B.exec
  have hb := B.bytes
  have hr := B.returns
  have hts := atoms_spec (ws := (tq_ws yX1_init cX1_init 5 none)) B.pre
  have hw : ∀ w ∈ tq_W, w.before _ s = true := fun w h => hts w (List.mem_cons_of_mem _ h)
  have hown : s.vm.findClass RX1 = some m.cls := findClass_of_methodNamed B.named
  have hlocks := B.notSynchronized
  have C : tq_At p s m meth c [.ref (ad 1 o), .int p1, .ref (ad 2 p2), .int p3, .int p4].toArray cX1_init 5 (none) ((tq_ws yX1_init cX1_init 5 none)) RX1 D cy z ad := ⟨hx, hb, hr, hml, hown, hts, hlocks, hK, hG⟩
  have hS : va_S (fun q => z ≤ q) s.heap s.heap [] := va_S.rf
  have hl := lv_entry ([.ref (ad 1 o), .int p1, .ref (ad 2 p2), .int p3, .int p4]) (n := 5) (Nat.le_of_ble_eq_true rfl)
  rw [lg_entry_eq]
  generalize (lg_sl ([.ref (ad 1 o), .int p1, .ref (ad 2 p2), .int p3, .int p4]) ++ List.replicate (5 - (lg_sl ([.ref (ad 1 o), .int p1, .ref (ad 2 p2), .int p3, .int p4])).length) Slot.unset).toArray = ls at hl ⊢
  have hl : lv_has ls 5 [(0, .ref (ad 1 o)), (1, .int p1), (2, .ref (ad 2 p2)), (3, .int p3), (4, .int p4)] := hl
  have hW : tq_wd D cy z H0 ad N (tq_mix S M) s.heap := hW
  refine tq_tight (c1 := z + N 0 0 - s.heap.size) (n1 := A0 + N 0 1 - tq_all s.heap) (by omega) (by omega) ?_
  obtain ⟨ho, hP0, hj0, h⟩ := h
  have hin2 : meth.name = "<init>" := (name_of_methodNamed B.named B.method).1
  refine lv_aload_n hx hb dX1_init_0 rfl (lv_at hl 0 rfl) ?_
  refine lv_iload_n hx hb dX1_init_1 rfl (lv_at hl 1 rfl) ?_
  refine lv_iconst (v := 5) hx hb dX1_init_2 (by decide) ?_
  refine lv_aload_n hx hb dX1_init_3 rfl (lv_at hl 2 rfl) ?_
  refine lv_iconst (v := 0) hx hb dX1_init_4 (by decide) ?_
  refine lv_iload_n hx hb dX1_init_5 rfl (lv_at hl 3 rfl) ?_
  refine tqb_callIv (As := [.int p1, .int 5, .ref (ad 2 p2), .int 0, .int p3]) (rest := []) (kX3_init_B h) ⟨hx, hb, hml, hown, hts⟩ (cwI 5 hts (tq_goodO tw_492) rfl rfl rfl (hw _ tw_126) (hw _ tw_1192) (hw _ tw_491) rfl (by decide +kernel) ⟨(Nat.le_of_ble_eq_true rfl), (Nat.le_of_ble_eq_true rfl)⟩) hK hG hW hS rfl hl.1 rfl (Nat.le_of_ble_eq_true rfl) dX1_init_6 hN (fun N1 S2 H locs h hN hW hS => ?_)
  refine lv_aload_n hx hb dX1_init_9 rfl (lv_at hl 0 rfl) ?_
  refine lv_iconst (v := 0) hx hb dX1_init_10 (by decide) ?_
  obtain ⟨b3, h⟩ := h
  refine tq_putG (T1 := tq_mix (tq_up S2 1 o 10 0) M) (v := .int 0) (fs := [.int (S2 1 o 0), .int (S2 1 o 1), .int (S2 1 o 2), .int (S2 1 o 3), .int (S2 1 o 4), tq_pf (S2 1 o 5) (ad 50 o), tq_pf (S2 1 o 6) (ad 51 o), tq_pf (S2 1 o 7) (ad 52 o), .int (S2 1 o 8), .int (S2 1 o 9), .int (S2 1 o 10), .int (S2 1 o 11), .int (S2 1 o 12)]) hx hb hw tq_inX1 tyX1 tyX1_ok nmX1 hown hK hW hS (tq_pm_2 ho b3) rfl 10 (by decide) (hw _ tw_1193) (fun _ h9 => h9) rfl rfl rfl (by simp) (tq_mixT (by decide)) (by rw [tq_pm_2 ho b3, tq_up_cell]; rfl) dX1_init_11 (fun H locs hW hS => ?_)
  generalize eS4 : tq_up S2 1 o 10 0 = S4 at hW
  have h := h S4 eS4.symm
  refine lv_aload_n hx hb dX1_init_14 rfl (lv_at hl 0 rfl) ?_
  refine lv_iconst (v := (-1)) hx hb dX1_init_15 (by decide) ?_
  refine tq_putG (T1 := tq_mix (tq_up S4 1 o 11 ((-1))) M) (v := .int ((-1))) (fs := [.int (S4 1 o 0), .int (S4 1 o 1), .int (S4 1 o 2), .int (S4 1 o 3), .int (S4 1 o 4), tq_pf (S4 1 o 5) (ad 50 o), tq_pf (S4 1 o 6) (ad 51 o), tq_pf (S4 1 o 7) (ad 52 o), .int (S4 1 o 8), .int (S4 1 o 9), .int (S4 1 o 10), .int (S4 1 o 11), .int (S4 1 o 12)]) hx hb hw tq_inX1 tyX1 tyX1_ok nmX1 hown hK hW hS (tq_pm_2 ho b3) rfl 11 (by decide) (hw _ tw_1195) (fun _ h9 => h9) rfl rfl rfl (by simp) (tq_mixT (by decide)) (by rw [tq_pm_2 ho b3, tq_up_cell]; rfl) dX1_init_16 (fun H locs hW hS => ?_)
  generalize eS5 : tq_up S4 1 o 11 ((-1)) = S5 at hW
  have h := h S5 eS5.symm
  refine lv_aload_n hx hb dX1_init_19 rfl (lv_at hl 0 rfl) ?_
  refine lv_iload hx hb dX1_init_20 (lv_at hl 4 rfl) ?_
  refine tq_putG (T1 := tq_mix (tq_up S5 1 o 8 p4) M) (v := .int p4) (fs := [.int (S5 1 o 0), .int (S5 1 o 1), .int (S5 1 o 2), .int (S5 1 o 3), .int (S5 1 o 4), tq_pf (S5 1 o 5) (ad 50 o), tq_pf (S5 1 o 6) (ad 51 o), tq_pf (S5 1 o 7) (ad 52 o), .int (S5 1 o 8), .int (S5 1 o 9), .int (S5 1 o 10), .int (S5 1 o 11), .int (S5 1 o 12)]) hx hb hw tq_inX1 tyX1 tyX1_ok nmX1 hown hK hW hS (tq_pm_2 ho b3) rfl 8 (by decide) (hw _ tw_534) (fun x h9 => u_same (hw _ tw_535) x h9) rfl rfl rfl (by simp) (tq_mixT (by decide)) (by rw [tq_pm_2 ho b3, tq_up_cell]; rfl) dX1_init_22 (fun H locs hW hS => ?_)
  generalize eS6 : tq_up S5 1 o 8 p4 = S6 at hW
  have h := h S6 eS6.symm
  obtain ⟨b7, h⟩ := h
  obtain ⟨b8, h⟩ := h
  obtain ⟨b9, h⟩ := h
  have hW := hW.prom (K := 7) (f := (fun t => if t = 13 then 1 else S6 1 o t)) ho (by decide) (by decide) (tq_ad1_7 hG.adr ho).symm (by rw [b3]; exact tq_pd_2) (fun N h9 => by rw [tq_mk_7b h9 (by simp), tq_pf1 b7, tq_pf1 b8, tq_pf1 b9]; rfl)
  exact tqb_vretP hx hb hr hN (by decide) h hW hS dX1_init_25 hlocks
-- X8 init
def wpX8_init (post : tq_Nn → tq_St → Prop) (N : tq_Nn) (S : tq_St) (o : Nat) (p1 : Int32) (p2 : Int32) (p3 : Int32) : Prop :=
  ¬ o < 1 ∧ N 1 o = 3 ∧ N 0 0 = o + 1 ∧ ((∀ S1, S1 = tq_up S 1 o 3 0 → ((∀ S2, S2 = tq_up S1 1 o 4 ((-1)) → ((∀ S3, S3 = tq_up S2 1 o 6 ((-1)) → (N 0 0 + 1 ≤ tq_CX ∧ N 0 1 + 4 ≤ tq_CY ∧ (∀ N6, N6 = tq_na N (N 0 0 + 1) 54 o 1 4 → ∀ S7, S7 = tq_cp S3 54 o (fun _ => 0) → ((∀ S11, S11 = tq_up S7 1 o 8 1 → (N6 0 0 + 1 ≤ tq_CX ∧ N6 0 1 + 20 ≤ tq_CY ∧ (∀ N14, N14 = tq_na N6 (N6 0 0 + 1) 55 o 1 20 → ∀ S15, S15 = tq_cp S11 55 o (fun _ => 0) → ((∀ S19, S19 = tq_up S15 1 o 9 1 → (N14 0 0 + 1 ≤ tq_CX ∧ N14 0 1 + 150 ≤ tq_CY ∧ (∀ N22, N22 = tq_na N14 (N14 0 0 + 1) 56 o 1 150 → ∀ S23, S23 = tq_cp S19 56 o (fun _ => 0) → ((∀ S27, S27 = tq_up S23 1 o 10 1 → ((∀ S28, S28 = tq_up S27 1 o 0 p1 → ((∀ S29, S29 = tq_up S28 1 o 1 p2 → ((∀ S30, S30 = tq_up S29 1 o 2 p3 → (¬ S30 1 o 8 = 0 ∧ ¬ S30 1 o 9 = 0 ∧ ¬ S30 1 o 10 = 0 ∧ post (tq_pr N22 o 8) (tq_cp S30 8 o (S30 1 o)))))))))))))))))))))))))))
set_option maxHeartbeats 4000000 in
set_option maxRecDepth 100000 in
theorem kX8_init {post : tq_Nn → tq_St → Prop} {N : tq_Nn} {S : tq_St} {sz sl : Nat} {o : Nat} {p1 : Int32} {p2 : Int32} {p3 : Int32} (h : wpX8_init post N S o p1 p2 p3) : tq_bV l yX8_init (tq_ws yX8_init cX8_init 4 none) 1 21 D cy z A0 H0 ad N M S sz sl [.ref (ad 1 o), .int p1, .int p2, .int p3] post := by
  unfold wpX8_init at h
  refine Met.ofW (cc := cX8_init) (maxL := 4) (ret := none) (by decide) rfl ?_
  intro p e s m args below meth c s₁ B hml hv
  obtain ⟨rfl, ⟨hW, hK, hG⟩, rfl, rfl, hN1, hN2, hN3, hN4⟩ := hv
  have hN : tq_nb z A0 s N := ⟨hN1, hN2, hN3, hN4⟩
  have hx := B.exec
  have hb := B.bytes
  have hr := B.returns
  have hts := atoms_spec (ws := (tq_ws yX8_init cX8_init 4 none)) B.pre
  have hw : ∀ w ∈ tq_W, w.before _ s = true := fun w h => hts w (List.mem_cons_of_mem _ h)
  have hown : s.vm.findClass RX8 = some m.cls := findClass_of_methodNamed B.named
  have hlocks := B.notSynchronized
  have C : tq_At p s m meth c [.ref (ad 1 o), .int p1, .int p2, .int p3].toArray cX8_init 4 (none) ((tq_ws yX8_init cX8_init 4 none)) RX8 D cy z ad := ⟨hx, hb, hr, hml, hown, hts, hlocks, hK, hG⟩
  have hS : va_S (fun q => z ≤ q) s.heap s.heap [] := va_S.rf
  have hl := lv_entry ([.ref (ad 1 o), .int p1, .int p2, .int p3]) (n := 4) (Nat.le_of_ble_eq_true rfl)
  rw [lg_entry_eq]
  generalize (lg_sl ([.ref (ad 1 o), .int p1, .int p2, .int p3]) ++ List.replicate (4 - (lg_sl ([.ref (ad 1 o), .int p1, .int p2, .int p3])).length) Slot.unset).toArray = ls at hl ⊢
  have hl : lv_has ls 4 [(0, .ref (ad 1 o)), (1, .int p1), (2, .int p2), (3, .int p3)] := hl
  have hW : tq_wd D cy z H0 ad N (tq_mix S M) s.heap := hW
  refine tq_tight (c1 := z + N 0 0 - s.heap.size) (n1 := A0 + N 0 1 - tq_all s.heap) (by omega) (by omega) ?_
  obtain ⟨ho, hP0, hj0, h⟩ := h
  have hin2 : meth.name = "<init>" := (name_of_methodNamed B.named B.method).1
  refine lv_aload_n hx hb dX8_init_0 rfl (lv_at hl 0 rfl) ?_
  refine W.objInit hx hb hown (hw _ tw_896) (hw _ tw_147) (hw _ tw_148) rfl (by rw [hml]; exact hl.1) rfl dX8_init_1 (Nat.le_of_ble_eq_true rfl) (Nat.le_of_ble_eq_true rfl) ?_
  refine W.eq (g2 := F0 m 4 ls []) rfl ?_
  refine lv_aload_n hx hb dX8_init_4 rfl (lv_at hl 0 rfl) ?_
  refine lv_iconst (v := 0) hx hb dX8_init_5 (by decide) ?_
  refine tq_putG (T1 := tq_mix (tq_up S 1 o 3 0) M) (v := .int 0) (fs := [.int (S 1 o 0), .int (S 1 o 1), .int (S 1 o 2), .int (S 1 o 3), .int (S 1 o 4), .int (S 1 o 5), .int (S 1 o 6), .int (S 1 o 7), tq_pf (S 1 o 8) (ad 54 o), tq_pf (S 1 o 9) (ad 55 o), tq_pf (S 1 o 10) (ad 56 o)]) hx hb hw tq_inX8 tyX8 tyX8_ok nmX8 hown hK hW hS (tq_pm_3 ho hP0) rfl 3 (by decide) (hw _ tw_902) (fun _ h9 => h9) rfl rfl rfl (by simp) (tq_mixT (by decide)) (by rw [tq_pm_3 ho hP0, tq_up_cell]; rfl) dX8_init_6 (fun H locs hW hS => ?_)
  generalize eS1 : tq_up S 1 o 3 0 = S1 at hW
  have h := h S1 eS1.symm
  refine lv_aload_n hx hb dX8_init_9 rfl (lv_at hl 0 rfl) ?_
  refine lv_iconst (v := (-1)) hx hb dX8_init_10 (by decide) ?_
  refine tq_putG (T1 := tq_mix (tq_up S1 1 o 4 ((-1))) M) (v := .int ((-1))) (fs := [.int (S1 1 o 0), .int (S1 1 o 1), .int (S1 1 o 2), .int (S1 1 o 3), .int (S1 1 o 4), .int (S1 1 o 5), .int (S1 1 o 6), .int (S1 1 o 7), tq_pf (S1 1 o 8) (ad 54 o), tq_pf (S1 1 o 9) (ad 55 o), tq_pf (S1 1 o 10) (ad 56 o)]) hx hb hw tq_inX8 tyX8 tyX8_ok nmX8 hown hK hW hS (tq_pm_3 ho hP0) rfl 4 (by decide) (hw _ tw_905) (fun _ h9 => h9) rfl rfl rfl (by simp) (tq_mixT (by decide)) (by rw [tq_pm_3 ho hP0, tq_up_cell]; rfl) dX8_init_11 (fun H locs hW hS => ?_)
  generalize eS2 : tq_up S1 1 o 4 ((-1)) = S2 at hW
  have h := h S2 eS2.symm
  refine lv_aload_n hx hb dX8_init_14 rfl (lv_at hl 0 rfl) ?_
  refine lv_iconst (v := (-1)) hx hb dX8_init_15 (by decide) ?_
  refine tq_putG (T1 := tq_mix (tq_up S2 1 o 6 ((-1))) M) (v := .int ((-1))) (fs := [.int (S2 1 o 0), .int (S2 1 o 1), .int (S2 1 o 2), .int (S2 1 o 3), .int (S2 1 o 4), .int (S2 1 o 5), .int (S2 1 o 6), .int (S2 1 o 7), tq_pf (S2 1 o 8) (ad 54 o), tq_pf (S2 1 o 9) (ad 55 o), tq_pf (S2 1 o 10) (ad 56 o)]) hx hb hw tq_inX8 tyX8 tyX8_ok nmX8 hown hK hW hS (tq_pm_3 ho hP0) rfl 6 (by decide) (hw _ tw_908) (fun _ h9 => h9) rfl rfl rfl (by simp) (tq_mixT (by decide)) (by rw [tq_pm_3 ho hP0, tq_up_cell]; rfl) dX8_init_16 (fun H locs hW hS => ?_)
  generalize eS3 : tq_up S2 1 o 6 ((-1)) = S3 at hW
  have h := h S3 eS3.symm
  refine lv_aload_n hx hb dX8_init_19 rfl (lv_at hl 0 rfl) ?_
  refine lv_iconst (v := 4) hx hb dX8_init_20 (by decide) ?_
  obtain ⟨b4, b5, h⟩ := h
  refine tq_last (K := 1) (o := o) hW hN (tq_pm_3 ho hP0) (by rw [tq_ads_1 hG.adr ho, hj0]; omega) (fun hz9 => ?_)
  refine tqw_newa (k := 54) (i := o) (n := 4) (a := N 0 0 + 1) hx hb (hw _ tw_177) hK hW hS hN (by decide) (by decide) (fun N f h9 => tq_mk_54 h9) (by rw [hz9, tq_ads_54 hG.adr, hj0]; omega) (by omega) b4 b5 (by decide) (by decide) (by decide) dX8_init_21 (fun H hz9 hN hW hS => ?_)
  generalize eN6 : tq_na N (N 0 0 + 1) 54 o 1 4 = N6 at hN hW ⊢
  generalize eS7 : tq_cp S3 54 o (fun _ => 0) = S7 at hW
  have hj8 : N6 0 0 = o + 1 + 1 := by rw [← eN6, tq_na00, hj0]
  have hP9 : N6 1 o = 3 := by rw [← eN6, tq_na_ne (by decide) (fun q => absurd q.1 (by decide))]; exact hP0
  have hl10 : N6 54 o = 1 := by rw [← eN6, tq_na_self _ _ _ _ _ _ (by decide)]
  have h := h N6 eN6.symm S7 eS7.symm
  refine tq_putGF (T1 := tq_mix (tq_up S7 1 o 8 1) M) (v := .ref (ad 54 o)) (fs := [.int (S7 1 o 0), .int (S7 1 o 1), .int (S7 1 o 2), .int (S7 1 o 3), .int (S7 1 o 4), .int (S7 1 o 5), .int (S7 1 o 6), .int (S7 1 o 7), tq_pf (S7 1 o 8) (ad 54 o), tq_pf (S7 1 o 9) (ad 55 o), tq_pf (S7 1 o 10) (ad 56 o)]) hx hb hw tq_inX8 tyX8 tyX8_ok nmX8 hown hK hW hS (tq_pm_3 ho hP9) rfl 8 (by decide) (hw _ tw_912) (fun _ h9 => h9) rfl hin2 rfl rfl rfl (by simp) (tq_mixT (by decide)) (by rw [tq_pm_3 ho hP9, tq_up_cell]; rfl) dX8_init_23 (fun H locs hz9 hW hS => ?_)
  generalize eS11 : tq_up S7 1 o 8 1 = S11 at hW
  have h := h S11 eS11.symm
  refine lv_aload_n hx hb dX8_init_26 rfl (lv_at hl 0 rfl) ?_
  refine lv_bipush (v := 20) hx hb dX8_init_27 (by decide) ?_
  obtain ⟨b12, b13, h⟩ := h
  refine tq_last (K := 54) (o := o) hW hN (by rw [tq_mixC _ _ (by decide)]; exact tq_mk_54 hl10) (by rw [tq_ads_54 hG.adr, hj8]; omega) (fun hz9 => ?_)
  refine tqw_newa (k := 55) (i := o) (n := 20) (a := N6 0 0 + 1) hx hb (hw _ tw_177) hK hW hS hN (by decide) (by decide) (fun N f h9 => tq_mk_55 h9) (by rw [hz9, tq_ads_55 hG.adr, hj8]; omega) (by omega) b12 b13 (by decide) (by decide) (by decide) dX8_init_29 (fun H hz9 hN hW hS => ?_)
  generalize eN14 : tq_na N6 (N6 0 0 + 1) 55 o 1 20 = N14 at hN hW ⊢
  generalize eS15 : tq_cp S11 55 o (fun _ => 0) = S15 at hW
  have hj16 : N14 0 0 = o + 1 + 2 := by rw [← eN14, tq_na00, hj8]
  have hP17 : N14 1 o = 3 := by rw [← eN14, tq_na_ne (by decide) (fun q => absurd q.1 (by decide))]; exact hP9
  have hl18 : N14 55 o = 1 := by rw [← eN14, tq_na_self _ _ _ _ _ _ (by decide)]
  have h := h N14 eN14.symm S15 eS15.symm
  refine tq_putGF (T1 := tq_mix (tq_up S15 1 o 9 1) M) (v := .ref (ad 55 o)) (fs := [.int (S15 1 o 0), .int (S15 1 o 1), .int (S15 1 o 2), .int (S15 1 o 3), .int (S15 1 o 4), .int (S15 1 o 5), .int (S15 1 o 6), .int (S15 1 o 7), tq_pf (S15 1 o 8) (ad 54 o), tq_pf (S15 1 o 9) (ad 55 o), tq_pf (S15 1 o 10) (ad 56 o)]) hx hb hw tq_inX8 tyX8 tyX8_ok nmX8 hown hK hW hS (tq_pm_3 ho hP17) rfl 9 (by decide) (hw _ tw_915) (fun _ h9 => h9) rfl hin2 rfl rfl rfl (by simp) (tq_mixT (by decide)) (by rw [tq_pm_3 ho hP17, tq_up_cell]; rfl) dX8_init_31 (fun H locs hz9 hW hS => ?_)
  generalize eS19 : tq_up S15 1 o 9 1 = S19 at hW
  have h := h S19 eS19.symm
  refine lv_aload_n hx hb dX8_init_34 rfl (lv_at hl 0 rfl) ?_
  refine lv_sipush (v := 150) hx hb dX8_init_35 (by decide) ?_
  obtain ⟨b20, b21, h⟩ := h
  refine tq_last (K := 55) (o := o) hW hN (by rw [tq_mixC _ _ (by decide)]; exact tq_mk_55 hl18) (by rw [tq_ads_55 hG.adr, hj16]; omega) (fun hz9 => ?_)
  refine tqw_newa (k := 56) (i := o) (n := 150) (a := N14 0 0 + 1) hx hb (hw _ tw_177) hK hW hS hN (by decide) (by decide) (fun N f h9 => tq_mk_56 h9) (by rw [hz9, tq_ads_56 hG.adr, hj16]; omega) (by omega) b20 b21 (by decide) (by decide) (by decide) dX8_init_38 (fun H hz9 hN hW hS => ?_)
  generalize eN22 : tq_na N14 (N14 0 0 + 1) 56 o 1 150 = N22 at hN hW ⊢
  generalize eS23 : tq_cp S19 56 o (fun _ => 0) = S23 at hW
  have hj24 : N22 0 0 = o + 1 + 3 := by rw [← eN22, tq_na00, hj16]
  have hP25 : N22 1 o = 3 := by rw [← eN22, tq_na_ne (by decide) (fun q => absurd q.1 (by decide))]; exact hP17
  have hl26 : N22 56 o = 1 := by rw [← eN22, tq_na_self _ _ _ _ _ _ (by decide)]
  have h := h N22 eN22.symm S23 eS23.symm
  refine tq_putGF (T1 := tq_mix (tq_up S23 1 o 10 1) M) (v := .ref (ad 56 o)) (fs := [.int (S23 1 o 0), .int (S23 1 o 1), .int (S23 1 o 2), .int (S23 1 o 3), .int (S23 1 o 4), .int (S23 1 o 5), .int (S23 1 o 6), .int (S23 1 o 7), tq_pf (S23 1 o 8) (ad 54 o), tq_pf (S23 1 o 9) (ad 55 o), tq_pf (S23 1 o 10) (ad 56 o)]) hx hb hw tq_inX8 tyX8 tyX8_ok nmX8 hown hK hW hS (tq_pm_3 ho hP25) rfl 10 (by decide) (hw _ tw_917) (fun _ h9 => h9) rfl hin2 rfl rfl rfl (by simp) (tq_mixT (by decide)) (by rw [tq_pm_3 ho hP25, tq_up_cell]; rfl) dX8_init_40 (fun H locs hz9 hW hS => ?_)
  generalize eS27 : tq_up S23 1 o 10 1 = S27 at hW
  have h := h S27 eS27.symm
  refine lv_aload_n hx hb dX8_init_43 rfl (lv_at hl 0 rfl) ?_
  refine lv_iload_n hx hb dX8_init_44 rfl (lv_at hl 1 rfl) ?_
  refine tq_putGF (T1 := tq_mix (tq_up S27 1 o 0 p1) M) (v := .int p1) (fs := [.int (S27 1 o 0), .int (S27 1 o 1), .int (S27 1 o 2), .int (S27 1 o 3), .int (S27 1 o 4), .int (S27 1 o 5), .int (S27 1 o 6), .int (S27 1 o 7), tq_pf (S27 1 o 8) (ad 54 o), tq_pf (S27 1 o 9) (ad 55 o), tq_pf (S27 1 o 10) (ad 56 o)]) hx hb hw tq_inX8 tyX8 tyX8_ok nmX8 hown hK hW hS (tq_pm_3 ho hP25) rfl 0 (by decide) (hw _ tw_898) (fun _ h9 => h9) rfl hin2 rfl rfl rfl (by simp) (tq_mixT (by decide)) (by rw [tq_pm_3 ho hP25, tq_up_cell]; rfl) dX8_init_45 (fun H locs hz9 hW hS => ?_)
  generalize eS28 : tq_up S27 1 o 0 p1 = S28 at hW
  have h := h S28 eS28.symm
  refine lv_aload_n hx hb dX8_init_48 rfl (lv_at hl 0 rfl) ?_
  refine lv_iload_n hx hb dX8_init_49 rfl (lv_at hl 2 rfl) ?_
  refine tq_putGF (T1 := tq_mix (tq_up S28 1 o 1 p2) M) (v := .int p2) (fs := [.int (S28 1 o 0), .int (S28 1 o 1), .int (S28 1 o 2), .int (S28 1 o 3), .int (S28 1 o 4), .int (S28 1 o 5), .int (S28 1 o 6), .int (S28 1 o 7), tq_pf (S28 1 o 8) (ad 54 o), tq_pf (S28 1 o 9) (ad 55 o), tq_pf (S28 1 o 10) (ad 56 o)]) hx hb hw tq_inX8 tyX8 tyX8_ok nmX8 hown hK hW hS (tq_pm_3 ho hP25) rfl 1 (by decide) (hw _ tw_899) (fun _ h9 => h9) rfl hin2 rfl rfl rfl (by simp) (tq_mixT (by decide)) (by rw [tq_pm_3 ho hP25, tq_up_cell]; rfl) dX8_init_50 (fun H locs hz9 hW hS => ?_)
  generalize eS29 : tq_up S28 1 o 1 p2 = S29 at hW
  have h := h S29 eS29.symm
  refine lv_aload_n hx hb dX8_init_53 rfl (lv_at hl 0 rfl) ?_
  refine lv_iload_n hx hb dX8_init_54 rfl (lv_at hl 3 rfl) ?_
  refine tq_putGF (T1 := tq_mix (tq_up S29 1 o 2 p3) M) (v := .int p3) (fs := [.int (S29 1 o 0), .int (S29 1 o 1), .int (S29 1 o 2), .int (S29 1 o 3), .int (S29 1 o 4), .int (S29 1 o 5), .int (S29 1 o 6), .int (S29 1 o 7), tq_pf (S29 1 o 8) (ad 54 o), tq_pf (S29 1 o 9) (ad 55 o), tq_pf (S29 1 o 10) (ad 56 o)]) hx hb hw tq_inX8 tyX8 tyX8_ok nmX8 hown hK hW hS (tq_pm_3 ho hP25) rfl 2 (by decide) (hw _ tw_901) (fun _ h9 => h9) rfl hin2 rfl rfl rfl (by simp) (tq_mixT (by decide)) (by rw [tq_pm_3 ho hP25, tq_up_cell]; rfl) dX8_init_55 (fun H locs hz9 hW hS => ?_)
  generalize eS30 : tq_up S29 1 o 2 p3 = S30 at hW
  have h := h S30 eS30.symm
  obtain ⟨b31, h⟩ := h
  obtain ⟨b32, h⟩ := h
  obtain ⟨b33, h⟩ := h
  have hW := hW.prom (K := 8) (f := (S30 1 o)) ho (by decide) (by decide) (tq_ad1_8 hG.adr ho).symm (by rw [hP25]; exact tq_pd_3) (fun N h9 => by rw [tq_mk_8 h9, tq_pf1 b31, tq_pf1 b32, tq_pf1 b33]; rfl)
  exact tqb_vretP hx hb hr hN (by decide) h hW hS dX8_init_58 hlocks
