section
variable {l : Launch} {D : va_G} {cy : Nat → ClassId} {z : Nat} {ad : Nat → Nat → Nat}
theorem tq_D1 {a : Nat} {e : va_E} : va_D (fun q => q = a) [(a, e)] := by
  refine ⟨fun i j p q hi hj _ => ?_, fun k q hk => ?_⟩
  · have h1 : i < 1 := (List.getElem?_eq_some_iff.mp hi).1
    have h2 : j < 1 := (List.getElem?_eq_some_iff.mp hj).1
    omega
  · have h1 : k < 1 := (List.getElem?_eq_some_iff.mp hk).1
    rw [show k = 0 by omega] at hk
    cases hk
    rfl
set_option maxHeartbeats 4000000 in
set_option maxRecDepth 100000 in
theorem kJc_init {a sz : Nat} {f0 f1 f2 : Value} : Met l yJxa1e45_init_da8c8 (tq_ws yJxa1e45_init_da8c8 cJxa1e45_init_da8c8 1 none) (tq_rm 1 12) (va_Pc [.ref a] (fun U => U.heap.size = sz ∧ va_P D vwCl [(a, .inr (0, [f0, f1, f2]))] U.heap ∧ va_K D vwCl (tq_tys cy) U ∧ tq_G z ad U ∧ z ≤ a)) (va_Qv (fun _ : Unit => True) (fun _ t => va_P D vwCl [(a, .inr (0, [f0, f1, f2]))] t.heap) (fun q => q = a)) 0 0 (fun q => q = a) := by
  refine Met.ofW (cc := cJxa1e45_init_da8c8) (maxL := 1) (ret := none) (by decide) rfl ?_
  intro p e s m args below meth c s₁ B hml hv
  obtain ⟨rfl, hsz, hP, hK, hG, hza⟩ := hv
  have hx := B.exec
  have hb := B.bytes
  have hr := B.returns
  have hts := atoms_spec (ws := tq_ws yJxa1e45_init_da8c8 cJxa1e45_init_da8c8 1 none) B.pre
  have hw : ∀ w ∈ tq_W, w.before _ s = true := fun w h => hts w (List.mem_cons_of_mem _ h)
  have hown : s.vm.findClass RJxa1e45 = some m.cls := findClass_of_methodNamed B.named
  have hlocks := B.notSynchronized
  have hD : va_D (fun q => q = a) [(a, .inr (0, [f0, f1, f2]))] := tq_D1
  have hS : va_S (fun q => q = a) s.heap s.heap [] := va_S.rf
  have hP : va_P D vwCl [(a, .inr (0, [f0, f1, f2]))] s.heap := hP
  have hl := lv_entry ([.ref a]) (n := 1) (Nat.le_of_ble_eq_true rfl)
  rw [lg_entry_eq]
  generalize (lg_sl ([.ref a]) ++ List.replicate (1 - (lg_sl ([.ref a])).length) Slot.unset).toArray = ls at hl ⊢
  have hl : lv_has ls 1 [(0, .ref a)] := hl
  refine lv_aload_n hx hb dJxa1e45_init_da8c8_0 rfl (lv_at hl 0 rfl) ?_
  refine W.objInit hx hb hown (hw _ tw_162) (hw _ tw_147) (hw _ tw_148) rfl (by rw [hml]; exact hl.1) rfl dJxa1e45_init_da8c8_1 (Nat.le_of_ble_eq_true rfl) (Nat.le_of_ble_eq_true rfl) ?_
  refine W.eq (g2 := F0 m 4 ls []) rfl ?_
  exact W.vret hx hb hr (fun t ht hW => ⟨⟨(), rfl, trivial, by show va_P _ _ _ t.heap; rw [ht]; exact hP⟩, hS.F ht⟩) hS.2.2 dJxa1e45_init_da8c8_4
set_option maxHeartbeats 4000000 in
set_option maxRecDepth 100000 in
theorem kJa_init {a sz : Nat} {f0 f1 f2 : Value} : Met l yJxc12de_init_da8c8 (tq_ws yJxc12de_init_da8c8 cJxc12de_init_da8c8 1 none) (tq_rm 2 40) (va_Pc [.ref a] (fun U => U.heap.size = sz ∧ va_P D vwCl [(a, .inr (0, [f0, f1, f2]))] U.heap ∧ va_K D vwCl (tq_tys cy) U ∧ tq_G z ad U ∧ z ≤ a)) (va_Qv (fun _ : Unit => True) (fun _ t => va_P D vwCl [(a, .inr (0, [.int 0, f1, f2]))] t.heap) (fun q => q = a)) 0 0 (fun q => q = a) := by
  refine Met.ofW (cc := cJxc12de_init_da8c8) (maxL := 1) (ret := none) (by decide) rfl ?_
  intro p e s m args below meth c s₁ B hml hv
  obtain ⟨rfl, hsz, hP, hK, hG, hza⟩ := hv
  have hx := B.exec
  have hb := B.bytes
  have hr := B.returns
  have hts := atoms_spec (ws := tq_ws yJxc12de_init_da8c8 cJxc12de_init_da8c8 1 none) B.pre
  have hw : ∀ w ∈ tq_W, w.before _ s = true := fun w h => hts w (List.mem_cons_of_mem _ h)
  have hown : s.vm.findClass RJxc12de = some m.cls := findClass_of_methodNamed B.named
  have hlocks := B.notSynchronized
  have hD : va_D (fun q => q = a) [(a, .inr (0, [f0, f1, f2]))] := tq_D1
  have hS : va_S (fun q => q = a) s.heap s.heap [] := va_S.rf
  have hP : va_P D vwCl [(a, .inr (0, [f0, f1, f2]))] s.heap := hP
  have hl := lv_entry ([.ref a]) (n := 1) (Nat.le_of_ble_eq_true rfl)
  rw [lg_entry_eq]
  generalize (lg_sl ([.ref a]) ++ List.replicate (1 - (lg_sl ([.ref a])).length) Slot.unset).toArray = ls at hl ⊢
  have hl : lv_has ls 1 [(0, .ref a)] := hl
  refine lv_aload_n hx hb dJxc12de_init_da8c8_0 rfl (lv_at hl 0 rfl) ?_
  refine va_callv (va_runI (As := []) (rest := []) ⟨hx, hb, hml, hown, hts⟩ (kJc_init (sz := s.heap.size)) (cwI 0 hts (tq_goodO tw_161) rfl rfl rfl (hw _ tw_116) (hw _ tw_159) (hw _ tw_160) rfl (by decide +kernel) ⟨(Nat.le_of_ble_eq_true rfl), (Nat.le_of_ble_eq_true rfl)⟩) ⟨fun a U g mk q => ⟨q.1, q.2.1, q.2.2.1, va_K.moved (u := U) (U := U.calling g mk a) (Vm.Alike.refl U.vm) q.2.2.2.1, tq_G.go (U := U.calling g mk a) q.2.2.2.2.1 (fun _ _ _ => rfl) (State.WarmedH.refl U), q.2.2.2.2.2⟩, fun U hU hW => ⟨rfl, by rw [hU], by rw [hU]; exact hP, va_K.moved hW.alike hK, hG.go (fun a h1 h2 => by rw [hU]) hW, hza⟩⟩ rfl rfl hl.1 rfl (lv_room (Nat.le_of_ble_eq_true rfl)) dJxc12de_init_da8c8_1 ⟨(Nat.le_of_ble_eq_true rfl), (Nat.le_of_ble_eq_true rfl)⟩) hS (fun q _ h => h) (fun q h => h) (fun u t H1 locs ht hvm hw9 hP1 hz1 hk1 hS => ?_)
  rw [ht] at hP1
  have hP := hP1
  generalize H1 = H at hP hS ⊢
  refine lv_aload_n hx hb dJxc12de_init_da8c8_4 rfl (lv_at hl 0 rfl) ?_
  refine lv_iconst (v := 0) hx hb dJxc12de_init_da8c8_5 (by decide) ?_
  refine va_put hx hb hw tq_inJl tyJx4a65c tyJx4a65c_ok nmJx4a65c hown hK hP hD hS 0 rfl rfl 0 (by decide) (hw _ tw_167) (fun _ h9 => h9) rfl (ty := .int) rfl rfl rfl (by simp) dJxc12de_init_da8c8_6 (fun H locs hP hD hS => ?_)
  have hP : va_P D vwCl [(a, .inr (0, [.int 0, f1, f2]))] H := hP
  exact W.vret hx hb hr (fun t ht hW => ⟨⟨(), rfl, trivial, by show va_P _ _ _ t.heap; rw [ht]; exact hP⟩, hS.F ht⟩) hS.2.2 dJxc12de_init_da8c8_9
set_option maxHeartbeats 4000000 in
set_option maxRecDepth 100000 in
theorem kJl_init {a sz : Nat} {f0 f1 f2 : Value} : Met l yJx4a65c_init_da8c8 (tq_ws yJx4a65c_init_da8c8 cJx4a65c_init_da8c8 1 none) (tq_rm 3 70) (va_Pc [.ref a] (fun U => U.heap.size = sz ∧ va_P D vwCl [(a, .inr (0, [f0, f1, f2]))] U.heap ∧ va_K D vwCl (tq_tys cy) U ∧ tq_G z ad U ∧ z ≤ a)) (va_Qv (fun _ : Unit => True) (fun _ t => va_P D vwCl [(a, .inr (0, [.int 0, .ref (ad 0 0), f2]))] t.heap) (fun q => q = a)) 0 0 (fun q => q = a) := by
  refine Met.ofW (cc := cJx4a65c_init_da8c8) (maxL := 1) (ret := none) (by decide) rfl ?_
  intro p e s m args below meth c s₁ B hml hv
  obtain ⟨rfl, hsz, hP, hK, hG, hza⟩ := hv
  have hx := B.exec
  have hb := B.bytes
  have hr := B.returns
  have hts := atoms_spec (ws := tq_ws yJx4a65c_init_da8c8 cJx4a65c_init_da8c8 1 none) B.pre
  have hw : ∀ w ∈ tq_W, w.before _ s = true := fun w h => hts w (List.mem_cons_of_mem _ h)
  have hown : s.vm.findClass RJx4a65c = some m.cls := findClass_of_methodNamed B.named
  have hlocks := B.notSynchronized
  have hD : va_D (fun q => q = a) [(a, .inr (0, [f0, f1, f2]))] := tq_D1
  have hS : va_S (fun q => q = a) s.heap s.heap [] := va_S.rf
  have hP : va_P D vwCl [(a, .inr (0, [f0, f1, f2]))] s.heap := hP
  have hl := lv_entry ([.ref a]) (n := 1) (Nat.le_of_ble_eq_true rfl)
  rw [lg_entry_eq]
  generalize (lg_sl ([.ref a]) ++ List.replicate (1 - (lg_sl ([.ref a])).length) Slot.unset).toArray = ls at hl ⊢
  have hl : lv_has ls 1 [(0, .ref a)] := hl
  refine lv_aload_n hx hb dJx4a65c_init_da8c8_0 rfl (lv_at hl 0 rfl) ?_
  refine va_callv (va_runI (As := []) (rest := []) ⟨hx, hb, hml, hown, hts⟩ (kJa_init (sz := s.heap.size)) (cwI 0 hts (tq_goodO tw_158) rfl rfl rfl (hw _ tw_117) (hw _ tw_156) (hw _ tw_157) rfl (by decide +kernel) ⟨(Nat.le_of_ble_eq_true rfl), (Nat.le_of_ble_eq_true rfl)⟩) ⟨fun a U g mk q => ⟨q.1, q.2.1, q.2.2.1, va_K.moved (u := U) (U := U.calling g mk a) (Vm.Alike.refl U.vm) q.2.2.2.1, tq_G.go (U := U.calling g mk a) q.2.2.2.2.1 (fun _ _ _ => rfl) (State.WarmedH.refl U), q.2.2.2.2.2⟩, fun U hU hW => ⟨rfl, by rw [hU], by rw [hU]; exact hP, va_K.moved hW.alike hK, hG.go (fun a h1 h2 => by rw [hU]) hW, hza⟩⟩ rfl rfl hl.1 rfl (lv_room (Nat.le_of_ble_eq_true rfl)) dJx4a65c_init_da8c8_1 ⟨(Nat.le_of_ble_eq_true rfl), (Nat.le_of_ble_eq_true rfl)⟩) hS (fun q _ h => h) (fun q h => h) (fun u t H1 locs ht hvm hw9 hP1 hz1 hk1 hS => ?_)
  rw [ht] at hP1
  have hP := hP1
  generalize H1 = H at hP hS ⊢
  have hD : va_D (fun q => q = a) [(a, .inr (0, [.int 0, f1, f2]))] := tq_D1
  refine lv_aload_n hx hb dJx4a65c_init_da8c8_4 rfl (lv_at hl 0 rfl) ?_
  refine va_gets hx hb (hG.2.2.2.2.2.1.narrow (fun q h => by omega)) hS hown (hw _ tw_163) (fun _ h9 => h9) dJx4a65c_init_da8c8_5 ?_
  refine va_put (v := .ref (ad 0 0)) hx hb hw tq_inJl tyJx4a65c tyJx4a65c_ok nmJx4a65c hown hK hP hD hS 0 rfl rfl 1 (by decide) (hw _ tw_165) (fun _ h9 => h9) rfl (ty := .array (.object "java/lang/Object")) rfl rfl rfl (by simp) dJx4a65c_init_da8c8_8 (fun H locs hP hD hS => ?_)
  have hP : va_P D vwCl [(a, .inr (0, [.int 0, .ref (ad 0 0), f2]))] H := hP
  exact W.vret hx hb hr (fun t ht hW => ⟨⟨(), rfl, trivial, by show va_P _ _ _ t.heap; rw [ht]; exact hP⟩, hS.F ht⟩) hS.2.2 dJx4a65c_init_da8c8_11
end
section TQO
variable {p : Program} {l : Launch} {e : Env} {s : State} {m : MethodId} {args : Array Value} {below : List Frame} {meth : Method} {c : Code} {H : Heap} {locs : List Loc} {Q : State → Prop}
variable {cc : ByteArray} {pc fr0 lo0 nL : Nat} {ls : Array Slot} {rest : List Value} {D : va_G} {cy : Nat → ClassId} {z A0 : Nat} {H0 : Heap} {ad : Nat → Nat → Nat} {N : tq_Nn} {S M : tq_St} {Ts : List Cond}
set_option maxHeartbeats 4000000 in
set_option maxRecDepth 100000 in
theorem tqw_newL (hx : p.tables.exec = Jvm.exec) (hb : c.code = cc) {own : String} {ix1 ix2 : Nat} {y0 : MethodName} {b0 : ByteArray} {n0 : Nat} {r0 : Option FieldType} (hml : c.maxLocals = nL) (hsz : ls.size = nL) (hts : ∀ w ∈ tq_ws y0 b0 n0 r0, w.before args s = true) (hown : s.vm.findClass own = some m.cls) (hcl : (Cond.classLink own ix1 RJx4a65c).before args s = true) (hml2 : (Cond.methodLink own ix2 yJx4a65c_init_da8c8).before args s = true) (hK : va_K D vwCl (tq_tys cy) s) (hG : tq_G z ad s) (hW : tq_wd D cy z H0 ad N (tq_mix S M) H) (hS : va_S (fun q => z ≤ q) s.heap H locs) (hN : tq_nb z A0 s N) {k i a kd : Nat} (hk : k < 64) (hk0 : k ≠ 0) (hmk : ∀ (N : tq_Nn) (f : Nat → Int32), N k i = 1 → tq_mk cy ad N k i f = some (.inr (0, [.int (f 0), .ref (if f 1 = 0 then ad 0 0 else ad kd (f 1).toNatClampNeg), .int (f 2)]))) (ha : ad k i = H.size) (han : a = H.size + 1 - z) (ha1 : a ≤ tq_CX) (hs1 : N 0 1 + 3 ≤ tq_CY) (hfr : 4 ≤ fr0) (hlo : 90 ≤ lo0) (hrest : (rest.map fun v => v.category).sum ≤ 4) (hd1 : decode cc pc = .ok (.new ix1, 3)) (hd2 : decode cc (pc + 3) = .ok (.dup, 1)) (hd3 : decode cc (pc + 3 + 1) = .ok (.invokespecial ix2, 3))
    (kk : ∀ (H1 : Heap) (locs1 : List Loc), H1.size = H.size + 1 → tq_nb z A0 s (tq_na N a k i 1 3) → tq_wd D cy z H0 ad (tq_na N a k i 1 3) (tq_mix (tq_cp S k i (fun _ => 0)) M) H1 → va_S (fun q => z ≤ q) s.heap H1 locs1 → tq_Wb p l e fr0 lo0 s m args below meth c z A0 (tq_na N a k i 1 3) H1 locs1 Q (F0 m (pc + 3 + 1 + 3) ls (.ref (ad k i) :: rest))) : tq_Wb p l e fr0 lo0 s m args below meth c z A0 N H locs Q (F0 m pc ls rest) := by
  have hw : ∀ w ∈ tq_W, w.before args s = true := fun w h => hts w (List.mem_cons_of_mem _ h)
  obtain ⟨hs0, hs9, hx0, hx1⟩ := hN
  have hpos := hW.pos
  refine tq_facts2 (fun f1 f2 f3 f4 => ?_)
  refine tq_tight (c1 := H.size - s.heap.size) (n1 := tq_all H - tq_all s.heap) (by omega) (by omega) ?_
  have hKn := hK.1 0 _ rfl
  refine W.newcK hx hb hown hcl (hw _ tw_152) (hw _ tw_118) rfl hd1 (by show _ ≤ z + tq_CX - s.heap.size; omega) (by show _ ≤ A0 + tq_CY - tq_all s.heap; omega) hKn.2.1 rfl fun H1 kC hkC e1 z1 o1 => ?_
  have hS1 : va_S (fun q => z ≤ q) s.heap H1 locs := ⟨by omega, fun q h1 h2 => (o1 q (by omega)).trans (hS.2.1 q h1 h2), hS.2.2⟩
  have hP : va_P D vwCl [(H.size, .inr (0, [.int 0, .null, .int 0]))] H1 := tq_one ⟨_, rfl, (u_born tyJx4a65c hw tq_inJl hKn hkC e1 tyJx4a65c_ok).to (by decide)⟩
  show W _ _ _ _ _ _ _ _ _ _ _ _ _ _ _ (F0 m (pc + 3) ls (.ref H.size :: rest))
  refine lv_dup hx hb hd2 rfl ?_
  refine va_callv (A0 := fun q => z ≤ q) (va_runI (As := []) (rest := .ref H.size :: rest) ⟨hx, hb, hml, hown, hts⟩ (kJl_init (sz := H1.size)) (cwI 0 hts (tq_goodO tw_155) rfl rfl rfl (hw _ tw_118) hml2 (hw _ tw_154) rfl (by decide +kernel) ⟨by show 3 + 1 ≤ fr0; omega, by show _ ≤ lo0; refine Nat.le_trans (Nat.le_of_ble_eq_true rfl : _ ≤ 90) hlo⟩) ⟨fun a U g mk q => ⟨q.1, q.2.1, q.2.2.1, va_K.moved (u := U) (U := U.calling g mk a) (Vm.Alike.refl U.vm) q.2.2.2.1, tq_G.go (U := U.calling g mk a) q.2.2.2.2.1 (fun _ _ _ => rfl) (State.WarmedH.refl U), q.2.2.2.2.2⟩, fun U hU hW1 => ⟨rfl, by rw [hU], by rw [hU]; exact hP, va_K.moved hW1.alike hK, hG.go (fun a h1 h2 => by rw [hU]; exact hS1.2.1 a h1 h2) hW1, by omega⟩⟩ rfl rfl hsz rfl (lv_room (by show 1 + (rest.map fun v => v.category).sum ≤ 8; omega)) hd3 ⟨by show _ ≤ z + tq_CX - s.heap.size; omega, by show _ ≤ A0 + tq_CY - tq_all s.heap; omega⟩) hS1 (fun q _ h => by subst h; omega) (fun q h => by subst h; omega) (fun u t H2 locs2 ht hvm hw9 hP2 hz2 hk2 hS2 => ?_)
  rw [ht] at hP2
  refine tq_facts2 (fun g1 g2 g3 g4 => ?_)
  have z2 : H2.size = H.size + 1 := by omega
  have hnb : tq_nb z A0 s (tq_na N a k i 1 3) := ⟨by rw [tq_na00]; omega, by rw [tq_na01]; omega, by rw [tq_na00]; exact ha1, by rw [tq_na01]; exact hs1⟩
  have hw1 : tq_wd D cy z H0 ad (tq_na N a k i 1 3) (tq_mix (tq_cp S k i (fun _ => 0)) M) H2 := by
    refine hW.add (k := k) (i := i) (e := .inr (0, [.int 0, .ref (ad 0 0), .int 0])) z2 (fun q hq => (hk2 q (by omega) (by omega)).trans (o1 q hq)) ha ?_ ?_ (fun k' i' h9 => tq_mixcp k' i' h9)
    · rw [tq_mixC _ _ hk, tq_cp_self, hmk _ _ (tq_na_self _ _ _ _ _ _ hk0)]
      simp
    · rw [ha]
      exact hP2 0 _ rfl
  rw [← ha]
  refine tq_tight (c1 := z + (tq_na N a k i 1 3) 0 0 - s.heap.size) (n1 := A0 + (tq_na N a k i 1 3) 0 1 - tq_all s.heap) (by rw [tq_na00]; omega) (by rw [tq_na01]; omega) ?_
  exact kk H2 locs2 z2 hnb hw1 hS2
end TQO
