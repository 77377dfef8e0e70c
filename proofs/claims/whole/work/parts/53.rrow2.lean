section TQRX
variable {p : Program} {l : Launch} {e : Env} {R : Room} {s : State} {m : MethodId} {args : Array Value} {below : List Frame} {meth : Method} {c : Code} {H : Heap} {locs : List Loc} {cells slots : Nat} {Q : State → Prop}
variable {cc : ByteArray} {pc : Nat} {ls : Array Slot} {rest : List Value} {D : va_G} {cy : Nat → ClassId} {z n n1 : Nat} {H0 : Heap} {E E1 : Nat → va_E} {ad : Nat → Nat → Nat}
theorem tq_rw.at {j : Nat} {x : va_E} (hR : tq_rw D z n H0 E H) (hj : j < n) (he : E j = x) : va_at D vwCl (z + j, x) H := by
  have := hR.2.1 j hj
  rw [he] at this
  exact this
theorem tqr_iast (hx : p.tables.exec = Jvm.exec) (hb : c.code = cc) (hK : va_K D vwCl (tq_tys cy) s) (hR : tq_rw D z n H0 E H) (hS : va_S (fun q => z ≤ q) s.heap H locs) {j len : Nat} {f f1 : Nat → Int32} (hj : j < n) (he : E j = .inl (cy 0, len, .inl f)) {i x : Int32} (hin : vp_in i len) (hf1 : f1 = upd f i.toNatClampNeg x) (hE1 : E1 = tq_ext E j (.inl (cy 0, len, .inl f1))) (hdg : decode cc pc = .ok (.iastore, 1))
    (kk : ∀ (H1 : Heap) (locs1 : List Loc), tq_rw D z n H0 E1 H1 → va_S (fun q => z ≤ q) s.heap H1 locs1 → W p l e R s m args below meth c H1 locs1 cells slots Q (F0 m (pc + 1) ls rest)) : W p l e R s m args below meth c H locs cells slots Q (F0 m pc ls (.int x :: .int i :: .ref (z + j) :: rest)) := by
  subst hE1
  subst hf1
  refine W.iast hx hb (hR.at hj he) ((hK.2 0 _ rfl).1 len (fun q => .int (f q))) (fun q => by cases q) (by show ¬ (i < 0 ∨ (arrV _ _ _).slots.size ≤ _); rw [arrV_size]; exact hin) rfl rfl hdg fun H1 e1 z1 oq => ?_
  refine kk H1 _ (hR.set hj z1 oq ?_) (hS.put z1 oq (by show z ≤ z + j; omega))
  show H1[z + j]? = some (vp_cell _ _)
  rw [e1]
  rw [vp_cell_i, vp_cell_i, arrV_store]
  congr 2
  funext q
  by_cases hq : q = i.toNatClampNeg
  · subst hq
    simp [updV, upd]
  · simp [updV, upd, hq]
theorem tqr_aast (hx : p.tables.exec = Jvm.exec) (hb : c.code = cc) (hK : va_K D vwCl (tq_tys cy) s) (hR : tq_rw D z n H0 E H) (hS : va_S (fun q => z ≤ q) s.heap H locs) {j len jv ci : Nat} {cA : ClassId} {f f1 : Nat → Option Nat} {vs : List Value} {r : vw_C} (hj : j < n) (he : E j = .inl (cA, len, .inr (.inr (.inr (.inr f))))) (t0 : Nat) (ht : (tq_tys cy)[t0]? = some (cA, .object r.1)) (hjv : jv < n) (hv : E jv = .inr (ci, vs)) (hc : vwCl[ci]? = some r) {i : Int32} (hin : vp_in i len) (hf1 : f1 = va_up f i.toNatClampNeg (some (z + jv))) (hE1 : E1 = tq_ext E j (.inl (cA, len, .inr (.inr (.inr (.inr f1)))))) (hdg : decode cc pc = .ok (.aastore, 1))
    (kk : ∀ (H1 : Heap) (locs1 : List Loc), tq_rw D z n H0 E1 H1 → va_S (fun q => z ≤ q) s.heap H1 locs1 → W p l e R s m args below meth c H1 locs1 cells slots Q (F0 m (pc + 1) ls rest)) : W p l e R s m args below meth c H locs cells slots Q (F0 m pc ls (.ref (z + jv) :: .int i :: .ref (z + j) :: rest)) := by
  subst hE1
  subst hf1
  have hlt : i.toNatClampNeg < len := Nat.not_le.mp fun q => hin (Or.inr q)
  have h0 : ¬ i < 0 := fun q => hin (Or.inl q)
  obtain ⟨r', hr', cellV, g1, g2, g3, -⟩ := hR.at hjv hv
  have hcls := (hK.1 ci r hc).2
  obtain ⟨kA, comp, k1, k2, k3, -⟩ := (hK.2 t0 _ ht).2
  obtain ⟨kE, hkE, -⟩ := Vm.findClass_spec k3
  cases hcls.1.symm.trans k3
  obtain ⟨kC, hkC, -⟩ := hcls.2
  refine W.aast hx hb (hR.at hj he) (fun q h => by cases h) (fun h => by cases h) k1 k2 rfl hkE ⟨h0, by show _ < (arrV _ _ _).slots.size; rw [arrV_size]; exact hlt⟩ g1 (fun q h => by rw [g3] at h; cases h) (by rw [g2]; exact hkC) (by rw [g2]; exact va_asg _ _) rfl rfl hdg fun H1 e1 z1 oq => ?_
  refine kk H1 _ (hR.set hj z1 oq ?_) (hS.put z1 oq (by show z ≤ z + j; omega))
  show H1[z + j]? = some (vp_cell _ _)
  rw [e1]
  rw [vp_cell_q, vp_cell_q, arrV_store]
  congr 2
  funext q
  by_cases hq : q = i.toNatClampNeg
  · subst hq
    simp [updV, va_up, va_rf]
  · simp [updV, va_up, hq]
theorem tqr_aald (hx : p.tables.exec = Jvm.exec) (hb : c.code = cc) (hK : va_K D vwCl (tq_tys cy) s) (hR : tq_rw D z n H0 E H) {j len : Nat} {cA : ClassId} {f : Nat → Option Nat} (hj : j < n) (he : E j = .inl (cA, len, .inr (.inr (.inr (.inr f))))) (t0 : Nat) {ty : FieldType} (ht : (tq_tys cy)[t0]? = some (cA, ty)) (hty : ty.isReference = true) {i : Int32} (hin : vp_in i len) {v : Value} (hv : va_rf (f i.toNatClampNeg) = v) (hdg : decode cc pc = .ok (.aaload, 1))
    (kk : W p l e R s m args below meth c H locs cells slots Q (F0 m (pc + 1) ls (v :: rest))) : W p l e R s m args below meth c H locs cells slots Q (F0 m pc ls (.int i :: .ref (z + j) :: rest)) := by
  have hlt : i.toNatClampNeg < len := Nat.not_le.mp fun q => hin (Or.inr q)
  exact W.aald (v := v) (ty := ty) hx hb (hR.at hj he) ((hK.2 t0 _ ht).1 len (fun j => va_rf (f j))) hty (fun q => by cases q) (by show ¬ (i < 0 ∨ (arrV _ _ _).slots.size ≤ _); rw [arrV_size]; exact hin) (by show (arrV _ _ _).slots[_]? = _; rw [arrV_read _ _ hlt, hv]) rfl rfl hdg kk
theorem tqr_alen (hx : p.tables.exec = Jvm.exec) (hb : c.code = cc) (hK : va_K D vwCl (tq_tys cy) s) (hR : tq_rw D z n H0 E H) {j : Nat} {cA : ClassId} {x : vp_A} (hj : j < n) (he : E j = .inl (cA, x)) (t0 : Nat) {ty : FieldType} (ht : (tq_tys cy)[t0]? = some (cA, ty)) {v : Int32} (hv : Int32.ofNat x.1 = v) (hdg : decode cc pc = .ok (.arraylength, 1))
    (kk : W p l e R s m args below meth c H locs cells slots Q (F0 m (pc + 1) ls (.int v :: rest))) : W p l e R s m args below meth c H locs cells slots Q (F0 m pc ls (.ref (z + j) :: rest)) :=
  va_alen (ws := [(z + j, .inl (cA, x))]) hx hb hK (tq_one (hR.at hj he)) 0 t0 rfl ht hv hdg kk
/-- a contract of a method over the first cells -/
def tq_cC (l : Launch) (y : MethodName) (ws : List Cond) (fr lo mc ms : Nat) (D : va_G) (cy : Nat → ClassId) (z : Nat) (H0 : Heap) (ad : Nat → Nat → Nat) (n : Nat) (E : Nat → va_E) (n1 : Nat) (E1 : Nat → va_E) (av : List Value) : Prop :=
  Met l y ws { frames := fr, cells := mc, slots := ms, locals := lo } (va_Pc av (fun U => tq_rw D z n H0 E U.heap ∧ va_K D vwCl (tq_tys cy) U ∧ tq_G z ad U)) (va_Qv (fun _ : Unit => True) (fun _ t => tq_rw D z n1 H0 E1 t.heap) (fun q => z ≤ q)) mc ms (fun q => z ≤ q)
theorem tq_blindC {av : List Value} : FrameBlind (va_Pc av (fun U => tq_rw D z n H0 E U.heap ∧ va_K D vwCl (tq_tys cy) U ∧ tq_G z ad U)) := fun a U g mk q => ⟨q.1, q.2.1, va_K.moved (u := U) (U := U.calling g mk a) (Vm.Alike.refl U.vm) q.2.2.1, tq_G.go (U := U.calling g mk a) q.2.2.2 (fun _ _ _ => rfl) (State.WarmedH.refl U)⟩
variable {nL k index maxL fr lo mc ms : Nat} {st0 As : List Value} {Ts ws : List Cond} {own host : String} {y : MethodName} {bytes : ByteArray} {b : Nat}
theorem tqr_callI (hM : tq_cC l y ws fr lo mc ms D cy z H0 ad n E n1 E1 (.ref b :: As)) (S0 : CallFix p m c cc nL s args Ts own) (cw : CallB R s args own index y bytes maxL none ws { frames := fr, cells := mc, slots := ms, locals := lo } mc ms k ∧ y.name = "<init>" ∧ (Cond.instanceMethod y).before args s = true) (hK : va_K D vwCl (tq_tys cy) s) (hG : tq_G z ad s) (hR : tq_rw D z n H0 E H) (hS : va_S (fun q => z ≤ q) s.heap H locs) (hn : As.length = k) (hsize : ls.size = nL) (hst : st0 = As.reverse ++ .ref b :: rest) (hW8 : (rest.map fun v => v.category).sum ≤ 8) (hdg : decode cc pc = .ok (.invokespecial index, 3)) (hf : cells + mc ≤ R.cells ∧ slots + ms ≤ R.slots)
    (kk : ∀ (H1 : Heap) (locs1 : List Loc), tq_rw D z n1 H0 E1 H1 → va_S (fun q => z ≤ q) s.heap H1 locs1 → W p l e R s m args below meth c H1 locs1 (cells + mc) (slots + ms) Q (F0 m (pc + 3) ls rest)) : W p l e R s m args below meth c H locs cells slots Q (F0 m pc ls st0) := by
  refine va_callv (va_runI (As := As) (rest := rest) S0 hM cw ⟨tq_blindC, fun U hU hW1 => ⟨rfl, by rw [hU]; exact hR, va_K.moved hW1.alike hK, hG.go (fun a h1 h2 => by rw [hU]; exact hS.2.1 a h1 h2) hW1⟩⟩ rfl hn hsize hst (lv_room hW8) hdg hf) hS (fun q _ h => h) (fun q h => h) (fun u t H1 locs1 ht hvm hw hB hz1 hk1 hS1 => ?_)
  rw [ht] at hB
  exact kk H1 locs1 hB hS1
theorem tqr_callIN (hM : tq_cC l y ws fr lo mc ms D cy z H0 ad n E n1 E1 (.ref b :: As)) (S0 : CallFix p m c cc nL s args Ts own) (cw : va_CN R s args own index y host bytes maxL none ws { frames := fr, cells := mc, slots := ms, locals := lo } mc ms k ∧ y.name = "<init>" ∧ (Cond.instanceMethod y).before args s = true) (hK : va_K D vwCl (tq_tys cy) s) (hG : tq_G z ad s) (hR : tq_rw D z n H0 E H) (hS : va_S (fun q => z ≤ q) s.heap H locs) (hn : As.length = k) (hsize : ls.size = nL) (hst : st0 = As.reverse ++ .ref b :: rest) (hW8 : (rest.map fun v => v.category).sum ≤ 8) (hdg : decode cc pc = .ok (.invokespecial index, 3)) (hf : cells + mc ≤ R.cells ∧ slots + ms ≤ R.slots)
    (kk : ∀ (H1 : Heap) (locs1 : List Loc), tq_rw D z n1 H0 E1 H1 → va_S (fun q => z ≤ q) s.heap H1 locs1 → W p l e R s m args below meth c H1 locs1 (cells + mc) (slots + ms) Q (F0 m (pc + 3) ls rest)) : W p l e R s m args below meth c H locs cells slots Q (F0 m pc ls st0) := by
  refine va_callv (va_runIN (As := As) (rest := rest) S0 hM cw ⟨tq_blindC, fun U hU hW1 => ⟨rfl, by rw [hU]; exact hR, va_K.moved hW1.alike hK, hG.go (fun a h1 h2 => by rw [hU]; exact hS.2.1 a h1 h2) hW1⟩⟩ rfl hn hsize hst (lv_room hW8) hdg hf) hS (fun q _ h => h) (fun q h => h) (fun u t H1 locs1 ht hvm hw hB hz1 hk1 hS1 => ?_)
  rw [ht] at hB
  exact kk H1 locs1 hB hS1
theorem tqr_callS (hM : tq_cC l y ws fr lo mc ms D cy z H0 ad n E n1 E1 As) (S0 : CallFix p m c cc nL s args Ts own) (cw : CallB R s args own index y bytes maxL none ws { frames := fr, cells := mc, slots := ms, locals := lo } mc ms k ∧ (Cond.static y).before args s = true) (hK : va_K D vwCl (tq_tys cy) s) (hG : tq_G z ad s) (hR : tq_rw D z n H0 E H) (hS : va_S (fun q => z ≤ q) s.heap H locs) (hn : As.length = k) (hsize : ls.size = nL) (hst : st0 = As.reverse ++ rest) (hW8 : (rest.map fun v => v.category).sum ≤ 8) (hdg : decode cc pc = .ok (.invokestatic index, 3)) (hf : cells + mc ≤ R.cells ∧ slots + ms ≤ R.slots)
    (kk : ∀ (H1 : Heap) (locs1 : List Loc), tq_rw D z n1 H0 E1 H1 → va_S (fun q => z ≤ q) s.heap H1 locs1 → W p l e R s m args below meth c H1 locs1 (cells + mc) (slots + ms) Q (F0 m (pc + 3) ls rest)) : W p l e R s m args below meth c H locs cells slots Q (F0 m pc ls st0) := by
  refine va_callv (va_runS (As := As) (rest := rest) S0 hM cw ⟨tq_blindC, fun U hU hW1 => ⟨rfl, by rw [hU]; exact hR, va_K.moved hW1.alike hK, hG.go (fun a h1 h2 => by rw [hU]; exact hS.2.1 a h1 h2) hW1⟩⟩ rfl hn hsize hst (lv_room hW8) hdg hf) hS (fun q _ h => h) (fun q h => h) (fun u t H1 locs1 ht hvm hw hB hz1 hk1 hS1 => ?_)
  rw [ht] at hB
  exact kk H1 locs1 hB hS1
end TQRX
theorem kJl_initZ {l : Launch} {D : va_G} {cy : Nat → ClassId} {z : Nat} {ad : Nat → Nat → Nat} {a sz : Nat} {f0 f1 f2 : Value} : Met l yJx4a65c_init_da8c8 (tq_ws yJx4a65c_init_da8c8 cJx4a65c_init_da8c8 1 none) (tq_rm 3 70) (va_Pc [.ref a] (fun U => U.heap.size = sz ∧ va_P D vwCl [(a, .inr (0, [f0, f1, f2]))] U.heap ∧ va_K D vwCl (tq_tys cy) U ∧ tq_G z ad U ∧ z ≤ a)) (va_Qv (fun _ : Unit => True) (fun _ t => va_P D vwCl [(a, .inr (0, [.int 0, .ref (ad 0 0), f2]))] t.heap ∧ t.heap.size = sz) (fun q => q = a)) 0 0 (fun q => q = a) := by
  intro p e ha hc hk s m args below hf hfit hheap hP
  obtain ⟨k, o, h1, h2, h3, ⟨⟨⟨u, r1, r2, r3⟩, hq⟩, h8, -⟩, L, hF, hL⟩ := tq_met0 (kJl_init (l := l) (D := D) (cy := cy) (z := z) (ad := ad) (a := a) (sz := sz) (f0 := f0) (f1 := f1) (f2 := f2)) p e ha hc hk s m args below hf hfit hheap hP
  exact ⟨k, o, h1, h2, h3, ⟨⟨u, r1, r2, r3, h8.trans hheap.2.1⟩, hq⟩, L, hF, hL⟩
set_option maxHeartbeats 4000000 in
set_option maxRecDepth 100000 in
theorem tqr_initL {p : Program} {l : Launch} {e : Env} {R : Room} {s : State} {m : MethodId} {args : Array Value} {below : List Frame} {meth : Method} {c : Code} {H : Heap} {locs : List Loc} {cells slots : Nat} {Q : State → Prop} {cc : ByteArray} {pc nL : Nat} {ls : Array Slot} {rest : List Value} {D : va_G} {cy : Nat → ClassId} {z n : Nat} {H0 : Heap} {E E1 : Nat → va_E} {ad : Nat → Nat → Nat} (hx : p.tables.exec = Jvm.exec) (hb : c.code = cc) {own : String} {ix2 j : Nat} {y0 : MethodName} {b0 : ByteArray} {n0 : Nat} {r0 : Option FieldType} (hml : c.maxLocals = nL) (hsz : ls.size = nL) (hts : ∀ w ∈ tq_ws y0 b0 n0 r0, w.before args s = true) (hown : s.vm.findClass own = some m.cls) (hml2 : (Cond.methodLink own ix2 yJx4a65c_init_da8c8).before args s = true) (hK : va_K D vwCl (tq_tys cy) s) (hG : tq_G z ad s) (hR : tq_rw D z n H0 E H) (hS : va_S (fun q => z ≤ q) s.heap H locs) (hj : j < n) {f0 f1 f2 : Value} (he : E j = .inr (0, [f0, f1, f2])) (hE1 : E1 = tq_ext E j (.inr (0, [.int 0, .ref (ad 0 0), f2]))) (hfr : 4 ≤ R.frames) (hlo : 90 ≤ R.locals) (hrest : (rest.map fun v => v.category).sum ≤ 8) (hcl : cells + 0 ≤ R.cells ∧ slots + 0 ≤ R.slots) (hd3 : decode cc pc = .ok (.invokespecial ix2, 3))
    (kk : ∀ (H1 : Heap) (locs1 : List Loc), tq_rw D z n H0 E1 H1 → va_S (fun q => z ≤ q) s.heap H1 locs1 → W p l e R s m args below meth c H1 locs1 cells slots Q (F0 m (pc + 3) ls rest)) : W p l e R s m args below meth c H locs cells slots Q (F0 m pc ls (.ref (z + j) :: rest)) := by
  subst hE1
  have hw : ∀ w ∈ tq_W, w.before args s = true := fun w h => hts w (List.mem_cons_of_mem _ h)
  have hP : va_P D vwCl [(z + j, .inr (0, [f0, f1, f2]))] H := tq_one (hR.at hj he)
  refine va_callv (A0 := fun q => z ≤ q) (va_runI (As := []) (rest := rest) ⟨hx, hb, hml, hown, hts⟩ (kJl_initZ (sz := H.size)) (cwI 0 hts (tq_goodO tw_155) rfl rfl rfl (hw _ tw_118) hml2 (hw _ tw_154) rfl (by decide +kernel) ⟨by show 3 + 1 ≤ R.frames; omega, by refine Nat.le_trans (Nat.le_of_ble_eq_true rfl : _ ≤ 90) hlo⟩) ⟨fun a U g mk q => ⟨q.1, q.2.1, q.2.2.1, va_K.moved (u := U) (U := U.calling g mk a) (Vm.Alike.refl U.vm) q.2.2.2.1, tq_G.go (U := U.calling g mk a) q.2.2.2.2.1 (fun _ _ _ => rfl) (State.WarmedH.refl U), q.2.2.2.2.2⟩, fun U hU hW1 => ⟨rfl, by rw [hU], by rw [hU]; exact hP, va_K.moved hW1.alike hK, hG.go (fun a h1 h2 => by rw [hU]; exact hS.2.1 a h1 h2) hW1, by omega⟩⟩ rfl rfl hsz rfl (lv_room hrest) hd3 hcl) hS (fun q _ h => by subst h; omega) (fun q h => by subst h; omega) (fun u t H2 locs2 ht hvm hw9 hP2 hz2 hk2 hS2 => ?_)
  obtain ⟨hP2, hz3⟩ := hP2
  rw [ht] at hP2 hz3
  refine kk H2 locs2 (hR.set hj hz3 (fun q hq => ?_) (hP2 0 _ rfl)) hS2
  rcases Nat.lt_or_ge q H.size with h9 | h9
  · exact hk2 q h9 hq
  · rw [Array.getElem?_eq_none (by omega), Array.getElem?_eq_none (by omega)]
