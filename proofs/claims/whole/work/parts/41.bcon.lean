def tq_CX : Nat := 590000
def tq_CY : Nat := 7200000
def tq_rmB (fr lo z A0 sz sl : Nat) : Room := { frames := fr, cells := z + tq_CX - sz, slots := A0 + tq_CY - sl, locals := lo }
/-- ahead of a maker: the world, and what was made till now -/
def tq_BB (D : va_G) (cy : Nat → ClassId) (z A0 : Nat) (H0 : Heap) (ad : Nat → Nat → Nat) (N : tq_Nn) (S M : tq_St) (sz sl : Nat) (U : State) : Prop := tq_B D cy z H0 ad N S M U ∧ U.heap.size = sz ∧ tq_all U.heap = sl ∧ sz ≤ z + N 0 0 ∧ sl ≤ A0 + N 0 1 ∧ N 0 0 ≤ tq_CX ∧ N 0 1 ≤ tq_CY
/-- behind it -/
def tq_PB (D : va_G) (cy : Nat → ClassId) (z A0 : Nat) (H0 : Heap) (ad : Nat → Nat → Nat) (M : tq_St) (u : tq_Nn × tq_St) (t : State) : Prop := tq_wd D cy z H0 ad u.1 (tq_mix u.2 M) t.heap ∧ t.heap.size ≤ z + u.1 0 0 ∧ tq_all t.heap ≤ A0 + u.1 0 1 ∧ u.1 0 0 ≤ tq_CX ∧ u.1 0 1 ≤ tq_CY
theorem tq_blindB {D : va_G} {cy : Nat → ClassId} {z A0 : Nat} {H0 : Heap} {ad : Nat → Nat → Nat} {N : tq_Nn} {S M : tq_St} {sz sl : Nat} {av : List Value} : FrameBlind (va_Pc av (tq_BB D cy z A0 H0 ad N S M sz sl)) := fun a U g mk q => ⟨q.1, ⟨q.2.1.1, va_K.moved (u := U) (U := U.calling g mk a) (Vm.Alike.refl U.vm) q.2.1.2.1, tq_G.go (U := U.calling g mk a) q.2.1.2.2 (fun _ _ _ => rfl) (State.WarmedH.refl U)⟩, q.2.2⟩
def tq_bI (l : Launch) (y : MethodName) (ws : List Cond) (fr lo : Nat) (D : va_G) (cy : Nat → ClassId) (z A0 : Nat) (H0 : Heap) (ad : Nat → Nat → Nat) (N : tq_Nn) (M S : tq_St) (sz sl : Nat) (av : List Value) (post : tq_Nn → tq_St → Int32 → Prop) : Prop :=
  Met l y ws (tq_rmB fr lo z A0 sz sl) (va_Pc av (tq_BB D cy z A0 H0 ad N S M sz sl)) (va_Qi (fun r (u : tq_Nn × tq_St) => post u.1 u.2 r) (tq_PB D cy z A0 H0 ad M) (fun q => z ≤ q)) (z + tq_CX - sz) (A0 + tq_CY - sl) (fun q => z ≤ q)
def tq_bV (l : Launch) (y : MethodName) (ws : List Cond) (fr lo : Nat) (D : va_G) (cy : Nat → ClassId) (z A0 : Nat) (H0 : Heap) (ad : Nat → Nat → Nat) (N : tq_Nn) (M S : tq_St) (sz sl : Nat) (av : List Value) (post : tq_Nn → tq_St → Prop) : Prop :=
  Met l y ws (tq_rmB fr lo z A0 sz sl) (va_Pc av (tq_BB D cy z A0 H0 ad N S M sz sl)) (va_Qv (fun (u : tq_Nn × tq_St) => post u.1 u.2) (tq_PB D cy z A0 H0 ad M) (fun q => z ≤ q)) (z + tq_CX - sz) (A0 + tq_CY - sl) (fun q => z ≤ q)
def tq_bR (k : Nat) (l : Launch) (y : MethodName) (ws : List Cond) (fr lo : Nat) (D : va_G) (cy : Nat → ClassId) (z A0 : Nat) (H0 : Heap) (ad : Nat → Nat → Nat) (N : tq_Nn) (M S : tq_St) (sz sl : Nat) (av : List Value) (post : tq_Nn → tq_St → Nat → Prop) : Prop :=
  Met l y ws (tq_rmB fr lo z A0 sz sl) (va_Pc av (tq_BB D cy z A0 H0 ad N S M sz sl)) (va_Qr (fun (u : (tq_Nn × tq_St) × Nat) => post u.1.1 u.1.2 u.2) (fun u a t => a = ad k u.2 ∧ tq_PB D cy z A0 H0 ad M u.1 t) (fun q => z ≤ q)) (z + tq_CX - sz) (A0 + tq_CY - sl) (fun q => z ≤ q)
/-- what is known of the counts at every instruction of a maker -/
def tq_nb (z A0 : Nat) (s : State) (N : tq_Nn) : Prop := s.heap.size ≤ z + N 0 0 ∧ tq_all s.heap ≤ A0 + N 0 1 ∧ N 0 0 ≤ tq_CX ∧ N 0 1 ≤ tq_CY
theorem tq_nb.f {z A0 fr lo : Nat} {s : State} {N : tq_Nn} (h : tq_nb z A0 s N) : z + N 0 0 - s.heap.size + 0 ≤ (tq_rmB fr lo z A0 s.heap.size (tq_all s.heap)).cells ∧ A0 + N 0 1 - tq_all s.heap + 0 ≤ (tq_rmB fr lo z A0 s.heap.size (tq_all s.heap)).slots := by
  obtain ⟨h1, h2, h3, h4⟩ := h
  unfold tq_rmB
  exact ⟨by show _ ≤ z + tq_CX - s.heap.size; omega, by show _ ≤ A0 + tq_CY - tq_all s.heap; omega⟩
section TQB
variable {p : Program} {l : Launch} {e : Env} {R : Room} {s : State} {m : MethodId} {args : Array Value} {below : List Frame} {meth : Method} {c : Code} {H : Heap} {locs : List Loc} {cells slots : Nat} {Q : State → Prop} {g : JFrame}
variable {cc : ByteArray} {pc nL n index maxL fr lo fr0 lo0 : Nat} {ls : Array Slot} {rest st0 As : List Value} {D : va_G} {cy : Nat → ClassId} {z A0 : Nat} {H0 : Heap} {ad : Nat → Nat → Nat} {N : tq_Nn} {S M : tq_St} {Ts ws : List Cond} {own C : String} {y : MethodName} {bytes : ByteArray} {ret : Option FieldType} {b : Nat}
theorem tq_facts2 (k : s.heap.size ≤ H.size → H.size ≤ s.heap.size + cells → tq_all H ≤ tq_all s.heap + slots → tq_all s.heap ≤ tq_all H → W p l e R s m args below meth c H locs cells slots Q g) : W p l e R s m args below meth c H locs cells slots Q g := by
  intro T hT X
  have hb := tq_book X.book
  have h0 : s.slotsTrue = true := by
    have h := X.room
    simp only [State.hasRoom, Bool.and_eq_true] at h
    exact h.2
  have hb0 := tq_book h0
  obtain ⟨a1, a2, a3, a4, a5, a6⟩ := X.same
  have a4' : T.slotsUsed = s.slotsUsed + (((T.setVm s.vm).heap.toList.drop s.heap.size).map (·.slots.size)).sum := a4
  have a2' : s.heap.size ≤ T.heap.size := a2
  have a3' : T.heap.size ≤ s.heap.size + cells := a3
  rw [hT] at hb a2' a3'
  exact k a2' a3' (by omega) (by omega) T hT X
/-- where a maker's walk stands: by its counts -/
abbrev tq_Wb (p : Program) (l : Launch) (e : Env) (fr lo : Nat) (s : State) (m : MethodId) (args : Array Value) (below : List Frame) (meth : Method) (c : Code) (z A0 : Nat) (N : tq_Nn) (H : Heap) (locs : List Loc) (Q : State → Prop) (g : JFrame) : Prop := W p l e (tq_rmB fr lo z A0 s.heap.size (tq_all s.heap)) s m args below meth c H locs (z + N 0 0 - s.heap.size) (A0 + N 0 1 - tq_all s.heap) Q g
theorem tqb_callVi {post : tq_Nn → tq_St → Int32 → Prop} (hM : tq_bI l y ws fr lo D cy z A0 H0 ad N M S H.size (tq_all H) (.ref b :: As) post) (S0 : CallFix p m c cc nL s args Ts own) (cw : CallW (tq_rmB fr0 lo0 z A0 s.heap.size (tq_all s.heap)) s args own C index y bytes maxL ret ws (tq_rmB fr lo z A0 H.size (tq_all H)) (z + tq_CX - H.size) (A0 + tq_CY - tq_all H) n) (hrc : ∃ cellB : Cell, H[b]? = some cellB ∧ cellB.vm.isStatics = false ∧ s.vm.findClass C = some cellB.cls) (hK : va_K D vwCl (tq_tys cy) s) (hG : tq_G z ad s) (hW : tq_wd D cy z H0 ad N (tq_mix S M) H) (hS : va_S (fun q => z ≤ q) s.heap H locs) (hn : As.length = n) (hsize : ls.size = nL) (hst : st0 = As.reverse ++ .ref b :: rest) (hW8 : (rest.map fun v => v.category).sum ≤ 8) (hdg : decode cc pc = .ok (.invokevirtual index, 3)) (hN : tq_nb z A0 s N)
    (kk : ∀ (r : Int32) (N1 : tq_Nn) (S1 : tq_St) (H1 : Heap) (locs1 : List Loc), post N1 S1 r → tq_nb z A0 s N1 → tq_wd D cy z H0 ad N1 (tq_mix S1 M) H1 → va_S (fun q => z ≤ q) s.heap H1 locs1 → tq_Wb p l e fr0 lo0 s m args below meth c z A0 N1 H1 locs1 Q (F0 m (pc + 3) ls (.int r :: rest))) : tq_Wb p l e fr0 lo0 s m args below meth c z A0 N H locs Q (F0 m pc ls st0) := by
  obtain ⟨hs0, hs1, hx0, hx1⟩ := hN
  refine tq_facts2 (fun f1 f2 f3 f4 => ?_)
  refine tq_tight (c1 := H.size - s.heap.size) (n1 := tq_all H - tq_all s.heap) (by omega) (by omega) ?_
  refine va_calli (va_runV (As := As) (rest := rest) S0 hM cw ⟨tq_blindB, hrc, fun U hU hW1 => ⟨rfl, ⟨by rw [hU]; exact hW, va_K.moved hW1.alike hK, hG.go (fun a h1 h2 => by rw [hU]; exact hS.2.1 a h1 h2) hW1⟩, by rw [hU], by rw [hU], by omega, by omega, hx0, hx1⟩⟩ rfl hn hsize hst (lv_room hW8) hdg ⟨by show _ ≤ z + tq_CX - s.heap.size; omega, by show _ ≤ A0 + tq_CY - tq_all s.heap; omega⟩) hS (fun q _ h => h) (fun q h => h) (fun r u t H1 locs1 ht hvm hw hB hz1 hk1 hS1 => ?_)
  · obtain ⟨b3, b4, b5, b6, b7⟩ := hB
    rw [ht] at b3 b4 b5
    have hz2 := hS1.1
    refine tq_facts2 (fun g1 g2 g3 g4 => ?_)
    refine tq_tight (c1 := z + u.1 0 0 - s.heap.size) (n1 := A0 + u.1 0 1 - tq_all s.heap) (by omega) (by omega) (kk r u.1 u.2 H1 locs1 hw ⟨by omega, by omega, b6, b7⟩ b3 hS1)
theorem tqb_callSi {post : tq_Nn → tq_St → Int32 → Prop} (hM : tq_bI l y ws fr lo D cy z A0 H0 ad N M S H.size (tq_all H) As post) (S0 : CallFix p m c cc nL s args Ts own) (cw : CallB (tq_rmB fr0 lo0 z A0 s.heap.size (tq_all s.heap)) s args own index y bytes maxL ret ws (tq_rmB fr lo z A0 H.size (tq_all H)) (z + tq_CX - H.size) (A0 + tq_CY - tq_all H) n ∧ (Cond.static y).before args s = true) (hK : va_K D vwCl (tq_tys cy) s) (hG : tq_G z ad s) (hW : tq_wd D cy z H0 ad N (tq_mix S M) H) (hS : va_S (fun q => z ≤ q) s.heap H locs) (hn : As.length = n) (hsize : ls.size = nL) (hst : st0 = As.reverse ++ rest) (hW8 : (rest.map fun v => v.category).sum ≤ 8) (hdg : decode cc pc = .ok (.invokestatic index, 3)) (hN : tq_nb z A0 s N)
    (kk : ∀ (r : Int32) (N1 : tq_Nn) (S1 : tq_St) (H1 : Heap) (locs1 : List Loc), post N1 S1 r → tq_nb z A0 s N1 → tq_wd D cy z H0 ad N1 (tq_mix S1 M) H1 → va_S (fun q => z ≤ q) s.heap H1 locs1 → tq_Wb p l e fr0 lo0 s m args below meth c z A0 N1 H1 locs1 Q (F0 m (pc + 3) ls (.int r :: rest))) : tq_Wb p l e fr0 lo0 s m args below meth c z A0 N H locs Q (F0 m pc ls st0) := by
  obtain ⟨hs0, hs1, hx0, hx1⟩ := hN
  refine tq_facts2 (fun f1 f2 f3 f4 => ?_)
  refine tq_tight (c1 := H.size - s.heap.size) (n1 := tq_all H - tq_all s.heap) (by omega) (by omega) ?_
  refine va_calli (va_runS (As := As) (rest := rest) S0 hM cw ⟨tq_blindB, fun U hU hW1 => ⟨rfl, ⟨by rw [hU]; exact hW, va_K.moved hW1.alike hK, hG.go (fun a h1 h2 => by rw [hU]; exact hS.2.1 a h1 h2) hW1⟩, by rw [hU], by rw [hU], by omega, by omega, hx0, hx1⟩⟩ rfl hn hsize hst (lv_room hW8) hdg ⟨by show _ ≤ z + tq_CX - s.heap.size; omega, by show _ ≤ A0 + tq_CY - tq_all s.heap; omega⟩) hS (fun q _ h => h) (fun q h => h) (fun r u t H1 locs1 ht hvm hw hB hz1 hk1 hS1 => ?_)
  · obtain ⟨b3, b4, b5, b6, b7⟩ := hB
    rw [ht] at b3 b4 b5
    have hz2 := hS1.1
    refine tq_facts2 (fun g1 g2 g3 g4 => ?_)
    refine tq_tight (c1 := z + u.1 0 0 - s.heap.size) (n1 := A0 + u.1 0 1 - tq_all s.heap) (by omega) (by omega) (kk r u.1 u.2 H1 locs1 hw ⟨by omega, by omega, b6, b7⟩ b3 hS1)
theorem tqb_callVv {post : tq_Nn → tq_St → Prop} (hM : tq_bV l y ws fr lo D cy z A0 H0 ad N M S H.size (tq_all H) (.ref b :: As) post) (S0 : CallFix p m c cc nL s args Ts own) (cw : CallW (tq_rmB fr0 lo0 z A0 s.heap.size (tq_all s.heap)) s args own C index y bytes maxL ret ws (tq_rmB fr lo z A0 H.size (tq_all H)) (z + tq_CX - H.size) (A0 + tq_CY - tq_all H) n) (hrc : ∃ cellB : Cell, H[b]? = some cellB ∧ cellB.vm.isStatics = false ∧ s.vm.findClass C = some cellB.cls) (hK : va_K D vwCl (tq_tys cy) s) (hG : tq_G z ad s) (hW : tq_wd D cy z H0 ad N (tq_mix S M) H) (hS : va_S (fun q => z ≤ q) s.heap H locs) (hn : As.length = n) (hsize : ls.size = nL) (hst : st0 = As.reverse ++ .ref b :: rest) (hW8 : (rest.map fun v => v.category).sum ≤ 8) (hdg : decode cc pc = .ok (.invokevirtual index, 3)) (hN : tq_nb z A0 s N)
    (kk : ∀ (N1 : tq_Nn) (S1 : tq_St) (H1 : Heap) (locs1 : List Loc), post N1 S1 → tq_nb z A0 s N1 → tq_wd D cy z H0 ad N1 (tq_mix S1 M) H1 → va_S (fun q => z ≤ q) s.heap H1 locs1 → tq_Wb p l e fr0 lo0 s m args below meth c z A0 N1 H1 locs1 Q (F0 m (pc + 3) ls (rest))) : tq_Wb p l e fr0 lo0 s m args below meth c z A0 N H locs Q (F0 m pc ls st0) := by
  obtain ⟨hs0, hs1, hx0, hx1⟩ := hN
  refine tq_facts2 (fun f1 f2 f3 f4 => ?_)
  refine tq_tight (c1 := H.size - s.heap.size) (n1 := tq_all H - tq_all s.heap) (by omega) (by omega) ?_
  refine va_callv (va_runV (As := As) (rest := rest) S0 hM cw ⟨tq_blindB, hrc, fun U hU hW1 => ⟨rfl, ⟨by rw [hU]; exact hW, va_K.moved hW1.alike hK, hG.go (fun a h1 h2 => by rw [hU]; exact hS.2.1 a h1 h2) hW1⟩, by rw [hU], by rw [hU], by omega, by omega, hx0, hx1⟩⟩ rfl hn hsize hst (lv_room hW8) hdg ⟨by show _ ≤ z + tq_CX - s.heap.size; omega, by show _ ≤ A0 + tq_CY - tq_all s.heap; omega⟩) hS (fun q _ h => h) (fun q h => h) (fun u t H1 locs1 ht hvm hw hB hz1 hk1 hS1 => ?_)
  · obtain ⟨b3, b4, b5, b6, b7⟩ := hB
    rw [ht] at b3 b4 b5
    have hz2 := hS1.1
    refine tq_facts2 (fun g1 g2 g3 g4 => ?_)
    refine tq_tight (c1 := z + u.1 0 0 - s.heap.size) (n1 := A0 + u.1 0 1 - tq_all s.heap) (by omega) (by omega) (kk u.1 u.2 H1 locs1 hw ⟨by omega, by omega, b6, b7⟩ b3 hS1)
theorem tqb_callSv {post : tq_Nn → tq_St → Prop} (hM : tq_bV l y ws fr lo D cy z A0 H0 ad N M S H.size (tq_all H) As post) (S0 : CallFix p m c cc nL s args Ts own) (cw : CallB (tq_rmB fr0 lo0 z A0 s.heap.size (tq_all s.heap)) s args own index y bytes maxL ret ws (tq_rmB fr lo z A0 H.size (tq_all H)) (z + tq_CX - H.size) (A0 + tq_CY - tq_all H) n ∧ (Cond.static y).before args s = true) (hK : va_K D vwCl (tq_tys cy) s) (hG : tq_G z ad s) (hW : tq_wd D cy z H0 ad N (tq_mix S M) H) (hS : va_S (fun q => z ≤ q) s.heap H locs) (hn : As.length = n) (hsize : ls.size = nL) (hst : st0 = As.reverse ++ rest) (hW8 : (rest.map fun v => v.category).sum ≤ 8) (hdg : decode cc pc = .ok (.invokestatic index, 3)) (hN : tq_nb z A0 s N)
    (kk : ∀ (N1 : tq_Nn) (S1 : tq_St) (H1 : Heap) (locs1 : List Loc), post N1 S1 → tq_nb z A0 s N1 → tq_wd D cy z H0 ad N1 (tq_mix S1 M) H1 → va_S (fun q => z ≤ q) s.heap H1 locs1 → tq_Wb p l e fr0 lo0 s m args below meth c z A0 N1 H1 locs1 Q (F0 m (pc + 3) ls (rest))) : tq_Wb p l e fr0 lo0 s m args below meth c z A0 N H locs Q (F0 m pc ls st0) := by
  obtain ⟨hs0, hs1, hx0, hx1⟩ := hN
  refine tq_facts2 (fun f1 f2 f3 f4 => ?_)
  refine tq_tight (c1 := H.size - s.heap.size) (n1 := tq_all H - tq_all s.heap) (by omega) (by omega) ?_
  refine va_callv (va_runS (As := As) (rest := rest) S0 hM cw ⟨tq_blindB, fun U hU hW1 => ⟨rfl, ⟨by rw [hU]; exact hW, va_K.moved hW1.alike hK, hG.go (fun a h1 h2 => by rw [hU]; exact hS.2.1 a h1 h2) hW1⟩, by rw [hU], by rw [hU], by omega, by omega, hx0, hx1⟩⟩ rfl hn hsize hst (lv_room hW8) hdg ⟨by show _ ≤ z + tq_CX - s.heap.size; omega, by show _ ≤ A0 + tq_CY - tq_all s.heap; omega⟩) hS (fun q _ h => h) (fun q h => h) (fun u t H1 locs1 ht hvm hw hB hz1 hk1 hS1 => ?_)
  · obtain ⟨b3, b4, b5, b6, b7⟩ := hB
    rw [ht] at b3 b4 b5
    have hz2 := hS1.1
    refine tq_facts2 (fun g1 g2 g3 g4 => ?_)
    refine tq_tight (c1 := z + u.1 0 0 - s.heap.size) (n1 := A0 + u.1 0 1 - tq_all s.heap) (by omega) (by omega) (kk u.1 u.2 H1 locs1 hw ⟨by omega, by omega, b6, b7⟩ b3 hS1)
theorem tqb_callVr {kr : Nat} {post : tq_Nn → tq_St → Nat → Prop} (hM : tq_bR kr l y ws fr lo D cy z A0 H0 ad N M S H.size (tq_all H) (.ref b :: As) post) (S0 : CallFix p m c cc nL s args Ts own) (cw : CallW (tq_rmB fr0 lo0 z A0 s.heap.size (tq_all s.heap)) s args own C index y bytes maxL ret ws (tq_rmB fr lo z A0 H.size (tq_all H)) (z + tq_CX - H.size) (A0 + tq_CY - tq_all H) n) (hrc : ∃ cellB : Cell, H[b]? = some cellB ∧ cellB.vm.isStatics = false ∧ s.vm.findClass C = some cellB.cls) (hK : va_K D vwCl (tq_tys cy) s) (hG : tq_G z ad s) (hW : tq_wd D cy z H0 ad N (tq_mix S M) H) (hS : va_S (fun q => z ≤ q) s.heap H locs) (hn : As.length = n) (hsize : ls.size = nL) (hst : st0 = As.reverse ++ .ref b :: rest) (hW8 : (rest.map fun v => v.category).sum ≤ 8) (hdg : decode cc pc = .ok (.invokevirtual index, 3)) (hN : tq_nb z A0 s N)
    (kk : ∀ (i : Nat) (N1 : tq_Nn) (S1 : tq_St) (H1 : Heap) (locs1 : List Loc), post N1 S1 i → tq_nb z A0 s N1 → tq_wd D cy z H0 ad N1 (tq_mix S1 M) H1 → va_S (fun q => z ≤ q) s.heap H1 locs1 → tq_Wb p l e fr0 lo0 s m args below meth c z A0 N1 H1 locs1 Q (F0 m (pc + 3) ls (.ref (ad kr i) :: rest))) : tq_Wb p l e fr0 lo0 s m args below meth c z A0 N H locs Q (F0 m pc ls st0) := by
  obtain ⟨hs0, hs1, hx0, hx1⟩ := hN
  refine tq_facts2 (fun f1 f2 f3 f4 => ?_)
  refine tq_tight (c1 := H.size - s.heap.size) (n1 := tq_all H - tq_all s.heap) (by omega) (by omega) ?_
  refine va_callr (va_runV (As := As) (rest := rest) S0 hM cw ⟨tq_blindB, hrc, fun U hU hW1 => ⟨rfl, ⟨by rw [hU]; exact hW, va_K.moved hW1.alike hK, hG.go (fun a h1 h2 => by rw [hU]; exact hS.2.1 a h1 h2) hW1⟩, by rw [hU], by rw [hU], by omega, by omega, hx0, hx1⟩⟩ rfl hn hsize hst (lv_room hW8) hdg ⟨by show _ ≤ z + tq_CX - s.heap.size; omega, by show _ ≤ A0 + tq_CY - tq_all s.heap; omega⟩) hS (fun q _ h => h) (fun q h => h) (fun u ra t H1 locs1 ht hvm hw hB hz1 hk1 hS1 => ?_)
  · obtain ⟨b3, b4, b5, b6, b7⟩ := hB.2
    rw [ht] at b3 b4 b5
    rw [hB.1]
    have hz2 := hS1.1
    refine tq_facts2 (fun g1 g2 g3 g4 => ?_)
    refine tq_tight (c1 := z + u.1.1 0 0 - s.heap.size) (n1 := A0 + u.1.1 0 1 - tq_all s.heap) (by omega) (by omega) (kk u.2 u.1.1 u.1.2 H1 locs1 hw ⟨by omega, by omega, b6, b7⟩ b3 hS1)
theorem tqb_callSr {kr : Nat} {post : tq_Nn → tq_St → Nat → Prop} (hM : tq_bR kr l y ws fr lo D cy z A0 H0 ad N M S H.size (tq_all H) As post) (S0 : CallFix p m c cc nL s args Ts own) (cw : CallB (tq_rmB fr0 lo0 z A0 s.heap.size (tq_all s.heap)) s args own index y bytes maxL ret ws (tq_rmB fr lo z A0 H.size (tq_all H)) (z + tq_CX - H.size) (A0 + tq_CY - tq_all H) n ∧ (Cond.static y).before args s = true) (hK : va_K D vwCl (tq_tys cy) s) (hG : tq_G z ad s) (hW : tq_wd D cy z H0 ad N (tq_mix S M) H) (hS : va_S (fun q => z ≤ q) s.heap H locs) (hn : As.length = n) (hsize : ls.size = nL) (hst : st0 = As.reverse ++ rest) (hW8 : (rest.map fun v => v.category).sum ≤ 8) (hdg : decode cc pc = .ok (.invokestatic index, 3)) (hN : tq_nb z A0 s N)
    (kk : ∀ (i : Nat) (N1 : tq_Nn) (S1 : tq_St) (H1 : Heap) (locs1 : List Loc), post N1 S1 i → tq_nb z A0 s N1 → tq_wd D cy z H0 ad N1 (tq_mix S1 M) H1 → va_S (fun q => z ≤ q) s.heap H1 locs1 → tq_Wb p l e fr0 lo0 s m args below meth c z A0 N1 H1 locs1 Q (F0 m (pc + 3) ls (.ref (ad kr i) :: rest))) : tq_Wb p l e fr0 lo0 s m args below meth c z A0 N H locs Q (F0 m pc ls st0) := by
  obtain ⟨hs0, hs1, hx0, hx1⟩ := hN
  refine tq_facts2 (fun f1 f2 f3 f4 => ?_)
  refine tq_tight (c1 := H.size - s.heap.size) (n1 := tq_all H - tq_all s.heap) (by omega) (by omega) ?_
  refine va_callr (va_runS (As := As) (rest := rest) S0 hM cw ⟨tq_blindB, fun U hU hW1 => ⟨rfl, ⟨by rw [hU]; exact hW, va_K.moved hW1.alike hK, hG.go (fun a h1 h2 => by rw [hU]; exact hS.2.1 a h1 h2) hW1⟩, by rw [hU], by rw [hU], by omega, by omega, hx0, hx1⟩⟩ rfl hn hsize hst (lv_room hW8) hdg ⟨by show _ ≤ z + tq_CX - s.heap.size; omega, by show _ ≤ A0 + tq_CY - tq_all s.heap; omega⟩) hS (fun q _ h => h) (fun q h => h) (fun u ra t H1 locs1 ht hvm hw hB hz1 hk1 hS1 => ?_)
  · obtain ⟨b3, b4, b5, b6, b7⟩ := hB.2
    rw [ht] at b3 b4 b5
    rw [hB.1]
    have hz2 := hS1.1
    refine tq_facts2 (fun g1 g2 g3 g4 => ?_)
    refine tq_tight (c1 := z + u.1.1 0 0 - s.heap.size) (n1 := A0 + u.1.1 0 1 - tq_all s.heap) (by omega) (by omega) (kk u.2 u.1.1 u.1.2 H1 locs1 hw ⟨by omega, by omega, b6, b7⟩ b3 hS1)
theorem tqb_iret {post : tq_Nn → tq_St → Int32 → Prop} {v : Int32} (hx : p.tables.exec = Jvm.exec) (hb : c.code = cc) (hr : meth.sig.returnType = some .int) (hN : tq_nb z A0 s N) (h : post N S v) (hW : tq_wd D cy z H0 ad N (tq_mix S M) H) (hS : va_S (fun q => z ≤ q) s.heap H locs) (hdg : decode cc pc = .ok (.ireturn, 1)) (hlocks : meth.locks = false) : tq_Wb p l e fr0 lo0 s m args below meth c z A0 N H locs (MQ below (va_Qi (fun r (u : tq_Nn × tq_St) => post u.1 u.2 r) (tq_PB D cy z A0 H0 ad M) (fun q => z ≤ q)) args s (z + tq_CX - s.heap.size) (A0 + tq_CY - tq_all s.heap) (fun q => z ≤ q)) (F0 m pc ls [.int v]) := by
  obtain ⟨hs0, hs1, hx0, hx1⟩ := hN
  refine tq_facts2 (fun f1 f2 f3 f4 => ?_)
  refine W.widen (k := z + tq_CX - s.heap.size) (n := A0 + tq_CY - tq_all s.heap) (by omega) (by omega) ?_
  exact W.iret (v := v) hx hb hr (fun t ht hWm => ⟨⟨_, (N, S), rfl, h, ⟨by rw [ht]; exact hW, by rw [ht]; show H.size ≤ z + N 0 0; omega, by rw [ht]; show tq_all H ≤ A0 + N 0 1; omega, hx0, hx1⟩⟩, hS.F ht⟩) hS.2.2 hdg hlocks
theorem tqb_zret {post : tq_Nn → tq_St → Int32 → Prop} {v : Int32} (hx : p.tables.exec = Jvm.exec) (hb : c.code = cc) (hr : meth.sig.returnType = some .boolean) (hn : narrow .boolean (.int v) = .int v) (hN : tq_nb z A0 s N) (h : post N S v) (hW : tq_wd D cy z H0 ad N (tq_mix S M) H) (hS : va_S (fun q => z ≤ q) s.heap H locs) (hdg : decode cc pc = .ok (.ireturn, 1)) (hlocks : meth.locks = false) : tq_Wb p l e fr0 lo0 s m args below meth c z A0 N H locs (MQ below (va_Qi (fun r (u : tq_Nn × tq_St) => post u.1 u.2 r) (tq_PB D cy z A0 H0 ad M) (fun q => z ≤ q)) args s (z + tq_CX - s.heap.size) (A0 + tq_CY - tq_all s.heap) (fun q => z ≤ q)) (F0 m pc ls [.int v]) := by
  obtain ⟨hs0, hs1, hx0, hx1⟩ := hN
  refine tq_facts2 (fun f1 f2 f3 f4 => ?_)
  refine W.widen (k := z + tq_CX - s.heap.size) (n := A0 + tq_CY - tq_all s.heap) (by omega) (by omega) ?_
  exact W.zret (v := v) hx hb hr hn (fun t ht hWm => ⟨⟨_, (N, S), rfl, h, ⟨by rw [ht]; exact hW, by rw [ht]; show H.size ≤ z + N 0 0; omega, by rw [ht]; show tq_all H ≤ A0 + N 0 1; omega, hx0, hx1⟩⟩, hS.F ht⟩) hS.2.2 hdg hlocks
theorem tqb_vret {post : tq_Nn → tq_St → Prop} (hx : p.tables.exec = Jvm.exec) (hb : c.code = cc) (hr : meth.sig.returnType = none) (hN : tq_nb z A0 s N) (h : post N S) (hW : tq_wd D cy z H0 ad N (tq_mix S M) H) (hS : va_S (fun q => z ≤ q) s.heap H locs) (hdg : decode cc pc = .ok (.return_, 1)) (hlocks : meth.locks = false) : tq_Wb p l e fr0 lo0 s m args below meth c z A0 N H locs (MQ below (va_Qv (fun (u : tq_Nn × tq_St) => post u.1 u.2) (tq_PB D cy z A0 H0 ad M) (fun q => z ≤ q)) args s (z + tq_CX - s.heap.size) (A0 + tq_CY - tq_all s.heap) (fun q => z ≤ q)) (F0 m pc ls []) := by
  obtain ⟨hs0, hs1, hx0, hx1⟩ := hN
  refine tq_facts2 (fun f1 f2 f3 f4 => ?_)
  refine W.widen (k := z + tq_CX - s.heap.size) (n := A0 + tq_CY - tq_all s.heap) (by omega) (by omega) ?_
  exact W.vret hx hb hr (fun t ht hWm => ⟨⟨(N, S), rfl, h, ⟨by rw [ht]; exact hW, by rw [ht]; show H.size ≤ z + N 0 0; omega, by rw [ht]; show tq_all H ≤ A0 + N 0 1; omega, hx0, hx1⟩⟩, hS.F ht⟩) hS.2.2 hdg hlocks
theorem tqb_aret {post : tq_Nn → tq_St → Nat → Prop} {k i : Nat} {rt : FieldType} (hx : p.tables.exec = Jvm.exec) (hb : c.code = cc) (hr : meth.sig.returnType = some rt) (hrt : (∃ n, rt = .object n) ∨ ∃ t, rt = .array t) (hN : tq_nb z A0 s N) (h : post N S i) (hW : tq_wd D cy z H0 ad N (tq_mix S M) H) (hS : va_S (fun q => z ≤ q) s.heap H locs) (hdg : decode cc pc = .ok (.areturn, 1)) (hlocks : meth.locks = false) : tq_Wb p l e fr0 lo0 s m args below meth c z A0 N H locs (MQ below (va_Qr (fun (u : (tq_Nn × tq_St) × Nat) => post u.1.1 u.1.2 u.2) (fun u a t => a = ad k u.2 ∧ tq_PB D cy z A0 H0 ad M u.1 t) (fun q => z ≤ q)) args s (z + tq_CX - s.heap.size) (A0 + tq_CY - tq_all s.heap) (fun q => z ≤ q)) (F0 m pc ls [.ref (ad k i)]) := by
  obtain ⟨hs0, hs1, hx0, hx1⟩ := hN
  refine tq_facts2 (fun f1 f2 f3 f4 => ?_)
  refine W.widen (k := z + tq_CX - s.heap.size) (n := A0 + tq_CY - tq_all s.heap) (by omega) (by omega) ?_
  exact W.aret (v := .ref (ad k i)) hx hb hr hrt (Or.inr ⟨_, rfl⟩) (fun t ht hWm => ⟨⟨((N, S), i), _, rfl, h, rfl, ⟨by rw [ht]; exact hW, by rw [ht]; show H.size ≤ z + N 0 0; omega, by rw [ht]; show tq_all H ≤ A0 + N 0 1; omega, hx0, hx1⟩⟩, hS.F ht⟩) hS.2.2 hdg hlocks
end TQB
