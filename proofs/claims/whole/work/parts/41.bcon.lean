/-- how many cells of a kind there are -/
def tq_cnt (N : Nat → Nat) (k : Nat) : Nat := if k = 1 then 1 else if k = 2 then 5 else if k = 3 then 1 else if k = 4 then 1 else if k = 5 then 1 else if k = 6 then 3 else if k = 7 then N 7 else if k = 8 then N 8 else if k = 9 then N 9 else if k = 10 then N 10 else if k = 11 then N 11 else if k = 12 then 1 else if k = 13 then 1 else if k = 14 then 1 else if k = 15 then 1 else if k = 16 then 1 else if k = 17 then 1 else if k = 18 then 1 else if k = 19 then 1 else if k = 20 then 1 else if k = 21 then 1 else if k = 22 then 1 else if k = 23 then 1 else if k = 24 then 1 else if k = 25 then 1 else if k = 26 then 1 else if k = 27 then 1 else if k = 28 then 4 else if k = 29 then 1 else if k = 30 then 5 else if k = 31 then 5 else if k = 32 then 5 else if k = 33 then 5 else if k = 34 then 5 else if k = 35 then 5 else if k = 36 then 5 else if k = 37 then 5 else if k = 38 then 5 else if k = 39 then 5 else if k = 40 then 5 else if k = 41 then 1 else if k = 42 then 1 else if k = 43 then 6 else if k = 44 then 1 else if k = 45 then 6 else if k = 46 then 1 else if k = 47 then 1 else if k = 48 then 1 else if k = 49 then 3 else if k = 50 then N 7 else if k = 51 then N 7 else if k = 52 then N 7 else if k = 53 then N 7 else if k = 54 then N 8 else if k = 55 then N 8 else if k = 56 then N 8 else if k = 57 then N 9 else if k = 58 then N 9 else if k = 59 then N 10 else if k = 60 then N 10 else 0
def tq_CX : Nat := 590000
def tq_CY : Nat := 7200000
/-- the kinds of lists' data: the only cells that move -/
def tq_dk : List Nat := [16, 18, 20, 23, 37, 39, 53, 60]
/-- the new addresses are the old ones wherever something was -/
def tq_ag (N : Nat → Nat) (ad ad1 : Nat → Nat → Nat) : Prop := (∀ k i : Nat, k ∉ tq_dk → i < tq_cnt N k → ad1 k i = ad k i) ∧ (∀ k : Nat, 61 ≤ k → ad1 k = ad k) ∧ ad1 0 = ad 0
theorem tq_ag.rf {N : Nat → Nat} {ad : Nat → Nat → Nat} : tq_ag N ad ad := ⟨fun _ _ _ _ => rfl, fun _ _ => rfl, rfl⟩
theorem tq_ag.tr {N N1 : Nat → Nat} {ad ad1 ad2 : Nat → Nat → Nat} (h1 : tq_ag N ad ad1) (h2 : tq_ag N1 ad1 ad2) (hN : ∀ k : Nat, tq_cnt N k ≤ tq_cnt N1 k) : tq_ag N ad ad2 :=
  ⟨fun k i hk hi => (h2.1 k i hk (Nat.lt_of_lt_of_le hi (hN k))).trans (h1.1 k i hk hi), fun k hk => (h2.2.1 k hk).trans (h1.2.1 k hk), h2.2.2.trans h1.2.2⟩
theorem tq_G.ag {z : Nat} {N : Nat → Nat} {ad ad1 : Nat → Nat → Nat} {U : State} (h : tq_G z ad U) (ha : tq_ag N ad ad1) : tq_G z ad1 U := by
  have e61 := ha.2.1 61 (by decide)
  have e62 := ha.2.1 62 (by decide)
  have e63 := ha.2.1 63 (by decide)
  have e0 := ha.2.2
  unfold tq_G tq_G2 at h ⊢
  rw [e61, e62, e63, e0]
  exact h
/-- counts only grow -/
def tq_gr (N N1 : Nat → Nat) : Prop := ∀ k : Nat, N k ≤ N1 k
abbrev tq_bu : Type := (Nat → Nat → Nat) × (Nat → Nat) × tq_St
def tq_rmB (fr lo z A0 sz sl : Nat) : Room := { frames := fr, cells := z + tq_CX - sz, slots := A0 + tq_CY - sl, locals := lo }
/-- ahead of a maker: the world, and what was made till now -/
def tq_BB (D : va_G) (cy : Nat → ClassId) (z A0 : Nat) (H0 : Heap) (ad : Nat → Nat → Nat) (N : Nat → Nat) (S M : tq_St) (sz sl : Nat) (U : State) : Prop := tq_B D cy z H0 ad N S M U ∧ U.heap.size = sz ∧ tq_all U.heap = sl ∧ sz ≤ z + N 0 ∧ sl ≤ A0 + N 1 ∧ N 0 ≤ tq_CX ∧ N 1 ≤ tq_CY
/-- behind it -/
def tq_PB (D : va_G) (cy : Nat → ClassId) (z A0 : Nat) (H0 : Heap) (ad : Nat → Nat → Nat) (N : Nat → Nat) (M : tq_St) (u : tq_bu) (t : State) : Prop := tq_ag N ad u.1 ∧ tq_gr N u.2.1 ∧ tq_wd D cy z H0 u.1 u.2.1 (tq_mix u.2.2 M) t.heap ∧ t.heap.size ≤ z + u.2.1 0 ∧ tq_all t.heap ≤ A0 + u.2.1 1 ∧ u.2.1 0 ≤ tq_CX ∧ u.2.1 1 ≤ tq_CY
theorem tq_blindB {D : va_G} {cy : Nat → ClassId} {z A0 : Nat} {H0 : Heap} {ad : Nat → Nat → Nat} {N : Nat → Nat} {S M : tq_St} {sz sl : Nat} {av : List Value} : FrameBlind (va_Pc av (tq_BB D cy z A0 H0 ad N S M sz sl)) := fun a U g mk q => ⟨q.1, ⟨q.2.1.1, va_K.moved (u := U) (U := U.calling g mk a) (Vm.Alike.refl U.vm) q.2.1.2.1, tq_G.go (U := U.calling g mk a) q.2.1.2.2 (fun _ _ _ => rfl) (State.WarmedH.refl U)⟩, q.2.2⟩
def tq_bI (l : Launch) (y : MethodName) (ws : List Cond) (fr lo : Nat) (D : va_G) (cy : Nat → ClassId) (z A0 : Nat) (H0 : Heap) (ad : Nat → Nat → Nat) (N : Nat → Nat) (M S : tq_St) (sz sl : Nat) (av : List Value) (post : (Nat → Nat) → tq_St → Int32 → Prop) : Prop :=
  Met l y ws (tq_rmB fr lo z A0 sz sl) (va_Pc av (tq_BB D cy z A0 H0 ad N S M sz sl)) (va_Qi (fun r (u : tq_bu) => post u.2.1 u.2.2 r) (tq_PB D cy z A0 H0 ad N M) (fun q => z ≤ q)) (z + tq_CX - sz) (A0 + tq_CY - sl) (fun q => z ≤ q)
def tq_bV (l : Launch) (y : MethodName) (ws : List Cond) (fr lo : Nat) (D : va_G) (cy : Nat → ClassId) (z A0 : Nat) (H0 : Heap) (ad : Nat → Nat → Nat) (N : Nat → Nat) (M S : tq_St) (sz sl : Nat) (av : List Value) (post : (Nat → Nat) → tq_St → Prop) : Prop :=
  Met l y ws (tq_rmB fr lo z A0 sz sl) (va_Pc av (tq_BB D cy z A0 H0 ad N S M sz sl)) (va_Qv (fun u : tq_bu => post u.2.1 u.2.2) (tq_PB D cy z A0 H0 ad N M) (fun q => z ≤ q)) (z + tq_CX - sz) (A0 + tq_CY - sl) (fun q => z ≤ q)
def tq_bR (k : Nat) (l : Launch) (y : MethodName) (ws : List Cond) (fr lo : Nat) (D : va_G) (cy : Nat → ClassId) (z A0 : Nat) (H0 : Heap) (ad : Nat → Nat → Nat) (N : Nat → Nat) (M S : tq_St) (sz sl : Nat) (av : List Value) (post : (Nat → Nat) → tq_St → Nat → Prop) : Prop :=
  Met l y ws (tq_rmB fr lo z A0 sz sl) (va_Pc av (tq_BB D cy z A0 H0 ad N S M sz sl)) (va_Qr (fun u : tq_bu × Nat => post u.1.2.1 u.1.2.2 u.2) (fun u a t => a = u.1.1 k u.2 ∧ tq_PB D cy z A0 H0 ad N M u.1 t) (fun q => z ≤ q)) (z + tq_CX - sz) (A0 + tq_CY - sl) (fun q => z ≤ q)
section TQB
variable {p : Program} {l : Launch} {e : Env} {R : Room} {s : State} {m : MethodId} {args : Array Value} {below : List Frame} {meth : Method} {c : Code} {H : Heap} {locs : List Loc} {cells slots : Nat} {Q : State → Prop} {g : JFrame}
variable {cc : ByteArray} {pc nL n index maxL fr lo : Nat} {ls : Array Slot} {rest st0 As : List Value} {D : va_G} {cy : Nat → ClassId} {z A0 : Nat} {H0 : Heap} {ad : Nat → Nat → Nat} {N : Nat → Nat} {S M : tq_St} {Ts ws : List Cond} {own C : String} {y : MethodName} {bytes : ByteArray} {ret : Option FieldType} {b : Nat}
theorem tq_facts2 (k : s.heap.size ≤ H.size → H.size ≤ s.heap.size + cells → tq_all H ≤ tq_all s.heap + slots → tq_all s.heap ≤ tq_all H → W p l e R s m args below meth c H locs cells slots Q g) : W p l e R s m args below meth c H locs cells slots Q g := by
  intro T hT X
  have hb := tq_book X.book
  have h0 : s.slotsTrue = true := by
    have h := X.room
    simp only [State.hasRoom, Bool.and_eq_true] at h
    exact h.2
  have hb0 := tq_book h0
  obtain ⟨a1, a2, a3, a4, a5, a6⟩ := X.same
  have a4' : T.slotsUsed = s.slotsUsed + (((T.setVm s.vm).heap.toList.drop s.heap.size).map (·.slots.size)).sum := a4
  have a2' : s.heap.size ≤ T.heap.size := a2
  have a3' : T.heap.size ≤ s.heap.size + cells := a3
  rw [hT] at hb a2' a3'
  exact k a2' a3' (by omega) (by omega) T hT X
/-- where a maker's walk stands: by its counts -/
abbrev tq_Wb (p : Program) (l : Launch) (e : Env) (R : Room) (s : State) (m : MethodId) (args : Array Value) (below : List Frame) (meth : Method) (c : Code) (z A0 : Nat) (N : Nat → Nat) (H : Heap) (locs : List Loc) (Q : State → Prop) (g : JFrame) : Prop := W p l e R s m args below meth c H locs (z + N 0 - s.heap.size) (A0 + N 1 - tq_all s.heap) Q g
theorem tqb_callVi {post : (Nat → Nat) → tq_St → Int32 → Prop} (hM : tq_bI l y ws fr lo D cy z A0 H0 ad N M S H.size (tq_all H) (.ref b :: As) post) (S0 : CallFix p m c cc nL s args Ts own) (cw : CallW R s args own C index y bytes maxL ret ws (tq_rmB fr lo z A0 H.size (tq_all H)) (z + tq_CX - H.size) (A0 + tq_CY - tq_all H) n) (hrc : ∃ cellB : Cell, H[b]? = some cellB ∧ cellB.vm.isStatics = false ∧ s.vm.findClass C = some cellB.cls) (hK : va_K D vwCl (tq_tys cy) s) (hG : tq_G z ad s) (hW : tq_wd D cy z H0 ad N (tq_mix S M) H) (hS : va_S (fun q => z ≤ q) s.heap H locs) (hn : As.length = n) (hsize : ls.size = nL) (hst : st0 = As.reverse ++ .ref b :: rest) (hW8 : (rest.map fun v => v.category).sum ≤ 8) (hdg : decode cc pc = .ok (.invokevirtual index, 3)) (hs0 : s.heap.size ≤ z + N 0) (hs1 : tq_all s.heap ≤ A0 + N 1) (hx0 : N 0 ≤ tq_CX) (hx1 : N 1 ≤ tq_CY) (hR0 : R.cells = z + tq_CX - s.heap.size) (hR1 : R.slots = A0 + tq_CY - tq_all s.heap)
    (kk : ∀ (r : Int32) (ad1 : Nat → Nat → Nat) (N1 : Nat → Nat) (S1 : tq_St) (H1 : Heap) (locs1 : List Loc), post N1 S1 r → tq_ag N ad ad1 → tq_gr N N1 → N1 0 ≤ tq_CX → N1 1 ≤ tq_CY → tq_wd D cy z H0 ad1 N1 (tq_mix S1 M) H1 → va_S (fun q => z ≤ q) s.heap H1 locs1 → tq_Wb p l e R s m args below meth c z A0 N1 H1 locs1 Q (F0 m (pc + 3) ls (.int r :: rest))) : tq_Wb p l e R s m args below meth c z A0 N H locs Q (F0 m pc ls st0) := by
  refine tq_facts2 (fun f1 f2 f3 f4 => ?_)
  refine tq_tight (c1 := H.size - s.heap.size) (n1 := tq_all H - tq_all s.heap) (by omega) (by omega) ?_
  refine va_calli (va_runV (As := As) (rest := rest) S0 hM cw ⟨tq_blindB, hrc, fun U hU hW1 => ⟨rfl, ⟨by rw [hU]; exact hW, va_K.moved hW1.alike hK, hG.go (fun a h1 h2 => by rw [hU]; exact hS.2.1 a h1 h2) hW1⟩, by rw [hU], by rw [hU], by omega, by omega, hx0, hx1⟩⟩ rfl hn hsize hst (lv_room hW8) hdg ⟨by rw [hR0]; omega, by rw [hR1]; omega⟩) hS (fun q _ h => h) (fun q h => h) (fun r u t H1 locs1 ht hvm hw hB hz1 hk1 hS1 => ?_)
  · obtain ⟨b1, b2, b3, b4, b5, b6, b7⟩ := hB
    rw [ht] at b3 b4 b5
    refine tq_tight (c1 := z + u.2.1 0 - s.heap.size) (n1 := A0 + u.2.1 1 - tq_all s.heap) ?_ ?_ (kk r u.1 u.2.1 u.2.2 H1 locs1 hw b1 b2 b6 b7 b3 hS1)
    · have := b2 0; omega
    · have := b2 1; omega
theorem tqb_callVv {post : (Nat → Nat) → tq_St → Prop} (hM : tq_bV l y ws fr lo D cy z A0 H0 ad N M S H.size (tq_all H) (.ref b :: As) post) (S0 : CallFix p m c cc nL s args Ts own) (cw : CallW R s args own C index y bytes maxL ret ws (tq_rmB fr lo z A0 H.size (tq_all H)) (z + tq_CX - H.size) (A0 + tq_CY - tq_all H) n) (hrc : ∃ cellB : Cell, H[b]? = some cellB ∧ cellB.vm.isStatics = false ∧ s.vm.findClass C = some cellB.cls) (hK : va_K D vwCl (tq_tys cy) s) (hG : tq_G z ad s) (hW : tq_wd D cy z H0 ad N (tq_mix S M) H) (hS : va_S (fun q => z ≤ q) s.heap H locs) (hn : As.length = n) (hsize : ls.size = nL) (hst : st0 = As.reverse ++ .ref b :: rest) (hW8 : (rest.map fun v => v.category).sum ≤ 8) (hdg : decode cc pc = .ok (.invokevirtual index, 3)) (hs0 : s.heap.size ≤ z + N 0) (hs1 : tq_all s.heap ≤ A0 + N 1) (hx0 : N 0 ≤ tq_CX) (hx1 : N 1 ≤ tq_CY) (hR0 : R.cells = z + tq_CX - s.heap.size) (hR1 : R.slots = A0 + tq_CY - tq_all s.heap)
    (kk : ∀ (ad1 : Nat → Nat → Nat) (N1 : Nat → Nat) (S1 : tq_St) (H1 : Heap) (locs1 : List Loc), post N1 S1 → tq_ag N ad ad1 → tq_gr N N1 → N1 0 ≤ tq_CX → N1 1 ≤ tq_CY → tq_wd D cy z H0 ad1 N1 (tq_mix S1 M) H1 → va_S (fun q => z ≤ q) s.heap H1 locs1 → tq_Wb p l e R s m args below meth c z A0 N1 H1 locs1 Q (F0 m (pc + 3) ls (rest))) : tq_Wb p l e R s m args below meth c z A0 N H locs Q (F0 m pc ls st0) := by
  refine tq_facts2 (fun f1 f2 f3 f4 => ?_)
  refine tq_tight (c1 := H.size - s.heap.size) (n1 := tq_all H - tq_all s.heap) (by omega) (by omega) ?_
  refine va_callv (va_runV (As := As) (rest := rest) S0 hM cw ⟨tq_blindB, hrc, fun U hU hW1 => ⟨rfl, ⟨by rw [hU]; exact hW, va_K.moved hW1.alike hK, hG.go (fun a h1 h2 => by rw [hU]; exact hS.2.1 a h1 h2) hW1⟩, by rw [hU], by rw [hU], by omega, by omega, hx0, hx1⟩⟩ rfl hn hsize hst (lv_room hW8) hdg ⟨by rw [hR0]; omega, by rw [hR1]; omega⟩) hS (fun q _ h => h) (fun q h => h) (fun u t H1 locs1 ht hvm hw hB hz1 hk1 hS1 => ?_)
  · obtain ⟨b1, b2, b3, b4, b5, b6, b7⟩ := hB
    rw [ht] at b3 b4 b5
    refine tq_tight (c1 := z + u.2.1 0 - s.heap.size) (n1 := A0 + u.2.1 1 - tq_all s.heap) ?_ ?_ (kk u.1 u.2.1 u.2.2 H1 locs1 hw b1 b2 b6 b7 b3 hS1)
    · have := b2 0; omega
    · have := b2 1; omega
theorem tqb_callVr {kr : Nat} {post : (Nat → Nat) → tq_St → Nat → Prop} (hM : tq_bR kr l y ws fr lo D cy z A0 H0 ad N M S H.size (tq_all H) (.ref b :: As) post) (S0 : CallFix p m c cc nL s args Ts own) (cw : CallW R s args own C index y bytes maxL ret ws (tq_rmB fr lo z A0 H.size (tq_all H)) (z + tq_CX - H.size) (A0 + tq_CY - tq_all H) n) (hrc : ∃ cellB : Cell, H[b]? = some cellB ∧ cellB.vm.isStatics = false ∧ s.vm.findClass C = some cellB.cls) (hK : va_K D vwCl (tq_tys cy) s) (hG : tq_G z ad s) (hW : tq_wd D cy z H0 ad N (tq_mix S M) H) (hS : va_S (fun q => z ≤ q) s.heap H locs) (hn : As.length = n) (hsize : ls.size = nL) (hst : st0 = As.reverse ++ .ref b :: rest) (hW8 : (rest.map fun v => v.category).sum ≤ 8) (hdg : decode cc pc = .ok (.invokevirtual index, 3)) (hs0 : s.heap.size ≤ z + N 0) (hs1 : tq_all s.heap ≤ A0 + N 1) (hx0 : N 0 ≤ tq_CX) (hx1 : N 1 ≤ tq_CY) (hR0 : R.cells = z + tq_CX - s.heap.size) (hR1 : R.slots = A0 + tq_CY - tq_all s.heap)
    (kk : ∀ (i : Nat) (ad1 : Nat → Nat → Nat) (N1 : Nat → Nat) (S1 : tq_St) (H1 : Heap) (locs1 : List Loc), post N1 S1 i → tq_ag N ad ad1 → tq_gr N N1 → N1 0 ≤ tq_CX → N1 1 ≤ tq_CY → tq_wd D cy z H0 ad1 N1 (tq_mix S1 M) H1 → va_S (fun q => z ≤ q) s.heap H1 locs1 → tq_Wb p l e R s m args below meth c z A0 N1 H1 locs1 Q (F0 m (pc + 3) ls (.ref (ad1 kr i) :: rest))) : tq_Wb p l e R s m args below meth c z A0 N H locs Q (F0 m pc ls st0) := by
  refine tq_facts2 (fun f1 f2 f3 f4 => ?_)
  refine tq_tight (c1 := H.size - s.heap.size) (n1 := tq_all H - tq_all s.heap) (by omega) (by omega) ?_
  refine va_callr (va_runV (As := As) (rest := rest) S0 hM cw ⟨tq_blindB, hrc, fun U hU hW1 => ⟨rfl, ⟨by rw [hU]; exact hW, va_K.moved hW1.alike hK, hG.go (fun a h1 h2 => by rw [hU]; exact hS.2.1 a h1 h2) hW1⟩, by rw [hU], by rw [hU], by omega, by omega, hx0, hx1⟩⟩ rfl hn hsize hst (lv_room hW8) hdg ⟨by rw [hR0]; omega, by rw [hR1]; omega⟩) hS (fun q _ h => h) (fun q h => h) (fun u ra t H1 locs1 ht hvm hw hB hz1 hk1 hS1 => ?_)
  · obtain ⟨b1, b2, b3, b4, b5, b6, b7⟩ := hB.2
    rw [ht] at b3 b4 b5
    rw [hB.1]
    refine tq_tight (c1 := z + u.1.2.1 0 - s.heap.size) (n1 := A0 + u.1.2.1 1 - tq_all s.heap) ?_ ?_ (kk u.2 u.1.1 u.1.2.1 u.1.2.2 H1 locs1 hw b1 b2 b6 b7 b3 hS1)
    · have := b2 0; omega
    · have := b2 1; omega
end TQB
