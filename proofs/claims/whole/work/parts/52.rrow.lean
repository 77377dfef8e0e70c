/-! the first cells: they lie one behind the other, from z on -/
def tq_ext (E : Nat → va_E) (p : Nat) (e : va_E) : Nat → va_E := fun j => if j = p then e else E j
/-- k cells from p on -/
def tq_extM (E : Nat → va_E) (p k : Nat) (e : va_E) : Nat → va_E := fun j => if p ≤ j ∧ j < p + k then e else E j
theorem tq_ext_ne {E : Nat → va_E} {p j : Nat} {e : va_E} (h : j ≠ p) : tq_ext E p e j = E j := if_neg h
theorem tq_ext_self {E : Nat → va_E} {p : Nat} {e : va_E} : tq_ext E p e p = e := if_pos rfl
theorem tq_extM_in {E : Nat → va_E} {p k j : Nat} {e : va_E} (h : p ≤ j ∧ j < p + k) : tq_extM E p k e j = e := if_pos h
theorem tq_extM_ne {E : Nat → va_E} {p k j : Nat} {e : va_E} (h : ¬ (p ≤ j ∧ j < p + k)) : tq_extM E p k e j = E j := if_neg h
def tq_rw (D : va_G) (z n : Nat) (H0 : Heap) (E : Nat → va_E) (H : Heap) : Prop := H.size = z + n ∧ (∀ j : Nat, j < n → va_at D vwCl (z + j, E j) H) ∧ (∀ q : Nat, q < z → H[q]? = H0[q]?)
theorem tq_rw.push {D : va_G} {z n : Nat} {H0 H H1 : Heap} {E : Nat → va_E} {e : va_E} (h : tq_rw D z n H0 E H) (hz : H1.size = H.size + 1) (ho : ∀ q : Nat, q < H.size → H1[q]? = H[q]?) (he : va_at D vwCl (z + n, e) H1) : tq_rw D z (n + 1) H0 (tq_ext E n e) H1 := by
  obtain ⟨h1, h2, h3⟩ := h
  refine ⟨by omega, fun j hj => ?_, fun q hq => (ho q (by omega)).trans (h3 q hq)⟩
  by_cases hjn : j = n
  · subst hjn
    rw [tq_ext_self]
    exact he
  · rw [tq_ext_ne hjn]
    exact (h2 j (by omega)).kept (ho _ (by omega))
theorem tq_rw.set {D : va_G} {z n p : Nat} {H0 H H1 : Heap} {E : Nat → va_E} {e : va_E} (h : tq_rw D z n H0 E H) (hp : p < n) (hz : H1.size = H.size) (ho : ∀ q : Nat, q ≠ z + p → H1[q]? = H[q]?) (he : va_at D vwCl (z + p, e) H1) : tq_rw D z n H0 (tq_ext E p e) H1 := by
  obtain ⟨h1, h2, h3⟩ := h
  refine ⟨by omega, fun j hj => ?_, fun q hq => (ho q (by omega)).trans (h3 q hq)⟩
  by_cases hjn : j = p
  · subst hjn
    rw [tq_ext_self]
    exact he
  · rw [tq_ext_ne hjn]
    exact (h2 j hj).kept (ho _ (by omega))
theorem vr_outer (c : ClassId) (N h0 : Nat) : ∀ i : Nat, Jvm.Free.Multi.outerC c N h0 i = arrV c N (fun j => va_rf (if j < i then some (h0 + 1 + j) else none))
  | 0 => by
    show ({ cls := c, slots := Array.replicate N .null, vm := .none } : Cell) = _
    rw [arrV_new]
    refine congrArg (arrV c N) (funext fun j => ?_)
    simp [va_rf]
  | i + 1 => by
    show (Jvm.Free.Multi.outerC c N h0 i).setSlot i (.ref (h0 + 1 + i)) = _
    rw [vr_outer c N h0 i, arrV_store]
    refine congrArg (arrV c N) (funext fun j => ?_)
    by_cases e : j = i
    · subst e
      simp [updV, va_rf]
    · by_cases h : j < i
      · simp [updV, e, h, Nat.lt_succ_of_lt h]
      · simp [updV, e, h, show ¬ j < i + 1 by omega]
section TQRW
variable {p : Program} {l : Launch} {e : Env} {R : Room} {s : State} {m : MethodId} {args : Array Value} {below : List Frame} {meth : Method} {c : Code} {H : Heap} {locs : List Loc} {cells slots : Nat} {Q : State → Prop}
variable {cc : ByteArray} {pc : Nat} {ls : Array Slot} {rest : List Value} {D : va_G} {cy : Nat → ClassId} {z n n1 : Nat} {H0 : Heap} {E E1 : Nat → va_E}
theorem tqr_new (hx : p.tables.exec = Jvm.exec) (hb : c.code = cc) {own C : String} {Tb : u_T} {nf ci index : Nat} {Ts : List Cond} (hts : ∀ w ∈ Ts, w.before args s = true) (hin : ∀ w ∈ u_ws C Tb nf, w ∈ Ts) (ty : Nat → FieldType) (hty : ∀ k, k < nf → parseFieldDescriptor (Tb k).2.2.1 = some (ty k)) (hown : s.vm.findClass own = some m.cls) (hcl : (Cond.classLink own index C).before args s = true) (hinst : (Cond.instantiable C nf).before args s = true) (hini : (Cond.initialized C).before args s = true) (hK : va_K D vwCl (tq_tys cy) s) (hR : tq_rw D z n H0 E H) (hS : va_S (fun q => z ≤ q) s.heap H locs) (hc : vwCl[ci]? = some (C, Tb, nf)) {fs : List Value} (hfs : ∀ j, j < nf → defaultValue (ty j) = vp_V fs j) (hE1 : E1 = tq_ext E n (.inr (ci, fs))) (hn1 : n1 = n + 1) (hcells : cells + 1 ≤ R.cells) (hslots : slots + nf ≤ R.slots) (hdg : decode cc pc = .ok (.new index, 3))
    (kk : ∀ H1 : Heap, tq_rw D z n1 H0 E1 H1 → va_S (fun q => z ≤ q) s.heap H1 locs → W p l e R s m args below meth c H1 locs (cells + 1) (slots + nf) Q (F0 m (pc + 3) ls (.ref (z + n) :: rest))) : W p l e R s m args below meth c H locs cells slots Q (F0 m pc ls rest) := by
  subst hE1
  subst hn1
  have hKn := hK.1 ci _ hc
  refine W.newcK hx hb hown hcl hinst hini rfl hdg hcells hslots hKn.2.1 rfl fun H1 kC hkC e1 z1 o1 => ?_
  rw [hR.1] at e1
  have hS1 : va_S (fun q => z ≤ q) s.heap H1 locs := ⟨by have := hS.1; omega, fun q h1 h2 => (o1 q (by have := hS.1; omega)).trans (hS.2.1 q h1 h2), hS.2.2⟩
  show W _ _ _ _ _ _ _ _ _ _ _ _ _ _ _ (F0 m (pc + 3) ls (.ref H.size :: rest))
  rw [hR.1]
  exact kk H1 (hR.push z1 o1 ⟨_, hc, (u_born ty hts hin hKn hkC e1 hty).to hfs⟩) hS1
theorem tqr_newa (hx : p.tables.exec = Jvm.exec) (hb : c.code = cc) {atype : ArrayType} {ty : FieldType} (hty : newarray.typeOf atype = ty) (harr : (Cond.arrayClass ty).before args s = true) (hK : va_K D vwCl (tq_tys cy) s) (hR : tq_rw D z n H0 E H) (hS : va_S (fun q => z ≤ q) s.heap H locs) (t0 : Nat) {cA : ClassId} (ht : (tq_tys cy)[t0]? = some (cA, ty)) (hnr : ∀ (U : State) (x : ClassId), va_RA U x ty → U.vm.findClass ("[" ++ ty.toString) = some x) {v : Int32} {N' : Nat} (hv0 : ¬ v < 0) (hv : v.toNatClampNeg = N') (hbytes : N' * componentBytes ty ≤ 536870912) (hd : ∀ x : ClassId, vp_cell x (N', .inl (fun _ => 0)) = arrV x N' (fun _ => defaultValue ty)) (hE1 : E1 = tq_ext E n (.inl (cA, N', .inl (fun _ => 0)))) (hn1 : n1 = n + 1) (hcells : cells + 1 ≤ R.cells) (hslots : slots + N' ≤ R.slots) (hdg : decode cc pc = .ok (.newarray atype, 2))
    (kk : ∀ H1 : Heap, tq_rw D z n1 H0 E1 H1 → va_S (fun q => z ≤ q) s.heap H1 locs → W p l e R s m args below meth c H1 locs (cells + 1) (slots + N') Q (F0 m (pc + 2) ls (.ref (z + n) :: rest))) : W p l e R s m args below meth c H locs cells slots Q (F0 m pc ls (.int v :: rest)) := by
  subst hE1
  subst hn1
  subst hty
  refine va_newaK (atype := atype) hx hb harr rfl hdg rfl hv0 hv hbytes hcells hslots hR.1 fun H1 cB e1 z1 o1 hAr hNm => ?_
  have hcA : cB = cA := Option.some.inj (hNm.symm.trans (hnr s cA (hK.2 t0 _ ht).2))
  subst hcA
  have hS1 : va_S (fun q => z ≤ q) s.heap H1 locs := ⟨by have := hS.1; have := hR.1; omega, fun q h1 h2 => (o1 q (by have := hS.1; have := hR.1; omega)).trans (hS.2.1 q h1 h2), hS.2.2⟩
  refine kk H1 (hR.push (by rw [hR.1]; exact z1) (fun q hq => o1 q (by rw [← hR.1]; exact hq)) ?_) hS1
  show H1[z + n]? = some (vp_cell _ _)
  rw [hd]
  exact e1
theorem tqr_anew (hx : p.tables.exec = Jvm.exec) (hb : c.code = cc) {own C : String} {index : Nat} (hown : s.vm.findClass own = some m.cls) (hcl : (Cond.classLink own index C).before args s = true) (hover : va_AO C s) (hK : va_K D vwCl (tq_tys cy) s) (hR : tq_rw D z n H0 E H) (hS : va_S (fun q => z ≤ q) s.heap H locs) (t0 : Nat) {cA : ClassId} (ht : (tq_tys cy)[t0]? = some (cA, .object C)) {v : Int32} {N' : Nat} (hv0 : ¬ v < 0) (hv : v.toNatClampNeg = N') (hbytes : N' * 4 ≤ 536870912) (hE1 : E1 = tq_ext E n (.inl (cA, N', .inr (.inr (.inr (.inr (fun _ => none))))))) (hn1 : n1 = n + 1) (hcells : cells + 1 ≤ R.cells) (hslots : slots + N' ≤ R.slots) (hdg : decode cc pc = .ok (.anewarray index, 3))
    (kk : ∀ H1 : Heap, tq_rw D z n1 H0 E1 H1 → va_S (fun q => z ≤ q) s.heap H1 locs → W p l e R s m args below meth c H1 locs (cells + 1) (slots + N') Q (F0 m (pc + 3) ls (.ref (z + n) :: rest))) : W p l e R s m args below meth c H locs cells slots Q (F0 m pc ls (.int v :: rest)) := by
  subst hE1
  subst hn1
  subst hv
  refine W.anew hx hb hown hcl (va_AO.use hover) rfl hdg rfl hv0 hbytes hcells hslots fun cB kA comp g1 g2 g3 g4 => ?_
  have hcA : cB = cA := by
    obtain ⟨kA', comp', k1, k2, k3, k4⟩ := (hK.2 t0 _ ht).2
    exact Option.some.inj (g1.symm.trans k4)
  subst hcA
  generalize hH1 : H.push ({ cls := cB, slots := Array.replicate v.toNatClampNeg .null, vm := .none } : Cell) = H1
  have z1 : H1.size = H.size + 1 := by rw [← hH1, Array.size_push]
  have e1 : H1[H.size]? = some (arrV cB v.toNatClampNeg (fun _ => .null)) := by rw [← hH1, Array.getElem?_push_size, ← arrV_new]
  have o1 : ∀ q : Nat, q < H.size → H1[q]? = H[q]? := fun q hq => by rw [← hH1, Array.getElem?_push, if_neg (Nat.ne_of_lt hq)]
  have hS1 : va_S (fun q => z ≤ q) s.heap H1 locs := ⟨by have := hS.1; omega, fun q h1 h2 => (o1 q (by have := hS.1; omega)).trans (hS.2.1 q h1 h2), hS.2.2⟩
  show W _ _ _ _ _ _ _ _ _ _ _ _ _ _ _ (F0 m (pc + 3) ls (.ref H.size :: rest))
  rw [hR.1] at e1
  rw [hR.1]
  refine kk H1 (hR.push z1 o1 ?_) hS1
  show H1[z + n]? = some (vp_cell _ _)
  rw [vp_cell_q]
  exact e1
/-- new int[N'][K'] -/
theorem tqr_multi (hx : p.tables.exec = Jvm.exec) (hb : c.code = cc) {own : String} {index : Nat} (hown : s.vm.findClass own = some m.cls) (hcl : (Cond.classLink own index ("[" ++ (FieldType.array FieldType.int).toString)).before args s = true) (hover : tq_AA s) (harr : (Cond.arrayClass .int).before args s = true) (hK : va_K D vwCl (tq_tys cy) s) (hR : tq_rw D z n H0 E H) (hS : va_S (fun q => z ≤ q) s.heap H locs) {v w : Int32} {N' K' : Nat} (hv0 : ¬ v < 0) (hw0 : ¬ w < 0) (hv : v.toNatClampNeg = N') (hw : w.toNatClampNeg = K') (hb1 : N' * 4 ≤ 536870912) (hb2 : K' * 4 ≤ 536870912) (hE1 : E1 = tq_extM (tq_ext E n (.inl (cy 2, N', .inr (.inr (.inr (.inr (fun i => if i < N' then some (z + n + 1 + i) else none))))))) (n + 1) N' (.inl (cy 0, K', .inl (fun _ => 0)))) (hn1 : n1 = n + 1 + N') (hcells : cells + (1 + N') ≤ R.cells) (hslots : slots + (N' + N' * K') ≤ R.slots) (hdg : decode cc pc = .ok (.multianewarray index 2, 4))
    (kk : ∀ H1 : Heap, tq_rw D z n1 H0 E1 H1 → va_S (fun q => z ≤ q) s.heap H1 locs → W p l e R s m args below meth c H1 locs (cells + 1 + N') (slots + N' + N' * K') Q (F0 m (pc + 4) ls (.ref (z + n) :: rest))) : W p l e R s m args below meth c H locs cells slots Q (F0 m pc ls (.int w :: .int v :: rest)) := by
  subst hE1
  subst hn1
  subst hv
  subst hw
  intro T hT X
  have hb2' : w.toNatClampNeg * componentBytes FieldType.int ≤ 536870912 := by rw [show componentBytes FieldType.int = 4 from rfl]; exact hb2
  obtain ⟨vm₁, cA, comp, -, fA, fC, -, -, X', step⟩ := X.multianewarray2F hx hown hcl hover harr (g := F0 m pc ls (.int w :: .int v :: rest)) rfl (by rw [hb]; exact hdg) rfl hv0 hw0 hb1 hb2' (by omega) rfl rfl hcells hslots
  have hcA : cA = cy 2 := by
    have h1 := (hK.2 2 _ rfl).2
    exact Option.some.inj (fA.symm.trans h1)
  have hcomp : comp = cy 0 := by
    have h1 : s.vm.findClass (FieldType.array FieldType.int).toString = some (cy 0) := (hK.2 0 _ rfl).2
    exact Option.some.inj (fC.symm.trans h1)
  subst hcA
  subst hcomp
  generalize hF : Jvm.Free.Multi.fill (T.setVm vm₁) (cy 2) (cy 0) v.toNatClampNeg w.toNatClampNeg (defaultValue FieldType.int) v.toNatClampNeg = F at X' step
  have hTh : (T.setVm vm₁).heap = H := hT
  obtain ⟨f1, f2, -, -⟩ := Jvm.Free.Multi.fill_facts (T.setVm vm₁) (cy 2) (cy 0) v.toNatClampNeg w.toNatClampNeg (defaultValue FieldType.int) v.toNatClampNeg
  rw [hF, hTh] at f1 f2
  have hold : ∀ x : Nat, x < H.size → F.heap[x]? = H[x]? := fun x hx => by
    have := Jvm.Free.Multi.fill_old (T.setVm vm₁) (cy 2) (cy 0) v.toNatClampNeg w.toNatClampNeg (defaultValue FieldType.int) (a := x) (by rw [hTh]; exact hx) v.toNatClampNeg
    rw [hF, hTh] at this
    exact this
  have hrow : ∀ j : Nat, j < v.toNatClampNeg → F.heap[H.size + 1 + j]? = some (vp_cell (cy 0) (w.toNatClampNeg, .inl (fun _ => 0))) := fun j hj => by
    have := Jvm.Free.Multi.fill_inner (T.setVm vm₁) (cy 2) (cy 0) v.toNatClampNeg w.toNatClampNeg (defaultValue FieldType.int) v.toNatClampNeg j hj
    rw [hF, hTh] at this
    rw [this]
    show some (Jvm.Free.Multi.innerC (cy 0) w.toNatClampNeg (defaultValue FieldType.int)) = some (arrV (cy 0) w.toNatClampNeg (fun _ => Value.int 0))
    rw [← arrV_new]
    rfl
  have hout : F.heap[H.size]? = some (vp_cell (cy 2) (v.toNatClampNeg, .inr (.inr (.inr (.inr (fun i => if i < v.toNatClampNeg then some (H.size + 1 + i) else none)))))) := by
    rw [f2, vp_cell_q, vr_outer]
  rw [hR.1] at hout f1
  have hfin : tq_rw D z (n + 1 + v.toNatClampNeg) H0 (tq_extM (tq_ext E n (.inl (cy 2, v.toNatClampNeg, .inr (.inr (.inr (.inr (fun i => if i < v.toNatClampNeg then some (z + n + 1 + i) else none))))))) (n + 1) v.toNatClampNeg (.inl (cy 0, w.toNatClampNeg, .inl (fun _ => 0)))) F.heap := by
    refine ⟨by rw [f1]; omega, fun j hj => ?_, fun q hq => (hold q (by have := hR.1; omega)).trans (hR.2.2 q hq)⟩
    by_cases h1 : n + 1 ≤ j ∧ j < n + 1 + v.toNatClampNeg
    · rw [tq_extM_in h1]
      have h2 := hrow (j - (n + 1)) (by omega)
      rw [hR.1, show z + n + 1 + (j - (n + 1)) = z + j by omega] at h2
      exact h2
    · rw [tq_extM_ne h1]
      by_cases h2 : j = n
      · subst h2
        rw [tq_ext_self]
        exact hout
      · rw [tq_ext_ne h2]
        exact (hR.2.1 j (by omega)).kept (hold _ (by have := hR.1; show z + j < H.size; omega))
  have hS1 : va_S (fun q => z ≤ q) s.heap F.heap locs := ⟨by have := hS.1; have := hR.1; omega, fun q h1 h2 => (hold q (by have := hS.1; omega)).trans (hS.2.1 q h1 h2), hS.2.2⟩
  have hk := kk F.heap hfin hS1
  have X2 : Stand p l e R s m args below meth c F locs (cells + 1 + v.toNatClampNeg) (slots + v.toNatClampNeg + v.toNatClampNeg * w.toNatClampNeg) := X'
  obtain ⟨t, a1, b1⟩ := hk F rfl X2
  refine ⟨t, step t ?_, b1⟩
  have e9 : T.heap.size = z + n := by rw [hT]; exact hR.1
  rw [e9]
  exact a1
theorem tqr_put (hx : p.tables.exec = Jvm.exec) (hb : c.code = cc) {own ref C : String} {Tb : u_T} {nf ci index : Nat} {Ts : List Cond} (hts : ∀ w ∈ Ts, w.before args s = true) (hin : ∀ w ∈ u_ws C Tb nf, w ∈ Ts) (ty0 : Nat → FieldType) (hty : ∀ k, k < nf → parseFieldDescriptor (Tb k).2.2.1 = some (ty0 k)) (hnm : ∀ a, a < nf → ∀ b, b < nf → a ≠ b → (Tb a).2.1 ≠ (Tb b).2.1) (hown : s.vm.findClass own = some m.cls) (hK : va_K D vwCl (tq_tys cy) s) (hR : tq_rw D z n H0 E H) (hS : va_S (fun q => z ≤ q) s.heap H locs) {j : Nat} {fs : List Value} (hj : j < n) (he : E j = .inr (ci, fs)) (hc : vwCl[ci]? = some (C, Tb, nf)) (t : Nat) (ht : t < nf) (hlink : (Cond.fieldLink own index ref (Tb t).2.1 (Tb t).2.2.1).before args s = true) (hsame : ∀ x, s.fieldFound? (Tb t).1 (Tb t).2.1 (Tb t).2.2.1 = some x → s.fieldFound? ref (Tb t).2.1 (Tb t).2.2.1 = some x) (hfin : (Tb t).2.2.2 = false ∨ ((Tb t).2.2.2 = true ∧ meth.name = "<init>" ∧ (Tb t).1 = own)) {v : Value} (hn : narrow (ty0 t) v = v) (hfit : fits (ty0 t) v = true) (hlen : t < fs.length) (hE1 : E1 = tq_ext E j (.inr (ci, fs.set t v))) (hdg : decode cc pc = .ok (.putfield index, 3))
    (kk : ∀ (H1 : Heap) (locs1 : List Loc), tq_rw D z n H0 E1 H1 → va_S (fun q => z ≤ q) s.heap H1 locs1 → W p l e R s m args below meth c H1 locs1 cells slots Q (F0 m (pc + 3) ls rest)) : W p l e R s m args below meth c H locs cells slots Q (F0 m pc ls (v :: .ref (z + j) :: rest)) := by
  subst hE1
  have hP : va_P D vwCl [(z + j, .inr (ci, fs))] H := tq_one (by have := hR.2.1 j hj; rw [he] at this; exact this)
  have hD : va_D (fun q => q = z + j) [(z + j, ((.inr (ci, fs)) : va_E))] := tq_D1
  have hap := va_apart (own := own) hts hin ty0 hty hnm hK hc
  obtain ⟨r, h1, cell, q1, q2, q3, q4⟩ := hP 0 _ rfl
  have hr : r = (C, Tb, nf) := Option.some.inj (h1.symm.trans hc)
  subst hr
  obtain ⟨hSl, hfc, kC, hkC, hkind⟩ := hK.1 ci _ hc
  obtain ⟨cf, kf, fi, f, hi, hsl⟩ := hSl t ht
  have hlay := hts _ (hin _ (u_in_lay ht))
  have hst := (u_facts hfc hkC (u_lays hts hin ht) hi).1
  rcases hfin with hfin | ⟨hfin, hin2, hdecl⟩
  · unfold u_lay at hlay
    rw [if_neg (by rw [hfin]; decide)] at hlay
    have h6 := u_store hfc hkC hkind hlay hi (hty t ht) hn hfit
    refine W.putK hx hb (f := f) ⟨hown, hlink, ⟨_, _, _, hsame _ hi⟩, hst⟩ (by rw [q2]; exact h6) q1 q3 (by rw [hsl]; exact k2_hasslot (q4 t ht)) rfl rfl hdg fun H' e1 e2 e3 => ?_
    rw [hsl] at e1 ⊢
    refine kk H' _ (hR.set hj e2 e3 ?_) (hS.put e2 e3 (by show z ≤ z + j; omega))
    exact ⟨_, hc, t_OB.to (V := updV (vp_V fs) t v) ⟨_, e1, q2, q3, t_set q4 hap ht v⟩ (fun j _ => vp_updV_set hlen v j)⟩
  · unfold u_lay at hlay
    rw [if_pos hfin] at hlay
    have hcf : m.cls = cf := by
      obtain ⟨_, _, c', _, _, _, -, -, hf', -, -, -, hown2, -⟩ := Cond.laysFinal_spec hlay
      have e1 : c' = cf := by have := hi.symm.trans hf'; simp at this; exact this.1.symm
      rw [hdecl] at hown2
      rw [← e1]; exact Option.some.inj (hown.symm.trans hown2)
    have h6 := u_fits hfc hkC hkind (Or.inr hlay) hi (hty t ht) hn hfit
    refine W.putFinK hx hb hown hlink (hsame _ hi) hst hcf hin2 (by rw [q2]; exact h6) q1 q3 (by rw [hsl]; exact k2_hasslot (q4 t ht)) rfl rfl hdg fun H' e1 e2 e3 => ?_
    rw [hsl] at e1 ⊢
    refine kk H' _ (hR.set hj e2 e3 ?_) (hS.put e2 e3 (by show z ≤ z + j; omega))
    exact ⟨_, hc, t_OB.to (V := updV (vp_V fs) t v) ⟨_, e1, q2, q3, t_set q4 hap ht v⟩ (fun j _ => vp_updV_set hlen v j)⟩
theorem tqr_get (hx : p.tables.exec = Jvm.exec) (hb : c.code = cc) {own ref C : String} {Tb : u_T} {nf ci index : Nat} {Ts : List Cond} (hts : ∀ w ∈ Ts, w.before args s = true) (hin : ∀ w ∈ u_ws C Tb nf, w ∈ Ts) (hown : s.vm.findClass own = some m.cls) (hK : va_K D vwCl (tq_tys cy) s) (hR : tq_rw D z n H0 E H) {j : Nat} {fs : List Value} (hj : j < n) (he : E j = .inr (ci, fs)) (hc : vwCl[ci]? = some (C, Tb, nf)) (t : Nat) (ht : t < nf) (hlink : (Cond.fieldLink own index ref (Tb t).2.1 (Tb t).2.2.1).before args s = true) (hsame : ∀ x, s.fieldFound? (Tb t).1 (Tb t).2.1 (Tb t).2.2.1 = some x → s.fieldFound? ref (Tb t).2.1 (Tb t).2.2.1 = some x) {v : Value} (hv : fs[t]? = some v) (hdg : decode cc pc = .ok (.getfield index, 3))
    (kk : W p l e R s m args below meth c H locs cells slots Q (F0 m (pc + 3) ls (v :: rest))) : W p l e R s m args below meth c H locs cells slots Q (F0 m pc ls (.ref (z + j) :: rest)) :=
  va_get (ws := [(z + j, .inr (ci, fs))]) hx hb hts hin hown hK (tq_one (by have := hR.2.1 j hj; rw [he] at this; exact this)) 0 rfl hc t ht hlink hsame hv hdg kk
end TQRW
