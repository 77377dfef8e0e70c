/-! rows of constructors: final fields, clone(); arrays of references -/
section TQP
variable {p : Program} {l : Launch} {e : Env} {R : Room} {s : State} {m : MethodId} {args : Array Value} {below : List Frame} {meth : Method} {c : Code} {H : Heap} {locs : List Loc} {cells slots : Nat} {Q : State → Prop}
variable {cc : ByteArray} {pc fr0 lo0 : Nat} {ls : Array Slot} {rest : List Value} {D : va_G} {cy : Nat → ClassId} {z A0 : Nat} {H0 Hs : Heap} {ad : Nat → Nat → Nat} {N : tq_Nn} {T T1 S M : tq_St}
/-- a final field, in its class's constructor -/
theorem tq_putGF (hexec : p.tables.exec = Jvm.exec) (hb : c.code = cc) {own ref C : String} {Tb : u_T} {nf ci index : Nat} {Ts : List Cond} (hts : ∀ w ∈ Ts, w.before args s = true) (hin : ∀ w ∈ u_ws C Tb nf, w ∈ Ts) (ty0 : Nat → FieldType) (hty : ∀ k, k < nf → parseFieldDescriptor (Tb k).2.2.1 = some (ty0 k)) (hnm : ∀ a, a < nf → ∀ b, b < nf → a ≠ b → (Tb a).2.1 ≠ (Tb b).2.1) (hown : s.vm.findClass own = some m.cls) (hK : va_K D vwCl (tq_tys cy) s) (hW : tq_wd D cy z H0 ad N T H) (hS0 : va_S (fun q => z ≤ q) Hs H locs) {k i : Nat} {fs : List Value} (he : tq_mk cy ad N k i (T k i) = some (.inr (ci, fs))) (hc : vwCl[ci]? = some (C, Tb, nf)) (t : Nat) (ht : t < nf) (hlink : (Cond.fieldLink own index ref (Tb t).2.1 (Tb t).2.2.1).before args s = true) (hsame : ∀ x, s.fieldFound? (Tb t).1 (Tb t).2.1 (Tb t).2.2.1 = some x → s.fieldFound? ref (Tb t).2.1 (Tb t).2.2.1 = some x) (hfin : (Tb t).2.2.2 = true) (hin2 : meth.name = "<init>") (hdecl : (Tb t).1 = own) {v : Value} (hn : narrow (ty0 t) v = v) (hfit : fits (ty0 t) v = true) (hlen : t < fs.length) (hT : ∀ k' i' : Nat, ¬ (k' = k ∧ i' = i) → T1 k' i' = T k' i') (he2 : tq_mk cy ad N k i (T1 k i) = some (.inr (ci, fs.set t v))) (hdg : decode cc pc = .ok (.putfield index, 3))
    (kk : ∀ (H1 : Heap) (locs1 : List Loc), H1.size = H.size → tq_wd D cy z H0 ad N T1 H1 → va_S (fun q => z ≤ q) Hs H1 locs1 → W p l e R s m args below meth c H1 locs1 cells slots Q (F0 m (pc + 3) ls rest)) : W p l e R s m args below meth c H locs cells slots Q (F0 m pc ls (v :: .ref (ad k i) :: rest)) := by
  have hap := va_apart (own := own) hts hin ty0 hty hnm hK hc
  obtain ⟨r, h1, cell, q1, q2, q3, q4⟩ := hW.1 k i _ he
  have hr : r = (C, Tb, nf) := Option.some.inj (h1.symm.trans hc)
  subst hr
  obtain ⟨hSl, hfc, kC, hkC, hkind⟩ := hK.1 ci _ hc
  obtain ⟨cf, kf, fi, f, hi, hsl⟩ := hSl t ht
  have hlay := hts _ (hin _ (u_in_lay ht))
  unfold u_lay at hlay
  rw [if_pos hfin] at hlay
  have hst := (u_facts hfc hkC (u_lays hts hin ht) hi).1
  have hcf : m.cls = cf := by
    obtain ⟨_, _, c', _, _, _, -, -, hf', -, -, -, hown2, -⟩ := Cond.laysFinal_spec hlay
    have e1 : c' = cf := by have := hi.symm.trans hf'; simp at this; exact this.1.symm
    rw [hdecl] at hown2
    rw [← e1]; exact Option.some.inj (hown.symm.trans hown2)
  have h6 := u_fits hfc hkC hkind (Or.inr hlay) hi (hty t ht) hn hfit
  refine W.putFinK hexec hb hown hlink (hsame _ hi) hst hcf hin2 (by rw [q2]; exact h6) q1 q3 (by rw [hsl]; exact k2_hasslot (q4 t ht)) rfl rfl hdg fun H' e1 e2 e3 => ?_
  rw [hsl] at e1 ⊢
  refine kk H' _ e2 (hW.set he he2 hT ?_ e3 e2) (hS0.put e2 e3 (hW.2.2.1 k i _ he))
  exact ⟨_, hc, t_OB.to (V := updV (vp_V fs) t v) ⟨_, e1, q2, q3, t_set q4 hap ht v⟩ (fun j _ => vp_updV_set hlen v j)⟩
theorem tq_fitI {cA : ClassId} {n : Nat} {f : Nat → Int32} (i : Nat) (v : Value) (h : (vp_cell cA (n, .inl f)).slots[i]? = some v) : fits .int v = true := by
  have h2 : (arrV cA n (fun j => Value.int (f j))).slots[i]? = some v := h
  simp only [arrV] at h2
  rw [Array.getElem?_ofFn] at h2
  split at h2
  · cases h2
    rfl
  · cases h2
/-- clone() of a row of ints of the world -/
theorem tqw_clone (hx : p.tables.exec = Jvm.exec) (hb : c.code = cc) (hml : c.maxLocals = ls.size) {own : String} {index : Nat} (hown : s.vm.findClass own = some m.cls)
    (hlink : (Cond.methodLink own index ⟨"[I", "clone", "()Ljava/lang/Object;"⟩).before args s = true) (hsame : (Cond.sameMethod "[I" "java/lang/Object" "clone" "()Ljava/lang/Object;").before args s = true)
    (hnat : (Cond.native ⟨"java/lang/Object", "clone", "()Ljava/lang/Object;"⟩).before args s = true) (hinst : (Cond.instanceMethod ⟨"java/lang/Object", "clone", "()Ljava/lang/Object;"⟩).before args s = true)
    (hsel : (Cond.selects "[I" ⟨"[I", "clone", "()Ljava/lang/Object;"⟩ ⟨"java/lang/Object", "clone", "()Ljava/lang/Object;"⟩).before args s = true) (hcl : va_Nw (.castable "[I" "java/lang/Cloneable") s)
    (hK : va_K D vwCl (tq_tys cy) s) (hW : tq_wd D cy z H0 ad N (tq_mix S M) H) (hS : va_S (fun q => z ≤ q) s.heap H locs) (hN : tq_nb z A0 s N) {k0 i0 k i n a : Nat} (hk0' : k0 < 64) (he : tq_mk cy ad N k0 i0 (S k0 i0) = some (.inl (cy 0, n, .inl (S k0 i0)))) (hk : k < 64) (hk0 : k ≠ 0) (hmk : ∀ (N : tq_Nn) (f : Nat → Int32), N k i = 1 → tq_mk cy ad N k i f = some (.inl (cy 0, n, .inl f))) (ha : ad k i = H.size) (han : a = H.size + 1 - z) (ha1 : a ≤ tq_CX) (hs1 : N 0 1 + n ≤ tq_CY)
    (hframes : 1 ≤ fr0) (hlocals : (rest.map fun v => v.category).sum + 14 ≤ lo0) (hdg : decode cc pc = .ok (.invokevirtual index, 3))
    (kk : ∀ (H1 : Heap), H1.size = H.size + 1 → tq_nb z A0 s (tq_na N a k i 1 n) → tq_wd D cy z H0 ad (tq_na N a k i 1 n) (tq_mix (tq_cp S k i (S k0 i0)) M) H1 → va_S (fun q => z ≤ q) s.heap H1 locs → tq_Wb p l e fr0 lo0 s m args below meth c z A0 (tq_na N a k i 1 n) H1 locs Q (F0 m (pc + 3) ls (.ref (ad k i) :: rest))) : tq_Wb p l e fr0 lo0 s m args below meth c z A0 N H locs Q (F0 m pc ls (.ref (ad k0 i0) :: rest)) := by
  obtain ⟨hs0, hs9, hx0, hx1⟩ := hN
  have hzH := hW.2.2.2.1
  have hnm : s.vm.findClass "[I" = some (cy 0) := (hK.2 0 _ rfl).2
  refine tq_facts2 (fun f1 f2 f3 f4 => ?_)
  refine tq_tight (c1 := H.size - s.heap.size) (n1 := tq_all H - tq_all s.heap) (by omega) (by omega) ?_
  have hsrc : H[ad k0 i0]? = some (vp_cell (cy 0) (n, .inl (S k0 i0))) := hW.1 k0 i0 (.inl (cy 0, n, .inl (S k0 i0))) (by rw [tq_mixC S M hk0']; exact he)
  have hsz : (vp_cell (cy 0) (n, .inl (S k0 i0))).slots.size = n := arrV_size _ _ _
  obtain ⟨c0, t0', f5, f6, f7⟩ := Cond.castable_spec (va_Nw.use (A := args) rfl hcl)
  cases hnm.symm.trans f5
  intro T9 hT9 X
  have hcellT : T9.heap[ad k0 i0]? = some (vp_cell (cy 0) (n, .inl (S k0 i0))) := by rw [hT9]; exact hsrc
  obtain ⟨-, kA, hkA, comp, hkind⟩ := State.isArrayOf_alike X.warmed.alike ((hK.2 0 _ rfl).1 0 (fun _ => .null))
  obtain ⟨-, kS, hkS, compS, hkindS⟩ := (hK.2 0 _ rfl).1 0 (fun _ => .null)
  obtain ⟨vm', X', st⟩ := X.cloneArray hx hown hlink hsame hnat hinst hsel (a := ad k0 i0) (cell := vp_cell (cy 0) (n, .inl (S k0 i0))) hcellT (fun k h => by cases h) (fun h => by cases h) hnm f6 f7
    (fun i v hv => by
      have hk' : T9.vm.classes[cy 0]? = some kA := hkA
      have h8 := tq_fitI i v hv
      have h9 : (vp_cell (cy 0) (n, .inl (S k0 i0))).cls = cy 0 := rfl
      simpa [State.fitsSlot, State.slotType?, h9, hk', hkind] using h8)
    (g := F0 m pc ls (.ref (ad k0 i0) :: rest)) rfl (by rw [hml]) rfl (by rw [hb]; exact hdg) hframes (by show 2 * 0 + _ + 14 ≤ lo0; omega) (by show _ ≤ z + tq_CX - s.heap.size; omega) (by rw [hsz]; show _ ≤ A0 + tq_CY - tq_all s.heap; omega) (hloader := Vm.clonesLoader_of_array hkS hkindS)
  have hcellE : ({ cls := (vp_cell (cy 0) (n, .inl (S k0 i0))).cls, slots := (vp_cell (cy 0) (n, .inl (S k0 i0))).slots } : Cell) = vp_cell (cy 0) (n, .inl (S k0 i0)) := rfl
  rw [hcellE, hsz] at X'
  generalize hH1 : H.push (vp_cell (cy 0) (n, .inl (S k0 i0))) = H1
  have z1 : H1.size = H.size + 1 := by rw [← hH1, Array.size_push]
  have e1 : H1[H.size]? = some (vp_cell (cy 0) (n, .inl (S k0 i0))) := by rw [← hH1, Array.getElem?_push_size]
  have o1 : ∀ q : Nat, q < H.size → H1[q]? = H[q]? := fun q hq => by rw [← hH1, Array.getElem?_push, if_neg (Nat.ne_of_lt hq)]
  have hS1 : va_S (fun q => z ≤ q) s.heap H1 locs := ⟨by omega, fun q h1 h2 => (o1 q (by omega)).trans (hS.2.1 q h1 h2), hS.2.2⟩
  have hnb : tq_nb z A0 s (tq_na N a k i 1 n) := ⟨by rw [tq_na00]; omega, by rw [tq_na01]; omega, by rw [tq_na00]; exact ha1, by rw [tq_na01]; exact hs1⟩
  have hw1 : tq_wd D cy z H0 ad (tq_na N a k i 1 n) (tq_mix (tq_cp S k i (S k0 i0)) M) H1 := by
    refine hW.add (k := k) (i := i) (e := .inl (cy 0, n, .inl (S k0 i0))) z1 o1 ha ?_ ?_ (fun k' i' h9 => tq_mixcp k' i' h9)
    · rw [tq_mixC _ _ hk, tq_cp_self]
      exact hmk _ _ (tq_na_self _ _ _ _ _ _ hk0)
    · show H1[ad k i]? = some (vp_cell _ _)
      rw [ha]
      exact e1
  have hfin : W p l e (tq_rmB fr0 lo0 z A0 s.heap.size (tq_all s.heap)) s m args below meth c H1 locs (H.size - s.heap.size + 1) (tq_all H - tq_all s.heap + n) Q (F0 m (pc + 3) ls (.ref H.size :: rest)) := by
    refine tq_facts2 (fun g1 g2 g3 g4 => ?_)
    rw [← ha]
    refine tq_tight (c1 := z + (tq_na N a k i 1 n) 0 0 - s.heap.size) (n1 := A0 + (tq_na N a k i 1 n) 0 1 - tq_all s.heap) (by rw [tq_na00]; omega) (by rw [tq_na01]; omega) ?_
    exact kk H1 z1 hnb hw1 hS1
  obtain ⟨t, b1, b2⟩ := hfin ((T9.setVm vm').pushCell (vp_cell (cy 0) (n, .inl (S k0 i0)))) (by rw [← hH1, ← hT9]; rfl) X'
  refine ⟨t, st t ?_, b2⟩
  rw [hcellE, hT9]
  exact b1
/-- new Object[n], into the world as data of the kind kd -/
theorem tqw_anew (hx : p.tables.exec = Jvm.exec) (hb : c.code = cc) {own : String} {index : Nat} (hown : s.vm.findClass own = some m.cls) (hcl : (Cond.classLink own index "java/lang/Object").before args s = true) (hK : va_K D vwCl (tq_tys cy) s) (hG : tq_G z ad s) (hW : tq_wd D cy z H0 ad N (tq_mix S M) H) (hS : va_S (fun q => z ≤ q) s.heap H locs) (hN : tq_nb z A0 s N) {kd ek n : Nat} (hk : kd < 64) (hk0 : kd ≠ 0) (hda : ∀ d : Nat, ad kd d = z + d) (hmk : ∀ (N : tq_Nn) (d : Nat) (f : Nat → Int32), N kd d = 1 → tq_mk cy ad N kd d f = some (.inl (cy 5, (f 0).toNatClampNeg, .inr (.inr (.inr (.inr (fun j => tq_nul ad ek (f (j + 1)))))))))  {v : Int32} (hv0 : ¬ v < 0) (hv : v.toNatClampNeg = n) (hn : n * 4 ≤ 536870912) (h0 : N 0 0 + 1 ≤ tq_CX) (h1 : N 0 1 + n ≤ tq_CY) (hdg : decode cc pc = .ok (.anewarray index, 3))
    (kk : ∀ (d : Nat) (H1 : Heap), 1 ≤ d → d ≤ N 0 0 → tq_fr N d → tq_nb z A0 s (tq_na N (d + 1) kd d 1 n) → tq_wd D cy z H0 ad (tq_na N (d + 1) kd d 1 n) (tq_mix (tq_cp S kd d (fun q => if q = 0 then v else 0)) M) H1 → va_S (fun q => z ≤ q) s.heap H1 locs → tq_Wb p l e fr0 lo0 s m args below meth c z A0 (tq_na N (d + 1) kd d 1 n) H1 locs Q (F0 m (pc + 3) ls (.ref (ad kd d) :: rest))) : tq_Wb p l e fr0 lo0 s m args below meth c z A0 N H locs Q (F0 m pc ls (.int v :: rest)) := by
  obtain ⟨hs0, hs9, hx0, hx1⟩ := hN
  have hpos := hW.pos
  have hadr := hG.adr
  refine tq_facts2 (fun f1 f2 f3 f4 => ?_)
  refine tq_tight (c1 := H.size - s.heap.size) (n1 := tq_all H - tq_all s.heap) (by omega) (by omega) ?_
  obtain ⟨d, hd⟩ : ∃ d, H.size = z + d := ⟨H.size - z, by omega⟩
  have ha : ad kd d = H.size := by rw [hda, hd]
  subst hv
  refine W.anew hx hb hown hcl (va_AO.use (hG.2.2.2.2.2.2.2.2.2.2.2.1 "java/lang/Object" (by decide))) rfl hdg rfl hv0 hn (by show _ ≤ z + tq_CX - s.heap.size; omega) (by show _ ≤ A0 + tq_CY - tq_all s.heap; omega) fun cA kA comp g1 g2 g3 g4 => ?_
  have hcA : cA = cy 5 := by
    obtain ⟨kA', comp', k1, k2, k3, k4⟩ := (hK.2 5 _ rfl).2
    exact Option.some.inj (g1.symm.trans k4)
  subst hcA
  generalize hH1 : H.push ({ cls := cy 5, slots := Array.replicate v.toNatClampNeg .null, vm := .none } : Cell) = H1
  have z1 : H1.size = H.size + 1 := by rw [← hH1, Array.size_push]
  have e1 : H1[H.size]? = some (arrV (cy 5) v.toNatClampNeg (fun _ => .null)) := by rw [← hH1, Array.getElem?_push_size, ← arrV_new]
  have o1 : ∀ q : Nat, q < H.size → H1[q]? = H[q]? := fun q hq => by rw [← hH1, Array.getElem?_push, if_neg (Nat.ne_of_lt hq)]
  have hS1 : va_S (fun q => z ≤ q) s.heap H1 locs := ⟨by omega, fun q h1 h2 => (o1 q (by omega)).trans (hS.2.1 q h1 h2), hS.2.2⟩
  have hnb : tq_nb z A0 s (tq_na N (d + 1) kd d 1 v.toNatClampNeg) := ⟨by rw [tq_na00]; omega, by rw [tq_na01]; omega, by rw [tq_na00]; omega, by rw [tq_na01]; omega⟩
  have hw1 : tq_wd D cy z H0 ad (tq_na N (d + 1) kd d 1 v.toNatClampNeg) (tq_mix (tq_cp S kd d (fun q => if q = 0 then v else 0)) M) H1 := by
    refine hW.add (k := kd) (i := d) (e := .inl (cy 5, v.toNatClampNeg, .inr (.inr (.inr (.inr (fun _ => none)))))) z1 o1 ha ?_ ?_ (fun k' i' h9 => tq_mixcp k' i' h9)
    · rw [tq_mixC _ _ hk, tq_cp_self, hmk _ _ _ (tq_na_self _ _ _ _ _ _ hk0)]
      have q1 : (fun j : Nat => tq_nul ad ek ((fun q : Nat => if q = 0 then v else 0) (j + 1))) = (fun _ : Nat => (none : Option Nat)) := by
        funext j
        simp [tq_nul]
      rw [q1]
      rfl
    · show H1[ad kd d]? = some (vp_cell _ _)
      rw [vp_cell_q, ha]
      exact e1
  refine tq_facts2 (fun r1 r2 r3 r4 => ?_)
  show W _ _ _ _ _ _ _ _ _ _ _ _ _ _ _ (F0 m (pc + 3) ls (.ref H.size :: rest))
  rw [← ha]
  refine tq_tight (c1 := z + (tq_na N (d + 1) kd d 1 v.toNatClampNeg) 0 0 - s.heap.size) (n1 := A0 + (tq_na N (d + 1) kd d 1 v.toNatClampNeg) 0 1 - tq_all s.heap) (by rw [tq_na00]; omega) (by rw [tq_na01]; omega) ?_
  exact kk d H1 (by omega) (by omega) (hW.fr hadr (by omega)) hnb hw1 hS1
end TQP
