/-! rows for lists: a field of the list's object, an item of its data -/
section TQX
variable {p : Program} {l : Launch} {e : Env} {R : Room} {s : State} {m : MethodId} {args : Array Value} {below : List Frame} {meth : Method} {c : Code} {H : Heap} {locs : List Loc} {cells slots : Nat} {Q : State → Prop}
variable {cc : ByteArray} {pc : Nat} {ls : Array Slot} {rest : List Value} {D : va_G} {cy : Nat → ClassId} {z : Nat} {H0 Hs : Heap} {ad : Nat → Nat → Nat} {N : tq_Nn} {T T1 : tq_St}
/-- a field of any object: the store behind it is the caller's to name -/
theorem tq_putG (hexec : p.tables.exec = Jvm.exec) (hb : c.code = cc) {own ref C : String} {Tb : u_T} {nf ci index : Nat} {Ts : List Cond} (hts : ∀ w ∈ Ts, w.before args s = true) (hin : ∀ w ∈ u_ws C Tb nf, w ∈ Ts) (ty0 : Nat → FieldType) (hty : ∀ k, k < nf → parseFieldDescriptor (Tb k).2.2.1 = some (ty0 k)) (hnm : ∀ a, a < nf → ∀ b, b < nf → a ≠ b → (Tb a).2.1 ≠ (Tb b).2.1) (hown : s.vm.findClass own = some m.cls) (hK : va_K D vwCl (tq_tys cy) s) (hW : tq_wd D cy z H0 ad N T H) (hS0 : va_S (fun q => z ≤ q) Hs H locs) {k i : Nat} {fs : List Value} (he : tq_mk cy ad N k i (T k i) = some (.inr (ci, fs))) (hc : vwCl[ci]? = some (C, Tb, nf)) (t : Nat) (ht : t < nf) (hlink : (Cond.fieldLink own index ref (Tb t).2.1 (Tb t).2.2.1).before args s = true) (hsame : ∀ x, s.fieldFound? (Tb t).1 (Tb t).2.1 (Tb t).2.2.1 = some x → s.fieldFound? ref (Tb t).2.1 (Tb t).2.2.1 = some x) (hfin : (Tb t).2.2.2 = false) {v : Value} (hn : narrow (ty0 t) v = v) (hfit : fits (ty0 t) v = true) (hlen : t < fs.length) (hT : ∀ k' i' : Nat, ¬ (k' = k ∧ i' = i) → T1 k' i' = T k' i') (he2 : tq_mk cy ad N k i (T1 k i) = some (.inr (ci, fs.set t v))) (hdg : decode cc pc = .ok (.putfield index, 3))
    (kk : ∀ (H1 : Heap) (locs1 : List Loc), tq_wd D cy z H0 ad N T1 H1 → va_S (fun q => z ≤ q) Hs H1 locs1 → W p l e R s m args below meth c H1 locs1 cells slots Q (F0 m (pc + 3) ls rest)) : W p l e R s m args below meth c H locs cells slots Q (F0 m pc ls (v :: .ref (ad k i) :: rest)) := by
  have hap := va_apart (own := own) hts hin ty0 hty hnm hK hc
  obtain ⟨r, h1, cell, q1, q2, q3, q4⟩ := hW.1 k i _ he
  have hr : r = (C, Tb, nf) := Option.some.inj (h1.symm.trans hc)
  subst hr
  obtain ⟨hSl, hfc, kC, hkC, hkind⟩ := hK.1 ci _ hc
  obtain ⟨cf, kf, fi, f, hi, hsl⟩ := hSl t ht
  have hlay := hts _ (hin _ (u_in_lay ht))
  unfold u_lay at hlay
  rw [if_neg (by rw [hfin]; decide)] at hlay
  have hst := (u_facts hfc hkC (u_lays hts hin ht) hi).1
  have h6 := u_store hfc hkC hkind hlay hi (hty t ht) hn hfit
  refine W.putK hexec hb (f := f) ⟨hown, hlink, ⟨_, _, _, hsame _ hi⟩, hst⟩ (by rw [q2]; exact h6) q1 q3 (by rw [hsl]; exact k2_hasslot (q4 t ht)) rfl rfl hdg fun H' e1 e2 e3 => ?_
  rw [hsl] at e1 ⊢
  refine kk H' _ (hW.set he he2 hT ?_ e3 e2) (hS0.put e2 e3 (hW.2.2.1 k i _ he))
  exact ⟨_, hc, t_OB.to (V := updV (vp_V fs) t v) ⟨_, e1, q2, q3, t_set q4 hap ht v⟩ (fun j _ => vp_updV_set hlen v j)⟩
/-- an item of a row of references becomes null -/
theorem tq_aastN (hexec : p.tables.exec = Jvm.exec) (hb : c.code = cc) (hK : va_K D vwCl (tq_tys cy) s) (hW : tq_wd D cy z H0 ad N T H) (hS0 : va_S (fun q => z ≤ q) Hs H locs) {k i n : Nat} {cA : ClassId} {f : Nat → Option Nat} (he : tq_mk cy ad N k i (T k i) = some (.inl (cA, n, .inr (.inr (.inr (.inr f)))))) (t0 : Nat) {C : String} (ht : (tq_tys cy)[t0]? = some (cA, .object C)) {j : Int32} (hin : vp_in j n) (hT : ∀ k' i' : Nat, ¬ (k' = k ∧ i' = i) → T1 k' i' = T k' i') (he2 : tq_mk cy ad N k i (T1 k i) = some (.inl (cA, n, .inr (.inr (.inr (.inr (va_up f j.toNatClampNeg none))))))) (hdg : decode cc pc = .ok (.aastore, 1))
    (kk : ∀ (H1 : Heap) (locs1 : List Loc), tq_wd D cy z H0 ad N T1 H1 → va_S (fun q => z ≤ q) Hs H1 locs1 → W p l e R s m args below meth c H1 locs1 cells slots Q (F0 m (pc + 1) ls rest)) : W p l e R s m args below meth c H locs cells slots Q (F0 m pc ls (.null :: .int j :: .ref (ad k i) :: rest)) := by
  refine va_WaastN (C := C) hexec hb (hW.1 k i _ he) ((hK.2 t0 _ ht).1 n (fun j => va_rf (f j))) (fun h => by cases h) (by show ¬ (j < 0 ∨ (arrV _ _ _).slots.size ≤ _); rw [arrV_size]; exact hin) rfl rfl hdg fun H1 e1 z1 oq => ?_
  refine kk H1 _ (hW.set he he2 hT ?_ oq z1) (hS0.put z1 oq (hW.2.2.1 k i _ he))
  show H1[ad k i]? = some (vp_cell _ _)
  rw [e1]
  rw [vp_cell_q, vp_cell_q, arrV_store]
  congr 2
  funext q
  by_cases hq : q = j.toNatClampNeg
  · subst hq
    simp [updV, va_up, va_rf]
  · simp [updV, va_up, hq]
/-- an item of a row of references becomes an object of the world -/
theorem tq_aastO (hexec : p.tables.exec = Jvm.exec) (hb : c.code = cc) (hK : va_K D vwCl (tq_tys cy) s) (hW : tq_wd D cy z H0 ad N T H) (hS0 : va_S (fun q => z ≤ q) Hs H locs) {k i n : Nat} {cA : ClassId} {f : Nat → Option Nat} (he : tq_mk cy ad N k i (T k i) = some (.inl (cA, n, .inr (.inr (.inr (.inr f)))))) (t0 : Nat) {E : String} (ht : (tq_tys cy)[t0]? = some (cA, .object E)) {kv iv ci : Nat} {r : vw_C} {vs : List Value} (hv : tq_mk cy ad N kv iv (T kv iv) = some (.inr (ci, vs))) (hc : vwCl[ci]? = some r) (hca : va_Nw (.castable r.1 E) s) {j : Int32} (hin : vp_in j n) (hT : ∀ k' i' : Nat, ¬ (k' = k ∧ i' = i) → T1 k' i' = T k' i') (he2 : tq_mk cy ad N k i (T1 k i) = some (.inl (cA, n, .inr (.inr (.inr (.inr (va_up f j.toNatClampNeg (some (ad kv iv)))))))))
    (hdg : decode cc pc = .ok (.aastore, 1))
    (kk : ∀ (H1 : Heap) (locs1 : List Loc), tq_wd D cy z H0 ad N T1 H1 → va_S (fun q => z ≤ q) Hs H1 locs1 → W p l e R s m args below meth c H1 locs1 cells slots Q (F0 m (pc + 1) ls rest)) : W p l e R s m args below meth c H locs cells slots Q (F0 m pc ls (.ref (ad kv iv) :: .int j :: .ref (ad k i) :: rest)) := by
  have hlt : j.toNatClampNeg < n := Nat.not_le.mp fun q => hin (Or.inr q)
  have h0 : ¬ j < 0 := fun q => hin (Or.inl q)
  obtain ⟨r', hr', cellV, g1, g2, g3, -⟩ := hW.1 kv iv _ hv
  have hcls := (hK.1 ci r hc).2
  obtain ⟨kA, comp, k1, k2, k3, -⟩ := (hK.2 t0 _ ht).2
  obtain ⟨kE, hkE, -⟩ := Vm.findClass_spec k3
  obtain ⟨c0, t1, f1, f2, f3⟩ := Cond.castable_spec (va_Nw.use (A := args) rfl hca)
  cases hcls.1.symm.trans f1
  cases k3.symm.trans f2
  obtain ⟨kC, hkC, -⟩ := hcls.2
  refine W.aast hexec hb (hW.1 k i _ he) (fun q h => by cases h) (fun h => by cases h) k1 k2 rfl hkE ⟨h0, by show _ < (arrV _ _ _).slots.size; rw [arrV_size]; exact hlt⟩ g1 (fun q h => by rw [g3] at h; cases h) (by rw [g2]; exact hkC) (by rw [g2]; exact f3) rfl rfl hdg fun H1 e1 z1 oq => ?_
  refine kk H1 _ (hW.set he he2 hT ?_ oq z1) (hS0.put z1 oq (hW.2.2.1 k i _ he))
  show H1[ad k i]? = some (vp_cell _ _)
  rw [e1]
  rw [vp_cell_q, vp_cell_q, arrV_store]
  congr 2
  funext q
  by_cases hq : q = j.toNatClampNeg
  · subst hq
    simp [updV, va_up, va_rf]
  · simp [updV, va_up, hq]
end TQX
