/-- data of a list, n items copied; its length stays -/
def tq_cpR (f g : Nat → Int32) (sp dp n : Nat) : Nat → Int32 := fun q => if q = 0 then g 0 else va_cpy (fun j => f (j + 1)) (fun j => g (j + 1)) sp dp n (q - 1)
theorem tq_cpR_0 (f g : Nat → Int32) (sp dp n : Nat) : tq_cpR f g sp dp n 0 = g 0 := rfl
theorem tq_cpR_1 (f g : Nat → Int32) (sp dp n j : Nat) : tq_cpR f g sp dp n (j + 1) = va_cpy (fun j => f (j + 1)) (fun j => g (j + 1)) sp dp n j := rfl
theorem tq_cpR_nul {ad : Nat → Nat → Nat} {ek : Nat} (f g : Nat → Int32) (sp dp n : Nat) : (fun j => tq_nul ad ek (tq_cpR f g sp dp n (j + 1))) = va_cpy (fun j => tq_nul ad ek (f (j + 1))) (fun j => tq_nul ad ek (g (j + 1))) sp dp n := by
  funext j
  rw [tq_cpR_1]
  simp only [va_cpy]
  split <;> rfl
section TQQ
variable {p : Program} {l : Launch} {e : Env} {R : Room} {s : State} {m : MethodId} {args : Array Value} {below : List Frame} {meth : Method} {c : Code} {H : Heap} {locs : List Loc} {cells slots : Nat} {Q : State → Prop}
variable {cc : ByteArray} {pc : Nat} {ls : Array Slot} {rest : List Value} {D : va_G} {cy : Nat → ClassId} {z : Nat} {H0 Hs : Heap} {ad : Nat → Nat → Nat} {N : tq_Nn} {S M : tq_St}
theorem tq_copyR (hexec : p.tables.exec = Jvm.exec) (hb : c.code = cc) (hml : c.maxLocals = ls.size) {own : String} {index : Nat} (hown : s.vm.findClass own = some m.cls) (hlink : (Cond.methodLink own index arraycopyName).before args s = true) (hnat : (Cond.native arraycopyName).before args s = true) (hstat : (Cond.static arraycopyName).before args s = true) (hini : (Cond.initialized "java/lang/System").before args s = true)
    (hK : va_K D vwCl (tq_tys cy) s) (hW : tq_wd D cy z H0 ad N (tq_mix S M) H) (hS : va_S (fun q => z ≤ q) Hs H locs) {kd ek d0 d1 : Nat} (hk : kd < 64) (hek : ek < 64) (hmk : ∀ (d : Nat) (f : Nat → Int32), N kd d = 1 → tq_mk cy ad N kd d f = some (.inl (cy 5, (f 0).toNatClampNeg, .inr (.inr (.inr (.inr (fun j => tq_nul ad ek (f (j + 1))))))))) (hn0 : N kd d0 = 1) (hn1 : N kd d1 = 1)
    {sp dp n : Int32} (h1 : ¬ sp < 0) (h2 : ¬ dp < 0) (h3 : ¬ n < 0) (h4 : sp.toNatClampNeg + n.toNatClampNeg ≤ (S kd d0 0).toNatClampNeg) (h5 : dp.toNatClampNeg + n.toNatClampNeg ≤ (S kd d1 0).toNatClampNeg)
    (hel : ∀ i : Nat, i < n.toNatClampNeg → ¬ S kd d0 (sp.toNatClampNeg + i + 1) < 1 → ∃ (ci : Nat) (vs : List Value) (r : vw_C), tq_mk cy ad N ek ((S kd d0 (sp.toNatClampNeg + i + 1)).toNatClampNeg - 1) (S ek ((S kd d0 (sp.toNatClampNeg + i + 1)).toNatClampNeg - 1)) = some (.inr (ci, vs)) ∧ vwCl[ci]? = some r ∧ va_Nw (.castable r.1 "java/lang/Object") s)
    (hframes : 1 ≤ R.frames) (hlocals : (rest.map fun v => v.category).sum + (nativeFrameWords "java/lang/System" "arraycopy" 5 + 11) ≤ R.locals) (hdg : decode cc pc = .ok (.invokestatic index, 3))
    (kk : ∀ (H1 : Heap) (locs1 : List Loc), tq_wd D cy z H0 ad N (tq_mix (tq_cp S kd d1 (tq_cpR (S kd d0) (S kd d1) sp.toNatClampNeg dp.toNatClampNeg n.toNatClampNeg)) M) H1 → va_S (fun q => z ≤ q) Hs H1 locs1 → W p l e R s m args below meth c H1 locs1 cells slots Q (F0 m (pc + 3) ls rest)) : W p l e R s m args below meth c H locs cells slots Q (F0 m pc ls (.int n :: .int dp :: .ref (ad kd d1) :: .int sp :: .ref (ad kd d0) :: rest)) := by
  have nn : ∀ z : Int32, ¬ z < 0 → z.toInt = (z.toNatClampNeg : Int) := by
    intro z hz
    have hz0 : (0 : Int) ≤ z.toInt := by
      have := Int32.not_lt.mp hz
      simpa using Int32.le_iff_toInt_le.mp this
    show z.toInt = ((z.toInt.toNat : Nat) : Int)
    omega
  intro T0 hT X
  have m0 : tq_mk cy ad N kd d0 (tq_mix S M kd d0) = some (.inl (cy 5, (S kd d0 0).toNatClampNeg, .inr (.inr (.inr (.inr (fun j => tq_nul ad ek (S kd d0 (j + 1)))))))) := by rw [tq_mixC S M hk]; exact hmk d0 _ hn0
  have m1 : tq_mk cy ad N kd d1 (tq_mix S M kd d1) = some (.inl (cy 5, (S kd d1 0).toNatClampNeg, .inr (.inr (.inr (.inr (fun j => tq_nul ad ek (S kd d1 (j + 1)))))))) := by rw [tq_mixC S M hk]; exact hmk d1 _ hn1
  obtain ⟨f, hf⟩ : ∃ f, f = (fun j => tq_nul ad ek (S kd d0 (j + 1))) := ⟨_, rfl⟩
  obtain ⟨g, hg⟩ : ∃ g, g = (fun j => tq_nul ad ek (S kd d1 (j + 1))) := ⟨_, rfl⟩
  obtain ⟨n0, hn0'⟩ : ∃ n0, n0 = (S kd d0 0).toNatClampNeg := ⟨_, rfl⟩
  obtain ⟨n1, hn1'⟩ : ∃ n1, n1 = (S kd d1 0).toNatClampNeg := ⟨_, rfl⟩
  rw [← hf, ← hn0'] at m0
  rw [← hg, ← hn1'] at m1
  rw [← hn0'] at h4
  rw [← hn1'] at h5
  have hc0 : H[ad kd d0]? = some (vp_cell (cy 5) (n0, .inr (.inr (.inr (.inr f))))) := hW.1 kd d0 _ m0
  have hc1 : H[ad kd d1]? = some (vp_cell (cy 5) (n1, .inr (.inr (.inr (.inr g))))) := hW.1 kd d1 _ m1
  obtain ⟨-, k0', hk0, cm0, hkk0⟩ := (hK.2 5 _ rfl).1 n0 (fun j => va_rf (f j))
  obtain ⟨-, k1', hk1, cm1, hkk1⟩ := (hK.2 5 _ rfl).1 n1 (fun j => va_rf (g j))
  obtain ⟨vm', X', step⟩ := X.arraycopy hexec hown hlink hnat hstat hini (src := ad kd d0) (dst := ad kd d1) (cs := vp_cell (cy 5) (n0, .inr (.inr (.inr (.inr f))))) (cd := vp_cell (cy 5) (n1, .inr (.inr (.inr (.inr g))))) (srcPos := sp) (destPos := dp) (n := n) (by rw [hT]; exact hc0) (by rw [hT]; exact hc1)
    (fun _ h => by cases h) (fun _ h => by cases h) (fun h => by cases h) (fun h => by cases h) hk0 hk1 hkk0 hkk1 rfl h1 h2 h3
    (by rw [nn sp h1, nn n h3]; show ¬ _ > ((arrV (cy 5) n0 (fun j => va_rf (f j))).slots.size : Int); rw [arrV_size]; omega)
    (by rw [nn dp h2, nn n h3]; show ¬ _ > ((arrV (cy 5) n1 (fun j => va_rf (g j))).slots.size : Int); rw [arrV_size]; omega)
    (fun vm₁ hal i hi => by
      have e : (vp_cell (cy 5) (n0, .inr (.inr (.inr (.inr f))))).slots.getD (sp.toNatClampNeg + i) .null = va_rf (f (sp.toNatClampNeg + i)) := by
        show (arrV (cy 5) n0 (fun j => va_rf (f j))).slots.getD _ _ = _
        rw [Array.getD_eq_getD_getElem?, arrV_read _ _ (by omega)]
        rfl
      rw [e]
      by_cases hx1 : S kd d0 (sp.toNatClampNeg + i + 1) < 1
      · have hy : f (sp.toNatClampNeg + i) = none := by rw [hf]; simp only [tq_nul, if_pos hx1]
        rw [hy]
        exact ⟨rfl, trivial⟩
      · have hy : f (sp.toNatClampNeg + i) = some (ad ek ((S kd d0 (sp.toNatClampNeg + i + 1)).toNatClampNeg - 1)) := by rw [hf]; simp only [tq_nul, if_neg hx1]
        rw [hy]
        obtain ⟨ci, vs, r, e1, e2, e3⟩ := hel i hi hx1
        obtain ⟨r', hr', cellV, g1, g2, g3, -⟩ := hW.1 ek _ _ (by rw [tq_mixC S M hek]; exact e1)
        have hcls := (hK.1 ci r e2).2
        obtain ⟨kA, comp, r1, r2, r3, -⟩ := (hK.2 5 _ rfl).2
        cases hk1.symm.trans r1
        cases hkk1.symm.trans r2
        obtain ⟨kE, hkE, -⟩ := Vm.findClass_spec r3
        obtain ⟨c0, t1, f1, f2, f3⟩ := Cond.castable_spec (va_Nw.use (A := args) rfl e3)
        cases hcls.1.symm.trans f1
        cases r3.symm.trans f2
        obtain ⟨kC, hkC, -⟩ := hcls.2
        obtain ⟨kC', hkC', -⟩ := hal.2.2 _ _ hkC
        obtain ⟨kE', hkE', -⟩ := hal.2.2 _ _ hkE
        refine ⟨rfl, cellV, (show T0.heap[_]? = some cellV by rw [hT]; exact g1), (fun q h => by rw [h] at g3; cases g3), ⟨kC', by rw [g2]; exact hkC'⟩, ?_, ?_⟩
        · exact ⟨kE', hkE'⟩
        · show vm₁.assignable _ _ = true
          rw [hal.assignable, g2]
          exact f3)
    (g := F0 m pc ls (.int n :: .int dp :: .ref (ad kd d1) :: .int sp :: .ref (ad kd d0) :: rest)) rfl (by rw [hml]) (rest := rest) rfl (by rw [hb]; exact hdg) hframes (by show 2 * 0 + _ + _ ≤ _; omega)
  have e1 : copied (vp_cell (cy 5) (n0, .inr (.inr (.inr (.inr f))))) (vp_cell (cy 5) (n1, .inr (.inr (.inr (.inr g))))) sp dp n = vp_cell (cy 5) (n1, .inr (.inr (.inr (.inr (va_cpy f g sp.toNatClampNeg dp.toNatClampNeg n.toNatClampNeg))))) := by
    rw [vp_cell_q, vp_cell_q, vp_cell_q]
    exact va_copied (fun z => va_rf z) (cy 5) (cy 5) f g h4
  rw [e1] at X' step
  have hl : ad kd d1 < H.size := (Array.getElem?_eq_some_iff.mp hc1).1
  generalize hcell : vp_cell (cy 5) (n1, .inr (.inr (.inr (.inr (va_cpy f g sp.toNatClampNeg dp.toNatClampNeg n.toNatClampNeg))))) = nc at X' step
  have hheap : ((T0.setVm vm').setCell (ad kd d1) nc).heap = H.setIfInBounds (ad kd d1) nc := by rw [← hT]; rfl
  have oq : ∀ q : Nat, q ≠ ad kd d1 → (H.setIfInBounds (ad kd d1) nc)[q]? = H[q]? := fun q hq => by simp [Array.getElem?_setIfInBounds, Ne.symm hq]
  have hz : z ≤ ad kd d1 := hW.2.2.1 kd d1 _ m1
  have hat : va_at D vwCl (ad kd d1, .inl (cy 5, n1, .inr (.inr (.inr (.inr (va_cpy f g sp.toNatClampNeg dp.toNatClampNeg n.toNatClampNeg)))))) (H.setIfInBounds (ad kd d1) nc) := by
    show (H.setIfInBounds (ad kd d1) nc)[ad kd d1]? = some (vp_cell (cy 5) (n1, .inr (.inr (.inr (.inr (va_cpy f g sp.toNatClampNeg dp.toNatClampNeg n.toNatClampNeg))))))
    rw [hcell]
    simp [Array.getElem?_setIfInBounds, hl]
  have m2 : tq_mk cy ad N kd d1 (tq_mix (tq_cp S kd d1 (tq_cpR (S kd d0) (S kd d1) sp.toNatClampNeg dp.toNatClampNeg n.toNatClampNeg)) M kd d1) = some (.inl (cy 5, n1, .inr (.inr (.inr (.inr (va_cpy f g sp.toNatClampNeg dp.toNatClampNeg n.toNatClampNeg)))))) := by
    rw [tq_mixC _ _ hk, tq_cp_self, hmk d1 _ hn1, tq_cpR_nul, tq_cpR_0, hf, hg, hn1']
  have hw2 := hW.set (T' := tq_mix (tq_cp S kd d1 (tq_cpR (S kd d0) (S kd d1) sp.toNatClampNeg dp.toNatClampNeg n.toNatClampNeg)) M) m1 m2 (fun k' i' h9 => by
    by_cases hk9 : k' < 64
    · rw [tq_mixC _ _ hk9, tq_mixC _ _ hk9, tq_cp_out h9]
    · rw [tq_mixM _ _ hk9, tq_mixM _ _ hk9]) hat oq (by simp)
  obtain ⟨t, a1, b1⟩ := kk _ _ hw2 ⟨by simp; exact hS.1, fun q g1 g2 => by
      rw [oq q (fun e => g2 (by rw [e]; exact hz))]
      exact hS.2.1 q g1 g2, fun q hq => by
      rcases List.mem_append.mp hq with h | h
      · exact hS.2.2 q h
      · obtain ⟨w, -, hw⟩ := List.mem_map.mp h
        rw [← hw]
        exact hz⟩ _ hheap X'
  exact ⟨t, step t a1, b1⟩
end TQQ
