section TQN
variable {p : Program} {l : Launch} {e : Env} {s : State} {m : MethodId} {args : Array Value} {below : List Frame} {meth : Method} {c : Code} {H : Heap} {locs : List Loc} {Q : State → Prop}
variable {cc : ByteArray} {pc fr0 lo0 : Nat} {ls : Array Slot} {rest : List Value} {D : va_G} {cy : Nat → ClassId} {z A0 : Nat} {H0 : Heap} {ad : Nat → Nat → Nat} {N : tq_Nn} {S M : tq_St}
set_option maxHeartbeats 1000000 in
theorem tqw_newa (hx : p.tables.exec = Jvm.exec) (hb : c.code = cc) (harr : (Cond.arrayClass .int).before args s = true) (hK : va_K D vwCl (tq_tys cy) s) (hW : tq_wd D cy z H0 ad N (tq_mix S M) H) (hS : va_S (fun q => z ≤ q) s.heap H locs) (hN : tq_nb z A0 s N) {k i n a : Nat} (hk : k < 64) (hk0 : k ≠ 0) (hmk : ∀ (N : tq_Nn) (f : Nat → Int32), N k i = 1 → tq_mk cy ad N k i f = some (.inl (cy 0, n, .inl f))) (ha : ad k i = H.size) (han : a = H.size + 1 - z) (ha1 : a ≤ tq_CX) (hs1 : N 0 1 + n ≤ tq_CY) {v : Int32} (hv0 : ¬ v < 0) (hv : v.toNatClampNeg = n) (hn : n * 4 ≤ 536870912) (hdg : decode cc pc = .ok (.newarray .int, 2))
    (kk : ∀ (H1 : Heap), H1.size = H.size + 1 → tq_nb z A0 s (tq_na N a k i 1 n) → tq_wd D cy z H0 ad (tq_na N a k i 1 n) (tq_mix (tq_cp S k i (fun _ => 0)) M) H1 → va_S (fun q => z ≤ q) s.heap H1 locs → tq_Wb p l e fr0 lo0 s m args below meth c z A0 (tq_na N a k i 1 n) H1 locs Q (F0 m (pc + 2) ls (.ref (ad k i) :: rest))) : tq_Wb p l e fr0 lo0 s m args below meth c z A0 N H locs Q (F0 m pc ls (.int v :: rest)) := by
  obtain ⟨hs0, hs9, hx0, hx1⟩ := hN
  have hzH := hW.2.2.2.1
  refine tq_facts2 (fun f1 f2 f3 f4 => ?_)
  refine tq_tight (c1 := H.size - s.heap.size) (n1 := tq_all H - tq_all s.heap) (by omega) (by omega) ?_
  refine va_newaK (atype := .int) hx hb harr rfl hdg rfl hv0 hv (by rw [show componentBytes (newarray.typeOf ArrayType.int) = 4 from rfl]; exact hn) (by show _ ≤ z + tq_CX - s.heap.size; omega) (by show _ ≤ A0 + tq_CY - tq_all s.heap; omega) rfl fun H1 cA e1 z1 o1 hAr hNm => ?_
  have hcA : cA = cy 0 := by
    have h1 : s.vm.findClass ("[" ++ FieldType.int.toString) = some (cy 0) := (hK.2 0 _ rfl).2
    exact Option.some.inj (hNm.symm.trans h1)
  subst hcA
  have hS1 : va_S (fun q => z ≤ q) s.heap H1 locs := ⟨by omega, fun q h1 h2 => (o1 q (by omega)).trans (hS.2.1 q h1 h2), hS.2.2⟩
  have hnb : tq_nb z A0 s (tq_na N a k i 1 n) := ⟨by rw [tq_na00]; omega, by rw [tq_na01]; omega, by rw [tq_na00]; exact ha1, by rw [tq_na01]; exact hs1⟩
  have hw1 : tq_wd D cy z H0 ad (tq_na N a k i 1 n) (tq_mix (tq_cp S k i (fun _ => 0)) M) H1 := by
    refine hW.add (k := k) (i := i) (e := .inl (cy 0, n, .inl (fun _ => 0))) z1 o1 ha ?_ ?_ (fun k' i' h9 => tq_mixcp k' i' h9)
    · rw [tq_mixC _ _ hk, tq_cp_self]
      exact hmk _ _ (tq_na_self _ _ _ _ _ _ hk0)
    · show H1[ad k i]? = some (vp_cell _ _)
      rw [ha]
      exact e1
  refine tq_facts2 (fun g1 g2 g3 g4 => ?_)
  rw [← ha]
  refine tq_tight (c1 := z + (tq_na N a k i 1 n) 0 0 - s.heap.size) (n1 := A0 + (tq_na N a k i 1 n) 0 1 - tq_all s.heap) (by rw [tq_na00]; omega) (by rw [tq_na01]; omega) ?_
  exact kk H1 z1 hnb hw1 hS1
set_option maxHeartbeats 1000000 in
theorem tqw_new (hx : p.tables.exec = Jvm.exec) (hb : c.code = cc) {own C : String} {Tb : u_T} {nf ci index t : Nat} {Ts : List Cond} (hts : ∀ w ∈ Ts, w.before args s = true) (hin : ∀ w ∈ u_ws C Tb nf, w ∈ Ts) (ty : Nat → FieldType) (hty : ∀ k, k < nf → parseFieldDescriptor (Tb k).2.2.1 = some (ty k)) (hown : s.vm.findClass own = some m.cls) (hcl : (Cond.classLink own index C).before args s = true) (hinst : (Cond.instantiable C nf).before args s = true) (hini : (Cond.initialized C).before args s = true) (hK : va_K D vwCl (tq_tys cy) s) (hG : tq_G z ad s) (hW : tq_wd D cy z H0 ad N (tq_mix S M) H) (hS : va_S (fun q => z ≤ q) s.heap H locs) (hN : tq_nb z A0 s N) (hc : vwCl[ci]? = some (C, Tb, nf)) {fs : List Value} (hfs : ∀ j, j < nf → defaultValue (ty j) = vp_V fs j) (hpd : ∀ i : Nat, tq_pend ad t i (fun _ => 0) = some (.inr (ci, fs))) (h0 : N 0 0 + 1 ≤ tq_CX) (h1 : N 0 1 + nf ≤ tq_CY) (hdg : decode cc pc = .ok (.new index, 3))
    (kk : ∀ (i : Nat) (H1 : Heap), H1.size = z + i + 1 → ¬ i < 1 → i ≤ N 0 0 → tq_fr N i → tq_nb z A0 s (tq_na N (i + 1) 1 i t nf) → tq_wd D cy z H0 ad (tq_na N (i + 1) 1 i t nf) (tq_mix (tq_cp S 1 i (fun _ => 0)) M) H1 → va_S (fun q => z ≤ q) s.heap H1 locs → tq_Wb p l e fr0 lo0 s m args below meth c z A0 (tq_na N (i + 1) 1 i t nf) H1 locs Q (F0 m (pc + 3) ls (.ref (ad 1 i) :: rest))) : tq_Wb p l e fr0 lo0 s m args below meth c z A0 N H locs Q (F0 m pc ls rest) := by
  obtain ⟨hs0, hs9, hx0, hx1⟩ := hN
  have hpos := hW.pos
  have hadr := hG.adr
  refine tq_facts2 (fun f1 f2 f3 f4 => ?_)
  refine tq_tight (c1 := H.size - s.heap.size) (n1 := tq_all H - tq_all s.heap) (by omega) (by omega) ?_
  obtain ⟨i, hi⟩ : ∃ i, H.size = z + i := ⟨H.size - z, by omega⟩
  have hi1 : ¬ i < 1 := by omega
  have ha : ad 1 i = H.size := by rw [(hadr.2.2.2.2.2.2 i (by omega)).1, hi]
  have hKn := hK.1 ci _ hc
  refine W.newcK hx hb hown hcl hinst hini rfl hdg (by show _ ≤ z + tq_CX - s.heap.size; omega) (by show _ ≤ A0 + tq_CY - tq_all s.heap; omega) hKn.2.1 rfl fun H1 kC hkC e1 z1 o1 => ?_
  have hS1 : va_S (fun q => z ≤ q) s.heap H1 locs := ⟨by omega, fun q h1 h2 => (o1 q (by omega)).trans (hS.2.1 q h1 h2), hS.2.2⟩
  have hnb : tq_nb z A0 s (tq_na N (i + 1) 1 i t nf) := ⟨by rw [tq_na00]; omega, by rw [tq_na01]; omega, by rw [tq_na00]; omega, by rw [tq_na01]; omega⟩
  have hw1 : tq_wd D cy z H0 ad (tq_na N (i + 1) 1 i t nf) (tq_mix (tq_cp S 1 i (fun _ => 0)) M) H1 := by
    refine hW.add (k := 1) (i := i) (e := .inr (ci, fs)) z1 o1 ha ?_ ?_ (fun k' i' h9 => tq_mixcp k' i' h9)
    · rw [tq_mixC _ _ (by decide), tq_cp_self, tq_mk_p hi1, tq_na_self _ _ _ _ _ _ (by decide)]
      exact hpd i
    · rw [ha]
      exact ⟨_, hc, (u_born ty hts hin hKn hkC e1 hty).to hfs⟩
  refine tq_facts2 (fun g1 g2 g3 g4 => ?_)
  show W _ _ _ _ _ _ _ _ _ _ _ _ _ _ _ (F0 m (pc + 3) ls (.ref H.size :: rest))
  rw [← ha]
  refine tq_tight (c1 := z + (tq_na N (i + 1) 1 i t nf) 0 0 - s.heap.size) (n1 := A0 + (tq_na N (i + 1) 1 i t nf) 0 1 - tq_all s.heap) (by rw [tq_na00]; omega) (by rw [tq_na01]; omega) ?_
  exact kk i H1 (by omega) hi1 (by omega) (hW.fr hadr (by omega)) hnb hw1 hS1
end TQN
