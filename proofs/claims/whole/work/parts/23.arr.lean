/-- Integer.bitCount, as its code says -/
def tq_bc (p0 : Int32) : Int32 := ((((((((p0 - (((p0.toUInt32 >>> ((1 : Int32).toUInt32 &&& Int32.toUInt32 31)).toInt32) &&& ((1431655765)))) &&& ((858993459))) + ((((p0 - (((p0.toUInt32 >>> ((1 : Int32).toUInt32 &&& Int32.toUInt32 31)).toInt32) &&& ((1431655765)))).toUInt32 >>> ((2 : Int32).toUInt32 &&& Int32.toUInt32 31)).toInt32) &&& ((858993459)))) + (((((p0 - (((p0.toUInt32 >>> ((1 : Int32).toUInt32 &&& Int32.toUInt32 31)).toInt32) &&& ((1431655765)))) &&& ((858993459))) + ((((p0 - (((p0.toUInt32 >>> ((1 : Int32).toUInt32 &&& Int32.toUInt32 31)).toInt32) &&& ((1431655765)))).toUInt32 >>> ((2 : Int32).toUInt32 &&& Int32.toUInt32 31)).toInt32) &&& ((858993459)))).toUInt32 >>> ((4 : Int32).toUInt32 &&& Int32.toUInt32 31)).toInt32)) &&& ((252645135))) + (((((((p0 - (((p0.toUInt32 >>> ((1 : Int32).toUInt32 &&& Int32.toUInt32 31)).toInt32) &&& ((1431655765)))) &&& ((858993459))) + ((((p0 - (((p0.toUInt32 >>> ((1 : Int32).toUInt32 &&& Int32.toUInt32 31)).toInt32) &&& ((1431655765)))).toUInt32 >>> ((2 : Int32).toUInt32 &&& Int32.toUInt32 31)).toInt32) &&& ((858993459)))) + (((((p0 - (((p0.toUInt32 >>> ((1 : Int32).toUInt32 &&& Int32.toUInt32 31)).toInt32) &&& ((1431655765)))) &&& ((858993459))) + ((((p0 - (((p0.toUInt32 >>> ((1 : Int32).toUInt32 &&& Int32.toUInt32 31)).toInt32) &&& ((1431655765)))).toUInt32 >>> ((2 : Int32).toUInt32 &&& Int32.toUInt32 31)).toInt32) &&& ((858993459)))).toUInt32 >>> ((4 : Int32).toUInt32 &&& Int32.toUInt32 31)).toInt32)) &&& ((252645135))).toUInt32 >>> ((8 : Int32).toUInt32 &&& Int32.toUInt32 31)).toInt32)) + ((((((((p0 - (((p0.toUInt32 >>> ((1 : Int32).toUInt32 &&& Int32.toUInt32 31)).toInt32) &&& ((1431655765)))) &&& ((858993459))) + ((((p0 - (((p0.toUInt32 >>> ((1 : Int32).toUInt32 &&& Int32.toUInt32 31)).toInt32) &&& ((1431655765)))).toUInt32 >>> ((2 : Int32).toUInt32 &&& Int32.toUInt32 31)).toInt32) &&& ((858993459)))) + (((((p0 - (((p0.toUInt32 >>> ((1 : Int32).toUInt32 &&& Int32.toUInt32 31)).toInt32) &&& ((1431655765)))) &&& ((858993459))) + ((((p0 - (((p0.toUInt32 >>> ((1 : Int32).toUInt32 &&& Int32.toUInt32 31)).toInt32) &&& ((1431655765)))).toUInt32 >>> ((2 : Int32).toUInt32 &&& Int32.toUInt32 31)).toInt32) &&& ((858993459)))).toUInt32 >>> ((4 : Int32).toUInt32 &&& Int32.toUInt32 31)).toInt32)) &&& ((252645135))) + (((((((p0 - (((p0.toUInt32 >>> ((1 : Int32).toUInt32 &&& Int32.toUInt32 31)).toInt32) &&& ((1431655765)))) &&& ((858993459))) + ((((p0 - (((p0.toUInt32 >>> ((1 : Int32).toUInt32 &&& Int32.toUInt32 31)).toInt32) &&& ((1431655765)))).toUInt32 >>> ((2 : Int32).toUInt32 &&& Int32.toUInt32 31)).toInt32) &&& ((858993459)))) + (((((p0 - (((p0.toUInt32 >>> ((1 : Int32).toUInt32 &&& Int32.toUInt32 31)).toInt32) &&& ((1431655765)))) &&& ((858993459))) + ((((p0 - (((p0.toUInt32 >>> ((1 : Int32).toUInt32 &&& Int32.toUInt32 31)).toInt32) &&& ((1431655765)))).toUInt32 >>> ((2 : Int32).toUInt32 &&& Int32.toUInt32 31)).toInt32) &&& ((858993459)))).toUInt32 >>> ((4 : Int32).toUInt32 &&& Int32.toUInt32 31)).toInt32)) &&& ((252645135))).toUInt32 >>> ((8 : Int32).toUInt32 &&& Int32.toUInt32 31)).toInt32)).toUInt32 >>> ((16 : Int32).toUInt32 &&& Int32.toUInt32 31)).toInt32)) &&& 63)
theorem tq_goodO {y0 y : MethodName} {b0 b : ByteArray} {n0 n : Nat} {r0 r : Option FieldType} (h5 : Cond.code y b n r ∈ tq_W) : GoodIn (tq_ws y0 b0 n0 r0) (tq_ws y b n r) := by
  have hb : ∀ w ∈ tq_W, w ∈ tq_ws y0 b0 n0 r0 := fun w h => List.mem_cons_of_mem _ h
  intro w hw
  rcases List.mem_cons.mp hw with rfl | h
  · exact tq_gg hb h5
  · exact tq_gg hb h
theorem tq_goodU {y0 x y : MethodName} {b0 b : ByteArray} {n0 n index : Nat} {r0 r : Option FieldType} {own C owner : String} (h1 : Cond.methodLink own index x ∈ tq_W) (h2 : Cond.sameMethod x.cls owner x.name x.desc ∈ tq_W) (h3 : Cond.selects C x y ∈ tq_W) (h4 : Cond.instanceMethod y ∈ tq_W) (h5 : Cond.initialized y.cls ∈ tq_W) (h6 : Cond.code y b n r ∈ tq_W) : GoodIn (tq_ws y0 b0 n0 r0) (va_wsU own index C owner x y (tq_ws y b n r)) := by
  have hb : ∀ w ∈ tq_W, w ∈ tq_ws y0 b0 n0 r0 := fun w h => List.mem_cons_of_mem _ h
  intro w hw
  rcases List.mem_append.mp hw with h | h
  · simp only [List.mem_cons, List.not_mem_nil, or_false] at h
    rcases h with rfl | rfl | rfl | rfl | rfl
    · exact tq_gg hb h1
    · exact tq_gg hb h2
    · exact tq_gg hb h3
    · exact tq_gg hb h4
    · exact tq_gg hb h5
  · rcases List.mem_cons.mp h with rfl | h
    · exact tq_gg hb h6
    · exact tq_gg hb h
theorem tq_up_cp (S : tq_St) (k i j : Nat) (g : Nat → Int32) (v : Int32) : tq_up (tq_cp S k i g) k i j v = tq_cp S k i (upd g j v) := by
  funext k' i' j'
  by_cases h : k' = k ∧ i' = i
  · obtain ⟨rfl, rfl⟩ := h
    by_cases hj : j' = j <;> simp [tq_up, tq_cp, upd, hj]
  · simp only [tq_up, tq_cp]
    rw [if_neg (fun q => h ⟨q.1, q.2.1⟩), if_neg h, if_neg h]
theorem tq_cp_id (S : tq_St) (k i : Nat) : tq_cp S k i (S k i) = S := by
  funext k' i'
  by_cases h : k' = k ∧ i' = i
  · obtain ⟨rfl, rfl⟩ := h
    simp [tq_cp]
  · simp only [tq_cp]
    rw [if_neg h]
/-- the first n items v -/
def tq_fl (f : Nat → Int32) (n : Nat) (v : Int32) : Nat → Int32 := fun q => if q < n then v else f q
theorem tq_fl_0 (f : Nat → Int32) (v : Int32) : tq_fl f 0 v = f := by funext q; simp [tq_fl]
theorem tq_fl_1 (f : Nat → Int32) (n : Nat) (v : Int32) : upd (tq_fl f n v) n v = tq_fl f (n + 1) v := by
  funext q
  by_cases h : q = n
  · subst h; simp [tq_fl, upd]
  · by_cases h2 : q < n
    · simp [tq_fl, upd, h, h2, Nat.lt_succ_of_lt h2]
    · simp [tq_fl, upd, h, h2, show ¬ q < n + 1 by omega]
section
variable {p : Program} {l : Launch} {e : Env} {R : Room} {s : State} {m : MethodId} {args : Array Value} {below : List Frame} {meth : Method} {c : Code} {H : Heap} {locs : List Loc} {cells slots : Nat} {Q : State → Prop}
variable {cc : ByteArray} {pc nL n index maxL fr lo : Nat} {ls : Array Slot} {rest st0 As : List Value} {D : va_G} {cy : Nat → ClassId} {z : Nat} {H0 : Heap} {ad : Nat → Nat → Nat} {N : tq_Nn} {S M : tq_St} {Ts ws : List Cond} {own C host : String} {y : MethodName} {bytes : ByteArray} {ret : Option FieldType} {b : Nat}
theorem tqc_alen (hexec : p.tables.exec = Jvm.exec) (hb : c.code = cc) (hK : va_K D vwCl (tq_tys cy) s) (hW : tq_wd D cy z H0 ad N (tq_mix S M) H) {k i n : Nat} (hk : k < 64) (he : tq_mk cy ad N k i (S k i) = some (.inl (cy 0, n, .inl (S k i)))) (hdg : decode cc pc = .ok (.arraylength, 1))
    (kk : W p l e R s m args below meth c H locs cells slots Q (F0 m (pc + 1) ls (.int (nI n) :: rest))) : W p l e R s m args below meth c H locs cells slots Q (F0 m pc ls (.ref (ad k i) :: rest)) :=
  tq_alen hexec hb hK hW (x := (n, .inl (S k i))) (by rw [tq_mixC S M hk]; exact he) 0 rfl rfl hdg kk
/-- a nest mate's static method -/
theorem tqc_callSNi {post : tq_St → Int32 → Prop} (hM : tq_sI l y ws fr lo D cy z H0 ad N M S As post) (S0 : CallFix p m c cc nL s args Ts own) (cw : va_CN R s args own index y host bytes maxL ret ws (tq_rm fr lo) 0 0 n ∧ (Cond.static y).before args s = true ∧ True) (hK : va_K D vwCl (tq_tys cy) s) (hG : tq_G z ad s) (hW : tq_wd D cy z H0 ad N (tq_mix S M) H) (hS : va_S (fun q => z ≤ q) s.heap H locs) (hn : As.length = n) (hsize : ls.size = nL) (hst : st0 = As.reverse ++ rest) (hW8 : (rest.map fun v => v.category).sum ≤ 8) (hdg : decode cc pc = .ok (.invokestatic index, 3)) (hf : cells + 0 ≤ R.cells ∧ slots + 0 ≤ R.slots)
    (kk : ∀ (r : Int32) (S1 : tq_St) (H1 : Heap) (locs1 : List Loc), post S1 r → tq_wd D cy z H0 ad N (tq_mix S1 M) H1 → va_S (fun q => z ≤ q) s.heap H1 locs1 → W p l e R s m args below meth c H1 locs1 cells slots Q (F0 m (pc + 3) ls (.int r :: rest))) : W p l e R s m args below meth c H locs cells slots Q (F0 m pc ls st0) :=
  va_calli (va_runSN (As := As) (rest := rest) S0 hM cw ⟨tq_blind, fun U hU hW1 => ⟨rfl, by rw [hU]; exact hW, va_K.moved hW1.alike hK, hG.go (fun a h1 h2 => by rw [hU]; exact hS.2.1 a h1 h2) hW1⟩⟩ rfl hn hsize hst (lv_room hW8) hdg hf) hS (fun q _ h => h) (fun q h => h) (fun r u t H1 locs1 ht hvm hw hB hz1 hk1 hS1 => kk r u H1 locs1 hw (by rw [← ht]; exact hB) hS1)
/-- a nest mate's private method -/
theorem tqc_callVNi {post : tq_St → Int32 → Prop} (hM : tq_sI l y ws fr lo D cy z H0 ad N M S (.ref b :: As) post) (S0 : CallFix p m c cc nL s args Ts own) (cw : va_CN R s args own index y host bytes maxL ret ws (tq_rm fr lo) 0 0 n ∧ (Cond.instanceMethod y).before args s = true ∧ (Cond.selects C y y).before args s = true) (hrc : ∃ cellB : Cell, H[b]? = some cellB ∧ cellB.vm.isStatics = false ∧ s.vm.findClass C = some cellB.cls) (hK : va_K D vwCl (tq_tys cy) s) (hG : tq_G z ad s) (hW : tq_wd D cy z H0 ad N (tq_mix S M) H) (hS : va_S (fun q => z ≤ q) s.heap H locs) (hn : As.length = n) (hsize : ls.size = nL) (hst : st0 = As.reverse ++ .ref b :: rest) (hW8 : (rest.map fun v => v.category).sum ≤ 8) (hdg : decode cc pc = .ok (.invokevirtual index, 3)) (hf : cells + 0 ≤ R.cells ∧ slots + 0 ≤ R.slots)
    (kk : ∀ (r : Int32) (S1 : tq_St) (H1 : Heap) (locs1 : List Loc), post S1 r → tq_wd D cy z H0 ad N (tq_mix S1 M) H1 → va_S (fun q => z ≤ q) s.heap H1 locs1 → W p l e R s m args below meth c H1 locs1 cells slots Q (F0 m (pc + 3) ls (.int r :: rest))) : W p l e R s m args below meth c H locs cells slots Q (F0 m pc ls st0) :=
  va_calli (va_runVN (As := As) (rest := rest) S0 hM cw ⟨tq_blind, hrc, fun U hU hW1 => ⟨rfl, by rw [hU]; exact hW, va_K.moved hW1.alike hK, hG.go (fun a h1 h2 => by rw [hU]; exact hS.2.1 a h1 h2) hW1⟩⟩ rfl hn hsize hst (lv_room hW8) hdg hf) hS (fun q _ h => h) (fun q h => h) (fun r u t H1 locs1 ht hvm hw hB hz1 hk1 hS1 => kk r u H1 locs1 hw (by rw [← ht]; exact hB) hS1)
/-- a paper's method, at a paper or a bill -/
theorem tqc_callV7v {owner : String} {i : Nat} {post : tq_St → Prop} (hM : tq_sV l y ws fr lo D cy z H0 ad N M S (.ref (ad 7 i) :: As) post) (S0 : CallFix p m c cc nL s args Ts own) (cw : CallW R s args own RX3 index y bytes maxL ret ws (tq_rm fr lo) 0 0 n) (cu : va_CU R s args own RX1 owner index y y bytes maxL ret ws (tq_rm fr lo) 0 0 n) (hi : N 7 i = 1) (hK : va_K D vwCl (tq_tys cy) s) (hG : tq_G z ad s) (hW : tq_wd D cy z H0 ad N (tq_mix S M) H) (hS : va_S (fun q => z ≤ q) s.heap H locs) (hn : As.length = n) (hsize : ls.size = nL) (hst : st0 = As.reverse ++ .ref (ad 7 i) :: rest) (hW8 : (rest.map fun v => v.category).sum ≤ 8) (hdg : decode cc pc = .ok (.invokevirtual index, 3)) (hf : cells + 0 ≤ R.cells ∧ slots + 0 ≤ R.slots)
    (kk : ∀ (S1 : tq_St) (H1 : Heap) (locs1 : List Loc), post S1 → tq_wd D cy z H0 ad N (tq_mix S1 M) H1 → va_S (fun q => z ≤ q) s.heap H1 locs1 → W p l e R s m args below meth c H1 locs1 cells slots Q (F0 m (pc + 3) ls rest)) : W p l e R s m args below meth c H locs cells slots Q (F0 m pc ls st0) := by
  by_cases h0 : S 7 i 13 = 0
  · exact tqc_callVv hM S0 cw (tq_recvC hK hW (by decide) (tq_mk_7 hi h0) rfl) hK hG hW hS hn hsize hst hW8 hdg hf kk
  · exact va_callv (va_runU (As := As) (rest := rest) S0 hM cu ⟨tq_blind, tq_recvC hK hW (by decide) (tq_mk_7b hi h0) rfl, fun U hU hW1 => ⟨rfl, by rw [hU]; exact hW, va_K.moved hW1.alike hK, hG.go (fun a h1 h2 => by rw [hU]; exact hS.2.1 a h1 h2) hW1⟩⟩ rfl hn hsize hst (lv_room hW8) hdg hf) hS (fun q _ h => h) (fun q h => h) (fun u t H1 locs1 ht hvm hw hB hz1 hk1 hS1 => kk u H1 locs1 hw (by rw [← ht]; exact hB) hS1)
end
section
variable {l : Launch} {D : va_G} {cy : Nat → ClassId} {z : Nat} {H0 : Heap} {ad : Nat → Nat → Nat} {N : tq_Nn} {M : tq_St}

set_option maxHeartbeats 4000000 in
set_option maxRecDepth 100000 in
theorem bX11_sumOf {p : Program} {e : Env} {s : State} {m : MethodId} {args : Array Value} {below : List Frame} {meth : Method} {c : Code} {post : tq_St → Int32 → Prop} {S : tq_St} {k i n : Nat} (C : tq_At p s m meth c args cX11_sumOf 3 (some .int) (tq_ws yX11_sumOf cX11_sumOf 3 (some .int)) RX11 D cy z ad) (hk : k < 64) (hn : n < 2 ^ 31) (he : ∀ f : Nat → Int32, tq_mk cy ad N k i f = some (.inl (cy 0, n, .inl f))) (h : post S (bx_sum (S k i) n)) : ∀ (q j : Nat) (H : Heap) (locs : List Loc) (ls : Array Slot), j + q = n → tq_wd D cy z H0 ad N (tq_mix S M) H → va_S (fun q => z ≤ q) s.heap H locs → lv_has ls 3 [(0, .ref (ad k i)), (1, .int (bx_sum (S k i) j)), (2, .int (nI j))] → W p l e (tq_rm 0 0) s m args below meth c H locs 0 0 (MQ below (va_Qi (fun r u => post u r) (fun u => tq_P D cy z H0 ad N u M) (fun q => z ≤ q)) args s 0 0 (fun q => z ≤ q)) (F0 m 4 ls []) := by
  obtain ⟨hx, hb, hr, hml, hown, hts, hlocks, hK, hG⟩ := id C
  intro q
  induction q with
  | zero =>
    intro j H locs ls hj hW hS hl
    refine lv_iload_n hx hb dX11_sumOf_4 rfl (lv_at hl 2 rfl) ?_
    refine lv_aload_n hx hb dX11_sumOf_5 rfl (lv_at hl 0 rfl) ?_
    refine tqc_alen hx hb hK hW hk (he _) dX11_sumOf_6 ?_
    refine lv_icmp_ge (tgt := 22) hx hb dX11_sumOf_7 (by decide) (fun _ => ?_) (fun q9 => absurd (nI_le (by omega) (by omega)) q9)
    refine lv_iload_n hx hb dX11_sumOf_22 rfl (lv_at hl 1 rfl) ?_
    have hjn : j = n := by omega
    subst hjn
    exact W.iret (v := bx_sum (S k i) j) hx hb hr (fun t ht hWm => ⟨⟨_, S, rfl, h, tq_pe ht hW⟩, hS.F ht⟩) hS.2.2 dX11_sumOf_23
  | succ q ih =>
    intro j H locs ls hj hW hS hl
    refine lv_iload_n hx hb dX11_sumOf_4 rfl (lv_at hl 2 rfl) ?_
    refine lv_aload_n hx hb dX11_sumOf_5 rfl (lv_at hl 0 rfl) ?_
    refine tqc_alen hx hb hK hW hk (he _) dX11_sumOf_6 ?_
    refine lv_icmp_ge (tgt := 22) hx hb dX11_sumOf_7 (by decide) (fun q9 => absurd q9 (nI_ge (by omega) (by omega))) (fun _ => ?_)
    refine lv_iload_n hx hb dX11_sumOf_10 rfl (lv_at hl 1 rfl) ?_
    refine lv_aload_n hx hb dX11_sumOf_11 rfl (lv_at hl 0 rfl) ?_
    refine lv_iload_n hx hb dX11_sumOf_12 rfl (lv_at hl 2 rfl) ?_
    refine tqc_iald (jn := j) hx hb hK hW hk (he _) (vp_in_nI (by omega) hn) (nI_clamp (by omega)) dX11_sumOf_13 ?_
    refine lv_iadd hx hb dX11_sumOf_14 ?_
    refine lv_istore_n (lv' := [(1, .int (bx_sum (S k i) j + S k i j)), (0, .ref (ad k i)), (2, .int (nI j))]) hx hb dX11_sumOf_15 rfl hl (by decide) rfl (fun ls hl => ?_)
    refine lv_iinc (v := nI (j + 1)) (lv' := [(2, .int (nI (j + 1))), (1, .int (bx_sum (S k i) j + S k i j)), (0, .ref (ad k i))]) hx hb dX11_sumOf_16 hl (k := 2) rfl (nI_1 j) (by decide) rfl (fun ls hl => ?_)
    refine lv_goto (tgt := 4) hx hb dX11_sumOf_19 (by decide) ?_
    exact ih (j + 1) _ _ _ (by omega) hW hS (lv_sub hl [2, 1, 0] rfl)
set_option maxHeartbeats 4000000 in
set_option maxRecDepth 100000 in
theorem kX11_sumOf {post : tq_St → Int32 → Prop} {S : tq_St} {k i n : Nat} (hk : k < 64) (hn : n < 2 ^ 31) (he : ∀ f : Nat → Int32, tq_mk cy ad N k i f = some (.inl (cy 0, n, .inl f))) (h : post S (bx_sum (S k i) n)) : tq_sI l yX11_sumOf (tq_ws yX11_sumOf cX11_sumOf 3 (some .int)) 0 0 D cy z H0 ad N M S [.ref (ad k i)] post := by
  refine Met.ofW (cc := cX11_sumOf) (maxL := 3) (ret := (some .int)) (by decide) rfl ?_
  intro p e s m args below meth c s₁ B hml hv
  obtain ⟨rfl, hW, hK, hG⟩ := hv
  have hx := B.exec
  have hb := B.bytes
  have hr := B.returns
  have hts := atoms_spec (ws := tq_ws yX11_sumOf cX11_sumOf 3 (some .int)) B.pre
  have hw : ∀ w ∈ tq_W, w.before _ s = true := fun w h => hts w (List.mem_cons_of_mem _ h)
  have hown : s.vm.findClass RX11 = some m.cls := findClass_of_methodNamed B.named
  have hlocks := B.notSynchronized
  have hS : va_S (fun q => z ≤ q) s.heap s.heap [] := va_S.rf
  have hl := lv_entry ([.ref (ad k i)]) (n := 3) (Nat.le_of_ble_eq_true rfl)
  rw [lg_entry_eq]
  generalize (lg_sl ([.ref (ad k i)]) ++ List.replicate (3 - (lg_sl ([.ref (ad k i)])).length) Slot.unset).toArray = ls at hl ⊢
  have hl : lv_has ls 3 [(0, .ref (ad k i))] := hl
  have hW : tq_wd D cy z H0 ad N (tq_mix S M) s.heap := hW
  have C : tq_At p s m meth c [.ref (ad k i)].toArray cX11_sumOf 3 (some .int) (tq_ws yX11_sumOf cX11_sumOf 3 (some .int)) RX11 D cy z ad := ⟨hx, hb, hr, hml, hown, hts, hlocks, hK, hG⟩
  refine lv_iconst (v := 0) hx hb dX11_sumOf_0 (by decide) ?_
  refine lv_istore_n (lv' := [(1, .int 0), (0, .ref (ad k i))]) hx hb dX11_sumOf_1 rfl hl (by decide) rfl (fun ls hl => ?_)
  refine lv_iconst (v := 0) hx hb dX11_sumOf_2 (by decide) ?_
  refine lv_istore_n (lv' := [(2, .int 0), (1, .int 0), (0, .ref (ad k i))]) hx hb dX11_sumOf_3 rfl hl (by decide) rfl (fun ls hl => ?_)
  exact bX11_sumOf C hk hn he h n 0 _ _ _ (by omega) hW hS (lv_sub hl [2, 1, 0] rfl)
set_option maxHeartbeats 4000000 in
set_option maxRecDepth 100000 in
theorem bJ7_fill {p : Program} {e : Env} {s : State} {m : MethodId} {args : Array Value} {below : List Frame} {meth : Method} {c : Code} {post : tq_St → Prop} {S : tq_St} {k i n : Nat} {v : Int32} (C : tq_At p s m meth c args cJ7_fill_53178 4 none (tq_ws yJ7_fill_53178 cJ7_fill_53178 4 none) RJ7 D cy z ad) (hk : k < 64) (hn : n < 2 ^ 31) (he : ∀ f : Nat → Int32, tq_mk cy ad N k i f = some (.inl (cy 0, n, .inl f))) (h : post (tq_cp S k i (tq_fl (S k i) n v))) : ∀ (q j : Nat) (H : Heap) (locs : List Loc) (ls : Array Slot), j + q = n → tq_wd D cy z H0 ad N (tq_mix (tq_cp S k i (tq_fl (S k i) j v)) M) H → va_S (fun q => z ≤ q) s.heap H locs → lv_has ls 4 [(0, .ref (ad k i)), (1, .int v), (2, .int (nI j)), (3, .int (nI n))] → W p l e (tq_rm 0 0) s m args below meth c H locs 0 0 (MQ below (va_Qv (fun u => post u) (fun u => tq_P D cy z H0 ad N u M) (fun q => z ≤ q)) args s 0 0 (fun q => z ≤ q)) (F0 m 5 ls []) := by
  obtain ⟨hx, hb, hr, hml, hown, hts, hlocks, hK, hG⟩ := id C
  intro q
  induction q with
  | zero =>
    intro j H locs ls hj hW hS hl
    refine lv_iload_n hx hb dJ7_fill_53178_5 rfl (lv_at hl 2 rfl) ?_
    refine lv_iload_n hx hb dJ7_fill_53178_6 rfl (lv_at hl 3 rfl) ?_
    refine lv_icmp_ge (tgt := 20) hx hb dJ7_fill_53178_7 (by decide) (fun _ => ?_) (fun q9 => absurd (nI_le (by omega) (by omega)) q9)
    have hjn : j = n := by omega
    subst hjn
    exact W.vret hx hb hr (fun t ht hWm => ⟨⟨tq_cp S k i (tq_fl (S k i) j v), rfl, h, tq_pe ht hW⟩, hS.F ht⟩) hS.2.2 dJ7_fill_53178_20
  | succ q ih =>
    intro j H locs ls hj hW hS hl
    refine lv_iload_n hx hb dJ7_fill_53178_5 rfl (lv_at hl 2 rfl) ?_
    refine lv_iload_n hx hb dJ7_fill_53178_6 rfl (lv_at hl 3 rfl) ?_
    refine lv_icmp_ge (tgt := 20) hx hb dJ7_fill_53178_7 (by decide) (fun q9 => absurd q9 (nI_ge (by omega) (by omega))) (fun _ => ?_)
    refine lv_aload_n hx hb dJ7_fill_53178_10 rfl (lv_at hl 0 rfl) ?_
    refine lv_iload_n hx hb dJ7_fill_53178_11 rfl (lv_at hl 2 rfl) ?_
    refine lv_iload_n hx hb dJ7_fill_53178_12 rfl (lv_at hl 1 rfl) ?_
    refine tqc_iast (jn := j) hx hb hK hW hS hk (he _) (vp_in_nI (by omega) hn) (nI_clamp (by omega)) (he _) dJ7_fill_53178_13 (fun H locs hW hS => ?_)
    rw [tq_up_cp, tq_fl_1] at hW
    refine lv_iinc (v := nI (j + 1)) (lv' := [(2, .int (nI (j + 1))), (0, .ref (ad k i)), (1, .int v), (3, .int (nI n))]) hx hb dJ7_fill_53178_14 hl (k := 2) rfl (nI_1 j) (by decide) rfl (fun ls hl => ?_)
    refine lv_goto (tgt := 5) hx hb dJ7_fill_53178_17 (by decide) ?_
    exact ih (j + 1) _ _ _ (by omega) hW hS (lv_sub hl [1, 2, 0, 3] rfl)
set_option maxHeartbeats 4000000 in
set_option maxRecDepth 100000 in
theorem kJ7_fill {post : tq_St → Prop} {S : tq_St} {k i n : Nat} {v : Int32} (hk : k < 64) (hn : n < 2 ^ 31) (he : ∀ f : Nat → Int32, tq_mk cy ad N k i f = some (.inl (cy 0, n, .inl f))) (h : post (tq_cp S k i (tq_fl (S k i) n v))) : tq_sV l yJ7_fill_53178 (tq_ws yJ7_fill_53178 cJ7_fill_53178 4 none) 0 0 D cy z H0 ad N M S [.ref (ad k i), .int v] post := by
  refine Met.ofW (cc := cJ7_fill_53178) (maxL := 4) (ret := none) (by decide) rfl ?_
  intro p e s m args below meth c s₁ B hml hv
  obtain ⟨rfl, hW, hK, hG⟩ := hv
  have hx := B.exec
  have hb := B.bytes
  have hr := B.returns
  have hts := atoms_spec (ws := tq_ws yJ7_fill_53178 cJ7_fill_53178 4 none) B.pre
  have hw : ∀ w ∈ tq_W, w.before _ s = true := fun w h => hts w (List.mem_cons_of_mem _ h)
  have hown : s.vm.findClass RJ7 = some m.cls := findClass_of_methodNamed B.named
  have hlocks := B.notSynchronized
  have hS : va_S (fun q => z ≤ q) s.heap s.heap [] := va_S.rf
  have hl := lv_entry ([.ref (ad k i), .int v]) (n := 4) (Nat.le_of_ble_eq_true rfl)
  rw [lg_entry_eq]
  generalize (lg_sl ([.ref (ad k i), .int v]) ++ List.replicate (4 - (lg_sl ([.ref (ad k i), .int v])).length) Slot.unset).toArray = ls at hl ⊢
  have hl : lv_has ls 4 [(0, .ref (ad k i)), (1, .int v)] := hl
  have hW : tq_wd D cy z H0 ad N (tq_mix S M) s.heap := hW
  have C : tq_At p s m meth c [.ref (ad k i), .int v].toArray cJ7_fill_53178 4 none (tq_ws yJ7_fill_53178 cJ7_fill_53178 4 none) RJ7 D cy z ad := ⟨hx, hb, hr, hml, hown, hts, hlocks, hK, hG⟩
  refine lv_iconst (v := 0) hx hb dJ7_fill_53178_0 (by decide) ?_
  refine lv_istore_n (lv' := [(2, .int 0), (0, .ref (ad k i)), (1, .int v)]) hx hb dJ7_fill_53178_1 rfl hl (by decide) rfl (fun ls hl => ?_)
  refine lv_aload_n hx hb dJ7_fill_53178_2 rfl (lv_at hl 1 rfl) ?_
  refine tqc_alen hx hb hK hW hk (he _) dJ7_fill_53178_3 ?_
  refine lv_istore_n (lv' := [(3, .int (nI n)), (2, .int 0), (0, .ref (ad k i)), (1, .int v)]) hx hb dJ7_fill_53178_4 rfl hl (by decide) rfl (fun ls hl => ?_)
  exact bJ7_fill C hk hn he h n 0 _ _ _ (by omega) (by rw [tq_fl_0, tq_cp_id]; exact hW) hS (lv_sub hl [2, 3, 1, 0] rfl)
end
