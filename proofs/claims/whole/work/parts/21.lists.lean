theorem tq_inJl : ∀ w ∈ u_ws RJx4a65c TJx4a65c 3, w ∈ tq_W := tq_inl _ [174, 170, 172] (by decide +kernel) (by decide +kernel)
/-- the number of the cell that the list's data hold at j -/
def tq_el (S : tq_St) (kl kd i : Nat) (j : Int32) : Nat := (S kd (S kl i 1).toNatClampNeg (j.toNatClampNeg + 1)).toNatClampNeg - 1
/-- get(j) of the list i of the kind kl, with data of the kind kd, ends well -/
def tq_gok (N : tq_Nn) (S : tq_St) (kl kd i : Nat) (j : Int32) : Prop := ¬ j < 0 ∧ j < S kl i 2 ∧ ¬ S kl i 1 = 0 ∧ N kd (S kl i 1).toNatClampNeg = 1 ∧ vp_in j (S kd (S kl i 1).toNatClampNeg 0).toNatClampNeg ∧ ¬ S kd (S kl i 1).toNatClampNeg (j.toNatClampNeg + 1) < 1
theorem tq_pp : ∀ t, t < 10 → TX1 t = TX3 t := by decide
section TQL
variable {p : Program} {l : Launch} {e : Env} {R : Room} {s : State} {m : MethodId} {args : Array Value} {below : List Frame} {meth : Method} {c : Code} {H : Heap} {locs : List Loc} {cells slots : Nat} {Q : State → Prop}
variable {cc : ByteArray} {pc : Nat} {ls : Array Slot} {rest : List Value} {D : va_G} {cy : Nat → ClassId} {z : Nat} {H0 Hs : Heap} {ad : Nat → Nat → Nat} {N : tq_Nn} {S M : tq_St}
theorem tqc_get7 (hexec : p.tables.exec = Jvm.exec) (hb : c.code = cc) {own ref : String} {index : Nat} {Ts : List Cond} (hts : ∀ w ∈ Ts, w.before args s = true) (hin3 : ∀ w ∈ u_ws RX3 TX3 10, w ∈ Ts) (hin1 : ∀ w ∈ u_ws RX1 TX1 13, w ∈ Ts) (hown : s.vm.findClass own = some m.cls) (hK : va_K D vwCl (tq_tys cy) s) (hW : tq_wd D cy z H0 ad N (tq_mix S M) H) {i : Nat} (hi : N 7 i = 1) (t : Nat) (ht : t < 10) (hlink : (Cond.fieldLink own index ref (TX3 t).2.1 (TX3 t).2.2.1).before args s = true) (hsame : ∀ x, s.fieldFound? (TX3 t).1 (TX3 t).2.1 (TX3 t).2.2.1 = some x → s.fieldFound? ref (TX3 t).2.1 (TX3 t).2.2.1 = some x) {v : Value} (hv : tq_fld ad 7 i (S 7 i) t = v) (hdg : decode cc pc = .ok (.getfield index, 3))
    (kk : W p l e R s m args below meth c H locs cells slots Q (F0 m (pc + 3) ls (v :: rest))) : W p l e R s m args below meth c H locs cells slots Q (F0 m pc ls (.ref (ad 7 i) :: rest)) := by
  by_cases h0 : S 7 i 13 = 0
  · exact tqc_get hexec hb hts hin3 hown hK hW (by decide) (tq_mk_7 hi h0) rfl t ht hlink hsame hv hdg kk
  · have e1 := tq_pp t ht
    exact tqc_get hexec hb hts hin1 hown hK hW (by decide) (tq_mk_7b hi h0) rfl t (by omega) (by rw [e1]; exact hlink) (by rw [e1]; exact hsame) hv hdg kk
theorem tqc_getB (hexec : p.tables.exec = Jvm.exec) (hb : c.code = cc) {own ref : String} {index : Nat} {Ts : List Cond} (hts : ∀ w ∈ Ts, w.before args s = true) (hin1 : ∀ w ∈ u_ws RX1 TX1 13, w ∈ Ts) (hown : s.vm.findClass own = some m.cls) (hK : va_K D vwCl (tq_tys cy) s) (hW : tq_wd D cy z H0 ad N (tq_mix S M) H) {i : Nat} (hi : N 7 i = 1) (h0 : ¬ S 7 i 13 = 0) (t : Nat) (ht : t < 13) (hlink : (Cond.fieldLink own index ref (TX1 t).2.1 (TX1 t).2.2.1).before args s = true) (hsame : ∀ x, s.fieldFound? (TX1 t).1 (TX1 t).2.1 (TX1 t).2.2.1 = some x → s.fieldFound? ref (TX1 t).2.1 (TX1 t).2.2.1 = some x) {v : Value} (hv : tq_fld ad 7 i (S 7 i) t = v) (hdg : decode cc pc = .ok (.getfield index, 3))
    (kk : W p l e R s m args below meth c H locs cells slots Q (F0 m (pc + 3) ls (v :: rest))) : W p l e R s m args below meth c H locs cells slots Q (F0 m pc ls (.ref (ad 7 i) :: rest)) :=
  tqc_get hexec hb hts hin1 hown hK hW (by decide) (tq_mk_7b hi h0) rfl t ht hlink hsame hv hdg kk
theorem tqc_put7 (hexec : p.tables.exec = Jvm.exec) (hb : c.code = cc) {own ref : String} {index : Nat} {Ts : List Cond} (hts : ∀ w ∈ Ts, w.before args s = true) (hin3 : ∀ w ∈ u_ws RX3 TX3 10, w ∈ Ts) (hin1 : ∀ w ∈ u_ws RX1 TX1 13, w ∈ Ts) (hown : s.vm.findClass own = some m.cls) (hK : va_K D vwCl (tq_tys cy) s) (hW : tq_wd D cy z H0 ad N (tq_mix S M) H) (hS : va_S (fun q => z ≤ q) Hs H locs) {i : Nat} (hi : N 7 i = 1) (t : Nat) (ht : t = 8 ∨ t = 9) (hlink : (Cond.fieldLink own index ref (TX3 t).2.1 (TX3 t).2.2.1).before args s = true) (hsame : ∀ x, s.fieldFound? (TX3 t).1 (TX3 t).2.1 (TX3 t).2.2.1 = some x → s.fieldFound? ref (TX3 t).2.1 (TX3 t).2.2.1 = some x) {x : Int32} (hdg : decode cc pc = .ok (.putfield index, 3))
    (kk : ∀ (H1 : Heap) (locs1 : List Loc), tq_wd D cy z H0 ad N (tq_mix (tq_up S 7 i t x) M) H1 → va_S (fun q => z ≤ q) Hs H1 locs1 → W p l e R s m args below meth c H1 locs1 cells slots Q (F0 m (pc + 3) ls rest)) : W p l e R s m args below meth c H locs cells slots Q (F0 m pc ls (.int x :: .ref (ad 7 i) :: rest)) := by
  have e1 := tq_pp t (by omega)
  have hne : (tq_up S 7 i t x) 7 i 13 = S 7 i 13 := by rw [tq_up_cell]; exact pk_un (by omega)
  by_cases h0 : S 7 i 13 = 0
  · refine tqc_put hexec hb hts hin3 tyX3 tyX3_ok nmX3 hown hK hW hS (by decide) (tq_mk_7 hi h0) rfl t (by omega) hlink hsame ?_ ?_ ?_ ?_ (tq_mk_7 hi (by rw [hne]; exact h0)) hdg kk <;> rcases ht with rfl | rfl <;> rfl
  · refine tqc_put hexec hb hts hin1 tyX1 tyX1_ok nmX1 hown hK hW hS (by decide) (tq_mk_7b hi h0) rfl t (by omega) (by rw [e1]; exact hlink) (by rw [e1]; exact hsame) ?_ ?_ ?_ ?_ (tq_mk_7b hi (by rw [hne]; exact h0)) hdg kk <;> rcases ht with rfl | rfl <;> rfl
theorem tqc_putB (hexec : p.tables.exec = Jvm.exec) (hb : c.code = cc) {own ref : String} {index : Nat} {Ts : List Cond} (hts : ∀ w ∈ Ts, w.before args s = true) (hin1 : ∀ w ∈ u_ws RX1 TX1 13, w ∈ Ts) (hown : s.vm.findClass own = some m.cls) (hK : va_K D vwCl (tq_tys cy) s) (hW : tq_wd D cy z H0 ad N (tq_mix S M) H) (hS : va_S (fun q => z ≤ q) Hs H locs) {i : Nat} (hi : N 7 i = 1) (h0 : ¬ S 7 i 13 = 0) (t : Nat) (ht : 10 ≤ t ∧ t < 13) (hlink : (Cond.fieldLink own index ref (TX1 t).2.1 (TX1 t).2.2.1).before args s = true) (hsame : ∀ x, s.fieldFound? (TX1 t).1 (TX1 t).2.1 (TX1 t).2.2.1 = some x → s.fieldFound? ref (TX1 t).2.1 (TX1 t).2.2.1 = some x) {x : Int32} (hdg : decode cc pc = .ok (.putfield index, 3))
    (kk : ∀ (H1 : Heap) (locs1 : List Loc), tq_wd D cy z H0 ad N (tq_mix (tq_up S 7 i t x) M) H1 → va_S (fun q => z ≤ q) Hs H1 locs1 → W p l e R s m args below meth c H1 locs1 cells slots Q (F0 m (pc + 3) ls rest)) : W p l e R s m args below meth c H locs cells slots Q (F0 m pc ls (.int x :: .ref (ad 7 i) :: rest)) := by
  have hne : (tq_up S 7 i t x) 7 i 13 = S 7 i 13 := by rw [tq_up_cell]; exact pk_un (by omega)
  have h3 : t = 10 ∨ t = 11 ∨ t = 12 := by omega
  refine tqc_put hexec hb hts hin1 tyX1 tyX1_ok nmX1 hown hK hW hS (by decide) (tq_mk_7b hi h0) rfl t (by omega) hlink hsame ?_ ?_ ?_ ?_ (tq_mk_7b hi (by rw [hne]; exact h0)) hdg kk <;> rcases h3 with rfl | rfl | rfl <;> rfl
theorem tqc_cast7 (hexec : p.tables.exec = Jvm.exec) (hb : c.code = cc) {own : String} {index : Nat} (hown : s.vm.findClass own = some m.cls) (hlink : (Cond.classLink own index "TwoSeas$Paper").before args s = true) (hK : va_K D vwCl (tq_tys cy) s) (hG : tq_G z ad s) (hW : tq_wd D cy z H0 ad N (tq_mix S M) H) {i : Nat} (hi : N 7 i = 1) (hdg : decode cc pc = .ok (.checkcast index, 3))
    (k : W p l e R s m args below meth c H locs cells slots Q (F0 m (pc + 3) ls (.ref (ad 7 i) :: rest))) : W p l e R s m args below meth c H locs cells slots Q (F0 m pc ls (.ref (ad 7 i) :: rest)) := by
  by_cases h0 : S 7 i 13 = 0
  · exact va_castS hexec hb hown hlink (hK.1 4 _ rfl).2 (tq_recvC hK hW (by decide) (tq_mk_7 hi h0) rfl) hdg k
  · exact va_castY hexec hb hown hlink (hG.2.2.2.2.2.2.2.2.2.2.1 ("TwoSeas$Bill", "TwoSeas$Paper") (by decide)) (tq_recvC hK hW (by decide) (tq_mk_7b hi h0) rfl) hdg k
end TQL
variable {l : Launch} {D : va_G} {cy : Nat → ClassId} {z : Nat} {H0 : Heap} {ad : Nat → Nat → Nat} {N : tq_Nn} {M : tq_St}

set_option maxHeartbeats 4000000 in
set_option maxRecDepth 100000 in
theorem kJl_size {post : tq_St → Int32 → Prop} {S : tq_St} {kl i d9 : Nat} (hk : kl < 64) (he : tq_mk cy ad N kl i (S kl i) = some (.inr (0, [.int (S kl i 0), .ref d9, .int (S kl i 2)]))) (h : post S (S kl i 2)) : tq_sI l yJx4a65c_size_8abf5 (tq_ws yJx4a65c_size_8abf5 cJx4a65c_size_8abf5 1 (some .int)) 0 0 D cy z H0 ad N M S [.ref (ad kl i)] post := by
  refine Met.ofW (cc := cJx4a65c_size_8abf5) (maxL := 1) (ret := (some .int)) (by decide) rfl ?_
  intro p e s m args below meth c s₁ B hml hv
  obtain ⟨rfl, hW, hK, hG⟩ := hv
  have hx := B.exec
  have hb := B.bytes
  have hr := B.returns
  have hts := atoms_spec (ws := tq_ws yJx4a65c_size_8abf5 cJx4a65c_size_8abf5 1 (some .int)) B.pre
  have hw : ∀ w ∈ tq_W, w.before _ s = true := fun w h => hts w (List.mem_cons_of_mem _ h)
  have hown : s.vm.findClass RJx4a65c = some m.cls := findClass_of_methodNamed B.named
  have hlocks := B.notSynchronized
  have hS : va_S (fun q => z ≤ q) s.heap s.heap [] := va_S.rf
  have hl := lv_entry ([.ref (ad kl i)]) (n := 1) (Nat.le_of_ble_eq_true rfl)
  rw [lg_entry_eq]
  generalize (lg_sl ([.ref (ad kl i)]) ++ List.replicate (1 - (lg_sl ([.ref (ad kl i)])).length) Slot.unset).toArray = ls at hl ⊢
  have hl : lv_has ls 1 [(0, .ref (ad kl i))] := hl
  have hW : tq_wd D cy z H0 ad N (tq_mix S M) s.heap := hW
  refine lv_aload_n hx hb dJx4a65c_size_8abf5_0 rfl (lv_at hl 0 rfl) ?_
  refine va_get (ws := [(ad kl i, .inr (0, [.int (S kl i 0), .ref d9, .int (S kl i 2)]))]) hx hb hw tq_inJl hown hK (tq_one (hW.1 kl i _ (by rw [tq_mixC S M hk]; exact he))) 0 rfl rfl 2 (by decide) (hw _ tw_166) (fun _ h9 => h9) rfl dJx4a65c_size_8abf5_1 ?_
  exact W.iret (v := S kl i 2) hx hb hr (fun t ht hWm => ⟨⟨_, S, rfl, h, tq_pe ht hW⟩, hS.F ht⟩) hS.2.2 dJx4a65c_size_8abf5_4
set_option maxHeartbeats 4000000 in
set_option maxRecDepth 100000 in
theorem kJ15_checkIndex {post : tq_St → Int32 → Prop} {S : tq_St} {i n : Int32} (h : ¬ i < 0 ∧ i < n ∧ post S i) : tq_sI l yJ15_checkIndex_7cf53 (tq_ws yJ15_checkIndex_7cf53 cJ15_checkIndex_7cf53 2 (some .int)) 1 22 D cy z H0 ad N M S [.int i, .int n] post := by
  obtain ⟨h0, h1, h⟩ := h
  refine Met.ofW (cc := cJ15_checkIndex_7cf53) (maxL := 2) (ret := (some .int)) (by decide) rfl ?_
  intro p e s m args below meth c s₁ B hml hv
  obtain ⟨rfl, hW, hK, hG⟩ := hv
  have hx := B.exec
  have hb := B.bytes
  have hr := B.returns
  have hts := atoms_spec (ws := tq_ws yJ15_checkIndex_7cf53 cJ15_checkIndex_7cf53 2 (some .int)) B.pre
  have hw : ∀ w ∈ tq_W, w.before _ s = true := fun w h => hts w (List.mem_cons_of_mem _ h)
  have hown : s.vm.findClass RJ15 = some m.cls := findClass_of_methodNamed B.named
  have hlocks := B.notSynchronized
  have hS : va_S (fun q => z ≤ q) s.heap s.heap [] := va_S.rf
  have hl := lv_entry ([.int i, .int n]) (n := 2) (Nat.le_of_ble_eq_true rfl)
  rw [lg_entry_eq]
  generalize (lg_sl ([.int i, .int n]) ++ List.replicate (2 - (lg_sl ([.int i, .int n])).length) Slot.unset).toArray = ls at hl ⊢
  have hl : lv_has ls 2 [(0, .int i), (1, .int n)] := hl
  have hW : tq_wd D cy z H0 ad N (tq_mix S M) s.heap := hW
  refine lv_iload_n hx hb dJ15_checkIndex_7cf53_0 rfl (lv_at hl 0 rfl) ?_
  refine lv_iload_n hx hb dJ15_checkIndex_7cf53_1 rfl (lv_at hl 1 rfl) ?_
  refine lv_null hx hb dJ15_checkIndex_7cf53_2 ?_
  refine tqc_callSi (As := [.int i, .int n, .null]) (rest := []) (tq_mI.toS (kJ3_checkIndex (Or.inl rfl) ⟨h0, h1, rfl, rfl⟩) (post := fun u r => u = S ∧ r = i) ⟨rfl, rfl⟩) ⟨hx, hb, hml, hown, hts⟩ (va_cwS 3 hts (tq_goodS tw_834 tw_608 tw_129 tw_609) rfl rfl rfl (by decide +kernel) ⟨(Nat.le_of_ble_eq_true rfl), (Nat.le_of_ble_eq_true rfl)⟩) hK hG hW hS rfl hl.1 rfl (Nat.le_of_ble_eq_true rfl) dJ15_checkIndex_7cf53_3 ⟨(Nat.le_of_ble_eq_true rfl), (Nat.le_of_ble_eq_true rfl)⟩ (fun r S1 H locs q9 hW hS => ?_)
  rw [q9.1] at hW
  rw [q9.2]
  exact W.iret (v := i) hx hb hr (fun t ht hWm => ⟨⟨_, S, rfl, h, tq_pe ht hW⟩, hS.F ht⟩) hS.2.2 dJ15_checkIndex_7cf53_6
set_option maxHeartbeats 4000000 in
set_option maxRecDepth 100000 in
theorem kJl_elem {post : tq_St → Nat → Prop} {S : tq_St} {kl kd ek i : Nat} {j : Int32} (hk : kl < 64) (he : tq_mk cy ad N kl i (S kl i) = some (.inr (0, [.int (S kl i 0), .ref (if S kl i 1 = 0 then ad 0 0 else ad kd (S kl i 1).toNatClampNeg), .int (S kl i 2)]))) (hkd : kd < 64) (hed : N kd (S kl i 1).toNatClampNeg = 1 → tq_mk cy ad N kd (S kl i 1).toNatClampNeg (S kd (S kl i 1).toNatClampNeg) = some (.inl (cy 5, (S kd (S kl i 1).toNatClampNeg 0).toNatClampNeg, .inr (.inr (.inr (.inr (fun j => tq_nul ad ek (S kd (S kl i 1).toNatClampNeg (j + 1))))))))) (hg : tq_gok N S kl kd i j) (h : post S (tq_el S kl kd i j)) : tq_sR ek l yJx4a65c_elementData_915e3 (tq_ws yJx4a65c_elementData_915e3 cJx4a65c_elementData_915e3 2 (some (.object "java/lang/Object"))) 0 0 D cy z H0 ad N M S [.ref (ad kl i), .int j] post := by
  obtain ⟨hj0, hj1, hf1, hc0, hin, hn1⟩ := hg
  refine Met.ofW (cc := cJx4a65c_elementData_915e3) (maxL := 2) (ret := (some (.object "java/lang/Object"))) (by decide) rfl ?_
  intro p e s m args below meth c s₁ B hml hv
  obtain ⟨rfl, hW, hK, hG⟩ := hv
  have hx := B.exec
  have hb := B.bytes
  have hr := B.returns
  have hts := atoms_spec (ws := tq_ws yJx4a65c_elementData_915e3 cJx4a65c_elementData_915e3 2 (some (.object "java/lang/Object"))) B.pre
  have hw : ∀ w ∈ tq_W, w.before _ s = true := fun w h => hts w (List.mem_cons_of_mem _ h)
  have hown : s.vm.findClass RJx4a65c = some m.cls := findClass_of_methodNamed B.named
  have hlocks := B.notSynchronized
  have hS : va_S (fun q => z ≤ q) s.heap s.heap [] := va_S.rf
  have hl := lv_entry ([.ref (ad kl i), .int j]) (n := 2) (Nat.le_of_ble_eq_true rfl)
  rw [lg_entry_eq]
  generalize (lg_sl ([.ref (ad kl i), .int j]) ++ List.replicate (2 - (lg_sl ([.ref (ad kl i), .int j])).length) Slot.unset).toArray = ls at hl ⊢
  have hl : lv_has ls 2 [(0, .ref (ad kl i)), (1, .int j)] := hl
  have hW : tq_wd D cy z H0 ad N (tq_mix S M) s.heap := hW
  refine lv_aload_n hx hb dJx4a65c_elementData_915e3_0 rfl (lv_at hl 0 rfl) ?_
  refine va_get (v := .ref (ad kd (S kl i 1).toNatClampNeg)) (ws := [(ad kl i, .inr (0, [.int (S kl i 0), .ref (if S kl i 1 = 0 then ad 0 0 else ad kd (S kl i 1).toNatClampNeg), .int (S kl i 2)]))]) hx hb hw tq_inJl hown hK (tq_one (hW.1 kl i _ (by rw [tq_mixC S M hk]; exact he))) 0 rfl rfl 1 (by decide) (hw _ tw_165) (fun _ h9 => h9) (by simp [hf1]) dJx4a65c_elementData_915e3_1 ?_
  refine lv_iload_n hx hb dJx4a65c_elementData_915e3_4 rfl (lv_at hl 1 rfl) ?_
  refine tqc_aald (jn := j.toNatClampNeg) (v := .ref (ad ek (tq_el S kl kd i j))) hx hb hK hW hkd (hed hc0) 5 rfl rfl hin rfl (by simp only [tq_nul, if_neg hn1, va_rf, tq_el]) dJx4a65c_elementData_915e3_5 ?_
  exact W.aret (v := .ref (ad ek (tq_el S kl kd i j))) hx hb hr (Or.inl ⟨_, rfl⟩) (Or.inr ⟨_, rfl⟩) (fun t ht hWm => ⟨⟨(S, tq_el S kl kd i j), _, rfl, h, rfl, tq_pe ht hW⟩, hS.F ht⟩) hS.2.2 dJx4a65c_elementData_915e3_6
set_option maxHeartbeats 4000000 in
set_option maxRecDepth 100000 in
theorem kJl_get {post : tq_St → Nat → Prop} {S : tq_St} {kl kd ek i : Nat} {j : Int32} (hk : kl < 64) (hkd : kd < 64) (he : tq_mk cy ad N kl i (S kl i) = some (.inr (0, [.int (S kl i 0), .ref (if S kl i 1 = 0 then ad 0 0 else ad kd (S kl i 1).toNatClampNeg), .int (S kl i 2)]))) (hed : N kd (S kl i 1).toNatClampNeg = 1 → tq_mk cy ad N kd (S kl i 1).toNatClampNeg (S kd (S kl i 1).toNatClampNeg) = some (.inl (cy 5, (S kd (S kl i 1).toNatClampNeg 0).toNatClampNeg, .inr (.inr (.inr (.inr (fun j => tq_nul ad ek (S kd (S kl i 1).toNatClampNeg (j + 1))))))))) (hg : tq_gok N S kl kd i j) (h : post S (tq_el S kl kd i j)) : tq_sR ek l yJx4a65c_get_915e3 (tq_ws yJx4a65c_get_915e3 cJx4a65c_get_915e3 2 (some (.object "java/lang/Object"))) 2 43 D cy z H0 ad N M S [.ref (ad kl i), .int j] post := by
  obtain ⟨hj0, hj1, hf1, hc0, hin, hn1⟩ := id hg
  refine Met.ofW (cc := cJx4a65c_get_915e3) (maxL := 2) (ret := (some (.object "java/lang/Object"))) (by decide) rfl ?_
  intro p e s m args below meth c s₁ B hml hv
  obtain ⟨rfl, hW, hK, hG⟩ := hv
  have hx := B.exec
  have hb := B.bytes
  have hr := B.returns
  have hts := atoms_spec (ws := tq_ws yJx4a65c_get_915e3 cJx4a65c_get_915e3 2 (some (.object "java/lang/Object"))) B.pre
  have hw : ∀ w ∈ tq_W, w.before _ s = true := fun w h => hts w (List.mem_cons_of_mem _ h)
  have hown : s.vm.findClass RJx4a65c = some m.cls := findClass_of_methodNamed B.named
  have hlocks := B.notSynchronized
  have hS : va_S (fun q => z ≤ q) s.heap s.heap [] := va_S.rf
  have hl := lv_entry ([.ref (ad kl i), .int j]) (n := 2) (Nat.le_of_ble_eq_true rfl)
  rw [lg_entry_eq]
  generalize (lg_sl ([.ref (ad kl i), .int j]) ++ List.replicate (2 - (lg_sl ([.ref (ad kl i), .int j])).length) Slot.unset).toArray = ls at hl ⊢
  have hl : lv_has ls 2 [(0, .ref (ad kl i)), (1, .int j)] := hl
  have hW : tq_wd D cy z H0 ad N (tq_mix S M) s.heap := hW
  refine lv_iload_n hx hb dJx4a65c_get_915e3_0 rfl (lv_at hl 1 rfl) ?_
  refine lv_aload_n hx hb dJx4a65c_get_915e3_1 rfl (lv_at hl 0 rfl) ?_
  refine va_get (v := .int (S kl i 2)) (ws := [(ad kl i, .inr (0, [.int (S kl i 0), .ref (if S kl i 1 = 0 then ad 0 0 else ad kd (S kl i 1).toNatClampNeg), .int (S kl i 2)]))]) hx hb hw tq_inJl hown hK (tq_one (hW.1 kl i _ (by rw [tq_mixC S M hk]; exact he))) 0 rfl rfl 2 (by decide) (hw _ tw_166) (fun _ h9 => h9) rfl dJx4a65c_get_915e3_2 ?_
  refine tqc_callSi (As := [.int j, .int (S kl i 2)]) (rest := []) (kJ15_checkIndex (post := fun u r => u = S) ⟨hj0, hj1, rfl⟩) ⟨hx, hb, hml, hown, hts⟩ (va_cwS 2 hts (tq_goodS tw_831 tw_832 tw_136 tw_833) rfl rfl rfl (by decide +kernel) ⟨(Nat.le_of_ble_eq_true rfl), (Nat.le_of_ble_eq_true rfl)⟩) hK hG hW hS rfl hl.1 rfl (Nat.le_of_ble_eq_true rfl) dJx4a65c_get_915e3_5 ⟨(Nat.le_of_ble_eq_true rfl), (Nat.le_of_ble_eq_true rfl)⟩ (fun r S1 H locs q9 hW hS => ?_)
  rw [q9] at hW
  refine lv_pop hx hb dJx4a65c_get_915e3_8 rfl ?_
  refine lv_aload_n hx hb dJx4a65c_get_915e3_9 rfl (lv_at hl 0 rfl) ?_
  refine lv_iload_n hx hb dJx4a65c_get_915e3_10 rfl (lv_at hl 1 rfl) ?_
  refine tqc_callVr (kr := ek) (As := [.int j]) (rest := []) (kJl_elem (kd := kd) (post := fun u i9 => u = S ∧ i9 = tq_el S kl kd i j) hk he hkd hed hg ⟨rfl, rfl⟩) ⟨hx, hb, hml, hown, hts⟩ (cwV 1 hts (tq_goodV tw_835 tw_836 tw_837 tw_118 tw_838) rfl rfl rfl (by decide +kernel) ⟨(Nat.le_of_ble_eq_true rfl), (Nat.le_of_ble_eq_true rfl)⟩) (tq_recvL hK hW hk he) hK hG hW hS rfl hl.1 rfl (Nat.le_of_ble_eq_true rfl) dJx4a65c_get_915e3_11 ⟨(Nat.le_of_ble_eq_true rfl), (Nat.le_of_ble_eq_true rfl)⟩ (fun i9 S1 H locs q9 hW hS => ?_)
  rw [q9.1] at hW
  rw [q9.2]
  exact W.aret (v := .ref (ad ek (tq_el S kl kd i j))) hx hb hr (Or.inl ⟨_, rfl⟩) (Or.inr ⟨_, rfl⟩) (fun t ht hWm => ⟨⟨(S, tq_el S kl kd i j), _, rfl, h, rfl, tq_pe ht hW⟩, hS.F ht⟩) hS.2.2 dJx4a65c_get_915e3_14
