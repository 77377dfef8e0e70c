/-- the first n items of a list's data are none -/
def tq_clr (f : Nat → Int32) (n : Nat) : Nat → Int32 := fun q => if 1 ≤ q ∧ q ≤ n then 0 else f q
theorem tq_clr_0 (f : Nat → Int32) : tq_clr f 0 = f := by funext q; unfold tq_clr; rw [if_neg (by omega)]
theorem tq_clr_z (f : Nat → Int32) (n : Nat) : tq_clr f n 0 = f 0 := by unfold tq_clr; rw [if_neg (by omega)]
theorem tq_clr_1 {ad : Nat → Nat → Nat} {ek : Nat} (f : Nat → Int32) (n : Nat) : (fun j => tq_nul ad ek (tq_clr f (n + 1) (j + 1))) = va_up (fun j => tq_nul ad ek (tq_clr f n (j + 1))) n none := by
  funext j
  by_cases h : j = n
  · subst h
    simp [va_up, tq_clr, tq_nul]
  · have e : tq_clr f (n + 1) (j + 1) = tq_clr f n (j + 1) := by
      unfold tq_clr
      by_cases h2 : j + 1 ≤ n
      · rw [if_pos (by omega), if_pos (by omega)]
      · rw [if_neg (by omega), if_neg (by omega)]
    simp [va_up, h, e]
theorem tq_cp_cp (S : tq_St) (k i : Nat) (f g : Nat → Int32) : tq_cp (tq_cp S k i f) k i g = tq_cp S k i g := by
  funext k' i'
  by_cases h : k' = k ∧ i' = i
  · simp only [tq_cp]; rw [if_pos h, if_pos h]
  · simp only [tq_cp]; rw [if_neg h, if_neg h, if_neg h]
section
variable {l : Launch} {D : va_G} {cy : Nat → ClassId} {z : Nat} {H0 : Heap} {ad : Nat → Nat → Nat} {N : tq_Nn} {M : tq_St}

set_option maxHeartbeats 4000000 in
set_option maxRecDepth 100000 in
theorem bJl_clear {p : Program} {e : Env} {s : State} {m : MethodId} {args : Array Value} {below : List Frame} {meth : Method} {c : Code} {post : tq_St → Prop} {S : tq_St} {kl kd ek i dd n d9 : Nat} (C : tq_At p s m meth c args cJx4a65c_clear_da8c8 4 none (tq_ws yJx4a65c_clear_da8c8 cJx4a65c_clear_da8c8 4 none) RJx4a65c D cy z ad) (hk : kl < 64) (hkd : kd < 64) (hne : kl ≠ kd) (he : ∀ f : Nat → Int32, tq_mk cy ad N kl i f = some (.inr (0, [.int (f 0), .ref (if f 1 = 0 then ad 0 0 else ad kd (f 1).toNatClampNeg), .int (f 2)]))) (hed : N kd dd = 1 → ∀ f : Nat → Int32, tq_mk cy ad N kd dd f = some (.inl (cy 5, (f 0).toNatClampNeg, .inr (.inr (.inr (.inr (fun j => tq_nul ad ek (f (j + 1))))))))) (hn : n < 2 ^ 31) (hcap : 0 < n → d9 = ad kd dd ∧ N kd dd = 1 ∧ n ≤ (S kd dd 0).toNatClampNeg ∧ (S kd dd 0).toNatClampNeg < 2 ^ 31) (h : post (tq_cp S kd dd (tq_clr (S kd dd) n))) : ∀ (q j : Nat) (H : Heap) (locs : List Loc) (ls : Array Slot), j + q = n → tq_wd D cy z H0 ad N (tq_mix (tq_cp S kd dd (tq_clr (S kd dd) j)) M) H → va_S (fun q => z ≤ q) s.heap H locs → lv_has ls 4 [(1, .ref d9), (2, .int (nI n)), (3, .int (nI j))] → W p l e (tq_rm 0 0) s m args below meth c H locs 0 0 (MQ below (va_Qv (fun u => post u) (fun u => tq_P D cy z H0 ad N u M) (fun q => z ≤ q)) args s 0 0 (fun q => z ≤ q)) (F0 m 27 ls []) := by
  obtain ⟨hx, hb, hr, hml, hown, hts, hlocks, hK, hG⟩ := id C
  intro q
  induction q with
  | zero =>
    intro j H locs ls hj hW hS hl
    refine lv_iload_n hx hb dJx4a65c_clear_da8c8_27 rfl (lv_at hl 2 rfl) ?_
    refine lv_iload_n hx hb dJx4a65c_clear_da8c8_28 rfl (lv_at hl 1 rfl) ?_
    refine lv_icmp_ge (tgt := 42) hx hb dJx4a65c_clear_da8c8_29 (by decide) (fun _ => ?_) (fun q9 => absurd (nI_le (by omega) (by omega)) q9)
    have hjn : j = n := by omega
    subst hjn
    exact W.vret hx hb hr (fun t ht hWm => ⟨⟨tq_cp S kd dd (tq_clr (S kd dd) j), rfl, h, tq_pe ht hW⟩, hS.F ht⟩) hS.2.2 dJx4a65c_clear_da8c8_42
  | succ q ih =>
    intro j H locs ls hj hW hS hl
    obtain ⟨hd9, hc0, hcn, hc31⟩ := hcap (by omega)
    subst hd9
    refine lv_iload_n hx hb dJx4a65c_clear_da8c8_27 rfl (lv_at hl 2 rfl) ?_
    refine lv_iload_n hx hb dJx4a65c_clear_da8c8_28 rfl (lv_at hl 1 rfl) ?_
    refine lv_icmp_ge (tgt := 42) hx hb dJx4a65c_clear_da8c8_29 (by decide) (fun q9 => absurd q9 (nI_ge (by omega) (by omega))) (fun _ => ?_)
    refine lv_aload_n hx hb dJx4a65c_clear_da8c8_32 rfl (lv_at hl 0 rfl) ?_
    refine lv_iload_n hx hb dJx4a65c_clear_da8c8_33 rfl (lv_at hl 2 rfl) ?_
    refine lv_null hx hb dJx4a65c_clear_da8c8_34 ?_
    have hz : ∀ w : Nat, tq_clr (S kd dd) w 0 = S kd dd 0 := fun w => tq_clr_z _ _
    have e1 := hed hc0 (tq_clr (S kd dd) j)
    have e2 := hed hc0 (tq_clr (S kd dd) (j + 1))
    rw [hz] at e1 e2
    rw [tq_clr_1] at e2
    refine tq_aastN (T1 := tq_mix (tq_cp S kd dd (tq_clr (S kd dd) (j + 1))) M) (C := "java/lang/Object") hx hb hK hW hS (by rw [tq_mixC _ _ hkd, tq_cp_self]; exact e1) 5 rfl (vp_in_nI (show j < (S kd dd 0).toNatClampNeg by omega) hc31) ?_ (by rw [tq_mixC _ _ hkd, tq_cp_self, nI_clamp (show j < 2 ^ 31 by omega)]; exact e2) dJx4a65c_clear_da8c8_35 (fun H locs hW hS => ?_)
    · intro k' i' h9
      by_cases hk9 : k' < 64
      · rw [tq_mixC _ _ hk9, tq_mixC _ _ hk9, tq_cp_out h9, tq_cp_out h9]
      · rw [tq_mixM _ _ hk9, tq_mixM _ _ hk9]
    refine lv_iinc (v := nI (j + 1)) (lv' := [(3, .int (nI (j + 1))), (1, .ref (ad kd dd)), (2, .int (nI n))]) hx hb dJx4a65c_clear_da8c8_36 hl (k := 2) rfl (nI_1 j) (by decide) rfl (fun ls hl => ?_)
    refine lv_goto (tgt := 27) hx hb dJx4a65c_clear_da8c8_39 (by decide) ?_
    exact ih (j + 1) _ _ _ (by omega) hW hS (lv_sub hl [1, 2, 0] rfl)
set_option maxHeartbeats 4000000 in
set_option maxRecDepth 100000 in
theorem kJl_clear {post : tq_St → Prop} {S : tq_St} {kl kd ek i dd n : Nat} (hdd : dd = (S kl i 1).toNatClampNeg) (hk : kl < 64) (hkd : kd < 64) (hne : kl ≠ kd) (he : ∀ f : Nat → Int32, tq_mk cy ad N kl i f = some (.inr (0, [.int (f 0), .ref (if f 1 = 0 then ad 0 0 else ad kd (f 1).toNatClampNeg), .int (f 2)]))) (hed : N kd dd = 1 → ∀ f : Nat → Int32, tq_mk cy ad N kd dd f = some (.inl (cy 5, (f 0).toNatClampNeg, .inr (.inr (.inr (.inr (fun j => tq_nul ad ek (f (j + 1))))))))) (hsz : S kl i 2 = nI n) (hn : n < 2 ^ 31) (hcap : 0 < n → ¬ S kl i 1 = 0 ∧ N kd dd = 1 ∧ n ≤ (S kd dd 0).toNatClampNeg ∧ (S kd dd 0).toNatClampNeg < 2 ^ 31) (h : post (tq_cp (tq_up (tq_up S kl i 0 (S kl i 0 + 1)) kl i 2 0) kd dd (tq_clr (S kd dd) n))) : tq_sV l yJx4a65c_clear_da8c8 (tq_ws yJx4a65c_clear_da8c8 cJx4a65c_clear_da8c8 4 none) 0 0 D cy z H0 ad N M S [.ref (ad kl i)] post := by
  refine Met.ofW (cc := cJx4a65c_clear_da8c8) (maxL := 4) (ret := none) (by decide) rfl ?_
  intro p e s m args below meth c s₁ B hml hv
  obtain ⟨rfl, hW, hK, hG⟩ := hv
  have hx := B.exec
  have hb := B.bytes
  have hr := B.returns
  have hts := atoms_spec (ws := tq_ws yJx4a65c_clear_da8c8 cJx4a65c_clear_da8c8 4 none) B.pre
  have hw : ∀ w ∈ tq_W, w.before _ s = true := fun w h => hts w (List.mem_cons_of_mem _ h)
  have hown : s.vm.findClass RJx4a65c = some m.cls := findClass_of_methodNamed B.named
  have hlocks := B.notSynchronized
  have hS : va_S (fun q => z ≤ q) s.heap s.heap [] := va_S.rf
  have hl := lv_entry ([.ref (ad kl i)]) (n := 4) (Nat.le_of_ble_eq_true rfl)
  rw [lg_entry_eq]
  generalize (lg_sl ([.ref (ad kl i)]) ++ List.replicate (4 - (lg_sl ([.ref (ad kl i)])).length) Slot.unset).toArray = ls at hl ⊢
  have hl : lv_has ls 4 [(0, .ref (ad kl i))] := hl
  have hW : tq_wd D cy z H0 ad N (tq_mix S M) s.heap := hW
  have C : tq_At p s m meth c [.ref (ad kl i)].toArray cJx4a65c_clear_da8c8 4 none (tq_ws yJx4a65c_clear_da8c8 cJx4a65c_clear_da8c8 4 none) RJx4a65c D cy z ad := ⟨hx, hb, hr, hml, hown, hts, hlocks, hK, hG⟩
  obtain ⟨S1, eS1⟩ : ∃ S1, S1 = tq_up S kl i 0 (S kl i 0 + 1) := ⟨_, rfl⟩
  obtain ⟨S2, eS2⟩ : ∃ S2, S2 = tq_up S1 kl i 2 0 := ⟨_, rfl⟩
  rw [← eS1, ← eS2] at h
  have q10 : S1 kl i 1 = S kl i 1 := by rw [eS1, tq_up_cell]; rfl
  have q12 : S1 kl i 2 = S kl i 2 := by rw [eS1, tq_up_cell]; rfl
  have qd : S2 kd dd = S kd dd := by rw [eS2, tq_up_out (fun q => hne q.1.symm), eS1, tq_up_out (fun q => hne q.1.symm)]
  refine lv_aload_n hx hb dJx4a65c_clear_da8c8_0 rfl (lv_at hl 0 rfl) ?_
  refine lv_dup hx hb dJx4a65c_clear_da8c8_1 rfl ?_
  refine va_get (v := .int (S kl i 0)) (ws := [(ad kl i, .inr (0, [.int (S kl i 0), .ref (if S kl i 1 = 0 then ad 0 0 else ad kd (S kl i 1).toNatClampNeg), .int (S kl i 2)]))]) hx hb hw tq_inJl hown hK (tq_one (hW.1 kl i _ (by rw [tq_mixC S M hk]; exact he _))) 0 rfl rfl 0 (by decide) (hw _ tw_168) (fun x h9 => u_same (hw _ tw_169) x h9) rfl dJx4a65c_clear_da8c8_2 ?_
  refine lv_iconst (v := 1) hx hb dJx4a65c_clear_da8c8_5 (by decide) ?_
  refine lv_iadd hx hb dJx4a65c_clear_da8c8_6 ?_
  refine tq_putG (T1 := tq_mix S1 M) (v := .int (S kl i 0 + 1)) (fs := [.int (S kl i 0), .ref (if S kl i 1 = 0 then ad 0 0 else ad kd (S kl i 1).toNatClampNeg), .int (S kl i 2)]) hx hb hw tq_inJl tyJx4a65c tyJx4a65c_ok nmJx4a65c hown hK hW hS (by rw [tq_mixC S M hk]; exact he _) rfl 0 (by decide) (hw _ tw_168) (fun x h9 => u_same (hw _ tw_169) x h9) rfl rfl rfl (by simp) ?_ (by rw [tq_mixC S1 M hk, he, eS1, tq_up_cell]; rfl) dJx4a65c_clear_da8c8_7 (fun H locs hW hS => ?_)
  · intro k' i' h9
    by_cases hk9 : k' < 64
    · rw [tq_mixC _ _ hk9, tq_mixC _ _ hk9, eS1, tq_up_out h9]
    · rw [tq_mixM _ _ hk9, tq_mixM _ _ hk9]
  refine lv_aload_n hx hb dJx4a65c_clear_da8c8_10 rfl (lv_at hl 0 rfl) ?_
  refine va_get (v := .ref (if S1 kl i 1 = 0 then ad 0 0 else ad kd (S1 kl i 1).toNatClampNeg)) (ws := [(ad kl i, .inr (0, [.int (S1 kl i 0), .ref (if S1 kl i 1 = 0 then ad 0 0 else ad kd (S1 kl i 1).toNatClampNeg), .int (S1 kl i 2)]))]) hx hb hw tq_inJl hown hK (tq_one (hW.1 kl i _ (by rw [tq_mixC S1 M hk]; exact he _))) 0 rfl rfl 1 (by decide) (hw _ tw_165) (fun _ h9 => h9) rfl dJx4a65c_clear_da8c8_11 ?_
  generalize hd9 : (if S1 kl i 1 = 0 then ad 0 0 else ad kd (S1 kl i 1).toNatClampNeg) = d9
  refine lv_astore_n (lv' := [(1, .ref d9), (0, .ref (ad kl i))]) hx hb dJx4a65c_clear_da8c8_14 rfl hl (by decide) rfl (fun ls hl => ?_)
  refine lv_aload_n hx hb dJx4a65c_clear_da8c8_15 rfl (lv_at hl 1 rfl) ?_
  refine va_get (v := .int (S1 kl i 2)) (ws := [(ad kl i, .inr (0, [.int (S1 kl i 0), .ref (if S1 kl i 1 = 0 then ad 0 0 else ad kd (S1 kl i 1).toNatClampNeg), .int (S1 kl i 2)]))]) hx hb hw tq_inJl hown hK (tq_one (hW.1 kl i _ (by rw [tq_mixC S1 M hk]; exact he _))) 0 rfl rfl 2 (by decide) (hw _ tw_166) (fun _ h9 => h9) rfl dJx4a65c_clear_da8c8_16 ?_
  rw [q12, hsz]
  refine lv_istore_n (lv' := [(2, .int (nI n)), (1, .ref d9), (0, .ref (ad kl i))]) hx hb dJx4a65c_clear_da8c8_19 rfl hl (by decide) rfl (fun ls hl => ?_)
  refine lv_aload_n hx hb dJx4a65c_clear_da8c8_20 rfl (lv_at hl 2 rfl) ?_
  refine lv_iconst (v := 0) hx hb dJx4a65c_clear_da8c8_21 (by decide) ?_
  refine lv_dup_x1 hx hb dJx4a65c_clear_da8c8_22 rfl rfl ?_
  refine tq_putG (T1 := tq_mix S2 M) (v := .int 0) (fs := [.int (S1 kl i 0), .ref (if S1 kl i 1 = 0 then ad 0 0 else ad kd (S1 kl i 1).toNatClampNeg), .int (S1 kl i 2)]) hx hb hw tq_inJl tyJx4a65c tyJx4a65c_ok nmJx4a65c hown hK hW hS (by rw [tq_mixC S1 M hk]; exact he _) rfl 2 (by decide) (hw _ tw_166) (fun _ h9 => h9) rfl rfl rfl (by simp) ?_ (by rw [tq_mixC S2 M hk, he, eS2, tq_up_cell]; rfl) dJx4a65c_clear_da8c8_23 (fun H locs hW hS => ?_)
  · intro k' i' h9
    by_cases hk9 : k' < 64
    · rw [tq_mixC _ _ hk9, tq_mixC _ _ hk9, eS2, tq_up_out h9]
    · rw [tq_mixM _ _ hk9, tq_mixM _ _ hk9]
  refine lv_istore_n (lv' := [(3, .int 0), (2, .int (nI n)), (1, .ref d9), (0, .ref (ad kl i))]) hx hb dJx4a65c_clear_da8c8_26 rfl hl (by decide) rfl (fun ls hl => ?_)
  refine bJl_clear (S := S2) (d9 := d9) C hk hkd hne he hed hn (fun h0 => ?_) (by rw [qd]; exact h) n 0 _ _ _ (by omega) (by rw [tq_clr_0, tq_cp_id]; exact hW) hS (lv_sub hl [2, 1, 0] rfl)
  obtain ⟨a1, a2, a3, a4⟩ := hcap h0
  rw [qd]
  exact ⟨by rw [← hd9, q10, if_neg a1, hdd], a2, a3, a4⟩
end
