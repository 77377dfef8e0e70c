/-! the constants, on -/
theorem tq_h6 : ∀ i : Nat, i < 28 → tq_len.getD i 0 < 2 ^ 31 := by decide +kernel
theorem tq_dist : ∀ i : Nat, i < 28 → ∀ j : Nat, j < 28 → tq_len.getD i 0 = tq_len.getD j 0 → (∀ k : Nat, k < tq_len.getD i 0 → (tq_byt.getD i []).getD k 0 = (tq_byt.getD j []).getD k 0) → i = j := by decide +kernel
theorem va_OF_inj {o n d : String} {v v1 : Value} {a : Nat} {A : Nat → Prop} {U : State} {H : Heap} (h : va_OF o n d v a A U H) (h1 : va_OF o n d v1 a A U H) : v = v1 := by
  obtain ⟨cf, k, i, f, cell, q1, q2, q3, q4, q5, q6⟩ := h
  obtain ⟨cf1, k1, i1, f1, cell1, r1, r2, r3, r4, r5, r6⟩ := h1
  rw [q1] at r1
  rw [q3] at r3
  cases r1
  cases r3
  rw [q5] at r5
  exact Option.some.inj r5
theorem tq_S0s {s : State} {args : Array Value} (hs : ∀ c ∈ tq_fl0, c.before args s = true) : ∃ q : Nat → Nat × Nat, vk_S 28 tq_len tq_byt (fun i => (q i).1) (fun i => (q i).2) (fun a => s.heap.size ≤ a) s s.heap ∧ ∀ i : Nat, i < 28 → (tq_tm i).eval args s none [] s = some (.ref (q i).1) := by
  have hA : ∀ a : Nat, a < s.heap.size → ¬ (fun a => s.heap.size ≤ a) a := fun a h => Nat.not_le.mpr h
  have h0 : ∀ i : Nat, ∃ q : Nat × Nat, i < 28 → (tq_tm i).eval args s none [] s = some (.ref q.1) ∧ va_O "java/lang/String" q.1 (fun a => s.heap.size ≤ a) s s.heap ∧ va_OF "java/lang/String" "coder" "B" (.int 0) q.1 (fun a => s.heap.size ≤ a) s s.heap ∧ va_OF "java/lang/String" "value" "[B" (.ref q.2) q.1 (fun a => s.heap.size ≤ a) s s.heap ∧ va_T .byte q.2 (tq_len.getD i 0) (fun j => .int ((tq_byt.getD i []).getD j 0)) (fun a => s.heap.size ≤ a) s s.heap := by
    intro i
    by_cases hi : i < 28
    · obtain ⟨adK, adV, h1, h2⟩ := vk_Sof (args := args) (s := s) (N := 1) (tm := fun _ => tq_tm i) (len := [tq_len.getD i 0]) (byt := [tq_byt.getD i []]) (A := fun a => s.heap.size ≤ a)
        (fun j hj => by obtain rfl : j = 0 := by omega
                        exact tq_h6 i hi)
        (fun j hj => hs _ (tq_h1 i hi)) (fun j hj => hs _ (tq_h2 i hi)) (fun j hj => hs _ (tq_h3 i hi))
        (fun j hj => by obtain rfl : j = 0 := by omega
                        exact hs _ (tq_h4 i hi))
        (fun j hj k hk => by obtain rfl : j = 0 := by omega
                             exact hs _ (tq_h5 i hi k hk))
        (fun a b ha hb hab => absurd hab (by omega)) hA
      exact ⟨(adK 0, adV 0), fun _ => ⟨h2 0 (by omega), h1.1 0 (by omega)⟩⟩
    · exact ⟨(0, 0), fun h => absurd h hi⟩
  obtain ⟨q, hq⟩ := Classical.axiomOfChoice h0
  refine ⟨q, ⟨fun i hi => (hq i hi).2, fun i j hi hj e => ?_⟩, fun i hi => (hq i hi).1⟩
  obtain ⟨_, _, _, v1, t1⟩ := hq i hi
  obtain ⟨_, _, _, v2, t2⟩ := hq j hj
  have e1 : (q i).1 = (q j).1 := e
  rw [← e1] at v2
  have e2 : (q i).2 = (q j).2 := by
    have := va_OF_inj v1 v2
    injection this
  rw [← e2] at t2
  obtain ⟨c1, x1, _, _, _, x5, x6, _⟩ := t1
  obtain ⟨c2, y1, _, _, _, y5, y6, _⟩ := t2
  rw [x1] at y1
  cases y1
  have le : tq_len.getD i 0 = tq_len.getD j 0 := (nI_eq (tq_h6 i hi) (tq_h6 j hj)).mp (x5.symm.trans y5)
  refine tq_dist i hi j hj le (fun k hk => ?_)
  have z1 := x6 k hk
  have z2 := y6 k (by rw [← le]; exact hk)
  rw [z1] at z2
  have z3 := Option.some.inj z2
  injection z3
theorem tq_hA : ∀ j : Nat, j < 7 → Cond.eq (.elem (.static "TwoSeas" "ABOVE" "[I") (.int (Int32.ofNat j))) (.int (tq_above.getD j 0)) ∈ tq_fl0 := by decide +kernel
theorem tq_hB : ∀ j : Nat, j < 21 → Cond.eq (.elem (.static "TwoSeas" "BODIES" "[I") (.int (Int32.ofNat j))) (.int (tq_bodies.getD j 0)) ∈ tq_fl0 := by decide +kernel
theorem tq_G0 {s : State} {args : Array Value} (hts : ∀ w ∈ lw_tbl, w.before args s = true) (hgv : (Jvm.Cond.and given_1 narrow_1).before args s = true) : ∃ g : Nat → Nat → Nat, tq_G s.heap.size (tq_adF s.heap.size g) s := by
  have hs : ∀ c ∈ tq_fl0, c.before args s = true := flat_of_before _ hgv
  have hA : ∀ a : Nat, a < s.heap.size → ¬ (fun a => s.heap.size ≤ a) a := fun a h => Nat.not_le.mpr h
  obtain ⟨q, hS, hq⟩ := tq_S0s hs
  obtain ⟨tA, eA, hTA⟩ := va_Tof (tm := .static "TwoSeas" "ABOVE" "[I") (ty := .int) (N := 7) (f := fun j => .int (tq_above.getD j 0)) (A := fun a => s.heap.size ≤ a) (by decide) (hs _ (by decide +kernel)) (va_eqt (hs (Cond.eq (.length (.static "TwoSeas" "ABOVE" "[I")) (.int (Int32.ofNat 7))) (by decide +kernel))) (fun j hj => va_eqt (hs _ (tq_hA j hj))) hA
  obtain ⟨tB, eB, hTB⟩ := va_Tof (tm := .static "TwoSeas" "BODIES" "[I") (ty := .int) (N := 21) (f := fun j => .int (tq_bodies.getD j 0)) (A := fun a => s.heap.size ≤ a) (by decide) (hs _ (by decide +kernel)) (va_eqt (hs (Cond.eq (.length (.static "TwoSeas" "BODIES" "[I")) (.int (Int32.ofNat 21))) (by decide +kernel))) (fun j hj => va_eqt (hs _ (tq_hB j hj))) hA
  obtain ⟨tE, eE, hTE⟩ := va_Tof (tm := .static "java/util/ArrayList" "DEFAULTCAPACITY_EMPTY_ELEMENTDATA" "[Ljava/lang/Object;") (ty := .object "java/lang/Object") (N := 0) (f := fun _ => .null) (A := fun a => s.heap.size ≤ a) (by decide) (hs _ (by decide +kernel)) (va_eqt (hs (Cond.eq (.length (.static "java/util/ArrayList" "DEFAULTCAPACITY_EMPTY_ELEMENTDATA" "[Ljava/lang/Object;")) (.int (Int32.ofNat 0))) (by decide +kernel))) (fun j hj => absurd hj (by omega)) hA
  obtain ⟨mi, hMi⟩ := va_Mi.of (hs (Cond.isRef (.mirror "[Ljava/lang/Object;")) (by decide +kernel))
  refine ⟨fun k i => if k = 0 then tE else if k = 61 then (q i).1 else if k = 62 then (q i).2 else if i = 0 then tA else if i = 1 then tB else mi, hS, ?_, ?_, ⟨?_, hTA⟩, ⟨?_, hTB⟩, ?_, hTE, ?_, ?_⟩
  · unfold tq_sr
    exact List.forall_mem_cons.mpr ⟨vk_R.of (hts _ tn_642) (hq 0 (by decide)), List.forall_mem_cons.mpr ⟨vk_R.of (hts _ tn_693) (hq 1 (by decide)), List.forall_mem_cons.mpr ⟨vk_R.of (hts _ tn_576) (hq 2 (by decide)), List.forall_mem_cons.mpr ⟨vk_R.of (hts _ tn_633) (hq 3 (by decide)), List.forall_mem_cons.mpr ⟨vk_R.of (hts _ tn_634) (hq 4 (by decide)), List.forall_mem_cons.mpr ⟨vk_R.of (hts _ tn_635) (hq 5 (by decide)), List.forall_mem_cons.mpr ⟨vk_R.of (hts _ tn_636) (hq 6 (by decide)), List.forall_mem_cons.mpr ⟨vk_R.of (hts _ tn_637) (hq 7 (by decide)), List.forall_mem_cons.mpr ⟨vk_R.of (hts _ tn_804) (hq 8 (by decide)), List.forall_mem_cons.mpr ⟨vk_R.of (hts _ tn_805) (hq 9 (by decide)), List.forall_mem_cons.mpr ⟨vk_R.of (hts _ tn_702) (hq 10 (by decide)), List.forall_mem_cons.mpr ⟨vk_R.of (hts _ tn_707) (hq 11 (by decide)), List.forall_mem_cons.mpr ⟨vk_R.of (hts _ tn_708) (hq 12 (by decide)), List.forall_mem_cons.mpr ⟨vk_R.of (hts _ tn_709) (hq 13 (by decide)), List.forall_mem_cons.mpr ⟨vk_R.of (hts _ tn_710) (hq 14 (by decide)), List.forall_mem_cons.mpr ⟨vk_R.of (hts _ tn_711) (hq 15 (by decide)), List.forall_mem_cons.mpr ⟨vk_R.of (hts _ tn_716) (hq 16 (by decide)), List.forall_mem_cons.mpr ⟨vk_R.of (hts _ tn_1720) (hq 17 (by decide)), List.forall_mem_cons.mpr ⟨vk_R.of (hts _ tn_1721) (hq 18 (by decide)), List.forall_mem_cons.mpr ⟨vk_R.of (hts _ tn_1722) (hq 19 (by decide)), List.forall_mem_cons.mpr ⟨vk_R.of (hts _ tn_1723) (hq 20 (by decide)), List.forall_mem_cons.mpr ⟨vk_R.of (hts _ tn_1724) (hq 21 (by decide)), List.forall_mem_cons.mpr ⟨vk_R.of (hts _ tn_1725) (va_eqR (hs _ (show Cond.eq (.string "TwoSeas$Reader" 88) (.string "TwoSeasModel" 269) ∈ tq_fl0 by decide +kernel)) (hq 7 (by decide))), List.forall_mem_cons.mpr ⟨vk_R.of (hts _ tn_1740) (va_eqR (hs _ (show Cond.eq (.string "TwoSeas$Reader" 43) (.string "TwoSeasModel" 278) ∈ tq_fl0 by decide +kernel)) (hq 0 (by decide))), List.forall_mem_cons.mpr ⟨vk_R.of (hts _ tn_1750) (hq 22 (by decide)), List.forall_mem_cons.mpr ⟨vk_R.of (hts _ tn_1751) (va_eqR (hs _ (show Cond.eq (.string "TwoSeas$Reader" 120) (.string "TwoSeasModel" 285) ∈ tq_fl0 by decide +kernel)) (hq 14 (by decide))), List.forall_mem_cons.mpr ⟨vk_R.of (hts _ tn_1752) (hq 23 (by decide)), List.forall_mem_cons.mpr ⟨vk_R.of (hts _ tn_1753) (hq 24 (by decide)), List.forall_mem_cons.mpr ⟨vk_R.of (hts _ tn_1754) (hq 25 (by decide)), List.forall_mem_cons.mpr ⟨vk_R.of (hts _ tn_1755) (va_eqR (hs _ (show Cond.eq (.string "TwoSeas$Reader" 122) (.string "TwoSeasModel" 293) ∈ tq_fl0 by decide +kernel)) (hq 15 (by decide))), List.forall_mem_cons.mpr ⟨vk_R.of (hts _ tn_1745) (hq 26 (by decide)), List.forall_mem_cons.mpr ⟨vk_R.of (hts _ tn_1757) (hq 27 (by decide)), List.forall_mem_cons.mpr ⟨vk_R.of (hts _ tn_1758) (va_eqR (hs _ (show Cond.eq (.string "TwoSeas$Reader" 99) (.string "TwoSeasModel" 311) ∈ tq_fl0 by decide +kernel)) (hq 9 (by decide))), (fun _ h => absurd h List.not_mem_nil)⟩⟩⟩⟩⟩⟩⟩⟩⟩⟩⟩⟩⟩⟩⟩⟩⟩⟩⟩⟩⟩⟩⟩⟩⟩⟩⟩⟩⟩⟩⟩⟩⟩
  · exact va_Zof (hts _ tn_590) (hts _ tn_127) (va_eqt (hs (Cond.eq (.static "java/lang/String" "COMPACT_STRINGS" "Z") (.int 1)) (by decide +kernel))) hA
  · exact va_Zof (hts _ tn_1357) (hts _ tn_115) eA hA
  · exact va_Zof (hts _ tn_1355) (hts _ tn_115) eB hA
  · exact va_Zof (hts _ tn_164) (hts _ tn_118) eE hA
  · exact va_Zqof (hts _ tn_606) (hts _ tn_129) (hs _ (by decide +kernel)) hA
  · refine ⟨?_, ?_, ?_, ?_, ?_, ?_, ?_, ?_, tq_adr0 _ _⟩
    · unfold tq_nM
      exact List.forall_mem_cons.mpr ⟨va_Nw.of rfl (hts _ tn_180), List.forall_mem_cons.mpr ⟨va_Nw.of rfl (hts _ tn_200), List.forall_mem_cons.mpr ⟨va_Nw.of rfl (hts _ tn_229), List.forall_mem_cons.mpr ⟨va_Nw.of rfl (hts _ tn_318), List.forall_mem_cons.mpr ⟨va_Nw.of rfl (hts _ tn_967), List.forall_mem_cons.mpr ⟨va_Nw.of rfl (hts _ tn_1347), (fun _ h => absurd h List.not_mem_nil)⟩⟩⟩⟩⟩⟩
    · unfold tq_nF
      exact List.forall_mem_cons.mpr ⟨va_Nw.of rfl (hts _ tn_1354), List.forall_mem_cons.mpr ⟨va_Nw.of rfl (hts _ tn_1356), (fun _ h => absurd h List.not_mem_nil)⟩⟩
    · unfold tq_nC
      exact List.forall_mem_cons.mpr ⟨va_Nw.of rfl (hts _ tn_501), List.forall_mem_cons.mpr ⟨va_Nw.of rfl (hts _ tn_2132), List.forall_mem_cons.mpr ⟨va_Nw.of rfl (hts _ tn_2133), List.forall_mem_cons.mpr ⟨va_Nw.of rfl (hts _ tn_2134), List.forall_mem_cons.mpr ⟨va_Nw.of rfl (hts _ tn_2135), List.forall_mem_cons.mpr ⟨va_Nw.of rfl (hts _ tn_2136), List.forall_mem_cons.mpr ⟨va_Nw.of rfl (hts _ tn_2137), List.forall_mem_cons.mpr ⟨va_Nw.of rfl (hts _ tn_2138), List.forall_mem_cons.mpr ⟨va_Nw.of rfl (hts _ tn_2139), List.forall_mem_cons.mpr ⟨va_Nw.of rfl (hts _ tn_2140), List.forall_mem_cons.mpr ⟨va_Nw.of rfl (hts _ tn_2141), List.forall_mem_cons.mpr ⟨va_Nw.of rfl (hts _ tn_2142), List.forall_mem_cons.mpr ⟨va_Nw.of rfl (hts _ tn_2143), List.forall_mem_cons.mpr ⟨va_Nw.of rfl (hts _ tn_2144), List.forall_mem_cons.mpr ⟨va_Nw.of rfl (hts _ tn_2145), List.forall_mem_cons.mpr ⟨va_Nw.of rfl (hts _ tn_2146), List.forall_mem_cons.mpr ⟨va_Nw.of rfl (hts _ tn_2147), List.forall_mem_cons.mpr ⟨va_Nw.of rfl (hts _ tn_2151), List.forall_mem_cons.mpr ⟨va_Nw.of rfl (hts _ tn_2152), List.forall_mem_cons.mpr ⟨va_Nw.of rfl (hts _ tn_2153), List.forall_mem_cons.mpr ⟨va_Nw.of rfl (hts _ tn_2154), List.forall_mem_cons.mpr ⟨va_Nw.of rfl (hts _ tn_2155), List.forall_mem_cons.mpr ⟨va_Nw.of rfl (hts _ tn_2156), List.forall_mem_cons.mpr ⟨va_Nw.of rfl (hts _ tn_2157), (fun _ h => absurd h List.not_mem_nil)⟩⟩⟩⟩⟩⟩⟩⟩⟩⟩⟩⟩⟩⟩⟩⟩⟩⟩⟩⟩⟩⟩⟩⟩
    · exact List.forall_mem_cons.mpr ⟨va_AO.of (hts _ tn_150), List.forall_mem_cons.mpr ⟨va_AO.of (hts _ tn_243), List.forall_mem_cons.mpr ⟨va_AO.of (hts _ tn_794), (fun _ h => absurd h List.not_mem_nil)⟩⟩⟩
    · exact hts _ tn_205
    · exact va_Nc.of (hs _ (by decide +kernel))
    · exact hMi
    · exact va_Dc.of (hts _ tn_2150)
