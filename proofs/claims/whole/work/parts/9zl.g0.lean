/-! what the Statement gives of the start -/
theorem tt_1 {w : Cond} (h : w ∈ tables_1_1) : w ∈ lw_tbl := List.mem_append_right _ (List.mem_append_left _ h)
theorem tt_2 {w : Cond} (h : w ∈ tables_1_2) : w ∈ lw_tbl := List.mem_append_right _ (List.mem_append_right _ (List.mem_append_left _ h))
theorem tt_3 {w : Cond} (h : w ∈ tables_1_3) : w ∈ lw_tbl := List.mem_append_right _ (List.mem_append_right _ (List.mem_append_right _ (List.mem_append_left _ h)))
theorem tt_4 {w : Cond} (h : w ∈ tables_1_4) : w ∈ lw_tbl := List.mem_append_right _ (List.mem_append_right _ (List.mem_append_right _ (List.mem_append_right _ (List.mem_append_left _ h))))
theorem tt_5 {w : Cond} (h : w ∈ tables_1_5) : w ∈ lw_tbl := List.mem_append_right _ (List.mem_append_right _ (List.mem_append_right _ (List.mem_append_right _ (List.mem_append_right _ (List.mem_append_left _ h)))))
theorem tt_6 {w : Cond} (h : w ∈ tables_1_6) : w ∈ lw_tbl := List.mem_append_right _ (List.mem_append_right _ (List.mem_append_right _ (List.mem_append_right _ (List.mem_append_right _ (List.mem_append_right _ (List.mem_append_left _ h))))))
theorem tt_7 {w : Cond} (h : w ∈ tables_1_7) : w ∈ lw_tbl := List.mem_append_right _ (List.mem_append_right _ (List.mem_append_right _ (List.mem_append_right _ (List.mem_append_right _ (List.mem_append_right _ (List.mem_append_right _ (List.mem_append_left _ h)))))))
theorem tt_8 {w : Cond} (h : w ∈ tables_1_8) : w ∈ lw_tbl := List.mem_append_right _ (List.mem_append_right _ (List.mem_append_right _ (List.mem_append_right _ (List.mem_append_right _ (List.mem_append_right _ (List.mem_append_right _ (List.mem_append_right _ (List.mem_append_left _ h))))))))
theorem tt_9 {w : Cond} (h : w ∈ tables_1_9) : w ∈ lw_tbl := List.mem_append_right _ (List.mem_append_right _ (List.mem_append_right _ (List.mem_append_right _ (List.mem_append_right _ (List.mem_append_right _ (List.mem_append_right _ (List.mem_append_right _ (List.mem_append_right _ (h)))))))))
theorem tn_180 : (Jvm.Cond.methodLinkNest "TwoSeas" (46 : Nat) ({ cls := "TwoSeas$Reader", name := "<init>", desc := "()V" } : Jvm.MethodName) "TwoSeas") ∈ lw_tbl := tt_1 (List.mem_of_getElem? (i := 66) rfl)
theorem tn_200 : (Jvm.Cond.methodLinkNest "TwoSeas" (53 : Nat) ({ cls := "TwoSeas$Market", name := "<init>", desc := "()V" } : Jvm.MethodName) "TwoSeas") ∈ lw_tbl := tt_1 (List.mem_of_getElem? (i := 86) rfl)
theorem tn_229 : (Jvm.Cond.methodLinkNest "TwoSeas" (71 : Nat) ({ cls := "TwoSeas$Acts", name := "<init>", desc := "()V" } : Jvm.MethodName) "TwoSeas") ∈ lw_tbl := tt_1 (List.mem_of_getElem? (i := 115) rfl)
theorem tn_318 : (Jvm.Cond.methodLinkNest "TwoSeas" (85 : Nat) ({ cls := "TwoSeas$Sheet", name := "<init>", desc := "()V" } : Jvm.MethodName) "TwoSeas") ∈ lw_tbl := tt_1 (List.mem_of_getElem? (i := 204) rfl)
theorem tn_967 : (Jvm.Cond.methodLinkNest "TwoSeas$Ship" (40 : Nat) ({ cls := "TwoSeas", name := "sumOf", desc := "([I)I" } : Jvm.MethodName) "TwoSeas") ∈ lw_tbl := tt_4 (List.mem_of_getElem? (i := 133) rfl)
theorem tn_1347 : (Jvm.Cond.methodLinkNest "TwoSeas" (434 : Nat) ({ cls := "TwoSeas$Acts", name := "run", desc := "(LTwoSeas$Paper;IIII)I" } : Jvm.MethodName) "TwoSeas") ∈ lw_tbl := tt_6 (List.mem_of_getElem? (i := 33) rfl)
theorem tn_1354 : (Jvm.Cond.fieldLinkNest "TwoSeas$Acts" (23 : Nat) "TwoSeas" "BODIES" "[I" "TwoSeas") ∈ lw_tbl := tt_6 (List.mem_of_getElem? (i := 40) rfl)
theorem tn_1356 : (Jvm.Cond.fieldLinkNest "TwoSeas$Acts" (26 : Nat) "TwoSeas" "ABOVE" "[I" "TwoSeas") ∈ lw_tbl := tt_6 (List.mem_of_getElem? (i := 42) rfl)
theorem tn_501 : (Jvm.Cond.castable "[I" "java/lang/Cloneable") ∈ lw_tbl := tt_2 (List.mem_of_getElem? (i := 147) rfl)
theorem tn_2132 : (Jvm.Cond.castable "TwoSeas$Bill" "TwoSeas$Paper") ∈ lw_tbl := tt_9 (List.mem_of_getElem? (i := 98) rfl)
theorem tn_2133 : (Jvm.Cond.castable "TwoSeas$Place" "java/lang/Object") ∈ lw_tbl := tt_9 (List.mem_of_getElem? (i := 99) rfl)
theorem tn_2134 : (Jvm.Cond.castable "TwoSeas$Sheet" "java/lang/Object") ∈ lw_tbl := tt_9 (List.mem_of_getElem? (i := 100) rfl)
theorem tn_2135 : (Jvm.Cond.castable "TwoSeas" "java/lang/Object") ∈ lw_tbl := tt_9 (List.mem_of_getElem? (i := 101) rfl)
theorem tn_2136 : (Jvm.Cond.castable "java/util/ArrayList" "java/lang/Object") ∈ lw_tbl := tt_9 (List.mem_of_getElem? (i := 102) rfl)
theorem tn_2137 : (Jvm.Cond.castable "TwoSeas$Reader" "java/lang/Object") ∈ lw_tbl := tt_9 (List.mem_of_getElem? (i := 103) rfl)
theorem tn_2138 : (Jvm.Cond.castable "TwoSeas$Market" "java/lang/Object") ∈ lw_tbl := tt_9 (List.mem_of_getElem? (i := 104) rfl)
theorem tn_2139 : (Jvm.Cond.castable "TwoSeas$Acts" "java/lang/Object") ∈ lw_tbl := tt_9 (List.mem_of_getElem? (i := 105) rfl)
theorem tn_2140 : (Jvm.Cond.castable "TwoSeasModel" "java/lang/Object") ∈ lw_tbl := tt_9 (List.mem_of_getElem? (i := 106) rfl)
theorem tn_2141 : (Jvm.Cond.castable "TwoSeas$Paper" "java/lang/Object") ∈ lw_tbl := tt_9 (List.mem_of_getElem? (i := 107) rfl)
theorem tn_2142 : (Jvm.Cond.castable "TwoSeas$Paragraph" "java/lang/Object") ∈ lw_tbl := tt_9 (List.mem_of_getElem? (i := 108) rfl)
theorem tn_2143 : (Jvm.Cond.castable "TwoSeas$Test" "java/lang/Object") ∈ lw_tbl := tt_9 (List.mem_of_getElem? (i := 109) rfl)
theorem tn_2144 : (Jvm.Cond.castable "TwoSeas$Ship" "java/lang/Object") ∈ lw_tbl := tt_9 (List.mem_of_getElem? (i := 110) rfl)
theorem tn_2145 : (Jvm.Cond.castable "TwoSeas$Voyage" "java/lang/Object") ∈ lw_tbl := tt_9 (List.mem_of_getElem? (i := 111) rfl)
theorem tn_2146 : (Jvm.Cond.castable "TwoSeas$Bill" "java/lang/Object") ∈ lw_tbl := tt_9 (List.mem_of_getElem? (i := 112) rfl)
theorem tn_2147 : (Jvm.Cond.castable "java/lang/String" "java/lang/Object") ∈ lw_tbl := tt_9 (List.mem_of_getElem? (i := 113) rfl)
theorem tn_2151 : (Jvm.Cond.castable "[LTwoSeas$Place;" "java/lang/Object") ∈ lw_tbl := tt_9 (List.mem_of_getElem? (i := 117) rfl)
theorem tn_2152 : (Jvm.Cond.castable "[I" "java/lang/Object") ∈ lw_tbl := tt_9 (List.mem_of_getElem? (i := 118) rfl)
theorem tn_2153 : (Jvm.Cond.castable "[[I" "java/lang/Object") ∈ lw_tbl := tt_9 (List.mem_of_getElem? (i := 119) rfl)
theorem tn_2154 : (Jvm.Cond.castable "[LTwoSeas$Sheet;" "java/lang/Object") ∈ lw_tbl := tt_9 (List.mem_of_getElem? (i := 120) rfl)
theorem tn_2155 : (Jvm.Cond.castable "[B" "java/lang/Object") ∈ lw_tbl := tt_9 (List.mem_of_getElem? (i := 121) rfl)
theorem tn_2156 : (Jvm.Cond.castable "[Ljava/lang/Object;" "java/lang/Object") ∈ lw_tbl := tt_9 (List.mem_of_getElem? (i := 122) rfl)
theorem tn_2157 : (Jvm.Cond.castable "[Z" "java/lang/Object") ∈ lw_tbl := tt_9 (List.mem_of_getElem? (i := 123) rfl)
theorem tn_642 : (Jvm.Cond.stringRef "TwoSeas$Reader" (43 : Nat) " ") ∈ lw_tbl := tt_3 (List.mem_of_getElem? (i := 48) rfl)
theorem tn_693 : (Jvm.Cond.stringRef "TwoSeas$Reader" (62 : Nat) "if ") ∈ lw_tbl := tt_3 (List.mem_of_getElem? (i := 99) rfl)
theorem tn_576 : (Jvm.Cond.stringRef "TwoSeas$Reader" (78 : Nat) "uy ") ∈ lw_tbl := tt_2 (List.mem_of_getElem? (i := 222) rfl)
theorem tn_633 : (Jvm.Cond.stringRef "TwoSeas$Reader" (80 : Nat) "dvance ") ∈ lw_tbl := tt_3 (List.mem_of_getElem? (i := 39) rfl)
theorem tn_634 : (Jvm.Cond.stringRef "TwoSeas$Reader" (82 : Nat) "ade ") ∈ lw_tbl := tt_3 (List.mem_of_getElem? (i := 40) rfl)
theorem tn_635 : (Jvm.Cond.stringRef "TwoSeas$Reader" (84 : Nat) "ail ") ∈ lw_tbl := tt_3 (List.mem_of_getElem? (i := 41) rfl)
theorem tn_636 : (Jvm.Cond.stringRef "TwoSeas$Reader" (86 : Nat) "raw ") ∈ lw_tbl := tt_3 (List.mem_of_getElem? (i := 42) rfl)
theorem tn_637 : (Jvm.Cond.stringRef "TwoSeas$Reader" (88 : Nat) "keep ") ∈ lw_tbl := tt_3 (List.mem_of_getElem? (i := 43) rfl)
theorem tn_804 : (Jvm.Cond.stringRef "TwoSeas$Reader" (97 : Nat) "r ") ∈ lw_tbl := tt_3 (List.mem_of_getElem? (i := 210) rfl)
theorem tn_805 : (Jvm.Cond.stringRef "TwoSeas$Reader" (99 : Nat) "and ") ∈ lw_tbl := tt_3 (List.mem_of_getElem? (i := 211) rfl)
theorem tn_702 : (Jvm.Cond.stringRef "TwoSeas$Reader" (101 : Nat) "ot ") ∈ lw_tbl := tt_3 (List.mem_of_getElem? (i := 108) rfl)
theorem tn_707 : (Jvm.Cond.stringRef "TwoSeas$Reader" (114 : Nat) "rice") ∈ lw_tbl := tt_3 (List.mem_of_getElem? (i := 113) rfl)
theorem tn_708 : (Jvm.Cond.stringRef "TwoSeas$Reader" (116 : Nat) "ullion") ∈ lw_tbl := tt_3 (List.mem_of_getElem? (i := 114) rfl)
theorem tn_709 : (Jvm.Cond.stringRef "TwoSeas$Reader" (118 : Nat) "ock") ∈ lw_tbl := tt_3 (List.mem_of_getElem? (i := 115) rfl)
theorem tn_710 : (Jvm.Cond.stringRef "TwoSeas$Reader" (120 : Nat) "hips") ∈ lw_tbl := tt_3 (List.mem_of_getElem? (i := 116) rfl)
theorem tn_711 : (Jvm.Cond.stringRef "TwoSeas$Reader" (122 : Nat) "day") ∈ lw_tbl := tt_3 (List.mem_of_getElem? (i := 117) rfl)
theorem tn_716 : (Jvm.Cond.stringRef "TwoSeas$Reader" (124 : Nat) "=") ∈ lw_tbl := tt_3 (List.mem_of_getElem? (i := 122) rfl)
theorem tn_1720 : (Jvm.Cond.stringRef "TwoSeasModel" (259 : Nat) "buy ") ∈ lw_tbl := tt_7 (List.mem_of_getElem? (i := 166) rfl)
theorem tn_1721 : (Jvm.Cond.stringRef "TwoSeasModel" (261 : Nat) "advance ") ∈ lw_tbl := tt_7 (List.mem_of_getElem? (i := 167) rfl)
theorem tn_1722 : (Jvm.Cond.stringRef "TwoSeasModel" (263 : Nat) "lade ") ∈ lw_tbl := tt_7 (List.mem_of_getElem? (i := 168) rfl)
theorem tn_1723 : (Jvm.Cond.stringRef "TwoSeasModel" (265 : Nat) "sail ") ∈ lw_tbl := tt_7 (List.mem_of_getElem? (i := 169) rfl)
theorem tn_1724 : (Jvm.Cond.stringRef "TwoSeasModel" (267 : Nat) "draw ") ∈ lw_tbl := tt_7 (List.mem_of_getElem? (i := 170) rfl)
theorem tn_1725 : (Jvm.Cond.stringRef "TwoSeasModel" (269 : Nat) "keep ") ∈ lw_tbl := tt_7 (List.mem_of_getElem? (i := 171) rfl)
theorem tn_1740 : (Jvm.Cond.stringRef "TwoSeasModel" (278 : Nat) " ") ∈ lw_tbl := tt_7 (List.mem_of_getElem? (i := 186) rfl)
theorem tn_1750 : (Jvm.Cond.stringRef "TwoSeasModel" (283 : Nat) "not ") ∈ lw_tbl := tt_7 (List.mem_of_getElem? (i := 196) rfl)
theorem tn_1751 : (Jvm.Cond.stringRef "TwoSeasModel" (285 : Nat) "hips") ∈ lw_tbl := tt_7 (List.mem_of_getElem? (i := 197) rfl)
theorem tn_1752 : (Jvm.Cond.stringRef "TwoSeasModel" (287 : Nat) "tock") ∈ lw_tbl := tt_7 (List.mem_of_getElem? (i := 198) rfl)
theorem tn_1753 : (Jvm.Cond.stringRef "TwoSeasModel" (289 : Nat) "price") ∈ lw_tbl := tt_7 (List.mem_of_getElem? (i := 199) rfl)
theorem tn_1754 : (Jvm.Cond.stringRef "TwoSeasModel" (291 : Nat) "bullion") ∈ lw_tbl := tt_7 (List.mem_of_getElem? (i := 200) rfl)
theorem tn_1755 : (Jvm.Cond.stringRef "TwoSeasModel" (293 : Nat) "day") ∈ lw_tbl := tt_7 (List.mem_of_getElem? (i := 201) rfl)
theorem tn_1745 : (Jvm.Cond.stringRef "TwoSeasModel" (298 : Nat) " if ") ∈ lw_tbl := tt_7 (List.mem_of_getElem? (i := 191) rfl)
theorem tn_1757 : (Jvm.Cond.stringRef "TwoSeasModel" (309 : Nat) "or ") ∈ lw_tbl := tt_7 (List.mem_of_getElem? (i := 203) rfl)
theorem tn_1758 : (Jvm.Cond.stringRef "TwoSeasModel" (311 : Nat) "and ") ∈ lw_tbl := tt_7 (List.mem_of_getElem? (i := 204) rfl)
theorem tn_150 : (Jvm.Cond.arrayOver (Jvm.ClassFile.FieldType.object "TwoSeas$Place")) ∈ lw_tbl := tt_1 (List.mem_of_getElem? (i := 36) rfl)
theorem tn_243 : (Jvm.Cond.arrayOver (Jvm.ClassFile.FieldType.object "TwoSeas$Sheet")) ∈ lw_tbl := tt_1 (List.mem_of_getElem? (i := 129) rfl)
theorem tn_794 : (Jvm.Cond.arrayOver (Jvm.ClassFile.FieldType.object "java/lang/Object")) ∈ lw_tbl := tt_3 (List.mem_of_getElem? (i := 200) rfl)
theorem tn_205 : (Jvm.Cond.arrayOver (Jvm.ClassFile.FieldType.array Jvm.ClassFile.FieldType.int)) ∈ lw_tbl := tt_1 (List.mem_of_getElem? (i := 91) rfl)
theorem tn_177 : (Jvm.Cond.arrayClass Jvm.ClassFile.FieldType.int) ∈ lw_tbl := tt_1 (List.mem_of_getElem? (i := 63) rfl)
theorem tn_1640 : (Jvm.Cond.arrayClass Jvm.ClassFile.FieldType.boolean) ∈ lw_tbl := tt_7 (List.mem_of_getElem? (i := 86) rfl)
theorem tn_2150 : (Jvm.Cond.declares ({ cls := "java/lang/Object", name := "getClass", desc := "()Ljava/lang/Class;" } : Jvm.MethodName)) ∈ lw_tbl := tt_9 (List.mem_of_getElem? (i := 116) rfl)
theorem tn_164 : (Jvm.Cond.laysStatic "java/util/ArrayList" "DEFAULTCAPACITY_EMPTY_ELEMENTDATA" "[Ljava/lang/Object;") ∈ lw_tbl := tt_1 (List.mem_of_getElem? (i := 50) rfl)
theorem tn_590 : (Jvm.Cond.laysStatic "java/lang/String" "COMPACT_STRINGS" "Z") ∈ lw_tbl := tt_2 (List.mem_of_getElem? (i := 236) rfl)
theorem tn_606 : (Jvm.Cond.laysStatic "jdk/internal/util/Preconditions" "SIOOBE_FORMATTER" "Ljava/util/function/BiFunction;") ∈ lw_tbl := tt_3 (List.mem_of_getElem? (i := 12) rfl)
theorem tn_1355 : (Jvm.Cond.laysStatic "TwoSeas" "BODIES" "[I") ∈ lw_tbl := tt_6 (List.mem_of_getElem? (i := 41) rfl)
theorem tn_1357 : (Jvm.Cond.laysStatic "TwoSeas" "ABOVE" "[I") ∈ lw_tbl := tt_6 (List.mem_of_getElem? (i := 43) rfl)
theorem tn_118 : (Jvm.Cond.initialized "java/util/ArrayList") ∈ lw_tbl := tt_1 (List.mem_of_getElem? (i := 4) rfl)
theorem tn_127 : (Jvm.Cond.initialized "java/lang/String") ∈ lw_tbl := tt_1 (List.mem_of_getElem? (i := 13) rfl)
theorem tn_129 : (Jvm.Cond.initialized "jdk/internal/util/Preconditions") ∈ lw_tbl := tt_1 (List.mem_of_getElem? (i := 15) rfl)
theorem tn_115 : (Jvm.Cond.initialized "TwoSeas") ∈ lw_tbl := tt_1 (List.mem_of_getElem? (i := 1) rfl)
theorem tq_Wl {w : Cond} (h : w ∈ tq_W) : w ∈ lw_tbl := (List.mem_filter.mp h).1
theorem tq_K0 {s : State} {args : Array Value} (hts : ∀ w ∈ lw_tbl, w.before args s = true) : ∃ (D : va_G) (cy : Nat → ClassId), va_K D vwCl (tq_tys cy) s := by
  obtain ⟨c0, i0, h0⟩ := u_known (C := RJx4a65c) (T := TJx4a65c) (N := 3) (n := 3) hts (fun w h => tq_Wl (tq_inJl w h)) (hts _ (tq_Wl tw_152))
  obtain ⟨c1, i1, h1⟩ := u_known (C := RX0) (T := TX0) (N := 2) (n := 2) hts (fun w h => tq_Wl (tq_inX0 w h)) (hts _ (tq_Wl tw_228))
  obtain ⟨c2, i2, h2⟩ := u_known (C := RX1) (T := TX1) (N := 13) (n := 13) hts (fun w h => tq_Wl (tq_inX1 w h)) (hts _ (tq_Wl tw_1188))
  obtain ⟨c3, i3, h3⟩ := u_known (C := RX2) (T := TX2) (N := 5) (n := 5) hts (fun w h => tq_Wl (tq_inX2 w h)) (hts _ (tq_Wl tw_199))
  obtain ⟨c4, i4, h4⟩ := u_known (C := RX3) (T := TX3) (N := 10) (n := 10) hts (fun w h => tq_Wl (tq_inX3 w h)) (hts _ (tq_Wl tw_489))
  obtain ⟨c5, i5, h5⟩ := u_known (C := RX4) (T := TX4) (N := 7) (n := 7) hts (fun w h => tq_Wl (tq_inX4 w h)) (hts _ (tq_Wl tw_644))
  obtain ⟨c6, i6, h6⟩ := u_known (C := RX5) (T := TX5) (N := 17) (n := 17) hts (fun w h => tq_Wl (tq_inX5 w h)) (hts _ (tq_Wl tw_244))
  obtain ⟨c7, i7, h7⟩ := u_known (C := RX6) (T := TX6) (N := 4) (n := 4) hts (fun w h => tq_Wl (tq_inX6 w h)) (hts _ (tq_Wl tw_179))
  obtain ⟨c8, i8, h8⟩ := u_known (C := RX7) (T := TX7) (N := 3) (n := 3) hts (fun w h => tq_Wl (tq_inX7 w h)) (hts _ (tq_Wl tw_317))
  obtain ⟨c9, i9, h9⟩ := u_known (C := RX8) (T := TX8) (N := 11) (n := 11) hts (fun w h => tq_Wl (tq_inX8 w h)) (hts _ (tq_Wl tw_892))
  obtain ⟨c10, i10, h10⟩ := u_known (C := RX9) (T := TX9) (N := 6) (n := 6) hts (fun w h => tq_Wl (tq_inX9 w h)) (hts _ (tq_Wl tw_718))
  obtain ⟨c11, i11, h11⟩ := u_known (C := RX10) (T := TX10) (N := 12) (n := 12) hts (fun w h => tq_Wl (tq_inX10 w h)) (hts _ (tq_Wl tw_979))
  obtain ⟨c12, i12, h12⟩ := u_known (C := RX11) (T := TX11) (N := 20) (n := 20) hts (fun w h => tq_Wl (tq_inX11 w h)) (hts _ (tq_Wl tw_142))
  obtain ⟨c13, i13, h13⟩ := u_known (C := RX12) (T := TX12) (N := 77) (n := 77) hts (fun w h => tq_Wl (tq_inX12 w h)) (hts _ (tq_Wl tw_1402))
  obtain ⟨y0, k0, m0, a1, a2, a3⟩ := Cond.arrayClass_spec (hts _ tn_177)
  obtain ⟨y1, k1, m1, b1, b2, b3⟩ := Cond.arrayClass_spec (hts _ tn_1640)
  obtain ⟨m2, y2, k2, d0, d1, d2, d3⟩ := Cond.arrayOver_specA (hts _ tn_205)
  obtain ⟨m3, y3, k3, e0, e1, e2, e3, e4⟩ := Cond.arrayOver_spec (hts _ tn_150)
  obtain ⟨m4, y4, k4, f0, f1, f2, f3, f4⟩ := Cond.arrayOver_spec (hts _ tn_243)
  obtain ⟨m5, y5, k5, g0, g1, g2, g3, g4⟩ := Cond.arrayOver_spec (hts _ tn_794)
  refine ⟨(fun k => if k = 0 then c0 else if k = 1 then c1 else if k = 2 then c2 else if k = 3 then c3 else if k = 4 then c4 else if k = 5 then c5 else if k = 6 then c6 else if k = 7 then c7 else if k = 8 then c8 else if k = 9 then c9 else if k = 10 then c10 else if k = 11 then c11 else if k = 12 then c12 else c13, fun k => if k = 0 then i0 else if k = 1 then i1 else if k = 2 then i2 else if k = 3 then i3 else if k = 4 then i4 else if k = 5 then i5 else if k = 6 then i6 else if k = 7 then i7 else if k = 8 then i8 else if k = 9 then i9 else if k = 10 then i10 else if k = 11 then i11 else if k = 12 then i12 else i13), fun k => if k = 0 then y0 else if k = 1 then y1 else if k = 2 then y2 else if k = 3 then y3 else if k = 4 then y4 else y5, fun k q hq => ?_, fun k q hq => ?_⟩
  · match k, hq with
    | 0, hq => cases hq; exact h0
    | 1, hq => cases hq; exact h1
    | 2, hq => cases hq; exact h2
    | 3, hq => cases hq; exact h3
    | 4, hq => cases hq; exact h4
    | 5, hq => cases hq; exact h5
    | 6, hq => cases hq; exact h6
    | 7, hq => cases hq; exact h7
    | 8, hq => cases hq; exact h8
    | 9, hq => cases hq; exact h9
    | 10, hq => cases hq; exact h10
    | 11, hq => cases hq; exact h11
    | 12, hq => cases hq; exact h12
    | 13, hq => cases hq; exact h13
    | k + 14, hq => simp [vwCl] at hq
  · match k, hq with
    | 0, hq => cases hq; exact ⟨fun n z => ⟨fun k h => (by cases h), k0, a2, m0, a3⟩, a1⟩
    | 1, hq => cases hq; exact ⟨fun n z => ⟨fun k h => (by cases h), k1, b2, m1, b3⟩, b1⟩
    | 2, hq => cases hq; exact ⟨fun n z => ⟨fun k h => (by cases h), k2, d1, m2, d2⟩, d3⟩
    | 3, hq => cases hq; exact ⟨fun n z => ⟨fun k h => (by cases h), k3, e2, m3, e3⟩, k3, m3, e2, e3, e0, e4⟩
    | 4, hq => cases hq; exact ⟨fun n z => ⟨fun k h => (by cases h), k4, f2, m4, f3⟩, k4, m4, f2, f3, f0, f4⟩
    | 5, hq => cases hq; exact ⟨fun n z => ⟨fun k h => (by cases h), k5, g2, m5, g3⟩, k5, m5, g2, g3, g0, g4⟩
    | k + 6, hq => simp [tq_tys] at hq
