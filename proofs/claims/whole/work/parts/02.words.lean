/-! the one list of words that every method takes: those of lw_tbl that may be handed on -/
def tq_W : List Cond := lw_tbl.filter goodWord
theorem tq_in (n : Nat) {w : Cond} (h : lw_tbl[n]? = some w) (hg : goodWord w = true) : w ∈ tq_W := List.mem_filter.mpr ⟨List.mem_of_getElem? h, hg⟩
theorem tq_inl (ws : List Cond) (ps : List Nat) (hp : ws = ps.filterMap (fun i => lw_tbl[i]?)) (hg : ws.all goodWord = true) : ∀ w ∈ ws, w ∈ tq_W := by
  intro w hw
  have h1 := List.all_eq_true.mp hg w hw
  rw [hp] at hw
  obtain ⟨i, -, hi⟩ := List.mem_filterMap.mp hw
  exact tq_in i hi h1
theorem tq_ggo {w : Cond} (h : w ∈ tq_W) : w ∈ tq_W ∧ ((w.onTables && w.keeps) = true ∨ ∃ ty, w = .arrayClass ty) := ⟨h, good_of_word (List.mem_filter.mp h).2⟩
theorem tq_gg {w : Cond} {big : List Cond} (hb : ∀ w ∈ tq_W, w ∈ big) (h : w ∈ tq_W) : w ∈ big ∧ ((w.onTables && w.keeps) = true ∨ ∃ ty, w = .arrayClass ty) := ⟨hb w h, (tq_ggo h).2⟩
/-- the words of a method: its code, and all -/
abbrev tq_ws (y : MethodName) (b : ByteArray) (n : Nat) (r : Option FieldType) : List Cond := .code y b n r :: tq_W
theorem tq_goodV {y0 y : MethodName} {b0 b : ByteArray} {n0 n index : Nat} {r0 r : Option FieldType} {own C : String} (h1 : Cond.methodLink own index y ∈ tq_W) (h2 : Cond.instanceMethod y ∈ tq_W) (h3 : Cond.selects C y y ∈ tq_W) (h4 : Cond.initialized C ∈ tq_W) (h5 : Cond.code y b n r ∈ tq_W) : GoodIn (tq_ws y0 b0 n0 r0) (wsV own index C y (tq_ws y b n r)) := by
  have hb : ∀ w ∈ tq_W, w ∈ tq_ws y0 b0 n0 r0 := fun w h => List.mem_cons_of_mem _ h
  intro w hw
  rcases List.mem_append.mp hw with h | h
  · simp only [List.mem_cons, List.not_mem_nil, or_false] at h
    rcases h with rfl | rfl | rfl | rfl
    · exact tq_gg hb h1
    · exact tq_gg hb h2
    · exact tq_gg hb h3
    · exact tq_gg hb h4
  · rcases List.mem_cons.mp h with rfl | h
    · exact tq_gg hb h5
    · exact tq_gg hb h
theorem tq_goodS {y0 y : MethodName} {b0 b : ByteArray} {n0 n index : Nat} {r0 r : Option FieldType} {own : String} (h1 : Cond.methodLink own index y ∈ tq_W) (h2 : Cond.static y ∈ tq_W) (h4 : Cond.initialized y.cls ∈ tq_W) (h5 : Cond.code y b n r ∈ tq_W) : GoodIn (tq_ws y0 b0 n0 r0) (va_wsS own index y (tq_ws y b n r)) := by
  have hb : ∀ w ∈ tq_W, w ∈ tq_ws y0 b0 n0 r0 := fun w h => List.mem_cons_of_mem _ h
  intro w hw
  rcases List.mem_append.mp hw with h | h
  · simp only [List.mem_cons, List.not_mem_nil, or_false] at h
    rcases h with rfl | rfl | rfl
    · exact tq_gg hb h1
    · exact tq_gg hb h2
    · exact tq_gg hb h4
  · rcases List.mem_cons.mp h with rfl | h
    · exact tq_gg hb h5
    · exact tq_gg hb h
theorem tq_t1 {w : Cond} (h : w ∈ tables_1_1) (hg : goodWord w = true) : w ∈ tq_W := List.mem_filter.mpr ⟨List.mem_append_right _ (List.mem_append_left _ h), hg⟩
theorem tq_t2 {w : Cond} (h : w ∈ tables_1_2) (hg : goodWord w = true) : w ∈ tq_W := List.mem_filter.mpr ⟨List.mem_append_right _ (List.mem_append_right _ (List.mem_append_left _ h)), hg⟩
theorem tq_t3 {w : Cond} (h : w ∈ tables_1_3) (hg : goodWord w = true) : w ∈ tq_W := List.mem_filter.mpr ⟨List.mem_append_right _ (List.mem_append_right _ (List.mem_append_right _ (List.mem_append_left _ h))), hg⟩
theorem tq_t4 {w : Cond} (h : w ∈ tables_1_4) (hg : goodWord w = true) : w ∈ tq_W := List.mem_filter.mpr ⟨List.mem_append_right _ (List.mem_append_right _ (List.mem_append_right _ (List.mem_append_right _ (List.mem_append_left _ h)))), hg⟩
theorem tq_t5 {w : Cond} (h : w ∈ tables_1_5) (hg : goodWord w = true) : w ∈ tq_W := List.mem_filter.mpr ⟨List.mem_append_right _ (List.mem_append_right _ (List.mem_append_right _ (List.mem_append_right _ (List.mem_append_right _ (List.mem_append_left _ h))))), hg⟩
theorem tq_t6 {w : Cond} (h : w ∈ tables_1_6) (hg : goodWord w = true) : w ∈ tq_W := List.mem_filter.mpr ⟨List.mem_append_right _ (List.mem_append_right _ (List.mem_append_right _ (List.mem_append_right _ (List.mem_append_right _ (List.mem_append_right _ (List.mem_append_left _ h)))))), hg⟩
theorem tq_t7 {w : Cond} (h : w ∈ tables_1_7) (hg : goodWord w = true) : w ∈ tq_W := List.mem_filter.mpr ⟨List.mem_append_right _ (List.mem_append_right _ (List.mem_append_right _ (List.mem_append_right _ (List.mem_append_right _ (List.mem_append_right _ (List.mem_append_right _ (List.mem_append_left _ h))))))), hg⟩
theorem tq_t8 {w : Cond} (h : w ∈ tables_1_8) (hg : goodWord w = true) : w ∈ tq_W := List.mem_filter.mpr ⟨List.mem_append_right _ (List.mem_append_right _ (List.mem_append_right _ (List.mem_append_right _ (List.mem_append_right _ (List.mem_append_right _ (List.mem_append_right _ (List.mem_append_right _ (List.mem_append_left _ h)))))))), hg⟩
theorem tq_t9 {w : Cond} (h : w ∈ tables_1_9) (hg : goodWord w = true) : w ∈ tq_W := List.mem_filter.mpr ⟨List.mem_append_right _ (List.mem_append_right _ (List.mem_append_right _ (List.mem_append_right _ (List.mem_append_right _ (List.mem_append_right _ (List.mem_append_right _ (List.mem_append_right _ (List.mem_append_right _ (h))))))))), hg⟩
theorem tw_0 : (Cond.selects "TwoSeas" ⟨"TwoSeas", "isPerson", "(I)Z"⟩ ⟨"TwoSeas", "isPerson", "(I)Z"⟩) ∈ tq_W := tq_in 0 (by decide +kernel) (by decide +kernel)
theorem tw_1 : (Cond.selects "TwoSeas" ⟨"TwoSeas", "hasRoomForPapers", "(I)Z"⟩ ⟨"TwoSeas", "hasRoomForPapers", "(I)Z"⟩) ∈ tq_W := tq_in 1 (by decide +kernel) (by decide +kernel)
theorem tw_2 : (Cond.selects "TwoSeas$Reader" ⟨"TwoSeas$Reader", "readParagraph", "(LTwoSeas$Paper;I)V"⟩ ⟨"TwoSeas$Reader", "readParagraph", "(LTwoSeas$Paper;I)V"⟩) ∈ tq_W := tq_in 2 (by decide +kernel) (by decide +kernel)
theorem tw_3 : (Cond.selects "TwoSeas$Reader" ⟨"TwoSeas$Reader", "readAct", "()I"⟩ ⟨"TwoSeas$Reader", "readAct", "()I"⟩) ∈ tq_W := tq_in 3 (by decide +kernel) (by decide +kernel)
theorem tw_4 : (Cond.selects "TwoSeas$Reader" ⟨"TwoSeas$Reader", "takes", "(I)Z"⟩ ⟨"TwoSeas$Reader", "takes", "(I)Z"⟩) ∈ tq_W := tq_in 4 (by decide +kernel) (by decide +kernel)
theorem tw_5 : (Cond.selects "TwoSeas$Reader" ⟨"TwoSeas$Reader", "expect", "(Ljava/lang/String;)V"⟩ ⟨"TwoSeas$Reader", "expect", "(Ljava/lang/String;)V"⟩) ∈ tq_W := tq_in 5 (by decide +kernel) (by decide +kernel)
theorem tw_6 : (Cond.selects "TwoSeas$Reader" ⟨"TwoSeas$Reader", "fail", "()V"⟩ ⟨"TwoSeas$Reader", "fail", "()V"⟩) ∈ tq_W := tq_in 6 (by decide +kernel) (by decide +kernel)
theorem tw_7 : (Cond.selects "TwoSeas$Reader" ⟨"TwoSeas$Reader", "readSort", "()I"⟩ ⟨"TwoSeas$Reader", "readSort", "()I"⟩) ∈ tq_W := tq_in 7 (by decide +kernel) (by decide +kernel)
theorem tw_8 : (Cond.selects "TwoSeas$Reader" ⟨"TwoSeas$Reader", "readNumber", "()I"⟩ ⟨"TwoSeas$Reader", "readNumber", "()I"⟩) ∈ tq_W := tq_in 8 (by decide +kernel) (by decide +kernel)
theorem tw_9 : (Cond.selects "TwoSeas$Reader" ⟨"TwoSeas$Reader", "isDigitNext", "()Z"⟩ ⟨"TwoSeas$Reader", "isDigitNext", "()Z"⟩) ∈ tq_W := tq_in 9 (by decide +kernel) (by decide +kernel)
theorem tw_10 : (Cond.selects "TwoSeas$Reader" ⟨"TwoSeas$Reader", "readTests", "(LTwoSeas$Paragraph;)V"⟩ ⟨"TwoSeas$Reader", "readTests", "(LTwoSeas$Paragraph;)V"⟩) ∈ tq_W := tq_in 10 (by decide +kernel) (by decide +kernel)
theorem tw_11 : (Cond.selects "TwoSeas$Reader" ⟨"TwoSeas$Reader", "readTest", "(Z)LTwoSeas$Test;"⟩ ⟨"TwoSeas$Reader", "readTest", "(Z)LTwoSeas$Test;"⟩) ∈ tq_W := tq_in 11 (by decide +kernel) (by decide +kernel)
theorem tw_12 : (Cond.selects "TwoSeas$Reader" ⟨"TwoSeas$Reader", "readField", "()I"⟩ ⟨"TwoSeas$Reader", "readField", "()I"⟩) ∈ tq_W := tq_in 12 (by decide +kernel) (by decide +kernel)
theorem tw_13 : (Cond.selects "TwoSeas$Reader" ⟨"TwoSeas$Reader", "readSign", "()I"⟩ ⟨"TwoSeas$Reader", "readSign", "()I"⟩) ∈ tq_W := tq_in 13 (by decide +kernel) (by decide +kernel)
theorem tw_14 : (Cond.selects "java/util/ArrayList" ⟨"java/util/ArrayList", "add", "(Ljava/lang/Object;[Ljava/lang/Object;I)V"⟩ ⟨"java/util/ArrayList", "add", "(Ljava/lang/Object;[Ljava/lang/Object;I)V"⟩) ∈ tq_W := tq_in 14 (by decide +kernel) (by decide +kernel)
theorem tw_15 : (Cond.selects "java/util/ArrayList" ⟨"java/util/ArrayList", "grow", "()[Ljava/lang/Object;"⟩ ⟨"java/util/ArrayList", "grow", "()[Ljava/lang/Object;"⟩) ∈ tq_W := tq_in 15 (by decide +kernel) (by decide +kernel)
theorem tw_16 : (Cond.selects "java/util/ArrayList" ⟨"java/util/ArrayList", "grow", "(I)[Ljava/lang/Object;"⟩ ⟨"java/util/ArrayList", "grow", "(I)[Ljava/lang/Object;"⟩) ∈ tq_W := tq_in 16 (by decide +kernel) (by decide +kernel)
theorem tw_17 : (Cond.selects "TwoSeas" ⟨"TwoSeas", "write", "(ILTwoSeas$Place;I)LTwoSeas$Paper;"⟩ ⟨"TwoSeas", "write", "(ILTwoSeas$Place;I)LTwoSeas$Paper;"⟩) ∈ tq_W := tq_in 17 (by decide +kernel) (by decide +kernel)
theorem tw_18 : (Cond.selects "TwoSeas" ⟨"TwoSeas", "isPaper", "(I)Z"⟩ ⟨"TwoSeas", "isPaper", "(I)Z"⟩) ∈ tq_W := tq_in 18 (by decide +kernel) (by decide +kernel)
theorem tw_19 : (Cond.selects "TwoSeas" ⟨"TwoSeas", "isShip", "(I)Z"⟩ ⟨"TwoSeas", "isShip", "(I)Z"⟩) ∈ tq_W := tq_in 19 (by decide +kernel) (by decide +kernel)
theorem tw_20 : (Cond.selects "TwoSeas" ⟨"TwoSeas", "isInForce", "(II)Z"⟩ ⟨"TwoSeas", "isInForce", "(II)Z"⟩) ∈ tq_W := tq_in 20 (by decide +kernel) (by decide +kernel)
theorem tw_21 : (Cond.selects "TwoSeas" ⟨"TwoSeas", "testsHold", "(LTwoSeas$Paragraph;LTwoSeas$Place;)Z"⟩ ⟨"TwoSeas", "testsHold", "(LTwoSeas$Paragraph;LTwoSeas$Place;)Z"⟩) ∈ tq_W := tq_in 21 (by decide +kernel) (by decide +kernel)
theorem tw_22 : (Cond.selects "TwoSeas" ⟨"TwoSeas", "fieldValue", "(LTwoSeas$Test;LTwoSeas$Place;)I"⟩ ⟨"TwoSeas", "fieldValue", "(LTwoSeas$Test;LTwoSeas$Place;)I"⟩) ∈ tq_W := tq_in 22 (by decide +kernel) (by decide +kernel)
theorem tw_23 : (Cond.selects "TwoSeas" ⟨"TwoSeas", "shipsAt", "(I)I"⟩ ⟨"TwoSeas", "shipsAt", "(I)I"⟩) ∈ tq_W := tq_in 23 (by decide +kernel) (by decide +kernel)
theorem tw_24 : (Cond.selects "TwoSeas" ⟨"TwoSeas", "isTurnBefore", "(II)Z"⟩ ⟨"TwoSeas", "isTurnBefore", "(II)Z"⟩) ∈ tq_W := tq_in 24 (by decide +kernel) (by decide +kernel)
theorem tw_25 : (Cond.selects "TwoSeas" ⟨"TwoSeas", "leave", "(LTwoSeas$Ship;III)LTwoSeas$Voyage;"⟩ ⟨"TwoSeas", "leave", "(LTwoSeas$Ship;III)LTwoSeas$Voyage;"⟩) ∈ tq_W := tq_in 25 (by decide +kernel) (by decide +kernel)
theorem tw_26 : (Cond.selects "TwoSeas" ⟨"TwoSeas", "isVoyage", "(I)Z"⟩ ⟨"TwoSeas", "isVoyage", "(I)Z"⟩) ∈ tq_W := tq_in 26 (by decide +kernel) (by decide +kernel)
theorem tw_27 : (Cond.selects "TwoSeas" ⟨"TwoSeas", "comeDay", "()V"⟩ ⟨"TwoSeas", "comeDay", "()V"⟩) ∈ tq_W := tq_in 27 (by decide +kernel) (by decide +kernel)
theorem tw_28 : (Cond.selects "TwoSeas" ⟨"TwoSeas", "endVoyage", "(LTwoSeas$Ship;LTwoSeas$Voyage;)V"⟩ ⟨"TwoSeas", "endVoyage", "(LTwoSeas$Ship;LTwoSeas$Voyage;)V"⟩) ∈ tq_W := tq_in 28 (by decide +kernel) (by decide +kernel)
theorem tw_29 : (Cond.selects "TwoSeas" ⟨"TwoSeas", "arrive", "(LTwoSeas$Ship;LTwoSeas$Place;)V"⟩ ⟨"TwoSeas", "arrive", "(LTwoSeas$Ship;LTwoSeas$Place;)V"⟩) ∈ tq_W := tq_in 29 (by decide +kernel) (by decide +kernel)
theorem tw_30 : (Cond.selects "TwoSeas" ⟨"TwoSeas", "readAt", "(LTwoSeas$Paper;LTwoSeas$Place;)V"⟩ ⟨"TwoSeas", "readAt", "(LTwoSeas$Paper;LTwoSeas$Place;)V"⟩) ∈ tq_W := tq_in 30 (by decide +kernel) (by decide +kernel)
theorem tw_31 : (Cond.selects "TwoSeas$Place" ⟨"TwoSeas$Place", "comesBehind", "(LTwoSeas$Paper;LTwoSeas$Paper;)Z"⟩ ⟨"TwoSeas$Place", "comesBehind", "(LTwoSeas$Paper;LTwoSeas$Paper;)Z"⟩) ∈ tq_W := tq_in 31 (by decide +kernel) (by decide +kernel)
theorem tw_32 : (Cond.selects "java/util/ArrayList" ⟨"java/util/ArrayList", "rangeCheckForAdd", "(I)V"⟩ ⟨"java/util/ArrayList", "rangeCheckForAdd", "(I)V"⟩) ∈ tq_W := tq_in 32 (by decide +kernel) (by decide +kernel)
theorem tw_33 : (Cond.selects "TwoSeas$Place" ⟨"TwoSeas$Place", "settleForce", "()V"⟩ ⟨"TwoSeas$Place", "settleForce", "()V"⟩) ∈ tq_W := tq_in 33 (by decide +kernel) (by decide +kernel)
theorem tw_34 : (Cond.selects "TwoSeas" ⟨"TwoSeas", "fallDue", "(LTwoSeas$Bill;)V"⟩ ⟨"TwoSeas", "fallDue", "(LTwoSeas$Bill;)V"⟩) ∈ tq_W := tq_in 34 (by decide +kernel) (by decide +kernel)
theorem tw_35 : (Cond.selects "TwoSeas" ⟨"TwoSeas", "workAt", "(LTwoSeas$Place;)V"⟩ ⟨"TwoSeas", "workAt", "(LTwoSeas$Place;)V"⟩) ∈ tq_W := tq_in 35 (by decide +kernel) (by decide +kernel)
theorem tw_36 : (Cond.selects "TwoSeas" ⟨"TwoSeas", "carryOut", "(LTwoSeas$Paragraph;LTwoSeas$Place;)V"⟩ ⟨"TwoSeas", "carryOut", "(LTwoSeas$Paragraph;LTwoSeas$Place;)V"⟩) ∈ tq_W := tq_in 36 (by decide +kernel) (by decide +kernel)
theorem tw_37 : (Cond.selects "TwoSeas" ⟨"TwoSeas", "buyBales", "(LTwoSeas$Paragraph;LTwoSeas$Place;)V"⟩ ⟨"TwoSeas", "buyBales", "(LTwoSeas$Paragraph;LTwoSeas$Place;)V"⟩) ∈ tq_W := tq_in 37 (by decide +kernel) (by decide +kernel)
theorem tw_38 : (Cond.selects "TwoSeas" ⟨"TwoSeas", "enterFor", "(LTwoSeas$Paragraph;LTwoSeas$Place;II)V"⟩ ⟨"TwoSeas", "enterFor", "(LTwoSeas$Paragraph;LTwoSeas$Place;II)V"⟩) ∈ tq_W := tq_in 38 (by decide +kernel) (by decide +kernel)
theorem tw_39 : (Cond.selects "TwoSeas" ⟨"TwoSeas", "enter", "(IIIIIII)V"⟩ ⟨"TwoSeas", "enter", "(IIIIIII)V"⟩) ∈ tq_W := tq_in 39 (by decide +kernel) (by decide +kernel)
theorem tw_40 : (Cond.selects "TwoSeas" ⟨"TwoSeas", "giveAdvance", "(LTwoSeas$Paragraph;LTwoSeas$Place;)V"⟩ ⟨"TwoSeas", "giveAdvance", "(LTwoSeas$Paragraph;LTwoSeas$Place;)V"⟩) ∈ tq_W := tq_in 40 (by decide +kernel) (by decide +kernel)
theorem tw_41 : (Cond.selects "TwoSeas" ⟨"TwoSeas", "ladeShip", "(LTwoSeas$Paragraph;LTwoSeas$Place;)V"⟩ ⟨"TwoSeas", "ladeShip", "(LTwoSeas$Paragraph;LTwoSeas$Place;)V"⟩) ∈ tq_W := tq_in 41 (by decide +kernel) (by decide +kernel)
theorem tw_42 : (Cond.selects "TwoSeas" ⟨"TwoSeas", "sendShip", "(LTwoSeas$Paragraph;LTwoSeas$Place;)V"⟩ ⟨"TwoSeas", "sendShip", "(LTwoSeas$Paragraph;LTwoSeas$Place;)V"⟩) ∈ tq_W := tq_in 42 (by decide +kernel) (by decide +kernel)
theorem tw_43 : (Cond.selects "TwoSeas" ⟨"TwoSeas", "beyondRights", "(LTwoSeas$Ship;I)I"⟩ ⟨"TwoSeas", "beyondRights", "(LTwoSeas$Ship;I)I"⟩) ∈ tq_W := tq_in 43 (by decide +kernel) (by decide +kernel)
theorem tw_44 : (Cond.selects "TwoSeas" ⟨"TwoSeas", "writeInvoice", "(LTwoSeas$Voyage;LTwoSeas$Ship;LTwoSeas$Place;)V"⟩ ⟨"TwoSeas", "writeInvoice", "(LTwoSeas$Voyage;LTwoSeas$Ship;LTwoSeas$Place;)V"⟩) ∈ tq_W := tq_in 44 (by decide +kernel) (by decide +kernel)
theorem tw_45 : (Cond.selects "TwoSeas" ⟨"TwoSeas", "drawBill", "(LTwoSeas$Paragraph;LTwoSeas$Place;)V"⟩ ⟨"TwoSeas", "drawBill", "(LTwoSeas$Paragraph;LTwoSeas$Place;)V"⟩) ∈ tq_W := tq_in 45 (by decide +kernel) (by decide +kernel)
theorem tw_46 : (Cond.selects "TwoSeas" ⟨"TwoSeas", "entriesKept", "()I"⟩ ⟨"TwoSeas", "entriesKept", "()I"⟩) ∈ tq_W := tq_in 46 (by decide +kernel) (by decide +kernel)
theorem tw_47 : (Cond.selects "TwoSeas" ⟨"TwoSeas", "billAt", "(I)LTwoSeas$Bill;"⟩ ⟨"TwoSeas", "billAt", "(I)LTwoSeas$Bill;"⟩) ∈ tq_W := tq_in 47 (by decide +kernel) (by decide +kernel)
theorem tw_48 : (Cond.selects "TwoSeas" ⟨"TwoSeas", "personsAt", "(I)I"⟩ ⟨"TwoSeas", "personsAt", "(I)I"⟩) ∈ tq_W := tq_in 48 (by decide +kernel) (by decide +kernel)
theorem tw_49 : (Cond.selects "TwoSeas" ⟨"TwoSeas", "carries", "(III)Z"⟩ ⟨"TwoSeas", "carries", "(III)Z"⟩) ∈ tq_W := tq_in 49 (by decide +kernel) (by decide +kernel)
theorem tw_50 : (Cond.selects "TwoSeas" ⟨"TwoSeas", "weightOf", "(I)I"⟩ ⟨"TwoSeas", "weightOf", "(I)I"⟩) ∈ tq_W := tq_in 50 (by decide +kernel) (by decide +kernel)
theorem tw_51 : (Cond.selects "TwoSeas" ⟨"TwoSeas", "greatestRank", "(I)I"⟩ ⟨"TwoSeas", "greatestRank", "(I)I"⟩) ∈ tq_W := tq_in 51 (by decide +kernel) (by decide +kernel)
theorem tw_52 : (Cond.selects "TwoSeas" ⟨"TwoSeas", "invoicedTo", "(I)I"⟩ ⟨"TwoSeas", "invoicedTo", "(I)I"⟩) ∈ tq_W := tq_in 52 (by decide +kernel) (by decide +kernel)
theorem tw_53 : (Cond.selects "TwoSeas" ⟨"TwoSeas", "worstYear", "(IIII)I"⟩ ⟨"TwoSeas", "worstYear", "(IIII)I"⟩) ∈ tq_W := tq_in 53 (by decide +kernel) (by decide +kernel)
theorem tw_54 : (Cond.selects "TwoSeas$Acts" ⟨"TwoSeas$Acts", "run", "(LTwoSeas$Paper;IIII)I"⟩ ⟨"TwoSeas$Acts", "run", "(LTwoSeas$Paper;IIII)I"⟩) ∈ tq_W := tq_in 54 (by decide +kernel) (by decide +kernel)
theorem tw_55 : (Cond.selects "TwoSeas$Acts" ⟨"TwoSeas$Acts", "begins", "(I)V"⟩ ⟨"TwoSeas$Acts", "begins", "(I)V"⟩) ∈ tq_W := tq_in 55 (by decide +kernel) (by decide +kernel)
theorem tw_56 : (Cond.selects "TwoSeasModel" ⟨"TwoSeasModel", "priceOf", "(II)I"⟩ ⟨"TwoSeasModel", "priceOf", "(II)I"⟩) ∈ tq_W := tq_in 56 (by decide +kernel) (by decide +kernel)
theorem tw_57 : (Cond.selects "TwoSeasModel" ⟨"TwoSeasModel", "isPerson", "(I)Z"⟩ ⟨"TwoSeasModel", "isPerson", "(I)Z"⟩) ∈ tq_W := tq_in 57 (by decide +kernel) (by decide +kernel)
theorem tw_58 : (Cond.selects "TwoSeasModel" ⟨"TwoSeasModel", "orderHere", "(I)Z"⟩ ⟨"TwoSeasModel", "orderHere", "(I)Z"⟩) ∈ tq_W := tq_in 58 (by decide +kernel) (by decide +kernel)
theorem tw_59 : (Cond.selects "TwoSeasModel" ⟨"TwoSeasModel", "paragraphHere", "(II)Z"⟩ ⟨"TwoSeasModel", "paragraphHere", "(II)Z"⟩) ∈ tq_W := tq_in 59 (by decide +kernel) (by decide +kernel)
theorem tw_60 : (Cond.selects "TwoSeasModel" ⟨"TwoSeasModel", "actHere", "([I)Z"⟩ ⟨"TwoSeasModel", "actHere", "([I)Z"⟩) ∈ tq_W := tq_in 60 (by decide +kernel) (by decide +kernel)
theorem tw_61 : (Cond.selects "TwoSeasModel" ⟨"TwoSeasModel", "here", "()I"⟩ ⟨"TwoSeasModel", "here", "()I"⟩) ∈ tq_W := tq_in 61 (by decide +kernel) (by decide +kernel)
theorem tw_62 : (Cond.selects "TwoSeasModel" ⟨"TwoSeasModel", "word", "(Ljava/lang/String;)Z"⟩ ⟨"TwoSeasModel", "word", "(Ljava/lang/String;)Z"⟩) ∈ tq_W := tq_in 62 (by decide +kernel) (by decide +kernel)
theorem tw_63 : (Cond.selects "TwoSeasModel" ⟨"TwoSeasModel", "wrong", "()Z"⟩ ⟨"TwoSeasModel", "wrong", "()Z"⟩) ∈ tq_W := tq_in 63 (by decide +kernel) (by decide +kernel)
theorem tw_64 : (Cond.selects "TwoSeasModel" ⟨"TwoSeasModel", "sortHere", "()Z"⟩ ⟨"TwoSeasModel", "sortHere", "()Z"⟩) ∈ tq_W := tq_in 64 (by decide +kernel) (by decide +kernel)
theorem tw_65 : (Cond.selects "TwoSeasModel" ⟨"TwoSeasModel", "numberHere", "()Z"⟩ ⟨"TwoSeasModel", "numberHere", "()Z"⟩) ∈ tq_W := tq_in 65 (by decide +kernel) (by decide +kernel)
theorem tw_66 : (Cond.selects "TwoSeasModel" ⟨"TwoSeasModel", "testHere", "([I)Z"⟩ ⟨"TwoSeasModel", "testHere", "([I)Z"⟩) ∈ tq_W := tq_in 66 (by decide +kernel) (by decide +kernel)
theorem tw_67 : (Cond.selects "TwoSeasModel" ⟨"TwoSeasModel", "write", "(III)I"⟩ ⟨"TwoSeasModel", "write", "(III)I"⟩) ∈ tq_W := tq_in 67 (by decide +kernel) (by decide +kernel)
theorem tw_68 : (Cond.selects "TwoSeasModel" ⟨"TwoSeasModel", "isPaper", "(I)Z"⟩ ⟨"TwoSeasModel", "isPaper", "(I)Z"⟩) ∈ tq_W := tq_in 68 (by decide +kernel) (by decide +kernel)
theorem tw_69 : (Cond.selects "TwoSeasModel" ⟨"TwoSeasModel", "isShip", "(I)Z"⟩ ⟨"TwoSeasModel", "isShip", "(I)Z"⟩) ∈ tq_W := tq_in 69 (by decide +kernel) (by decide +kernel)
theorem tw_70 : (Cond.selects "TwoSeasModel" ⟨"TwoSeasModel", "gather", "(I)I"⟩ ⟨"TwoSeasModel", "gather", "(I)I"⟩) ∈ tq_W := tq_in 70 (by decide +kernel) (by decide +kernel)
theorem tw_71 : (Cond.selects "TwoSeasModel" ⟨"TwoSeasModel", "nextOrder", "(II)I"⟩ ⟨"TwoSeasModel", "nextOrder", "(II)I"⟩) ∈ tq_W := tq_in 71 (by decide +kernel) (by decide +kernel)
theorem tw_72 : (Cond.selects "TwoSeasModel" ⟨"TwoSeasModel", "known", "(III)Z"⟩ ⟨"TwoSeasModel", "known", "(III)Z"⟩) ∈ tq_W := tq_in 72 (by decide +kernel) (by decide +kernel)
theorem tw_73 : (Cond.selects "TwoSeasModel" ⟨"TwoSeasModel", "ahead", "(III)Z"⟩ ⟨"TwoSeasModel", "ahead", "(III)Z"⟩) ∈ tq_W := tq_in 73 (by decide +kernel) (by decide +kernel)
theorem tw_74 : (Cond.selects "TwoSeasModel" ⟨"TwoSeasModel", "standing", "(III)Z"⟩ ⟨"TwoSeasModel", "standing", "(III)Z"⟩) ∈ tq_W := tq_in 74 (by decide +kernel) (by decide +kernel)
theorem tw_75 : (Cond.selects "TwoSeasModel" ⟨"TwoSeasModel", "hasAct", "(III)Z"⟩ ⟨"TwoSeasModel", "hasAct", "(III)Z"⟩) ∈ tq_W := tq_in 75 (by decide +kernel) (by decide +kernel)
theorem tw_76 : (Cond.selects "TwoSeasModel" ⟨"TwoSeasModel", "sameAct", "(IIII)Z"⟩ ⟨"TwoSeasModel", "sameAct", "(IIII)Z"⟩) ∈ tq_W := tq_in 76 (by decide +kernel) (by decide +kernel)
theorem tw_77 : (Cond.selects "TwoSeasModel" ⟨"TwoSeasModel", "hold", "(III)Z"⟩ ⟨"TwoSeasModel", "hold", "(III)Z"⟩) ∈ tq_W := tq_in 77 (by decide +kernel) (by decide +kernel)
theorem tw_78 : (Cond.selects "TwoSeasModel" ⟨"TwoSeasModel", "one", "(III)Z"⟩ ⟨"TwoSeasModel", "one", "(III)Z"⟩) ∈ tq_W := tq_in 78 (by decide +kernel) (by decide +kernel)
theorem tw_79 : (Cond.selects "TwoSeasModel" ⟨"TwoSeasModel", "fieldOf", "(III)I"⟩ ⟨"TwoSeasModel", "fieldOf", "(III)I"⟩) ∈ tq_W := tq_in 79 (by decide +kernel) (by decide +kernel)
theorem tw_80 : (Cond.selects "TwoSeasModel" ⟨"TwoSeasModel", "free", "(I)I"⟩ ⟨"TwoSeasModel", "free", "(I)I"⟩) ∈ tq_W := tq_in 80 (by decide +kernel) (by decide +kernel)
theorem tw_81 : (Cond.selects "TwoSeasModel" ⟨"TwoSeasModel", "balesOn", "(I)I"⟩ ⟨"TwoSeasModel", "balesOn", "(I)I"⟩) ∈ tq_W := tq_in 81 (by decide +kernel) (by decide +kernel)
theorem tw_82 : (Cond.selects "TwoSeasModel" ⟨"TwoSeasModel", "ownOn", "(I)I"⟩ ⟨"TwoSeasModel", "ownOn", "(I)I"⟩) ∈ tq_W := tq_in 82 (by decide +kernel) (by decide +kernel)
theorem tw_83 : (Cond.selects "TwoSeasModel" ⟨"TwoSeasModel", "leave", "(II)I"⟩ ⟨"TwoSeasModel", "leave", "(II)I"⟩) ∈ tq_W := tq_in 83 (by decide +kernel) (by decide +kernel)
theorem tw_84 : (Cond.selects "TwoSeasModel" ⟨"TwoSeasModel", "isVoyage", "(I)Z"⟩ ⟨"TwoSeasModel", "isVoyage", "(I)Z"⟩) ∈ tq_W := tq_in 84 (by decide +kernel) (by decide +kernel)
theorem tw_85 : (Cond.selects "TwoSeasModel" ⟨"TwoSeasModel", "joins", "(I)I"⟩ ⟨"TwoSeasModel", "joins", "(I)I"⟩) ∈ tq_W := tq_in 85 (by decide +kernel) (by decide +kernel)
theorem tw_86 : (Cond.selects "TwoSeasModel" ⟨"TwoSeasModel", "openOf", "(II)I"⟩ ⟨"TwoSeasModel", "openOf", "(II)I"⟩) ∈ tq_W := tq_in 86 (by decide +kernel) (by decide +kernel)
theorem tw_87 : (Cond.selects "TwoSeasModel" ⟨"TwoSeasModel", "leftOf", "(I)I"⟩ ⟨"TwoSeasModel", "leftOf", "(I)I"⟩) ∈ tq_W := tq_in 87 (by decide +kernel) (by decide +kernel)
theorem tw_88 : (Cond.selects "TwoSeasModel" ⟨"TwoSeasModel", "dayComes", "()V"⟩ ⟨"TwoSeasModel", "dayComes", "()V"⟩) ∈ tq_W := tq_in 88 (by decide +kernel) (by decide +kernel)
theorem tw_89 : (Cond.selects "TwoSeasModel" ⟨"TwoSeasModel", "gone", "(I)V"⟩ ⟨"TwoSeasModel", "gone", "(I)V"⟩) ∈ tq_W := tq_in 89 (by decide +kernel) (by decide +kernel)
theorem tw_90 : (Cond.selects "TwoSeasModel" ⟨"TwoSeasModel", "empty", "(I)V"⟩ ⟨"TwoSeasModel", "empty", "(I)V"⟩) ∈ tq_W := tq_in 90 (by decide +kernel) (by decide +kernel)
theorem tw_91 : (Cond.selects "TwoSeasModel" ⟨"TwoSeasModel", "comes", "(I)V"⟩ ⟨"TwoSeasModel", "comes", "(I)V"⟩) ∈ tq_W := tq_in 91 (by decide +kernel) (by decide +kernel)
theorem tw_92 : (Cond.selects "TwoSeasModel" ⟨"TwoSeasModel", "billsFallDue", "()V"⟩ ⟨"TwoSeasModel", "billsFallDue", "()V"⟩) ∈ tq_W := tq_in 92 (by decide +kernel) (by decide +kernel)
theorem tw_93 : (Cond.selects "TwoSeasModel" ⟨"TwoSeasModel", "interest", "(I)I"⟩ ⟨"TwoSeasModel", "interest", "(I)I"⟩) ∈ tq_W := tq_in 93 (by decide +kernel) (by decide +kernel)
theorem tw_94 : (Cond.selects "TwoSeasModel" ⟨"TwoSeasModel", "factoryDay", "(I)V"⟩ ⟨"TwoSeasModel", "factoryDay", "(I)V"⟩) ∈ tq_W := tq_in 94 (by decide +kernel) (by decide +kernel)
theorem tw_95 : (Cond.selects "TwoSeasModel" ⟨"TwoSeasModel", "advancesCome", "(I)V"⟩ ⟨"TwoSeasModel", "advancesCome", "(I)V"⟩) ∈ tq_W := tq_in 95 (by decide +kernel) (by decide +kernel)
theorem tw_96 : (Cond.selects "TwoSeasModel" ⟨"TwoSeasModel", "doBuy", "(IIIII)V"⟩ ⟨"TwoSeasModel", "doBuy", "(IIIII)V"⟩) ∈ tq_W := tq_in 96 (by decide +kernel) (by decide +kernel)
theorem tw_97 : (Cond.selects "TwoSeasModel" ⟨"TwoSeasModel", "buy", "(IIII)I"⟩ ⟨"TwoSeasModel", "buy", "(IIII)I"⟩) ∈ tq_W := tq_in 97 (by decide +kernel) (by decide +kernel)
theorem tw_98 : (Cond.selects "TwoSeasModel" ⟨"TwoSeasModel", "enter", "(IIIIIII)V"⟩ ⟨"TwoSeasModel", "enter", "(IIIIIII)V"⟩) ∈ tq_W := tq_in 98 (by decide +kernel) (by decide +kernel)
theorem tw_99 : (Cond.selects "TwoSeasModel" ⟨"TwoSeasModel", "doAdvance", "(IIIII)V"⟩ ⟨"TwoSeasModel", "doAdvance", "(IIIII)V"⟩) ∈ tq_W := tq_in 99 (by decide +kernel) (by decide +kernel)
theorem tw_100 : (Cond.selects "TwoSeasModel" ⟨"TwoSeasModel", "anyOpen", "(II)Z"⟩ ⟨"TwoSeasModel", "anyOpen", "(II)Z"⟩) ∈ tq_W := tq_in 100 (by decide +kernel) (by decide +kernel)
theorem tw_101 : (Cond.selects "TwoSeasModel" ⟨"TwoSeasModel", "give", "(III)V"⟩ ⟨"TwoSeasModel", "give", "(III)V"⟩) ∈ tq_W := tq_in 101 (by decide +kernel) (by decide +kernel)
theorem tw_102 : (Cond.selects "TwoSeasModel" ⟨"TwoSeasModel", "doLade", "(IIIII)V"⟩ ⟨"TwoSeasModel", "doLade", "(IIIII)V"⟩) ∈ tq_W := tq_in 102 (by decide +kernel) (by decide +kernel)
theorem tw_103 : (Cond.selects "TwoSeasModel" ⟨"TwoSeasModel", "doSail", "(IIII)V"⟩ ⟨"TwoSeasModel", "doSail", "(IIII)V"⟩) ∈ tq_W := tq_in 103 (by decide +kernel) (by decide +kernel)
theorem tw_104 : (Cond.selects "TwoSeasModel" ⟨"TwoSeasModel", "doDraw", "(IIII)V"⟩ ⟨"TwoSeasModel", "doDraw", "(IIII)V"⟩) ∈ tq_W := tq_in 104 (by decide +kernel) (by decide +kernel)
theorem tw_105 : (Cond.selects "TwoSeasModel" ⟨"TwoSeasModel", "isBill", "(I)Z"⟩ ⟨"TwoSeasModel", "isBill", "(I)Z"⟩) ∈ tq_W := tq_in 105 (by decide +kernel) (by decide +kernel)
theorem tw_106 : (Cond.selects "TwoSeasModel" ⟨"TwoSeasModel", "sitting", "(I)I"⟩ ⟨"TwoSeasModel", "sitting", "(I)I"⟩) ∈ tq_W := tq_in 106 (by decide +kernel) (by decide +kernel)
theorem tw_107 : (Cond.selects "TwoSeasModel" ⟨"TwoSeasModel", "carries", "(III)Z"⟩ ⟨"TwoSeasModel", "carries", "(III)Z"⟩) ∈ tq_W := tq_in 107 (by decide +kernel) (by decide +kernel)
theorem tw_108 : (Cond.selects "TwoSeasModel" ⟨"TwoSeasModel", "ranks", "(I)I"⟩ ⟨"TwoSeasModel", "ranks", "(I)I"⟩) ∈ tq_W := tq_in 108 (by decide +kernel) (by decide +kernel)
theorem tw_109 : (Cond.selects "TwoSeasModel" ⟨"TwoSeasModel", "greatestRank", "(I)I"⟩ ⟨"TwoSeasModel", "greatestRank", "(I)I"⟩) ∈ tq_W := tq_in 109 (by decide +kernel) (by decide +kernel)
theorem tw_110 : (Cond.selects "TwoSeasModel" ⟨"TwoSeasModel", "greatest", "(II)I"⟩ ⟨"TwoSeasModel", "greatest", "(II)I"⟩) ∈ tq_W := tq_in 110 (by decide +kernel) (by decide +kernel)
theorem tw_111 : (Cond.selects "TwoSeasModel" ⟨"TwoSeasModel", "invoiced", "(II)Z"⟩ ⟨"TwoSeasModel", "invoiced", "(II)Z"⟩) ∈ tq_W := tq_in 111 (by decide +kernel) (by decide +kernel)
theorem tw_112 : (Cond.selects "TwoSeasModel" ⟨"TwoSeasModel", "judge", "(III)V"⟩ ⟨"TwoSeasModel", "judge", "(III)V"⟩) ∈ tq_W := tq_in 112 (by decide +kernel) (by decide +kernel)
theorem tw_113 : (Cond.selects "TwoSeasModel" ⟨"TwoSeasModel", "run", "(IIII)I"⟩ ⟨"TwoSeasModel", "run", "(IIII)I"⟩) ∈ tq_W := tq_in 113 (by decide +kernel) (by decide +kernel)
theorem tw_114 : (Jvm.Cond.initialized "TwoSeasLaw") ∈ tq_W := tq_t1 (List.mem_of_getElem? (i := 0) rfl) rfl
theorem tw_115 : (Jvm.Cond.initialized "TwoSeas") ∈ tq_W := tq_t1 (List.mem_of_getElem? (i := 1) rfl) rfl
theorem tw_116 : (Jvm.Cond.initialized "java/util/AbstractCollection") ∈ tq_W := tq_t1 (List.mem_of_getElem? (i := 2) rfl) rfl
theorem tw_117 : (Jvm.Cond.initialized "java/util/AbstractList") ∈ tq_W := tq_t1 (List.mem_of_getElem? (i := 3) rfl) rfl
theorem tw_118 : (Jvm.Cond.initialized "java/util/ArrayList") ∈ tq_W := tq_t1 (List.mem_of_getElem? (i := 4) rfl) rfl
theorem tw_119 : (Jvm.Cond.initialized "TwoSeas$Reader") ∈ tq_W := tq_t1 (List.mem_of_getElem? (i := 5) rfl) rfl
theorem tw_120 : (Jvm.Cond.initialized "TwoSeas$Market") ∈ tq_W := tq_t1 (List.mem_of_getElem? (i := 6) rfl) rfl
theorem tw_121 : (Jvm.Cond.initialized "TwoSeas$Acts") ∈ tq_W := tq_t1 (List.mem_of_getElem? (i := 7) rfl) rfl
theorem tw_122 : (Jvm.Cond.initialized "TwoSeas$Place") ∈ tq_W := tq_t1 (List.mem_of_getElem? (i := 8) rfl) rfl
theorem tw_123 : (Jvm.Cond.initialized "TwoSeas$Sheet") ∈ tq_W := tq_t1 (List.mem_of_getElem? (i := 9) rfl) rfl
theorem tw_124 : (Jvm.Cond.initialized "java/util/Arrays") ∈ tq_W := tq_t1 (List.mem_of_getElem? (i := 10) rfl) rfl
theorem tw_125 : (Jvm.Cond.initialized "TwoSeasModel") ∈ tq_W := tq_t1 (List.mem_of_getElem? (i := 11) rfl) rfl
theorem tw_126 : (Jvm.Cond.initialized "TwoSeas$Paper") ∈ tq_W := tq_t1 (List.mem_of_getElem? (i := 12) rfl) rfl
theorem tw_127 : (Jvm.Cond.initialized "java/lang/String") ∈ tq_W := tq_t1 (List.mem_of_getElem? (i := 13) rfl) rfl
theorem tw_128 : (Jvm.Cond.initialized "java/lang/StringLatin1") ∈ tq_W := tq_t1 (List.mem_of_getElem? (i := 14) rfl) rfl
theorem tw_129 : (Jvm.Cond.initialized "jdk/internal/util/Preconditions") ∈ tq_W := tq_t1 (List.mem_of_getElem? (i := 15) rfl) rfl
theorem tw_130 : (Jvm.Cond.initialized "java/lang/StringUTF16") ∈ tq_W := tq_t1 (List.mem_of_getElem? (i := 16) rfl) rfl
theorem tw_131 : (Jvm.Cond.initialized "TwoSeas$Paragraph") ∈ tq_W := tq_t1 (List.mem_of_getElem? (i := 17) rfl) rfl
theorem tw_132 : (Jvm.Cond.initialized "java/lang/Math") ∈ tq_W := tq_t1 (List.mem_of_getElem? (i := 18) rfl) rfl
theorem tw_133 : (Jvm.Cond.initialized "TwoSeas$Test") ∈ tq_W := tq_t1 (List.mem_of_getElem? (i := 19) rfl) rfl
theorem tw_134 : (Jvm.Cond.initialized "jdk/internal/util/ArraysSupport") ∈ tq_W := tq_t1 (List.mem_of_getElem? (i := 20) rfl) rfl
theorem tw_135 : (Jvm.Cond.initialized "java/lang/System") ∈ tq_W := tq_t1 (List.mem_of_getElem? (i := 21) rfl) rfl
theorem tw_136 : (Jvm.Cond.initialized "java/util/Objects") ∈ tq_W := tq_t1 (List.mem_of_getElem? (i := 22) rfl) rfl
theorem tw_137 : (Jvm.Cond.initialized "TwoSeas$Ship") ∈ tq_W := tq_t1 (List.mem_of_getElem? (i := 23) rfl) rfl
theorem tw_138 : (Jvm.Cond.initialized "TwoSeas$Voyage") ∈ tq_W := tq_t1 (List.mem_of_getElem? (i := 24) rfl) rfl
theorem tw_139 : (Jvm.Cond.initialized "TwoSeas$Bill") ∈ tq_W := tq_t1 (List.mem_of_getElem? (i := 25) rfl) rfl
theorem tw_140 : (Jvm.Cond.initialized "java/lang/Integer") ∈ tq_W := tq_t1 (List.mem_of_getElem? (i := 26) rfl) rfl
theorem tw_141 : (Jvm.Cond.classLink "TwoSeasLaw" (7 : Nat) "TwoSeas") ∈ tq_W := tq_t1 (List.mem_of_getElem? (i := 27) rfl) rfl
theorem tw_142 : (Jvm.Cond.instantiable "TwoSeas" (20 : Nat)) ∈ tq_W := tq_t1 (List.mem_of_getElem? (i := 28) rfl) rfl
theorem tw_143 : (Jvm.Cond.methodLink "TwoSeasLaw" (9 : Nat) ({ cls := "TwoSeas", name := "<init>", desc := "()V" } : Jvm.MethodName)) ∈ tq_W := tq_t1 (List.mem_of_getElem? (i := 29) rfl) rfl
theorem tw_144 : (Jvm.Cond.instanceMethod ({ cls := "TwoSeas", name := "<init>", desc := "()V" } : Jvm.MethodName)) ∈ tq_W := tq_t1 (List.mem_of_getElem? (i := 30) rfl) rfl
theorem tw_145 : (Jvm.Cond.code ({ cls := "TwoSeas", name := "<init>", desc := "()V" } : Jvm.MethodName) prog_1_method_1_code (2 : Nat) (Option.none : Option Jvm.ClassFile.FieldType)) ∈ tq_W := tq_t1 (List.mem_of_getElem? (i := 31) rfl) rfl
theorem tw_146 : (Jvm.Cond.methodLink "TwoSeas" (1 : Nat) ({ cls := "java/lang/Object", name := "<init>", desc := "()V" } : Jvm.MethodName)) ∈ tq_W := tq_t1 (List.mem_of_getElem? (i := 32) rfl) rfl
theorem tw_147 : (Jvm.Cond.instanceMethod ({ cls := "java/lang/Object", name := "<init>", desc := "()V" } : Jvm.MethodName)) ∈ tq_W := tq_t1 (List.mem_of_getElem? (i := 33) rfl) rfl
theorem tw_148 : (Jvm.Cond.code ({ cls := "java/lang/Object", name := "<init>", desc := "()V" } : Jvm.MethodName) object_method_1_code (1 : Nat) (Option.none : Option Jvm.ClassFile.FieldType)) ∈ tq_W := tq_t1 (List.mem_of_getElem? (i := 34) rfl) rfl
theorem tw_149 : (Jvm.Cond.classLink "TwoSeas" (9 : Nat) "TwoSeas$Place") ∈ tq_W := tq_t1 (List.mem_of_getElem? (i := 35) rfl) rfl
theorem tw_151 : (Jvm.Cond.classLink "TwoSeas" (22 : Nat) "java/util/ArrayList") ∈ tq_W := tq_t1 (List.mem_of_getElem? (i := 37) rfl) rfl
theorem tw_152 : (Jvm.Cond.instantiable "java/util/ArrayList" (3 : Nat)) ∈ tq_W := tq_t1 (List.mem_of_getElem? (i := 38) rfl) rfl
theorem tw_153 : (Jvm.Cond.methodLink "TwoSeas" (24 : Nat) ({ cls := "java/util/ArrayList", name := "<init>", desc := "()V" } : Jvm.MethodName)) ∈ tq_W := tq_t1 (List.mem_of_getElem? (i := 39) rfl) rfl
theorem tw_154 : (Jvm.Cond.instanceMethod ({ cls := "java/util/ArrayList", name := "<init>", desc := "()V" } : Jvm.MethodName)) ∈ tq_W := tq_t1 (List.mem_of_getElem? (i := 40) rfl) rfl
theorem tw_155 : (Jvm.Cond.code ({ cls := "java/util/ArrayList", name := "<init>", desc := "()V" } : Jvm.MethodName) prog_26_method_2_code (1 : Nat) (Option.none : Option Jvm.ClassFile.FieldType)) ∈ tq_W := tq_t1 (List.mem_of_getElem? (i := 41) rfl) rfl
theorem tw_156 : (Jvm.Cond.methodLink "java/util/ArrayList" (1 : Nat) ({ cls := "java/util/AbstractList", name := "<init>", desc := "()V" } : Jvm.MethodName)) ∈ tq_W := tq_t1 (List.mem_of_getElem? (i := 42) rfl) rfl
theorem tw_157 : (Jvm.Cond.instanceMethod ({ cls := "java/util/AbstractList", name := "<init>", desc := "()V" } : Jvm.MethodName)) ∈ tq_W := tq_t1 (List.mem_of_getElem? (i := 43) rfl) rfl
theorem tw_158 : (Jvm.Cond.code ({ cls := "java/util/AbstractList", name := "<init>", desc := "()V" } : Jvm.MethodName) prog_25_method_1_code (1 : Nat) (Option.none : Option Jvm.ClassFile.FieldType)) ∈ tq_W := tq_t1 (List.mem_of_getElem? (i := 44) rfl) rfl
theorem tw_159 : (Jvm.Cond.methodLink "java/util/AbstractList" (1 : Nat) ({ cls := "java/util/AbstractCollection", name := "<init>", desc := "()V" } : Jvm.MethodName)) ∈ tq_W := tq_t1 (List.mem_of_getElem? (i := 45) rfl) rfl
theorem tw_160 : (Jvm.Cond.instanceMethod ({ cls := "java/util/AbstractCollection", name := "<init>", desc := "()V" } : Jvm.MethodName)) ∈ tq_W := tq_t1 (List.mem_of_getElem? (i := 46) rfl) rfl
theorem tw_161 : (Jvm.Cond.code ({ cls := "java/util/AbstractCollection", name := "<init>", desc := "()V" } : Jvm.MethodName) prog_24_method_1_code (1 : Nat) (Option.none : Option Jvm.ClassFile.FieldType)) ∈ tq_W := tq_t1 (List.mem_of_getElem? (i := 47) rfl) rfl
theorem tw_162 : (Jvm.Cond.methodLink "java/util/AbstractCollection" (1 : Nat) ({ cls := "java/lang/Object", name := "<init>", desc := "()V" } : Jvm.MethodName)) ∈ tq_W := tq_t1 (List.mem_of_getElem? (i := 48) rfl) rfl
theorem tw_163 : (Jvm.Cond.fieldLink "java/util/ArrayList" (39 : Nat) "java/util/ArrayList" "DEFAULTCAPACITY_EMPTY_ELEMENTDATA" "[Ljava/lang/Object;") ∈ tq_W := tq_t1 (List.mem_of_getElem? (i := 49) rfl) rfl
theorem tw_165 : (Jvm.Cond.fieldLink "java/util/ArrayList" (9 : Nat) "java/util/ArrayList" "elementData" "[Ljava/lang/Object;") ∈ tq_W := tq_t1 (List.mem_of_getElem? (i := 51) rfl) rfl
theorem tw_166 : (Jvm.Cond.fieldLink "java/util/ArrayList" (48 : Nat) "java/util/ArrayList" "size" "I") ∈ tq_W := tq_t1 (List.mem_of_getElem? (i := 52) rfl) rfl
theorem tw_167 : (Jvm.Cond.fieldLink "java/util/AbstractList" (7 : Nat) "java/util/AbstractList" "modCount" "I") ∈ tq_W := tq_t1 (List.mem_of_getElem? (i := 53) rfl) rfl
theorem tw_168 : (Jvm.Cond.fieldLink "java/util/ArrayList" (63 : Nat) "java/util/ArrayList" "modCount" "I") ∈ tq_W := tq_t1 (List.mem_of_getElem? (i := 54) rfl) rfl
theorem tw_169 : (Jvm.Cond.sameField "java/util/ArrayList" "java/util/AbstractList" "modCount" "I") ∈ tq_W := tq_t1 (List.mem_of_getElem? (i := 55) rfl) rfl
theorem tw_176 : (Jvm.Cond.superclass "java/util/ArrayList" "java/util/AbstractList") ∈ tq_W := tq_t1 (List.mem_of_getElem? (i := 62) rfl) rfl
theorem tw_177 : (Jvm.Cond.arrayClass Jvm.ClassFile.FieldType.int) ∈ tq_W := tq_t1 (List.mem_of_getElem? (i := 63) rfl) rfl
theorem tw_178 : (Jvm.Cond.classLink "TwoSeas" (44 : Nat) "TwoSeas$Reader") ∈ tq_W := tq_t1 (List.mem_of_getElem? (i := 64) rfl) rfl
theorem tw_179 : (Jvm.Cond.instantiable "TwoSeas$Reader" (4 : Nat)) ∈ tq_W := tq_t1 (List.mem_of_getElem? (i := 65) rfl) rfl
theorem tw_181 : (Jvm.Cond.instanceMethod ({ cls := "TwoSeas$Reader", name := "<init>", desc := "()V" } : Jvm.MethodName)) ∈ tq_W := tq_t1 (List.mem_of_getElem? (i := 67) rfl) rfl
theorem tw_182 : (Jvm.Cond.code ({ cls := "TwoSeas$Reader", name := "<init>", desc := "()V" } : Jvm.MethodName) prog_8_method_1_code (1 : Nat) (Option.none : Option Jvm.ClassFile.FieldType)) ∈ tq_W := tq_t1 (List.mem_of_getElem? (i := 68) rfl) rfl
theorem tw_183 : (Jvm.Cond.methodLink "TwoSeas$Reader" (3 : Nat) ({ cls := "java/lang/Object", name := "<init>", desc := "()V" } : Jvm.MethodName)) ∈ tq_W := tq_t1 (List.mem_of_getElem? (i := 69) rfl) rfl
theorem tw_184 : (Jvm.Cond.fieldLink "TwoSeas$Reader" (9 : Nat) "TwoSeas$Reader" "tape" "[I") ∈ tq_W := tq_t1 (List.mem_of_getElem? (i := 70) rfl) rfl
theorem tw_185 : (Jvm.Cond.fieldLink "TwoSeas$Reader" (15 : Nat) "TwoSeas$Reader" "length" "I") ∈ tq_W := tq_t1 (List.mem_of_getElem? (i := 71) rfl) rfl
theorem tw_186 : (Jvm.Cond.fieldLink "TwoSeas" (144 : Nat) "TwoSeas$Reader" "length" "I") ∈ tq_W := tq_t1 (List.mem_of_getElem? (i := 72) rfl) rfl
theorem tw_187 : (Jvm.Cond.fieldLink "TwoSeas$Reader" (19 : Nat) "TwoSeas$Reader" "at" "I") ∈ tq_W := tq_t1 (List.mem_of_getElem? (i := 73) rfl) rfl
theorem tw_188 : (Jvm.Cond.fieldLink "TwoSeas$Reader" (22 : Nat) "TwoSeas$Reader" "fault" "I") ∈ tq_W := tq_t1 (List.mem_of_getElem? (i := 74) rfl) rfl
theorem tw_197 : (Jvm.Cond.superclass "TwoSeas$Reader" "java/lang/Object") ∈ tq_W := tq_t1 (List.mem_of_getElem? (i := 83) rfl) rfl
theorem tw_198 : (Jvm.Cond.classLink "TwoSeas" (51 : Nat) "TwoSeas$Market") ∈ tq_W := tq_t1 (List.mem_of_getElem? (i := 84) rfl) rfl
theorem tw_199 : (Jvm.Cond.instantiable "TwoSeas$Market" (5 : Nat)) ∈ tq_W := tq_t1 (List.mem_of_getElem? (i := 85) rfl) rfl
theorem tw_201 : (Jvm.Cond.instanceMethod ({ cls := "TwoSeas$Market", name := "<init>", desc := "()V" } : Jvm.MethodName)) ∈ tq_W := tq_t1 (List.mem_of_getElem? (i := 87) rfl) rfl
theorem tw_202 : (Jvm.Cond.code ({ cls := "TwoSeas$Market", name := "<init>", desc := "()V" } : Jvm.MethodName) prog_4_method_1_code (1 : Nat) (Option.none : Option Jvm.ClassFile.FieldType)) ∈ tq_W := tq_t1 (List.mem_of_getElem? (i := 88) rfl) rfl
theorem tw_203 : (Jvm.Cond.methodLink "TwoSeas$Market" (3 : Nat) ({ cls := "java/lang/Object", name := "<init>", desc := "()V" } : Jvm.MethodName)) ∈ tq_W := tq_t1 (List.mem_of_getElem? (i := 89) rfl) rfl
theorem tw_204 : (Jvm.Cond.classLink "TwoSeas$Market" (9 : Nat) "[[I") ∈ tq_W := tq_t1 (List.mem_of_getElem? (i := 90) rfl) rfl
theorem tw_206 : (Jvm.Cond.fieldLink "TwoSeas$Market" (11 : Nat) "TwoSeas$Market" "wanted" "[[I") ∈ tq_W := tq_t1 (List.mem_of_getElem? (i := 92) rfl) rfl
theorem tw_207 : (Jvm.Cond.fieldLink "TwoSeas" (383 : Nat) "TwoSeas$Market" "wanted" "[[I") ∈ tq_W := tq_t1 (List.mem_of_getElem? (i := 93) rfl) rfl
theorem tw_208 : (Jvm.Cond.fieldLink "TwoSeas$Market" (16 : Nat) "TwoSeas$Market" "limit" "[[I") ∈ tq_W := tq_t1 (List.mem_of_getElem? (i := 94) rfl) rfl
theorem tw_209 : (Jvm.Cond.fieldLink "TwoSeas" (386 : Nat) "TwoSeas$Market" "limit" "[[I") ∈ tq_W := tq_t1 (List.mem_of_getElem? (i := 95) rfl) rfl
theorem tw_210 : (Jvm.Cond.fieldLink "TwoSeas$Market" (19 : Nat) "TwoSeas$Market" "boughtBy" "[I") ∈ tq_W := tq_t1 (List.mem_of_getElem? (i := 96) rfl) rfl
theorem tw_211 : (Jvm.Cond.fieldLink "TwoSeas" (399 : Nat) "TwoSeas$Market" "boughtBy" "[I") ∈ tq_W := tq_t1 (List.mem_of_getElem? (i := 97) rfl) rfl
theorem tw_212 : (Jvm.Cond.fieldLink "TwoSeas$Market" (23 : Nat) "TwoSeas$Market" "paidBy" "[I") ∈ tq_W := tq_t1 (List.mem_of_getElem? (i := 98) rfl) rfl
theorem tw_213 : (Jvm.Cond.fieldLink "TwoSeas" (402 : Nat) "TwoSeas$Market" "paidBy" "[I") ∈ tq_W := tq_t1 (List.mem_of_getElem? (i := 99) rfl) rfl
theorem tw_214 : (Jvm.Cond.fieldLink "TwoSeas" (396 : Nat) "TwoSeas$Market" "coins" "I") ∈ tq_W := tq_t1 (List.mem_of_getElem? (i := 100) rfl) rfl
theorem tw_225 : (Jvm.Cond.superclass "TwoSeas$Market" "java/lang/Object") ∈ tq_W := tq_t1 (List.mem_of_getElem? (i := 111) rfl) rfl
theorem tw_226 : (Jvm.Cond.classLink "TwoSeas" (64 : Nat) "[[I") ∈ tq_W := tq_t1 (List.mem_of_getElem? (i := 112) rfl) rfl
theorem tw_227 : (Jvm.Cond.classLink "TwoSeas" (69 : Nat) "TwoSeas$Acts") ∈ tq_W := tq_t1 (List.mem_of_getElem? (i := 113) rfl) rfl
theorem tw_228 : (Jvm.Cond.instantiable "TwoSeas$Acts" (2 : Nat)) ∈ tq_W := tq_t1 (List.mem_of_getElem? (i := 114) rfl) rfl
theorem tw_230 : (Jvm.Cond.instanceMethod ({ cls := "TwoSeas$Acts", name := "<init>", desc := "()V" } : Jvm.MethodName)) ∈ tq_W := tq_t1 (List.mem_of_getElem? (i := 116) rfl) rfl
theorem tw_231 : (Jvm.Cond.code ({ cls := "TwoSeas$Acts", name := "<init>", desc := "()V" } : Jvm.MethodName) prog_2_method_1_code (1 : Nat) (Option.none : Option Jvm.ClassFile.FieldType)) ∈ tq_W := tq_t1 (List.mem_of_getElem? (i := 117) rfl) rfl
theorem tw_232 : (Jvm.Cond.methodLink "TwoSeas$Acts" (3 : Nat) ({ cls := "java/lang/Object", name := "<init>", desc := "()V" } : Jvm.MethodName)) ∈ tq_W := tq_t1 (List.mem_of_getElem? (i := 118) rfl) rfl
theorem tw_233 : (Jvm.Cond.fieldLink "TwoSeas$Acts" (9 : Nat) "TwoSeas$Acts" "bodies" "[I") ∈ tq_W := tq_t1 (List.mem_of_getElem? (i := 119) rfl) rfl
theorem tw_234 : (Jvm.Cond.fieldLink "TwoSeas" (446 : Nat) "TwoSeas$Acts" "bodies" "[I") ∈ tq_W := tq_t1 (List.mem_of_getElem? (i := 120) rfl) rfl
theorem tw_235 : (Jvm.Cond.fieldLink "TwoSeas$Acts" (15 : Nat) "TwoSeas$Acts" "ran" "I") ∈ tq_W := tq_t1 (List.mem_of_getElem? (i := 121) rfl) rfl
theorem tw_236 : (Jvm.Cond.fieldLink "TwoSeas" (438 : Nat) "TwoSeas$Acts" "ran" "I") ∈ tq_W := tq_t1 (List.mem_of_getElem? (i := 122) rfl) rfl
theorem tw_241 : (Jvm.Cond.superclass "TwoSeas$Acts" "java/lang/Object") ∈ tq_W := tq_t1 (List.mem_of_getElem? (i := 127) rfl) rfl
theorem tw_242 : (Jvm.Cond.classLink "TwoSeas" (76 : Nat) "TwoSeas$Sheet") ∈ tq_W := tq_t1 (List.mem_of_getElem? (i := 128) rfl) rfl
theorem tw_244 : (Jvm.Cond.instantiable "TwoSeas$Place" (17 : Nat)) ∈ tq_W := tq_t1 (List.mem_of_getElem? (i := 130) rfl) rfl
theorem tw_245 : (Jvm.Cond.methodLink "TwoSeas" (82 : Nat) ({ cls := "TwoSeas$Place", name := "<init>", desc := "(I)V" } : Jvm.MethodName)) ∈ tq_W := tq_t1 (List.mem_of_getElem? (i := 131) rfl) rfl
theorem tw_246 : (Jvm.Cond.instanceMethod ({ cls := "TwoSeas$Place", name := "<init>", desc := "(I)V" } : Jvm.MethodName)) ∈ tq_W := tq_t1 (List.mem_of_getElem? (i := 132) rfl) rfl
theorem tw_247 : (Jvm.Cond.code ({ cls := "TwoSeas$Place", name := "<init>", desc := "(I)V" } : Jvm.MethodName) prog_7_method_1_code (2 : Nat) (Option.none : Option Jvm.ClassFile.FieldType)) ∈ tq_W := tq_t1 (List.mem_of_getElem? (i := 133) rfl) rfl
theorem tw_248 : (Jvm.Cond.methodLink "TwoSeas$Place" (3 : Nat) ({ cls := "java/lang/Object", name := "<init>", desc := "()V" } : Jvm.MethodName)) ∈ tq_W := tq_t1 (List.mem_of_getElem? (i := 134) rfl) rfl
theorem tw_249 : (Jvm.Cond.classLink "TwoSeas$Place" (37 : Nat) "java/util/ArrayList") ∈ tq_W := tq_t1 (List.mem_of_getElem? (i := 135) rfl) rfl
theorem tw_250 : (Jvm.Cond.methodLink "TwoSeas$Place" (39 : Nat) ({ cls := "java/util/ArrayList", name := "<init>", desc := "()V" } : Jvm.MethodName)) ∈ tq_W := tq_t1 (List.mem_of_getElem? (i := 136) rfl) rfl
theorem tw_251 : (Jvm.Cond.fieldLink "TwoSeas$Paper" (29 : Nat) "TwoSeas$Place" "number" "I") ∈ tq_W := tq_t1 (List.mem_of_getElem? (i := 137) rfl) rfl
theorem tw_252 : (Jvm.Cond.fieldLink "TwoSeas$Place" (53 : Nat) "TwoSeas$Place" "number" "I") ∈ tq_W := tq_t1 (List.mem_of_getElem? (i := 138) rfl) rfl
theorem tw_253 : (Jvm.Cond.fieldLink "TwoSeas" (497 : Nat) "TwoSeas$Place" "number" "I") ∈ tq_W := tq_t1 (List.mem_of_getElem? (i := 139) rfl) rfl
theorem tw_254 : (Jvm.Cond.fieldLink "TwoSeas$Place" (60 : Nat) "TwoSeas$Place" "bullion" "I") ∈ tq_W := tq_t1 (List.mem_of_getElem? (i := 140) rfl) rfl
theorem tw_255 : (Jvm.Cond.fieldLink "TwoSeas" (125 : Nat) "TwoSeas$Place" "bullion" "I") ∈ tq_W := tq_t1 (List.mem_of_getElem? (i := 141) rfl) rfl
theorem tw_256 : (Jvm.Cond.fieldLink "TwoSeas$Place" (9 : Nat) "TwoSeas$Place" "stock" "[I") ∈ tq_W := tq_t1 (List.mem_of_getElem? (i := 142) rfl) rfl
theorem tw_257 : (Jvm.Cond.fieldLink "TwoSeas$Paper" (41 : Nat) "TwoSeas$Place" "stock" "[I") ∈ tq_W := tq_t1 (List.mem_of_getElem? (i := 143) rfl) rfl
theorem tw_258 : (Jvm.Cond.fieldLink "TwoSeas" (129 : Nat) "TwoSeas$Place" "stock" "[I") ∈ tq_W := tq_t1 (List.mem_of_getElem? (i := 144) rfl) rfl
theorem tw_259 : (Jvm.Cond.fieldLink "TwoSeas$Place" (15 : Nat) "TwoSeas$Place" "out" "I") ∈ tq_W := tq_t1 (List.mem_of_getElem? (i := 145) rfl) rfl
theorem tw_260 : (Jvm.Cond.fieldLink "TwoSeas" (104 : Nat) "TwoSeas$Place" "out" "I") ∈ tq_W := tq_t1 (List.mem_of_getElem? (i := 146) rfl) rfl
theorem tw_261 : (Jvm.Cond.fieldLink "TwoSeas$Place" (19 : Nat) "TwoSeas$Place" "back" "I") ∈ tq_W := tq_t1 (List.mem_of_getElem? (i := 147) rfl) rfl
theorem tw_262 : (Jvm.Cond.fieldLink "TwoSeas" (107 : Nat) "TwoSeas$Place" "back" "I") ∈ tq_W := tq_t1 (List.mem_of_getElem? (i := 148) rfl) rfl
theorem tw_263 : (Jvm.Cond.fieldLink "TwoSeas" (100 : Nat) "TwoSeas$Place" "spoilt" "I") ∈ tq_W := tq_t1 (List.mem_of_getElem? (i := 149) rfl) rfl
theorem tw_264 : (Jvm.Cond.fieldLink "TwoSeas$Place" (63 : Nat) "TwoSeas$Place" "spoilt" "I") ∈ tq_W := tq_t1 (List.mem_of_getElem? (i := 150) rfl) rfl
theorem tw_265 : (Jvm.Cond.fieldLink "TwoSeas$Place" (22 : Nat) "TwoSeas$Place" "base" "[I") ∈ tq_W := tq_t1 (List.mem_of_getElem? (i := 151) rfl) rfl
theorem tw_266 : (Jvm.Cond.fieldLink "TwoSeas" (113 : Nat) "TwoSeas$Place" "base" "[I") ∈ tq_W := tq_t1 (List.mem_of_getElem? (i := 152) rfl) rfl
theorem tw_267 : (Jvm.Cond.fieldLink "TwoSeas$Place" (25 : Nat) "TwoSeas$Place" "heat" "[I") ∈ tq_W := tq_t1 (List.mem_of_getElem? (i := 153) rfl) rfl
theorem tw_268 : (Jvm.Cond.fieldLink "TwoSeas" (514 : Nat) "TwoSeas$Place" "keep" "I") ∈ tq_W := tq_t1 (List.mem_of_getElem? (i := 154) rfl) rfl
theorem tw_269 : (Jvm.Cond.fieldLink "TwoSeas$Place" (28 : Nat) "TwoSeas$Place" "advanceDay" "[I") ∈ tq_W := tq_t1 (List.mem_of_getElem? (i := 155) rfl) rfl
theorem tw_270 : (Jvm.Cond.fieldLink "TwoSeas" (568 : Nat) "TwoSeas$Place" "advanceDay" "[I") ∈ tq_W := tq_t1 (List.mem_of_getElem? (i := 156) rfl) rfl
theorem tw_271 : (Jvm.Cond.fieldLink "TwoSeas$Place" (31 : Nat) "TwoSeas$Place" "advanceBales" "[I") ∈ tq_W := tq_t1 (List.mem_of_getElem? (i := 157) rfl) rfl
theorem tw_272 : (Jvm.Cond.fieldLink "TwoSeas" (571 : Nat) "TwoSeas$Place" "advanceBales" "[I") ∈ tq_W := tq_t1 (List.mem_of_getElem? (i := 158) rfl) rfl
theorem tw_273 : (Jvm.Cond.fieldLink "TwoSeas$Place" (34 : Nat) "TwoSeas$Place" "advanceLeft" "[I") ∈ tq_W := tq_t1 (List.mem_of_getElem? (i := 159) rfl) rfl
theorem tw_274 : (Jvm.Cond.fieldLink "TwoSeas" (338 : Nat) "TwoSeas$Place" "advanceLeft" "[I") ∈ tq_W := tq_t1 (List.mem_of_getElem? (i := 160) rfl) rfl
theorem tw_275 : (Jvm.Cond.fieldLink "TwoSeas$Place" (40 : Nat) "TwoSeas$Place" "orders" "Ljava/util/ArrayList;") ∈ tq_W := tq_t1 (List.mem_of_getElem? (i := 161) rfl) rfl
theorem tw_276 : (Jvm.Cond.fieldLink "TwoSeas$Place" (44 : Nat) "TwoSeas$Place" "inForce" "Ljava/util/ArrayList;") ∈ tq_W := tq_t1 (List.mem_of_getElem? (i := 162) rfl) rfl
theorem tw_277 : (Jvm.Cond.fieldLink "TwoSeas" (237 : Nat) "TwoSeas$Place" "inForce" "Ljava/util/ArrayList;") ∈ tq_W := tq_t1 (List.mem_of_getElem? (i := 163) rfl) rfl
theorem tw_278 : (Jvm.Cond.fieldLink "TwoSeas$Place" (47 : Nat) "TwoSeas$Place" "latestOrder" "[I") ∈ tq_W := tq_t1 (List.mem_of_getElem? (i := 164) rfl) rfl
theorem tw_279 : (Jvm.Cond.fieldLink "TwoSeas" (582 : Nat) "TwoSeas$Place" "lastBill" "LTwoSeas$Bill;") ∈ tq_W := tq_t1 (List.mem_of_getElem? (i := 165) rfl) rfl
theorem tw_280 : (Jvm.Cond.fieldLink "TwoSeas$Place" (50 : Nat) "TwoSeas$Place" "invoicedTo" "I") ∈ tq_W := tq_t1 (List.mem_of_getElem? (i := 166) rfl) rfl
theorem tw_281 : (Jvm.Cond.fieldLink "TwoSeas" (506 : Nat) "TwoSeas$Place" "invoicedTo" "I") ∈ tq_W := tq_t1 (List.mem_of_getElem? (i := 167) rfl) rfl
theorem tw_316 : (Jvm.Cond.superclass "TwoSeas$Place" "java/lang/Object") ∈ tq_W := tq_t1 (List.mem_of_getElem? (i := 202) rfl) rfl
theorem tw_317 : (Jvm.Cond.instantiable "TwoSeas$Sheet" (3 : Nat)) ∈ tq_W := tq_t1 (List.mem_of_getElem? (i := 203) rfl) rfl
theorem tw_319 : (Jvm.Cond.instanceMethod ({ cls := "TwoSeas$Sheet", name := "<init>", desc := "()V" } : Jvm.MethodName)) ∈ tq_W := tq_t1 (List.mem_of_getElem? (i := 205) rfl) rfl
theorem tw_320 : (Jvm.Cond.code ({ cls := "TwoSeas$Sheet", name := "<init>", desc := "()V" } : Jvm.MethodName) prog_9_method_1_code (1 : Nat) (Option.none : Option Jvm.ClassFile.FieldType)) ∈ tq_W := tq_t1 (List.mem_of_getElem? (i := 206) rfl) rfl
theorem tw_321 : (Jvm.Cond.methodLink "TwoSeas$Sheet" (3 : Nat) ({ cls := "java/lang/Object", name := "<init>", desc := "()V" } : Jvm.MethodName)) ∈ tq_W := tq_t1 (List.mem_of_getElem? (i := 207) rfl) rfl
theorem tw_322 : (Jvm.Cond.fieldLink "TwoSeas$Sheet" (9 : Nat) "TwoSeas$Sheet" "sort" "I") ∈ tq_W := tq_t1 (List.mem_of_getElem? (i := 208) rfl) rfl
theorem tw_323 : (Jvm.Cond.fieldLink "TwoSeas" (154 : Nat) "TwoSeas$Sheet" "sort" "I") ∈ tq_W := tq_t1 (List.mem_of_getElem? (i := 209) rfl) rfl
theorem tw_324 : (Jvm.Cond.fieldLink "TwoSeas$Sheet" (19 : Nat) "TwoSeas$Sheet" "length" "I") ∈ tq_W := tq_t1 (List.mem_of_getElem? (i := 210) rfl) rfl
theorem tw_325 : (Jvm.Cond.fieldLink "TwoSeas$Sheet" (15 : Nat) "TwoSeas$Sheet" "items" "[I") ∈ tq_W := tq_t1 (List.mem_of_getElem? (i := 211) rfl) rfl
theorem tw_326 : (Jvm.Cond.fieldLink "TwoSeas" (161 : Nat) "TwoSeas$Sheet" "items" "[I") ∈ tq_W := tq_t1 (List.mem_of_getElem? (i := 212) rfl) rfl
theorem tw_333 : (Jvm.Cond.superclass "TwoSeas$Sheet" "java/lang/Object") ∈ tq_W := tq_t1 (List.mem_of_getElem? (i := 219) rfl) rfl
theorem tw_334 : (Jvm.Cond.methodLink "TwoSeas" (86 : Nat) ({ cls := "java/util/Arrays", name := "fill", desc := "([II)V" } : Jvm.MethodName)) ∈ tq_W := tq_t1 (List.mem_of_getElem? (i := 220) rfl) rfl
theorem tw_335 : (Jvm.Cond.static ({ cls := "java/util/Arrays", name := "fill", desc := "([II)V" } : Jvm.MethodName)) ∈ tq_W := tq_t1 (List.mem_of_getElem? (i := 221) rfl) rfl
theorem tw_336 : (Jvm.Cond.code ({ cls := "java/util/Arrays", name := "fill", desc := "([II)V" } : Jvm.MethodName) prog_27_method_103_code (4 : Nat) (Option.none : Option Jvm.ClassFile.FieldType)) ∈ tq_W := tq_t1 (List.mem_of_getElem? (i := 222) rfl) rfl
theorem tw_337 : (Jvm.Cond.fieldLink "TwoSeas" (173 : Nat) "TwoSeas" "day" "I") ∈ tq_W := tq_t1 (List.mem_of_getElem? (i := 223) rfl) rfl
theorem tw_338 : (Jvm.Cond.fieldLink "TwoSeas" (11 : Nat) "TwoSeas" "places" "[LTwoSeas$Place;") ∈ tq_W := tq_t1 (List.mem_of_getElem? (i := 224) rfl) rfl
theorem tw_339 : (Jvm.Cond.fieldLink "TwoSeas" (132 : Nat) "TwoSeas" "persons" "I") ∈ tq_W := tq_t1 (List.mem_of_getElem? (i := 225) rfl) rfl
theorem tw_340 : (Jvm.Cond.fieldLink "TwoSeas" (15 : Nat) "TwoSeas" "personPlace" "[I") ∈ tq_W := tq_t1 (List.mem_of_getElem? (i := 226) rfl) rfl
theorem tw_341 : (Jvm.Cond.fieldLink "TwoSeas" (19 : Nat) "TwoSeas" "personRank" "[I") ∈ tq_W := tq_t1 (List.mem_of_getElem? (i := 227) rfl) rfl
theorem tw_342 : (Jvm.Cond.fieldLink "TwoSeas" (25 : Nat) "TwoSeas" "papers" "Ljava/util/ArrayList;") ∈ tq_W := tq_t1 (List.mem_of_getElem? (i := 228) rfl) rfl
theorem tw_343 : (Jvm.Cond.fieldLink "TwoSeas" (29 : Nat) "TwoSeas" "bills" "Ljava/util/ArrayList;") ∈ tq_W := tq_t1 (List.mem_of_getElem? (i := 229) rfl) rfl
theorem tw_344 : (Jvm.Cond.fieldLink "TwoSeas" (32 : Nat) "TwoSeas" "ships" "Ljava/util/ArrayList;") ∈ tq_W := tq_t1 (List.mem_of_getElem? (i := 230) rfl) rfl
theorem tw_345 : (Jvm.Cond.fieldLink "TwoSeas" (35 : Nat) "TwoSeas" "turns" "[I") ∈ tq_W := tq_t1 (List.mem_of_getElem? (i := 231) rfl) rfl
theorem tw_346 : (Jvm.Cond.fieldLink "TwoSeas" (38 : Nat) "TwoSeas" "voyages" "Ljava/util/ArrayList;") ∈ tq_W := tq_t1 (List.mem_of_getElem? (i := 232) rfl) rfl
theorem tw_347 : (Jvm.Cond.fieldLink "TwoSeas" (452 : Nat) "TwoSeas" "entryCount" "I") ∈ tq_W := tq_t1 (List.mem_of_getElem? (i := 233) rfl) rfl
theorem tw_348 : (Jvm.Cond.fieldLink "TwoSeas" (41 : Nat) "TwoSeas" "entries" "[I") ∈ tq_W := tq_t1 (List.mem_of_getElem? (i := 234) rfl) rfl
theorem tw_349 : (Jvm.Cond.fieldLink "TwoSeas" (47 : Nat) "TwoSeas" "reader" "LTwoSeas$Reader;") ∈ tq_W := tq_t1 (List.mem_of_getElem? (i := 235) rfl) rfl
theorem tw_350 : (Jvm.Cond.fieldLink "TwoSeas" (54 : Nat) "TwoSeas" "market" "LTwoSeas$Market;") ∈ tq_W := tq_t1 (List.mem_of_getElem? (i := 236) rfl) rfl
theorem tw_351 : (Jvm.Cond.fieldLink "TwoSeas" (58 : Nat) "TwoSeas" "sharesOf" "[I") ∈ tq_W := tq_t1 (List.mem_of_getElem? (i := 237) rfl) rfl
theorem tw_352 : (Jvm.Cond.fieldLink "TwoSeas" (61 : Nat) "TwoSeas" "dividendsOf" "[I") ∈ tq_W := tq_t1 (List.mem_of_getElem? (i := 238) rfl) rfl
theorem tw_353 : (Jvm.Cond.fieldLink "TwoSeas" (408 : Nat) "TwoSeas" "dividends" "I") ∈ tq_W := tq_t1 (List.mem_of_getElem? (i := 239) rfl) rfl
theorem tw_354 : (Jvm.Cond.fieldLink "TwoSeas" (66 : Nat) "TwoSeas" "brings" "[[I") ∈ tq_W := tq_t2 (List.mem_of_getElem? (i := 0) rfl) rfl
theorem tw_355 : (Jvm.Cond.fieldLink "TwoSeas" (72 : Nat) "TwoSeas" "acts" "LTwoSeas$Acts;") ∈ tq_W := tq_t2 (List.mem_of_getElem? (i := 1) rfl) rfl
theorem tw_356 : (Jvm.Cond.fieldLink "TwoSeas" (78 : Nat) "TwoSeas" "sheets" "[LTwoSeas$Sheet;") ∈ tq_W := tq_t2 (List.mem_of_getElem? (i := 2) rfl) rfl
theorem tw_397 : (Jvm.Cond.superclass "TwoSeas" "java/lang/Object") ∈ tq_W := tq_t2 (List.mem_of_getElem? (i := 43) rfl) rfl
theorem tw_398 : (Jvm.Cond.methodLink "TwoSeasLaw" (13 : Nat) ({ cls := "TwoSeas", name := "factory", desc := "(III)I" } : Jvm.MethodName)) ∈ tq_W := tq_t2 (List.mem_of_getElem? (i := 44) rfl) rfl
theorem tw_399 : (Jvm.Cond.instanceMethod ({ cls := "TwoSeas", name := "factory", desc := "(III)I" } : Jvm.MethodName)) ∈ tq_W := tq_t2 (List.mem_of_getElem? (i := 45) rfl) rfl
theorem tw_400 : (Jvm.Cond.selects "TwoSeas" ({ cls := "TwoSeas", name := "factory", desc := "(III)I" } : Jvm.MethodName) ({ cls := "TwoSeas", name := "factory", desc := "(III)I" } : Jvm.MethodName)) ∈ tq_W := tq_t2 (List.mem_of_getElem? (i := 46) rfl) rfl
theorem tw_401 : (Jvm.Cond.code ({ cls := "TwoSeas", name := "factory", desc := "(III)I" } : Jvm.MethodName) prog_1_method_2_code (6 : Nat) (Option.some Jvm.ClassFile.FieldType.int)) ∈ tq_W := tq_t2 (List.mem_of_getElem? (i := 47) rfl) rfl
theorem tw_402 : (Jvm.Cond.methodLink "TwoSeas" (92 : Nat) ({ cls := "TwoSeas", name := "isFactory", desc := "(I)Z" } : Jvm.MethodName)) ∈ tq_W := tq_t2 (List.mem_of_getElem? (i := 48) rfl) rfl
theorem tw_403 : (Jvm.Cond.static ({ cls := "TwoSeas", name := "isFactory", desc := "(I)Z" } : Jvm.MethodName)) ∈ tq_W := tq_t2 (List.mem_of_getElem? (i := 49) rfl) rfl
theorem tw_404 : (Jvm.Cond.code ({ cls := "TwoSeas", name := "isFactory", desc := "(I)Z" } : Jvm.MethodName) prog_1_method_54_code (1 : Nat) (Option.some Jvm.ClassFile.FieldType.boolean)) ∈ tq_W := tq_t2 (List.mem_of_getElem? (i := 50) rfl) rfl
theorem tw_405 : (Jvm.Cond.methodLink "TwoSeas" (96 : Nat) ({ cls := "TwoSeas", name := "within", desc := "(III)Z" } : Jvm.MethodName)) ∈ tq_W := tq_t2 (List.mem_of_getElem? (i := 51) rfl) rfl
theorem tw_406 : (Jvm.Cond.static ({ cls := "TwoSeas", name := "within", desc := "(III)Z" } : Jvm.MethodName)) ∈ tq_W := tq_t2 (List.mem_of_getElem? (i := 52) rfl) rfl
theorem tw_407 : (Jvm.Cond.code ({ cls := "TwoSeas", name := "within", desc := "(III)Z" } : Jvm.MethodName) prog_1_method_52_code (3 : Nat) (Option.some Jvm.ClassFile.FieldType.boolean)) ∈ tq_W := tq_t2 (List.mem_of_getElem? (i := 53) rfl) rfl
theorem tw_408 : (Jvm.Cond.methodLink "TwoSeasLaw" (18 : Nat) ({ cls := "TwoSeas", name := "base", desc := "(III)I" } : Jvm.MethodName)) ∈ tq_W := tq_t2 (List.mem_of_getElem? (i := 54) rfl) rfl
theorem tw_409 : (Jvm.Cond.instanceMethod ({ cls := "TwoSeas", name := "base", desc := "(III)I" } : Jvm.MethodName)) ∈ tq_W := tq_t2 (List.mem_of_getElem? (i := 55) rfl) rfl
theorem tw_410 : (Jvm.Cond.selects "TwoSeas" ({ cls := "TwoSeas", name := "base", desc := "(III)I" } : Jvm.MethodName) ({ cls := "TwoSeas", name := "base", desc := "(III)I" } : Jvm.MethodName)) ∈ tq_W := tq_t2 (List.mem_of_getElem? (i := 56) rfl) rfl
theorem tw_411 : (Jvm.Cond.code ({ cls := "TwoSeas", name := "base", desc := "(III)I" } : Jvm.MethodName) prog_1_method_3_code (5 : Nat) (Option.some Jvm.ClassFile.FieldType.int)) ∈ tq_W := tq_t2 (List.mem_of_getElem? (i := 57) rfl) rfl
theorem tw_412 : (Jvm.Cond.methodLink "TwoSeas" (110 : Nat) ({ cls := "TwoSeas", name := "isSort", desc := "(I)Z" } : Jvm.MethodName)) ∈ tq_W := tq_t2 (List.mem_of_getElem? (i := 58) rfl) rfl
theorem tw_413 : (Jvm.Cond.static ({ cls := "TwoSeas", name := "isSort", desc := "(I)Z" } : Jvm.MethodName)) ∈ tq_W := tq_t2 (List.mem_of_getElem? (i := 59) rfl) rfl
theorem tw_414 : (Jvm.Cond.code ({ cls := "TwoSeas", name := "isSort", desc := "(I)Z" } : Jvm.MethodName) prog_1_method_55_code (1 : Nat) (Option.some Jvm.ClassFile.FieldType.boolean)) ∈ tq_W := tq_t2 (List.mem_of_getElem? (i := 60) rfl) rfl
theorem tw_415 : (Jvm.Cond.methodLink "TwoSeasLaw" (22 : Nat) ({ cls := "TwoSeas", name := "price", desc := "(II)I" } : Jvm.MethodName)) ∈ tq_W := tq_t2 (List.mem_of_getElem? (i := 61) rfl) rfl
theorem tw_416 : (Jvm.Cond.instanceMethod ({ cls := "TwoSeas", name := "price", desc := "(II)I" } : Jvm.MethodName)) ∈ tq_W := tq_t2 (List.mem_of_getElem? (i := 62) rfl) rfl
theorem tw_417 : (Jvm.Cond.selects "TwoSeas" ({ cls := "TwoSeas", name := "price", desc := "(II)I" } : Jvm.MethodName) ({ cls := "TwoSeas", name := "price", desc := "(II)I" } : Jvm.MethodName)) ∈ tq_W := tq_t2 (List.mem_of_getElem? (i := 63) rfl) rfl
theorem tw_418 : (Jvm.Cond.code ({ cls := "TwoSeas", name := "price", desc := "(II)I" } : Jvm.MethodName) prog_1_method_4_code (3 : Nat) (Option.some Jvm.ClassFile.FieldType.int)) ∈ tq_W := tq_t2 (List.mem_of_getElem? (i := 64) rfl) rfl
theorem tw_419 : (Jvm.Cond.methodLink "TwoSeas" (116 : Nat) ({ cls := "TwoSeas$Place", name := "priceOf", desc := "(I)I" } : Jvm.MethodName)) ∈ tq_W := tq_t2 (List.mem_of_getElem? (i := 65) rfl) rfl
theorem tw_420 : (Jvm.Cond.instanceMethod ({ cls := "TwoSeas$Place", name := "priceOf", desc := "(I)I" } : Jvm.MethodName)) ∈ tq_W := tq_t2 (List.mem_of_getElem? (i := 66) rfl) rfl
theorem tw_421 : (Jvm.Cond.selects "TwoSeas$Place" ({ cls := "TwoSeas$Place", name := "priceOf", desc := "(I)I" } : Jvm.MethodName) ({ cls := "TwoSeas$Place", name := "priceOf", desc := "(I)I" } : Jvm.MethodName)) ∈ tq_W := tq_t2 (List.mem_of_getElem? (i := 67) rfl) rfl
theorem tw_422 : (Jvm.Cond.code ({ cls := "TwoSeas$Place", name := "priceOf", desc := "(I)I" } : Jvm.MethodName) prog_7_method_2_code (2 : Nat) (Option.some Jvm.ClassFile.FieldType.int)) ∈ tq_W := tq_t2 (List.mem_of_getElem? (i := 68) rfl) rfl
theorem tw_423 : (Jvm.Cond.methodLink "TwoSeasLaw" (27 : Nat) ({ cls := "TwoSeas", name := "bullion", desc := "(II)I" } : Jvm.MethodName)) ∈ tq_W := tq_t2 (List.mem_of_getElem? (i := 69) rfl) rfl
theorem tw_424 : (Jvm.Cond.instanceMethod ({ cls := "TwoSeas", name := "bullion", desc := "(II)I" } : Jvm.MethodName)) ∈ tq_W := tq_t2 (List.mem_of_getElem? (i := 70) rfl) rfl
theorem tw_425 : (Jvm.Cond.selects "TwoSeas" ({ cls := "TwoSeas", name := "bullion", desc := "(II)I" } : Jvm.MethodName) ({ cls := "TwoSeas", name := "bullion", desc := "(II)I" } : Jvm.MethodName)) ∈ tq_W := tq_t2 (List.mem_of_getElem? (i := 71) rfl) rfl
theorem tw_426 : (Jvm.Cond.code ({ cls := "TwoSeas", name := "bullion", desc := "(II)I" } : Jvm.MethodName) prog_1_method_5_code (3 : Nat) (Option.some Jvm.ClassFile.FieldType.int)) ∈ tq_W := tq_t2 (List.mem_of_getElem? (i := 72) rfl) rfl
theorem tw_427 : (Jvm.Cond.methodLink "TwoSeas" (120 : Nat) ({ cls := "TwoSeas", name := "isPlace", desc := "(I)Z" } : Jvm.MethodName)) ∈ tq_W := tq_t2 (List.mem_of_getElem? (i := 73) rfl) rfl
theorem tw_428 : (Jvm.Cond.static ({ cls := "TwoSeas", name := "isPlace", desc := "(I)Z" } : Jvm.MethodName)) ∈ tq_W := tq_t2 (List.mem_of_getElem? (i := 74) rfl) rfl
theorem tw_429 : (Jvm.Cond.code ({ cls := "TwoSeas", name := "isPlace", desc := "(I)Z" } : Jvm.MethodName) prog_1_method_53_code (1 : Nat) (Option.some Jvm.ClassFile.FieldType.boolean)) ∈ tq_W := tq_t2 (List.mem_of_getElem? (i := 75) rfl) rfl
theorem tw_430 : (Jvm.Cond.constant "TwoSeas" (123 : Nat) (-1000000 : Int32)) ∈ tq_W := tq_t2 (List.mem_of_getElem? (i := 76) rfl) rfl
theorem tw_431 : (Jvm.Cond.constant "TwoSeas" (124 : Nat) (1000000 : Int32)) ∈ tq_W := tq_t2 (List.mem_of_getElem? (i := 77) rfl) rfl
theorem tw_432 : (Jvm.Cond.constant "TwoSeas" (128 : Nat) (100000000 : Int32)) ∈ tq_W := tq_t2 (List.mem_of_getElem? (i := 78) rfl) rfl
theorem tw_433 : (Jvm.Cond.methodLink "TwoSeasLaw" (31 : Nat) ({ cls := "TwoSeas", name := "stock", desc := "(II)I" } : Jvm.MethodName)) ∈ tq_W := tq_t2 (List.mem_of_getElem? (i := 79) rfl) rfl
theorem tw_434 : (Jvm.Cond.instanceMethod ({ cls := "TwoSeas", name := "stock", desc := "(II)I" } : Jvm.MethodName)) ∈ tq_W := tq_t2 (List.mem_of_getElem? (i := 80) rfl) rfl
theorem tw_435 : (Jvm.Cond.selects "TwoSeas" ({ cls := "TwoSeas", name := "stock", desc := "(II)I" } : Jvm.MethodName) ({ cls := "TwoSeas", name := "stock", desc := "(II)I" } : Jvm.MethodName)) ∈ tq_W := tq_t2 (List.mem_of_getElem? (i := 81) rfl) rfl
theorem tw_436 : (Jvm.Cond.code ({ cls := "TwoSeas", name := "stock", desc := "(II)I" } : Jvm.MethodName) prog_1_method_6_code (3 : Nat) (Option.some Jvm.ClassFile.FieldType.int)) ∈ tq_W := tq_t2 (List.mem_of_getElem? (i := 82) rfl) rfl
theorem tw_437 : (Jvm.Cond.methodLink "TwoSeasLaw" (35 : Nat) ({ cls := "TwoSeas", name := "person", desc := "(II)I" } : Jvm.MethodName)) ∈ tq_W := tq_t2 (List.mem_of_getElem? (i := 83) rfl) rfl
theorem tw_438 : (Jvm.Cond.instanceMethod ({ cls := "TwoSeas", name := "person", desc := "(II)I" } : Jvm.MethodName)) ∈ tq_W := tq_t2 (List.mem_of_getElem? (i := 84) rfl) rfl
theorem tw_439 : (Jvm.Cond.selects "TwoSeas" ({ cls := "TwoSeas", name := "person", desc := "(II)I" } : Jvm.MethodName) ({ cls := "TwoSeas", name := "person", desc := "(II)I" } : Jvm.MethodName)) ∈ tq_W := tq_t2 (List.mem_of_getElem? (i := 85) rfl) rfl
theorem tw_440 : (Jvm.Cond.code ({ cls := "TwoSeas", name := "person", desc := "(II)I" } : Jvm.MethodName) prog_1_method_7_code (3 : Nat) (Option.some Jvm.ClassFile.FieldType.int)) ∈ tq_W := tq_t2 (List.mem_of_getElem? (i := 86) rfl) rfl
theorem tw_441 : (Jvm.Cond.methodLink "TwoSeasLaw" (39 : Nat) ({ cls := "TwoSeas", name := "goes", desc := "(II)I" } : Jvm.MethodName)) ∈ tq_W := tq_t2 (List.mem_of_getElem? (i := 87) rfl) rfl
theorem tw_442 : (Jvm.Cond.instanceMethod ({ cls := "TwoSeas", name := "goes", desc := "(II)I" } : Jvm.MethodName)) ∈ tq_W := tq_t2 (List.mem_of_getElem? (i := 88) rfl) rfl
theorem tw_443 : (Jvm.Cond.selects "TwoSeas" ({ cls := "TwoSeas", name := "goes", desc := "(II)I" } : Jvm.MethodName) ({ cls := "TwoSeas", name := "goes", desc := "(II)I" } : Jvm.MethodName)) ∈ tq_W := tq_t2 (List.mem_of_getElem? (i := 89) rfl) rfl
theorem tw_444 : (Jvm.Cond.code ({ cls := "TwoSeas", name := "goes", desc := "(II)I" } : Jvm.MethodName) prog_1_method_8_code (4 : Nat) (Option.some Jvm.ClassFile.FieldType.int)) ∈ tq_W := tq_t2 (List.mem_of_getElem? (i := 90) rfl) rfl
theorem tw_445 : (Jvm.Cond.methodLink "TwoSeas" (135 : Nat) ({ cls := "TwoSeas", name := "isPerson", desc := "(I)Z" } : Jvm.MethodName)) ∈ tq_W := tq_t2 (List.mem_of_getElem? (i := 91) rfl) rfl
theorem tw_447 : (Jvm.Cond.instanceMethod ({ cls := "TwoSeas", name := "isPerson", desc := "(I)Z" } : Jvm.MethodName)) ∈ tq_W := tq_t2 (List.mem_of_getElem? (i := 93) rfl) rfl
theorem tw_448 : (Jvm.Cond.code ({ cls := "TwoSeas", name := "isPerson", desc := "(I)Z" } : Jvm.MethodName) prog_1_method_58_code (2 : Nat) (Option.some Jvm.ClassFile.FieldType.boolean)) ∈ tq_W := tq_t2 (List.mem_of_getElem? (i := 94) rfl) rfl
theorem tw_449 : (Jvm.Cond.methodLink "TwoSeasLaw" (43 : Nat) ({ cls := "TwoSeas", name := "feed", desc := "(II)I" } : Jvm.MethodName)) ∈ tq_W := tq_t2 (List.mem_of_getElem? (i := 95) rfl) rfl
theorem tw_450 : (Jvm.Cond.instanceMethod ({ cls := "TwoSeas", name := "feed", desc := "(II)I" } : Jvm.MethodName)) ∈ tq_W := tq_t2 (List.mem_of_getElem? (i := 96) rfl) rfl
theorem tw_451 : (Jvm.Cond.selects "TwoSeas" ({ cls := "TwoSeas", name := "feed", desc := "(II)I" } : Jvm.MethodName) ({ cls := "TwoSeas", name := "feed", desc := "(II)I" } : Jvm.MethodName)) ∈ tq_W := tq_t2 (List.mem_of_getElem? (i := 97) rfl) rfl
theorem tw_452 : (Jvm.Cond.code ({ cls := "TwoSeas", name := "feed", desc := "(II)I" } : Jvm.MethodName) prog_1_method_9_code (4 : Nat) (Option.some Jvm.ClassFile.FieldType.int)) ∈ tq_W := tq_t2 (List.mem_of_getElem? (i := 98) rfl) rfl
theorem tw_453 : (Jvm.Cond.methodLink "TwoSeas" (138 : Nat) ({ cls := "TwoSeas$Reader", name := "hasRoomFor", desc := "(I)Z" } : Jvm.MethodName)) ∈ tq_W := tq_t2 (List.mem_of_getElem? (i := 99) rfl) rfl
theorem tw_454 : (Jvm.Cond.instanceMethod ({ cls := "TwoSeas$Reader", name := "hasRoomFor", desc := "(I)Z" } : Jvm.MethodName)) ∈ tq_W := tq_t2 (List.mem_of_getElem? (i := 100) rfl) rfl
theorem tw_455 : (Jvm.Cond.selects "TwoSeas$Reader" ({ cls := "TwoSeas$Reader", name := "hasRoomFor", desc := "(I)Z" } : Jvm.MethodName) ({ cls := "TwoSeas$Reader", name := "hasRoomFor", desc := "(I)Z" } : Jvm.MethodName)) ∈ tq_W := tq_t2 (List.mem_of_getElem? (i := 101) rfl) rfl
theorem tw_456 : (Jvm.Cond.code ({ cls := "TwoSeas$Reader", name := "hasRoomFor", desc := "(I)Z" } : Jvm.MethodName) prog_8_method_2_code (2 : Nat) (Option.some Jvm.ClassFile.FieldType.boolean)) ∈ tq_W := tq_t2 (List.mem_of_getElem? (i := 102) rfl) rfl
theorem tw_457 : (Jvm.Cond.methodLink "TwoSeas" (141 : Nat) ({ cls := "TwoSeas$Reader", name := "append", desc := "(I)V" } : Jvm.MethodName)) ∈ tq_W := tq_t2 (List.mem_of_getElem? (i := 103) rfl) rfl
theorem tw_458 : (Jvm.Cond.instanceMethod ({ cls := "TwoSeas$Reader", name := "append", desc := "(I)V" } : Jvm.MethodName)) ∈ tq_W := tq_t2 (List.mem_of_getElem? (i := 104) rfl) rfl
theorem tw_459 : (Jvm.Cond.selects "TwoSeas$Reader" ({ cls := "TwoSeas$Reader", name := "append", desc := "(I)V" } : Jvm.MethodName) ({ cls := "TwoSeas$Reader", name := "append", desc := "(I)V" } : Jvm.MethodName)) ∈ tq_W := tq_t2 (List.mem_of_getElem? (i := 105) rfl) rfl
theorem tw_460 : (Jvm.Cond.code ({ cls := "TwoSeas$Reader", name := "append", desc := "(I)V" } : Jvm.MethodName) prog_8_method_3_code (2 : Nat) (Option.none : Option Jvm.ClassFile.FieldType)) ∈ tq_W := tq_t2 (List.mem_of_getElem? (i := 106) rfl) rfl
theorem tw_461 : (Jvm.Cond.methodLink "TwoSeasLaw" (47 : Nat) ({ cls := "TwoSeas", name := "mail", desc := "(IIII)I" } : Jvm.MethodName)) ∈ tq_W := tq_t2 (List.mem_of_getElem? (i := 107) rfl) rfl
theorem tw_462 : (Jvm.Cond.instanceMethod ({ cls := "TwoSeas", name := "mail", desc := "(IIII)I" } : Jvm.MethodName)) ∈ tq_W := tq_t2 (List.mem_of_getElem? (i := 108) rfl) rfl
theorem tw_463 : (Jvm.Cond.selects "TwoSeas" ({ cls := "TwoSeas", name := "mail", desc := "(IIII)I" } : Jvm.MethodName) ({ cls := "TwoSeas", name := "mail", desc := "(IIII)I" } : Jvm.MethodName)) ∈ tq_W := tq_t2 (List.mem_of_getElem? (i := 109) rfl) rfl
theorem tw_464 : (Jvm.Cond.code ({ cls := "TwoSeas", name := "mail", desc := "(IIII)I" } : Jvm.MethodName) prog_1_method_10_code (7 : Nat) (Option.some Jvm.ClassFile.FieldType.int)) ∈ tq_W := tq_t2 (List.mem_of_getElem? (i := 110) rfl) rfl
theorem tw_465 : (Jvm.Cond.methodLink "TwoSeas" (147 : Nat) ({ cls := "TwoSeas", name := "isSheet", desc := "(I)Z" } : Jvm.MethodName)) ∈ tq_W := tq_t2 (List.mem_of_getElem? (i := 111) rfl) rfl
theorem tw_466 : (Jvm.Cond.static ({ cls := "TwoSeas", name := "isSheet", desc := "(I)Z" } : Jvm.MethodName)) ∈ tq_W := tq_t2 (List.mem_of_getElem? (i := 112) rfl) rfl
theorem tw_467 : (Jvm.Cond.code ({ cls := "TwoSeas", name := "isSheet", desc := "(I)Z" } : Jvm.MethodName) prog_1_method_56_code (1 : Nat) (Option.some Jvm.ClassFile.FieldType.boolean)) ∈ tq_W := tq_t2 (List.mem_of_getElem? (i := 113) rfl) rfl
theorem tw_468 : (Jvm.Cond.methodLink "TwoSeas" (150 : Nat) ({ cls := "TwoSeas$Sheet", name := "isMissing", desc := "()Z" } : Jvm.MethodName)) ∈ tq_W := tq_t2 (List.mem_of_getElem? (i := 114) rfl) rfl
theorem tw_469 : (Jvm.Cond.instanceMethod ({ cls := "TwoSeas$Sheet", name := "isMissing", desc := "()Z" } : Jvm.MethodName)) ∈ tq_W := tq_t2 (List.mem_of_getElem? (i := 115) rfl) rfl
theorem tw_470 : (Jvm.Cond.selects "TwoSeas$Sheet" ({ cls := "TwoSeas$Sheet", name := "isMissing", desc := "()Z" } : Jvm.MethodName) ({ cls := "TwoSeas$Sheet", name := "isMissing", desc := "()Z" } : Jvm.MethodName)) ∈ tq_W := tq_t2 (List.mem_of_getElem? (i := 116) rfl) rfl
theorem tw_471 : (Jvm.Cond.code ({ cls := "TwoSeas$Sheet", name := "isMissing", desc := "()Z" } : Jvm.MethodName) prog_9_method_2_code (1 : Nat) (Option.some Jvm.ClassFile.FieldType.boolean)) ∈ tq_W := tq_t2 (List.mem_of_getElem? (i := 117) rfl) rfl
theorem tw_472 : (Jvm.Cond.methodLink "TwoSeas" (157 : Nat) ({ cls := "TwoSeas$Sheet", name := "has", desc := "(II)Z" } : Jvm.MethodName)) ∈ tq_W := tq_t2 (List.mem_of_getElem? (i := 118) rfl) rfl
theorem tw_473 : (Jvm.Cond.instanceMethod ({ cls := "TwoSeas$Sheet", name := "has", desc := "(II)Z" } : Jvm.MethodName)) ∈ tq_W := tq_t2 (List.mem_of_getElem? (i := 119) rfl) rfl
theorem tw_474 : (Jvm.Cond.selects "TwoSeas$Sheet" ({ cls := "TwoSeas$Sheet", name := "has", desc := "(II)Z" } : Jvm.MethodName) ({ cls := "TwoSeas$Sheet", name := "has", desc := "(II)Z" } : Jvm.MethodName)) ∈ tq_W := tq_t2 (List.mem_of_getElem? (i := 120) rfl) rfl
theorem tw_475 : (Jvm.Cond.code ({ cls := "TwoSeas$Sheet", name := "has", desc := "(II)Z" } : Jvm.MethodName) prog_9_method_4_code (3 : Nat) (Option.some Jvm.ClassFile.FieldType.boolean)) ∈ tq_W := tq_t2 (List.mem_of_getElem? (i := 121) rfl) rfl
theorem tw_476 : (Jvm.Cond.methodLink "TwoSeasLaw" (52 : Nat) ({ cls := "TwoSeas", name := "order", desc := "(I)I" } : Jvm.MethodName)) ∈ tq_W := tq_t2 (List.mem_of_getElem? (i := 122) rfl) rfl
theorem tw_477 : (Jvm.Cond.instanceMethod ({ cls := "TwoSeas", name := "order", desc := "(I)I" } : Jvm.MethodName)) ∈ tq_W := tq_t2 (List.mem_of_getElem? (i := 123) rfl) rfl
theorem tw_478 : (Jvm.Cond.selects "TwoSeas" ({ cls := "TwoSeas", name := "order", desc := "(I)I" } : Jvm.MethodName) ({ cls := "TwoSeas", name := "order", desc := "(I)I" } : Jvm.MethodName)) ∈ tq_W := tq_t2 (List.mem_of_getElem? (i := 124) rfl) rfl
theorem tw_479 : (Jvm.Cond.code ({ cls := "TwoSeas", name := "order", desc := "(I)I" } : Jvm.MethodName) prog_1_method_11_code (4 : Nat) (Option.some Jvm.ClassFile.FieldType.int)) ∈ tq_W := tq_t2 (List.mem_of_getElem? (i := 125) rfl) rfl
theorem tw_480 : (Jvm.Cond.methodLink "TwoSeas" (164 : Nat) ({ cls := "TwoSeas", name := "hasRoomForPapers", desc := "(I)Z" } : Jvm.MethodName)) ∈ tq_W := tq_t2 (List.mem_of_getElem? (i := 126) rfl) rfl
theorem tw_482 : (Jvm.Cond.instanceMethod ({ cls := "TwoSeas", name := "hasRoomForPapers", desc := "(I)Z" } : Jvm.MethodName)) ∈ tq_W := tq_t2 (List.mem_of_getElem? (i := 128) rfl) rfl
theorem tw_483 : (Jvm.Cond.code ({ cls := "TwoSeas", name := "hasRoomForPapers", desc := "(I)Z" } : Jvm.MethodName) prog_1_method_66_code (2 : Nat) (Option.some Jvm.ClassFile.FieldType.boolean)) ∈ tq_W := tq_t2 (List.mem_of_getElem? (i := 129) rfl) rfl
theorem tw_484 : (Jvm.Cond.methodLink "TwoSeas" (169 : Nat) ({ cls := "java/util/ArrayList", name := "size", desc := "()I" } : Jvm.MethodName)) ∈ tq_W := tq_t2 (List.mem_of_getElem? (i := 130) rfl) rfl
theorem tw_485 : (Jvm.Cond.instanceMethod ({ cls := "java/util/ArrayList", name := "size", desc := "()I" } : Jvm.MethodName)) ∈ tq_W := tq_t2 (List.mem_of_getElem? (i := 131) rfl) rfl
theorem tw_486 : (Jvm.Cond.selects "java/util/ArrayList" ({ cls := "java/util/ArrayList", name := "size", desc := "()I" } : Jvm.MethodName) ({ cls := "java/util/ArrayList", name := "size", desc := "()I" } : Jvm.MethodName)) ∈ tq_W := tq_t2 (List.mem_of_getElem? (i := 132) rfl) rfl
theorem tw_487 : (Jvm.Cond.code ({ cls := "java/util/ArrayList", name := "size", desc := "()I" } : Jvm.MethodName) prog_26_method_8_code (1 : Nat) (Option.some Jvm.ClassFile.FieldType.int)) ∈ tq_W := tq_t2 (List.mem_of_getElem? (i := 133) rfl) rfl
theorem tw_488 : (Jvm.Cond.classLink "TwoSeas" (167 : Nat) "TwoSeas$Paper") ∈ tq_W := tq_t2 (List.mem_of_getElem? (i := 134) rfl) rfl
theorem tw_489 : (Jvm.Cond.instantiable "TwoSeas$Paper" (10 : Nat)) ∈ tq_W := tq_t2 (List.mem_of_getElem? (i := 135) rfl) rfl
theorem tw_490 : (Jvm.Cond.methodLink "TwoSeas" (176 : Nat) ({ cls := "TwoSeas$Paper", name := "<init>", desc := "(IILTwoSeas$Place;II)V" } : Jvm.MethodName)) ∈ tq_W := tq_t2 (List.mem_of_getElem? (i := 136) rfl) rfl
theorem tw_491 : (Jvm.Cond.instanceMethod ({ cls := "TwoSeas$Paper", name := "<init>", desc := "(IILTwoSeas$Place;II)V" } : Jvm.MethodName)) ∈ tq_W := tq_t2 (List.mem_of_getElem? (i := 137) rfl) rfl
theorem tw_492 : (Jvm.Cond.code ({ cls := "TwoSeas$Paper", name := "<init>", desc := "(IILTwoSeas$Place;II)V" } : Jvm.MethodName) prog_5_method_1_code (6 : Nat) (Option.none : Option Jvm.ClassFile.FieldType)) ∈ tq_W := tq_t2 (List.mem_of_getElem? (i := 138) rfl) rfl
theorem tw_493 : (Jvm.Cond.methodLink "TwoSeas$Paper" (3 : Nat) ({ cls := "java/lang/Object", name := "<init>", desc := "()V" } : Jvm.MethodName)) ∈ tq_W := tq_t2 (List.mem_of_getElem? (i := 139) rfl) rfl
theorem tw_494 : (Jvm.Cond.classLink "TwoSeas$Paper" (15 : Nat) "java/util/ArrayList") ∈ tq_W := tq_t2 (List.mem_of_getElem? (i := 140) rfl) rfl
theorem tw_495 : (Jvm.Cond.methodLink "TwoSeas$Paper" (17 : Nat) ({ cls := "java/util/ArrayList", name := "<init>", desc := "()V" } : Jvm.MethodName)) ∈ tq_W := tq_t2 (List.mem_of_getElem? (i := 141) rfl) rfl
theorem tw_496 : (Jvm.Cond.methodLink "TwoSeas$Paper" (44 : Nat) ({ cls := "[I", name := "clone", desc := "()Ljava/lang/Object;" } : Jvm.MethodName)) ∈ tq_W := tq_t2 (List.mem_of_getElem? (i := 142) rfl) rfl
theorem tw_497 : (Jvm.Cond.sameMethod "[I" "java/lang/Object" "clone" "()Ljava/lang/Object;") ∈ tq_W := tq_t2 (List.mem_of_getElem? (i := 143) rfl) rfl
theorem tw_498 : (Jvm.Cond.native ({ cls := "java/lang/Object", name := "clone", desc := "()Ljava/lang/Object;" } : Jvm.MethodName)) ∈ tq_W := tq_t2 (List.mem_of_getElem? (i := 144) rfl) rfl
theorem tw_499 : (Jvm.Cond.instanceMethod ({ cls := "java/lang/Object", name := "clone", desc := "()Ljava/lang/Object;" } : Jvm.MethodName)) ∈ tq_W := tq_t2 (List.mem_of_getElem? (i := 145) rfl) rfl
theorem tw_500 : (Jvm.Cond.selects "[I" ({ cls := "[I", name := "clone", desc := "()Ljava/lang/Object;" } : Jvm.MethodName) ({ cls := "java/lang/Object", name := "clone", desc := "()Ljava/lang/Object;" } : Jvm.MethodName)) ∈ tq_W := tq_t2 (List.mem_of_getElem? (i := 146) rfl) rfl
theorem tw_502 : (Jvm.Cond.classLink "TwoSeas$Paper" (45 : Nat) "[I") ∈ tq_W := tq_t2 (List.mem_of_getElem? (i := 148) rfl) rfl
theorem tw_503 : (Jvm.Cond.methodLink "TwoSeas$Paper" (52 : Nat) ({ cls := "java/util/Arrays", name := "fill", desc := "([II)V" } : Jvm.MethodName)) ∈ tq_W := tq_t2 (List.mem_of_getElem? (i := 149) rfl) rfl
theorem tw_504 : (Jvm.Cond.fieldLink "TwoSeas$Paper" (22 : Nat) "TwoSeas$Paper" "number" "I") ∈ tq_W := tq_t2 (List.mem_of_getElem? (i := 150) rfl) rfl
theorem tw_505 : (Jvm.Cond.fieldLink "TwoSeas$Acts" (33 : Nat) "TwoSeas$Paper" "number" "I") ∈ tq_W := tq_t2 (List.mem_of_getElem? (i := 151) rfl) rfl
theorem tw_506 : (Jvm.Cond.fieldLink "TwoSeas$Reader" (51 : Nat) "TwoSeas$Paper" "number" "I") ∈ tq_W := tq_t2 (List.mem_of_getElem? (i := 152) rfl) rfl
theorem tw_507 : (Jvm.Cond.fieldLink "TwoSeas$Place" (96 : Nat) "TwoSeas$Paper" "number" "I") ∈ tq_W := tq_t2 (List.mem_of_getElem? (i := 153) rfl) rfl
theorem tw_508 : (Jvm.Cond.fieldLink "TwoSeas" (193 : Nat) "TwoSeas$Paper" "number" "I") ∈ tq_W := tq_t2 (List.mem_of_getElem? (i := 154) rfl) rfl
theorem tw_509 : (Jvm.Cond.fieldLink "TwoSeas" (589 : Nat) "TwoSeas$Bill" "number" "I") ∈ tq_W := tq_t2 (List.mem_of_getElem? (i := 155) rfl) rfl
theorem tw_510 : (Jvm.Cond.sameField "TwoSeas$Bill" "TwoSeas$Paper" "number" "I") ∈ tq_W := tq_t2 (List.mem_of_getElem? (i := 156) rfl) rfl
theorem tw_511 : (Jvm.Cond.fieldLink "TwoSeas$Paper" (26 : Nat) "TwoSeas$Paper" "kind" "I") ∈ tq_W := tq_t2 (List.mem_of_getElem? (i := 157) rfl) rfl
theorem tw_512 : (Jvm.Cond.fieldLink "TwoSeas$Acts" (38 : Nat) "TwoSeas$Paper" "kind" "I") ∈ tq_W := tq_t2 (List.mem_of_getElem? (i := 158) rfl) rfl
theorem tw_513 : (Jvm.Cond.fieldLink "TwoSeas" (225 : Nat) "TwoSeas$Paper" "kind" "I") ∈ tq_W := tq_t2 (List.mem_of_getElem? (i := 159) rfl) rfl
theorem tw_514 : (Jvm.Cond.fieldLink "TwoSeas$Paper" (32 : Nat) "TwoSeas$Paper" "from" "I") ∈ tq_W := tq_t2 (List.mem_of_getElem? (i := 160) rfl) rfl
theorem tw_515 : (Jvm.Cond.fieldLink "TwoSeas" (228 : Nat) "TwoSeas$Paper" "from" "I") ∈ tq_W := tq_t2 (List.mem_of_getElem? (i := 161) rfl) rfl
theorem tw_516 : (Jvm.Cond.fieldLink "TwoSeas$Paper" (35 : Nat) "TwoSeas$Paper" "to" "I") ∈ tq_W := tq_t2 (List.mem_of_getElem? (i := 162) rfl) rfl
theorem tw_517 : (Jvm.Cond.fieldLink "TwoSeas" (234 : Nat) "TwoSeas$Paper" "to" "I") ∈ tq_W := tq_t2 (List.mem_of_getElem? (i := 163) rfl) rfl
theorem tw_518 : (Jvm.Cond.fieldLink "TwoSeas$Paper" (38 : Nat) "TwoSeas$Paper" "written" "I") ∈ tq_W := tq_t2 (List.mem_of_getElem? (i := 164) rfl) rfl
theorem tw_519 : (Jvm.Cond.fieldLink "TwoSeas$Bill" (21 : Nat) "TwoSeas$Bill" "written" "I") ∈ tq_W := tq_t2 (List.mem_of_getElem? (i := 165) rfl) rfl
theorem tw_520 : (Jvm.Cond.sameField "TwoSeas$Bill" "TwoSeas$Paper" "written" "I") ∈ tq_W := tq_t2 (List.mem_of_getElem? (i := 166) rfl) rfl
theorem tw_521 : (Jvm.Cond.fieldLink "TwoSeas$Acts" (45 : Nat) "TwoSeas$Paper" "written" "I") ∈ tq_W := tq_t2 (List.mem_of_getElem? (i := 167) rfl) rfl
theorem tw_522 : (Jvm.Cond.fieldLink "TwoSeas" (231 : Nat) "TwoSeas$Paper" "written" "I") ∈ tq_W := tq_t2 (List.mem_of_getElem? (i := 168) rfl) rfl
theorem tw_523 : (Jvm.Cond.fieldLink "TwoSeas$Paper" (9 : Nat) "TwoSeas$Paper" "known" "[I") ∈ tq_W := tq_t2 (List.mem_of_getElem? (i := 169) rfl) rfl
theorem tw_524 : (Jvm.Cond.fieldLink "TwoSeas$Place" (93 : Nat) "TwoSeas$Paper" "known" "[I") ∈ tq_W := tq_t2 (List.mem_of_getElem? (i := 170) rfl) rfl
theorem tw_525 : (Jvm.Cond.fieldLink "TwoSeas" (215 : Nat) "TwoSeas$Paper" "known" "[I") ∈ tq_W := tq_t2 (List.mem_of_getElem? (i := 171) rfl) rfl
theorem tw_526 : (Jvm.Cond.fieldLink "TwoSeas" (345 : Nat) "TwoSeas$Bill" "known" "[I") ∈ tq_W := tq_t2 (List.mem_of_getElem? (i := 172) rfl) rfl
theorem tw_527 : (Jvm.Cond.sameField "TwoSeas$Bill" "TwoSeas$Paper" "known" "[I") ∈ tq_W := tq_t2 (List.mem_of_getElem? (i := 173) rfl) rfl
theorem tw_528 : (Jvm.Cond.fieldLink "TwoSeas$Paper" (49 : Nat) "TwoSeas$Paper" "stockTold" "[I") ∈ tq_W := tq_t2 (List.mem_of_getElem? (i := 174) rfl) rfl
theorem tw_529 : (Jvm.Cond.fieldLink "TwoSeas" (419 : Nat) "TwoSeas$Paper" "stockTold" "[I") ∈ tq_W := tq_t2 (List.mem_of_getElem? (i := 175) rfl) rfl
theorem tw_530 : (Jvm.Cond.fieldLink "TwoSeas$Paper" (18 : Nat) "TwoSeas$Paper" "paragraphs" "Ljava/util/ArrayList;") ∈ tq_W := tq_t2 (List.mem_of_getElem? (i := 176) rfl) rfl
theorem tw_531 : (Jvm.Cond.fieldLink "TwoSeas$Reader" (68 : Nat) "TwoSeas$Paper" "paragraphs" "Ljava/util/ArrayList;") ∈ tq_W := tq_t2 (List.mem_of_getElem? (i := 177) rfl) rfl
theorem tw_532 : (Jvm.Cond.fieldLink "TwoSeas$Place" (97 : Nat) "TwoSeas$Paper" "paragraphs" "Ljava/util/ArrayList;") ∈ tq_W := tq_t2 (List.mem_of_getElem? (i := 178) rfl) rfl
theorem tw_533 : (Jvm.Cond.fieldLink "TwoSeas" (183 : Nat) "TwoSeas$Paper" "paragraphs" "Ljava/util/ArrayList;") ∈ tq_W := tq_t2 (List.mem_of_getElem? (i := 179) rfl) rfl
theorem tw_534 : (Jvm.Cond.fieldLink "TwoSeas$Bill" (18 : Nat) "TwoSeas$Bill" "detail" "I") ∈ tq_W := tq_t2 (List.mem_of_getElem? (i := 180) rfl) rfl
theorem tw_535 : (Jvm.Cond.sameField "TwoSeas$Bill" "TwoSeas$Paper" "detail" "I") ∈ tq_W := tq_t2 (List.mem_of_getElem? (i := 181) rfl) rfl
theorem tw_536 : (Jvm.Cond.fieldLink "TwoSeas" (186 : Nat) "TwoSeas$Paper" "detail" "I") ∈ tq_W := tq_t2 (List.mem_of_getElem? (i := 182) rfl) rfl
theorem tw_537 : (Jvm.Cond.fieldLink "TwoSeas$Paper" (58 : Nat) "TwoSeas$Paper" "copies" "I") ∈ tq_W := tq_t2 (List.mem_of_getElem? (i := 183) rfl) rfl
theorem tw_538 : (Jvm.Cond.fieldLink "TwoSeas" (218 : Nat) "TwoSeas$Paper" "copies" "I") ∈ tq_W := tq_t2 (List.mem_of_getElem? (i := 184) rfl) rfl
theorem tw_559 : (Jvm.Cond.superclass "TwoSeas$Paper" "java/lang/Object") ∈ tq_W := tq_t2 (List.mem_of_getElem? (i := 205) rfl) rfl
theorem tw_560 : (Jvm.Cond.methodLink "TwoSeas" (179 : Nat) ({ cls := "TwoSeas$Reader", name := "readInto", desc := "(LTwoSeas$Paper;)I" } : Jvm.MethodName)) ∈ tq_W := tq_t2 (List.mem_of_getElem? (i := 206) rfl) rfl
theorem tw_561 : (Jvm.Cond.instanceMethod ({ cls := "TwoSeas$Reader", name := "readInto", desc := "(LTwoSeas$Paper;)I" } : Jvm.MethodName)) ∈ tq_W := tq_t2 (List.mem_of_getElem? (i := 207) rfl) rfl
theorem tw_562 : (Jvm.Cond.selects "TwoSeas$Reader" ({ cls := "TwoSeas$Reader", name := "readInto", desc := "(LTwoSeas$Paper;)I" } : Jvm.MethodName) ({ cls := "TwoSeas$Reader", name := "readInto", desc := "(LTwoSeas$Paper;)I" } : Jvm.MethodName)) ∈ tq_W := tq_t2 (List.mem_of_getElem? (i := 208) rfl) rfl
theorem tw_563 : (Jvm.Cond.code ({ cls := "TwoSeas$Reader", name := "readInto", desc := "(LTwoSeas$Paper;)I" } : Jvm.MethodName) prog_8_method_4_code (3 : Nat) (Option.some Jvm.ClassFile.FieldType.int)) ∈ tq_W := tq_t2 (List.mem_of_getElem? (i := 209) rfl) rfl
theorem tw_564 : (Jvm.Cond.methodLink "TwoSeas$Reader" (25 : Nat) ({ cls := "TwoSeas$Reader", name := "readParagraph", desc := "(LTwoSeas$Paper;I)V" } : Jvm.MethodName)) ∈ tq_W := tq_t2 (List.mem_of_getElem? (i := 210) rfl) rfl
theorem tw_566 : (Jvm.Cond.instanceMethod ({ cls := "TwoSeas$Reader", name := "readParagraph", desc := "(LTwoSeas$Paper;I)V" } : Jvm.MethodName)) ∈ tq_W := tq_t2 (List.mem_of_getElem? (i := 212) rfl) rfl
theorem tw_567 : (Jvm.Cond.code ({ cls := "TwoSeas$Reader", name := "readParagraph", desc := "(LTwoSeas$Paper;I)V" } : Jvm.MethodName) prog_8_method_5_code (6 : Nat) (Option.none : Option Jvm.ClassFile.FieldType)) ∈ tq_W := tq_t2 (List.mem_of_getElem? (i := 213) rfl) rfl
theorem tw_568 : (Jvm.Cond.methodLink "TwoSeas$Reader" (36 : Nat) ({ cls := "TwoSeas$Reader", name := "readAct", desc := "()I" } : Jvm.MethodName)) ∈ tq_W := tq_t2 (List.mem_of_getElem? (i := 214) rfl) rfl
theorem tw_570 : (Jvm.Cond.instanceMethod ({ cls := "TwoSeas$Reader", name := "readAct", desc := "()I" } : Jvm.MethodName)) ∈ tq_W := tq_t2 (List.mem_of_getElem? (i := 216) rfl) rfl
theorem tw_571 : (Jvm.Cond.code ({ cls := "TwoSeas$Reader", name := "readAct", desc := "()I" } : Jvm.MethodName) prog_8_method_6_code (1 : Nat) (Option.some Jvm.ClassFile.FieldType.int)) ∈ tq_W := tq_t2 (List.mem_of_getElem? (i := 217) rfl) rfl
theorem tw_572 : (Jvm.Cond.methodLink "TwoSeas$Reader" (29 : Nat) ({ cls := "TwoSeas$Reader", name := "takes", desc := "(I)Z" } : Jvm.MethodName)) ∈ tq_W := tq_t2 (List.mem_of_getElem? (i := 218) rfl) rfl
theorem tw_574 : (Jvm.Cond.instanceMethod ({ cls := "TwoSeas$Reader", name := "takes", desc := "(I)Z" } : Jvm.MethodName)) ∈ tq_W := tq_t2 (List.mem_of_getElem? (i := 220) rfl) rfl
theorem tw_575 : (Jvm.Cond.code ({ cls := "TwoSeas$Reader", name := "takes", desc := "(I)Z" } : Jvm.MethodName) prog_8_method_14_code (3 : Nat) (Option.some Jvm.ClassFile.FieldType.boolean)) ∈ tq_W := tq_t2 (List.mem_of_getElem? (i := 221) rfl) rfl
theorem tw_577 : (Jvm.Cond.methodLink "TwoSeas$Reader" (45 : Nat) ({ cls := "TwoSeas$Reader", name := "expect", desc := "(Ljava/lang/String;)V" } : Jvm.MethodName)) ∈ tq_W := tq_t2 (List.mem_of_getElem? (i := 223) rfl) rfl
theorem tw_579 : (Jvm.Cond.instanceMethod ({ cls := "TwoSeas$Reader", name := "expect", desc := "(Ljava/lang/String;)V" } : Jvm.MethodName)) ∈ tq_W := tq_t2 (List.mem_of_getElem? (i := 225) rfl) rfl
theorem tw_580 : (Jvm.Cond.code ({ cls := "TwoSeas$Reader", name := "expect", desc := "(Ljava/lang/String;)V" } : Jvm.MethodName) prog_8_method_15_code (3 : Nat) (Option.none : Option Jvm.ClassFile.FieldType)) ∈ tq_W := tq_t2 (List.mem_of_getElem? (i := 226) rfl) rfl
theorem tw_581 : (Jvm.Cond.methodLink "TwoSeas$Reader" (130 : Nat) ({ cls := "java/lang/String", name := "length", desc := "()I" } : Jvm.MethodName)) ∈ tq_W := tq_t2 (List.mem_of_getElem? (i := 227) rfl) rfl
theorem tw_582 : (Jvm.Cond.instanceMethod ({ cls := "java/lang/String", name := "length", desc := "()I" } : Jvm.MethodName)) ∈ tq_W := tq_t2 (List.mem_of_getElem? (i := 228) rfl) rfl
theorem tw_583 : (Jvm.Cond.selects "java/lang/String" ({ cls := "java/lang/String", name := "length", desc := "()I" } : Jvm.MethodName) ({ cls := "java/lang/String", name := "length", desc := "()I" } : Jvm.MethodName)) ∈ tq_W := tq_t2 (List.mem_of_getElem? (i := 229) rfl) rfl
theorem tw_584 : (Jvm.Cond.code ({ cls := "java/lang/String", name := "length", desc := "()I" } : Jvm.MethodName) prog_20_method_54_code (1 : Nat) (Option.some Jvm.ClassFile.FieldType.int)) ∈ tq_W := tq_t2 (List.mem_of_getElem? (i := 230) rfl) rfl
theorem tw_585 : (Jvm.Cond.methodLink "java/lang/String" (335 : Nat) ({ cls := "java/lang/String", name := "coder", desc := "()B" } : Jvm.MethodName)) ∈ tq_W := tq_t2 (List.mem_of_getElem? (i := 231) rfl) rfl
theorem tw_586 : (Jvm.Cond.instanceMethod ({ cls := "java/lang/String", name := "coder", desc := "()B" } : Jvm.MethodName)) ∈ tq_W := tq_t2 (List.mem_of_getElem? (i := 232) rfl) rfl
theorem tw_587 : (Jvm.Cond.selects "java/lang/String" ({ cls := "java/lang/String", name := "coder", desc := "()B" } : Jvm.MethodName) ({ cls := "java/lang/String", name := "coder", desc := "()B" } : Jvm.MethodName)) ∈ tq_W := tq_t2 (List.mem_of_getElem? (i := 233) rfl) rfl
theorem tw_588 : (Jvm.Cond.code ({ cls := "java/lang/String", name := "coder", desc := "()B" } : Jvm.MethodName) prog_20_method_152_code (1 : Nat) (Option.some Jvm.ClassFile.FieldType.byte)) ∈ tq_W := tq_t2 (List.mem_of_getElem? (i := 234) rfl) rfl
theorem tw_589 : (Jvm.Cond.fieldLink "java/lang/String" (38 : Nat) "java/lang/String" "COMPACT_STRINGS" "Z") ∈ tq_W := tq_t2 (List.mem_of_getElem? (i := 235) rfl) rfl
theorem tw_591 : (Jvm.Cond.methodLink "TwoSeas$Reader" (134 : Nat) ({ cls := "java/lang/String", name := "charAt", desc := "(I)C" } : Jvm.MethodName)) ∈ tq_W := tq_t2 (List.mem_of_getElem? (i := 237) rfl) rfl
theorem tw_592 : (Jvm.Cond.instanceMethod ({ cls := "java/lang/String", name := "charAt", desc := "(I)C" } : Jvm.MethodName)) ∈ tq_W := tq_t2 (List.mem_of_getElem? (i := 238) rfl) rfl
theorem tw_593 : (Jvm.Cond.selects "java/lang/String" ({ cls := "java/lang/String", name := "charAt", desc := "(I)C" } : Jvm.MethodName) ({ cls := "java/lang/String", name := "charAt", desc := "(I)C" } : Jvm.MethodName)) ∈ tq_W := tq_t2 (List.mem_of_getElem? (i := 239) rfl) rfl
theorem tw_594 : (Jvm.Cond.code ({ cls := "java/lang/String", name := "charAt", desc := "(I)C" } : Jvm.MethodName) prog_20_method_56_code (2 : Nat) (Option.some Jvm.ClassFile.FieldType.char)) ∈ tq_W := tq_t3 (List.mem_of_getElem? (i := 0) rfl) rfl
theorem tw_595 : (Jvm.Cond.methodLink "java/lang/String" (492 : Nat) ({ cls := "java/lang/String", name := "isLatin1", desc := "()Z" } : Jvm.MethodName)) ∈ tq_W := tq_t3 (List.mem_of_getElem? (i := 1) rfl) rfl
theorem tw_596 : (Jvm.Cond.instanceMethod ({ cls := "java/lang/String", name := "isLatin1", desc := "()Z" } : Jvm.MethodName)) ∈ tq_W := tq_t3 (List.mem_of_getElem? (i := 2) rfl) rfl
theorem tw_597 : (Jvm.Cond.selects "java/lang/String" ({ cls := "java/lang/String", name := "isLatin1", desc := "()Z" } : Jvm.MethodName) ({ cls := "java/lang/String", name := "isLatin1", desc := "()Z" } : Jvm.MethodName)) ∈ tq_W := tq_t3 (List.mem_of_getElem? (i := 3) rfl) rfl
theorem tw_598 : (Jvm.Cond.code ({ cls := "java/lang/String", name := "isLatin1", desc := "()Z" } : Jvm.MethodName) prog_20_method_154_code (1 : Nat) (Option.some Jvm.ClassFile.FieldType.boolean)) ∈ tq_W := tq_t3 (List.mem_of_getElem? (i := 4) rfl) rfl
theorem tw_599 : (Jvm.Cond.methodLink "java/lang/String" (495 : Nat) ({ cls := "java/lang/StringLatin1", name := "charAt", desc := "([BI)C" } : Jvm.MethodName)) ∈ tq_W := tq_t3 (List.mem_of_getElem? (i := 5) rfl) rfl
theorem tw_600 : (Jvm.Cond.static ({ cls := "java/lang/StringLatin1", name := "charAt", desc := "([BI)C" } : Jvm.MethodName)) ∈ tq_W := tq_t3 (List.mem_of_getElem? (i := 6) rfl) rfl
theorem tw_601 : (Jvm.Cond.code ({ cls := "java/lang/StringLatin1", name := "charAt", desc := "([BI)C" } : Jvm.MethodName) prog_21_method_2_code (2 : Nat) (Option.some Jvm.ClassFile.FieldType.char)) ∈ tq_W := tq_t3 (List.mem_of_getElem? (i := 7) rfl) rfl
theorem tw_602 : (Jvm.Cond.methodLink "java/lang/StringLatin1" (9 : Nat) ({ cls := "java/lang/String", name := "checkIndex", desc := "(II)V" } : Jvm.MethodName)) ∈ tq_W := tq_t3 (List.mem_of_getElem? (i := 8) rfl) rfl
theorem tw_603 : (Jvm.Cond.static ({ cls := "java/lang/String", name := "checkIndex", desc := "(II)V" } : Jvm.MethodName)) ∈ tq_W := tq_t3 (List.mem_of_getElem? (i := 9) rfl) rfl
theorem tw_604 : (Jvm.Cond.code ({ cls := "java/lang/String", name := "checkIndex", desc := "(II)V" } : Jvm.MethodName) prog_20_method_155_code (2 : Nat) (Option.none : Option Jvm.ClassFile.FieldType)) ∈ tq_W := tq_t3 (List.mem_of_getElem? (i := 10) rfl) rfl
theorem tw_605 : (Jvm.Cond.fieldLink "java/lang/String" (1053 : Nat) "jdk/internal/util/Preconditions" "SIOOBE_FORMATTER" "Ljava/util/function/BiFunction;") ∈ tq_W := tq_t3 (List.mem_of_getElem? (i := 11) rfl) rfl
theorem tw_607 : (Jvm.Cond.methodLink "java/lang/String" (1059 : Nat) ({ cls := "jdk/internal/util/Preconditions", name := "checkIndex", desc := "(IILjava/util/function/BiFunction;)I" } : Jvm.MethodName)) ∈ tq_W := tq_t3 (List.mem_of_getElem? (i := 13) rfl) rfl
theorem tw_608 : (Jvm.Cond.static ({ cls := "jdk/internal/util/Preconditions", name := "checkIndex", desc := "(IILjava/util/function/BiFunction;)I" } : Jvm.MethodName)) ∈ tq_W := tq_t3 (List.mem_of_getElem? (i := 14) rfl) rfl
theorem tw_609 : (Jvm.Cond.code ({ cls := "jdk/internal/util/Preconditions", name := "checkIndex", desc := "(IILjava/util/function/BiFunction;)I" } : Jvm.MethodName) prog_34_method_11_code (3 : Nat) (Option.some Jvm.ClassFile.FieldType.int)) ∈ tq_W := tq_t3 (List.mem_of_getElem? (i := 15) rfl) rfl
theorem tw_610 : (Jvm.Cond.methodLink "java/lang/String" (498 : Nat) ({ cls := "java/lang/StringUTF16", name := "charAt", desc := "([BI)C" } : Jvm.MethodName)) ∈ tq_W := tq_t3 (List.mem_of_getElem? (i := 16) rfl) rfl
theorem tw_611 : (Jvm.Cond.static ({ cls := "java/lang/StringUTF16", name := "charAt", desc := "([BI)C" } : Jvm.MethodName)) ∈ tq_W := tq_t3 (List.mem_of_getElem? (i := 17) rfl) rfl
theorem tw_612 : (Jvm.Cond.code ({ cls := "java/lang/StringUTF16", name := "charAt", desc := "([BI)C" } : Jvm.MethodName) prog_22_method_83_code (2 : Nat) (Option.some Jvm.ClassFile.FieldType.char)) ∈ tq_W := tq_t3 (List.mem_of_getElem? (i := 18) rfl) rfl
theorem tw_613 : (Jvm.Cond.methodLink "java/lang/StringUTF16" (67 : Nat) ({ cls := "java/lang/StringUTF16", name := "checkIndex", desc := "(I[B)V" } : Jvm.MethodName)) ∈ tq_W := tq_t3 (List.mem_of_getElem? (i := 19) rfl) rfl
theorem tw_614 : (Jvm.Cond.static ({ cls := "java/lang/StringUTF16", name := "checkIndex", desc := "(I[B)V" } : Jvm.MethodName)) ∈ tq_W := tq_t3 (List.mem_of_getElem? (i := 20) rfl) rfl
theorem tw_615 : (Jvm.Cond.code ({ cls := "java/lang/StringUTF16", name := "checkIndex", desc := "(I[B)V" } : Jvm.MethodName) prog_22_method_91_code (2 : Nat) (Option.none : Option Jvm.ClassFile.FieldType)) ∈ tq_W := tq_t3 (List.mem_of_getElem? (i := 21) rfl) rfl
theorem tw_616 : (Jvm.Cond.methodLink "java/lang/StringUTF16" (48 : Nat) ({ cls := "java/lang/StringUTF16", name := "length", desc := "([B)I" } : Jvm.MethodName)) ∈ tq_W := tq_t3 (List.mem_of_getElem? (i := 22) rfl) rfl
theorem tw_617 : (Jvm.Cond.static ({ cls := "java/lang/StringUTF16", name := "length", desc := "([B)I" } : Jvm.MethodName)) ∈ tq_W := tq_t3 (List.mem_of_getElem? (i := 23) rfl) rfl
theorem tw_618 : (Jvm.Cond.code ({ cls := "java/lang/StringUTF16", name := "length", desc := "([B)I" } : Jvm.MethodName) prog_22_method_6_code (1 : Nat) (Option.some Jvm.ClassFile.FieldType.int)) ∈ tq_W := tq_t3 (List.mem_of_getElem? (i := 24) rfl) rfl
theorem tw_619 : (Jvm.Cond.methodLink "java/lang/StringUTF16" (414 : Nat) ({ cls := "java/lang/String", name := "checkIndex", desc := "(II)V" } : Jvm.MethodName)) ∈ tq_W := tq_t3 (List.mem_of_getElem? (i := 25) rfl) rfl
theorem tw_620 : (Jvm.Cond.methodLink "java/lang/StringUTF16" (71 : Nat) ({ cls := "java/lang/StringUTF16", name := "getChar", desc := "([BI)C" } : Jvm.MethodName)) ∈ tq_W := tq_t3 (List.mem_of_getElem? (i := 26) rfl) rfl
theorem tw_621 : (Jvm.Cond.static ({ cls := "java/lang/StringUTF16", name := "getChar", desc := "([BI)C" } : Jvm.MethodName)) ∈ tq_W := tq_t3 (List.mem_of_getElem? (i := 27) rfl) rfl
theorem tw_622 : (Jvm.Cond.code ({ cls := "java/lang/StringUTF16", name := "getChar", desc := "([BI)C" } : Jvm.MethodName) prog_22_method_5_code (2 : Nat) (Option.some Jvm.ClassFile.FieldType.char)) ∈ tq_W := tq_t3 (List.mem_of_getElem? (i := 28) rfl) rfl
theorem tw_623 : (Jvm.Cond.fieldLink "java/lang/StringUTF16" (44 : Nat) "java/lang/StringUTF16" "$assertionsDisabled" "Z") ∈ tq_W := tq_t3 (List.mem_of_getElem? (i := 29) rfl) rfl
theorem tw_625 : (Jvm.Cond.fieldLink "java/lang/StringUTF16" (59 : Nat) "java/lang/StringUTF16" "HI_BYTE_SHIFT" "I") ∈ tq_W := tq_t3 (List.mem_of_getElem? (i := 31) rfl) rfl
theorem tw_627 : (Jvm.Cond.fieldLink "java/lang/StringUTF16" (63 : Nat) "java/lang/StringUTF16" "LO_BYTE_SHIFT" "I") ∈ tq_W := tq_t3 (List.mem_of_getElem? (i := 33) rfl) rfl
theorem tw_629 : (Jvm.Cond.methodLink "TwoSeas$Reader" (33 : Nat) ({ cls := "TwoSeas$Reader", name := "fail", desc := "()V" } : Jvm.MethodName)) ∈ tq_W := tq_t3 (List.mem_of_getElem? (i := 35) rfl) rfl
theorem tw_631 : (Jvm.Cond.instanceMethod ({ cls := "TwoSeas$Reader", name := "fail", desc := "()V" } : Jvm.MethodName)) ∈ tq_W := tq_t3 (List.mem_of_getElem? (i := 37) rfl) rfl
theorem tw_632 : (Jvm.Cond.code ({ cls := "TwoSeas$Reader", name := "fail", desc := "()V" } : Jvm.MethodName) prog_8_method_16_code (1 : Nat) (Option.none : Option Jvm.ClassFile.FieldType)) ∈ tq_W := tq_t3 (List.mem_of_getElem? (i := 38) rfl) rfl
theorem tw_638 : (Jvm.Cond.methodLink "TwoSeas$Reader" (40 : Nat) ({ cls := "TwoSeas$Reader", name := "readSort", desc := "()I" } : Jvm.MethodName)) ∈ tq_W := tq_t3 (List.mem_of_getElem? (i := 44) rfl) rfl
theorem tw_640 : (Jvm.Cond.instanceMethod ({ cls := "TwoSeas$Reader", name := "readSort", desc := "()I" } : Jvm.MethodName)) ∈ tq_W := tq_t3 (List.mem_of_getElem? (i := 46) rfl) rfl
theorem tw_641 : (Jvm.Cond.code ({ cls := "TwoSeas$Reader", name := "readSort", desc := "()I" } : Jvm.MethodName) prog_8_method_11_code (2 : Nat) (Option.some Jvm.ClassFile.FieldType.int)) ∈ tq_W := tq_t3 (List.mem_of_getElem? (i := 47) rfl) rfl
theorem tw_643 : (Jvm.Cond.classLink "TwoSeas$Reader" (49 : Nat) "TwoSeas$Paragraph") ∈ tq_W := tq_t3 (List.mem_of_getElem? (i := 49) rfl) rfl
theorem tw_644 : (Jvm.Cond.instantiable "TwoSeas$Paragraph" (7 : Nat)) ∈ tq_W := tq_t3 (List.mem_of_getElem? (i := 50) rfl) rfl
theorem tw_645 : (Jvm.Cond.methodLink "TwoSeas$Reader" (56 : Nat) ({ cls := "TwoSeas$Reader", name := "readNumber", desc := "()I" } : Jvm.MethodName)) ∈ tq_W := tq_t3 (List.mem_of_getElem? (i := 51) rfl) rfl
theorem tw_647 : (Jvm.Cond.instanceMethod ({ cls := "TwoSeas$Reader", name := "readNumber", desc := "()I" } : Jvm.MethodName)) ∈ tq_W := tq_t3 (List.mem_of_getElem? (i := 53) rfl) rfl
theorem tw_648 : (Jvm.Cond.code ({ cls := "TwoSeas$Reader", name := "readNumber", desc := "()I" } : Jvm.MethodName) prog_8_method_12_code (3 : Nat) (Option.some Jvm.ClassFile.FieldType.int)) ∈ tq_W := tq_t3 (List.mem_of_getElem? (i := 54) rfl) rfl
theorem tw_649 : (Jvm.Cond.methodLink "TwoSeas$Reader" (126 : Nat) ({ cls := "TwoSeas$Reader", name := "isDigitNext", desc := "()Z" } : Jvm.MethodName)) ∈ tq_W := tq_t3 (List.mem_of_getElem? (i := 55) rfl) rfl
theorem tw_651 : (Jvm.Cond.instanceMethod ({ cls := "TwoSeas$Reader", name := "isDigitNext", desc := "()Z" } : Jvm.MethodName)) ∈ tq_W := tq_t3 (List.mem_of_getElem? (i := 57) rfl) rfl
theorem tw_652 : (Jvm.Cond.code ({ cls := "TwoSeas$Reader", name := "isDigitNext", desc := "()Z" } : Jvm.MethodName) prog_8_method_13_code (1 : Nat) (Option.some Jvm.ClassFile.FieldType.boolean)) ∈ tq_W := tq_t3 (List.mem_of_getElem? (i := 58) rfl) rfl
theorem tw_653 : (Jvm.Cond.methodLink "TwoSeas$Reader" (59 : Nat) ({ cls := "TwoSeas$Paragraph", name := "<init>", desc := "(IIIII)V" } : Jvm.MethodName)) ∈ tq_W := tq_t3 (List.mem_of_getElem? (i := 59) rfl) rfl
theorem tw_654 : (Jvm.Cond.instanceMethod ({ cls := "TwoSeas$Paragraph", name := "<init>", desc := "(IIIII)V" } : Jvm.MethodName)) ∈ tq_W := tq_t3 (List.mem_of_getElem? (i := 60) rfl) rfl
theorem tw_655 : (Jvm.Cond.code ({ cls := "TwoSeas$Paragraph", name := "<init>", desc := "(IIIII)V" } : Jvm.MethodName) prog_6_method_1_code (6 : Nat) (Option.none : Option Jvm.ClassFile.FieldType)) ∈ tq_W := tq_t3 (List.mem_of_getElem? (i := 61) rfl) rfl
theorem tw_656 : (Jvm.Cond.methodLink "TwoSeas$Paragraph" (3 : Nat) ({ cls := "java/lang/Object", name := "<init>", desc := "()V" } : Jvm.MethodName)) ∈ tq_W := tq_t3 (List.mem_of_getElem? (i := 62) rfl) rfl
theorem tw_657 : (Jvm.Cond.classLink "TwoSeas$Paragraph" (9 : Nat) "java/util/ArrayList") ∈ tq_W := tq_t3 (List.mem_of_getElem? (i := 63) rfl) rfl
theorem tw_658 : (Jvm.Cond.methodLink "TwoSeas$Paragraph" (11 : Nat) ({ cls := "java/util/ArrayList", name := "<init>", desc := "()V" } : Jvm.MethodName)) ∈ tq_W := tq_t3 (List.mem_of_getElem? (i := 64) rfl) rfl
theorem tw_659 : (Jvm.Cond.methodLink "TwoSeas$Paragraph" (34 : Nat) ({ cls := "java/lang/Math", name := "max", desc := "(II)I" } : Jvm.MethodName)) ∈ tq_W := tq_t3 (List.mem_of_getElem? (i := 65) rfl) rfl
theorem tw_660 : (Jvm.Cond.static ({ cls := "java/lang/Math", name := "max", desc := "(II)I" } : Jvm.MethodName)) ∈ tq_W := tq_t3 (List.mem_of_getElem? (i := 66) rfl) rfl
theorem tw_661 : (Jvm.Cond.code ({ cls := "java/lang/Math", name := "max", desc := "(II)I" } : Jvm.MethodName) prog_19_method_65_code (2 : Nat) (Option.some Jvm.ClassFile.FieldType.int)) ∈ tq_W := tq_t3 (List.mem_of_getElem? (i := 67) rfl) rfl
theorem tw_662 : (Jvm.Cond.fieldLink "TwoSeas$Paragraph" (18 : Nat) "TwoSeas$Paragraph" "paper" "I") ∈ tq_W := tq_t3 (List.mem_of_getElem? (i := 68) rfl) rfl
theorem tw_663 : (Jvm.Cond.fieldLink "TwoSeas" (245 : Nat) "TwoSeas$Paragraph" "paper" "I") ∈ tq_W := tq_t3 (List.mem_of_getElem? (i := 69) rfl) rfl
theorem tw_664 : (Jvm.Cond.fieldLink "TwoSeas$Paragraph" (22 : Nat) "TwoSeas$Paragraph" "index" "I") ∈ tq_W := tq_t3 (List.mem_of_getElem? (i := 70) rfl) rfl
theorem tw_665 : (Jvm.Cond.fieldLink "TwoSeas" (248 : Nat) "TwoSeas$Paragraph" "index" "I") ∈ tq_W := tq_t3 (List.mem_of_getElem? (i := 71) rfl) rfl
theorem tw_666 : (Jvm.Cond.fieldLink "TwoSeas$Paragraph" (25 : Nat) "TwoSeas$Paragraph" "act" "I") ∈ tq_W := tq_t3 (List.mem_of_getElem? (i := 72) rfl) rfl
theorem tw_667 : (Jvm.Cond.fieldLink "TwoSeas" (540 : Nat) "TwoSeas$Paragraph" "act" "I") ∈ tq_W := tq_t3 (List.mem_of_getElem? (i := 73) rfl) rfl
theorem tw_668 : (Jvm.Cond.fieldLink "TwoSeas$Paragraph" (28 : Nat) "TwoSeas$Paragraph" "sort" "I") ∈ tq_W := tq_t3 (List.mem_of_getElem? (i := 74) rfl) rfl
theorem tw_669 : (Jvm.Cond.fieldLink "TwoSeas" (559 : Nat) "TwoSeas$Paragraph" "sort" "I") ∈ tq_W := tq_t3 (List.mem_of_getElem? (i := 75) rfl) rfl
theorem tw_670 : (Jvm.Cond.fieldLink "TwoSeas$Paragraph" (31 : Nat) "TwoSeas$Paragraph" "number" "I") ∈ tq_W := tq_t3 (List.mem_of_getElem? (i := 76) rfl) rfl
theorem tw_671 : (Jvm.Cond.fieldLink "TwoSeas" (558 : Nat) "TwoSeas$Paragraph" "number" "I") ∈ tq_W := tq_t3 (List.mem_of_getElem? (i := 77) rfl) rfl
theorem tw_672 : (Jvm.Cond.fieldLink "TwoSeas$Paragraph" (40 : Nat) "TwoSeas$Paragraph" "key" "I") ∈ tq_W := tq_t3 (List.mem_of_getElem? (i := 78) rfl) rfl
theorem tw_673 : (Jvm.Cond.fieldLink "TwoSeas$Place" (102 : Nat) "TwoSeas$Paragraph" "key" "I") ∈ tq_W := tq_t3 (List.mem_of_getElem? (i := 79) rfl) rfl
theorem tw_674 : (Jvm.Cond.fieldLink "TwoSeas$Paragraph" (12 : Nat) "TwoSeas$Paragraph" "tests" "Ljava/util/ArrayList;") ∈ tq_W := tq_t3 (List.mem_of_getElem? (i := 80) rfl) rfl
theorem tw_675 : (Jvm.Cond.fieldLink "TwoSeas$Reader" (90 : Nat) "TwoSeas$Paragraph" "tests" "Ljava/util/ArrayList;") ∈ tq_W := tq_t3 (List.mem_of_getElem? (i := 81) rfl) rfl
theorem tw_676 : (Jvm.Cond.fieldLink "TwoSeas" (521 : Nat) "TwoSeas$Paragraph" "tests" "Ljava/util/ArrayList;") ∈ tq_W := tq_t3 (List.mem_of_getElem? (i := 82) rfl) rfl
theorem tw_691 : (Jvm.Cond.superclass "TwoSeas$Paragraph" "java/lang/Object") ∈ tq_W := tq_t3 (List.mem_of_getElem? (i := 97) rfl) rfl
theorem tw_692 : (Jvm.Cond.arrayClass Jvm.ClassFile.FieldType.byte) ∈ tq_W := tq_t3 (List.mem_of_getElem? (i := 98) rfl) rfl
theorem tw_694 : (Jvm.Cond.methodLink "TwoSeas$Reader" (64 : Nat) ({ cls := "TwoSeas$Reader", name := "readTests", desc := "(LTwoSeas$Paragraph;)V" } : Jvm.MethodName)) ∈ tq_W := tq_t3 (List.mem_of_getElem? (i := 100) rfl) rfl
theorem tw_696 : (Jvm.Cond.instanceMethod ({ cls := "TwoSeas$Reader", name := "readTests", desc := "(LTwoSeas$Paragraph;)V" } : Jvm.MethodName)) ∈ tq_W := tq_t3 (List.mem_of_getElem? (i := 102) rfl) rfl
theorem tw_697 : (Jvm.Cond.code ({ cls := "TwoSeas$Reader", name := "readTests", desc := "(LTwoSeas$Paragraph;)V" } : Jvm.MethodName) prog_8_method_7_code (4 : Nat) (Option.none : Option Jvm.ClassFile.FieldType)) ∈ tq_W := tq_t3 (List.mem_of_getElem? (i := 103) rfl) rfl
theorem tw_698 : (Jvm.Cond.methodLink "TwoSeas$Reader" (93 : Nat) ({ cls := "TwoSeas$Reader", name := "readTest", desc := "(Z)LTwoSeas$Test;" } : Jvm.MethodName)) ∈ tq_W := tq_t3 (List.mem_of_getElem? (i := 104) rfl) rfl
theorem tw_700 : (Jvm.Cond.instanceMethod ({ cls := "TwoSeas$Reader", name := "readTest", desc := "(Z)LTwoSeas$Test;" } : Jvm.MethodName)) ∈ tq_W := tq_t3 (List.mem_of_getElem? (i := 106) rfl) rfl
theorem tw_701 : (Jvm.Cond.code ({ cls := "TwoSeas$Reader", name := "readTest", desc := "(Z)LTwoSeas$Test;" } : Jvm.MethodName) prog_8_method_8_code (6 : Nat) (Option.some (Jvm.ClassFile.FieldType.object "TwoSeas$Test"))) ∈ tq_W := tq_t3 (List.mem_of_getElem? (i := 107) rfl) rfl
theorem tw_703 : (Jvm.Cond.methodLink "TwoSeas$Reader" (103 : Nat) ({ cls := "TwoSeas$Reader", name := "readField", desc := "()I" } : Jvm.MethodName)) ∈ tq_W := tq_t3 (List.mem_of_getElem? (i := 109) rfl) rfl
theorem tw_705 : (Jvm.Cond.instanceMethod ({ cls := "TwoSeas$Reader", name := "readField", desc := "()I" } : Jvm.MethodName)) ∈ tq_W := tq_t3 (List.mem_of_getElem? (i := 111) rfl) rfl
theorem tw_706 : (Jvm.Cond.code ({ cls := "TwoSeas$Reader", name := "readField", desc := "()I" } : Jvm.MethodName) prog_8_method_9_code (2 : Nat) (Option.some Jvm.ClassFile.FieldType.int)) ∈ tq_W := tq_t3 (List.mem_of_getElem? (i := 112) rfl) rfl
theorem tw_712 : (Jvm.Cond.methodLink "TwoSeas$Reader" (106 : Nat) ({ cls := "TwoSeas$Reader", name := "readSign", desc := "()I" } : Jvm.MethodName)) ∈ tq_W := tq_t3 (List.mem_of_getElem? (i := 118) rfl) rfl
theorem tw_714 : (Jvm.Cond.instanceMethod ({ cls := "TwoSeas$Reader", name := "readSign", desc := "()I" } : Jvm.MethodName)) ∈ tq_W := tq_t3 (List.mem_of_getElem? (i := 120) rfl) rfl
theorem tw_715 : (Jvm.Cond.code ({ cls := "TwoSeas$Reader", name := "readSign", desc := "()I" } : Jvm.MethodName) prog_8_method_10_code (1 : Nat) (Option.some Jvm.ClassFile.FieldType.int)) ∈ tq_W := tq_t3 (List.mem_of_getElem? (i := 121) rfl) rfl
theorem tw_717 : (Jvm.Cond.classLink "TwoSeas$Reader" (109 : Nat) "TwoSeas$Test") ∈ tq_W := tq_t3 (List.mem_of_getElem? (i := 123) rfl) rfl
theorem tw_718 : (Jvm.Cond.instantiable "TwoSeas$Test" (6 : Nat)) ∈ tq_W := tq_t3 (List.mem_of_getElem? (i := 124) rfl) rfl
theorem tw_719 : (Jvm.Cond.methodLink "TwoSeas$Reader" (111 : Nat) ({ cls := "TwoSeas$Test", name := "<init>", desc := "(ZZIIII)V" } : Jvm.MethodName)) ∈ tq_W := tq_t3 (List.mem_of_getElem? (i := 125) rfl) rfl
theorem tw_720 : (Jvm.Cond.instanceMethod ({ cls := "TwoSeas$Test", name := "<init>", desc := "(ZZIIII)V" } : Jvm.MethodName)) ∈ tq_W := tq_t3 (List.mem_of_getElem? (i := 126) rfl) rfl
theorem tw_721 : (Jvm.Cond.code ({ cls := "TwoSeas$Test", name := "<init>", desc := "(ZZIIII)V" } : Jvm.MethodName) prog_11_method_1_code (7 : Nat) (Option.none : Option Jvm.ClassFile.FieldType)) ∈ tq_W := tq_t3 (List.mem_of_getElem? (i := 127) rfl) rfl
theorem tw_722 : (Jvm.Cond.methodLink "TwoSeas$Test" (1 : Nat) ({ cls := "java/lang/Object", name := "<init>", desc := "()V" } : Jvm.MethodName)) ∈ tq_W := tq_t3 (List.mem_of_getElem? (i := 128) rfl) rfl
theorem tw_723 : (Jvm.Cond.fieldLink "TwoSeas$Test" (7 : Nat) "TwoSeas$Test" "afterOr" "Z") ∈ tq_W := tq_t3 (List.mem_of_getElem? (i := 129) rfl) rfl
theorem tw_724 : (Jvm.Cond.fieldLink "TwoSeas" (526 : Nat) "TwoSeas$Test" "afterOr" "Z") ∈ tq_W := tq_t3 (List.mem_of_getElem? (i := 130) rfl) rfl
theorem tw_725 : (Jvm.Cond.fieldLink "TwoSeas$Test" (13 : Nat) "TwoSeas$Test" "negated" "Z") ∈ tq_W := tq_t3 (List.mem_of_getElem? (i := 131) rfl) rfl
theorem tw_726 : (Jvm.Cond.fieldLink "TwoSeas$Test" (16 : Nat) "TwoSeas$Test" "field" "I") ∈ tq_W := tq_t3 (List.mem_of_getElem? (i := 132) rfl) rfl
theorem tw_727 : (Jvm.Cond.fieldLink "TwoSeas" (536 : Nat) "TwoSeas$Test" "field" "I") ∈ tq_W := tq_t3 (List.mem_of_getElem? (i := 133) rfl) rfl
theorem tw_728 : (Jvm.Cond.fieldLink "TwoSeas$Test" (20 : Nat) "TwoSeas$Test" "sort" "I") ∈ tq_W := tq_t3 (List.mem_of_getElem? (i := 134) rfl) rfl
theorem tw_729 : (Jvm.Cond.fieldLink "TwoSeas" (539 : Nat) "TwoSeas$Test" "sort" "I") ∈ tq_W := tq_t3 (List.mem_of_getElem? (i := 135) rfl) rfl
theorem tw_730 : (Jvm.Cond.fieldLink "TwoSeas$Test" (23 : Nat) "TwoSeas$Test" "sign" "I") ∈ tq_W := tq_t3 (List.mem_of_getElem? (i := 136) rfl) rfl
theorem tw_731 : (Jvm.Cond.fieldLink "TwoSeas$Test" (26 : Nat) "TwoSeas$Test" "number" "I") ∈ tq_W := tq_t3 (List.mem_of_getElem? (i := 137) rfl) rfl
theorem tw_744 : (Jvm.Cond.superclass "TwoSeas$Test" "java/lang/Object") ∈ tq_W := tq_t3 (List.mem_of_getElem? (i := 150) rfl) rfl
theorem tw_745 : (Jvm.Cond.methodLink "TwoSeas$Reader" (72 : Nat) ({ cls := "java/util/ArrayList", name := "add", desc := "(Ljava/lang/Object;)Z" } : Jvm.MethodName)) ∈ tq_W := tq_t3 (List.mem_of_getElem? (i := 151) rfl) rfl
theorem tw_746 : (Jvm.Cond.instanceMethod ({ cls := "java/util/ArrayList", name := "add", desc := "(Ljava/lang/Object;)Z" } : Jvm.MethodName)) ∈ tq_W := tq_t3 (List.mem_of_getElem? (i := 152) rfl) rfl
theorem tw_747 : (Jvm.Cond.selects "java/util/ArrayList" ({ cls := "java/util/ArrayList", name := "add", desc := "(Ljava/lang/Object;)Z" } : Jvm.MethodName) ({ cls := "java/util/ArrayList", name := "add", desc := "(Ljava/lang/Object;)Z" } : Jvm.MethodName)) ∈ tq_W := tq_t3 (List.mem_of_getElem? (i := 153) rfl) rfl
theorem tw_748 : (Jvm.Cond.code ({ cls := "java/util/ArrayList", name := "add", desc := "(Ljava/lang/Object;)Z" } : Jvm.MethodName) prog_26_method_25_code (2 : Nat) (Option.some Jvm.ClassFile.FieldType.boolean)) ∈ tq_W := tq_t3 (List.mem_of_getElem? (i := 154) rfl) rfl
theorem tw_749 : (Jvm.Cond.methodLink "java/util/ArrayList" (131 : Nat) ({ cls := "java/util/ArrayList", name := "add", desc := "(Ljava/lang/Object;[Ljava/lang/Object;I)V" } : Jvm.MethodName)) ∈ tq_W := tq_t3 (List.mem_of_getElem? (i := 155) rfl) rfl
theorem tw_751 : (Jvm.Cond.instanceMethod ({ cls := "java/util/ArrayList", name := "add", desc := "(Ljava/lang/Object;[Ljava/lang/Object;I)V" } : Jvm.MethodName)) ∈ tq_W := tq_t3 (List.mem_of_getElem? (i := 157) rfl) rfl
theorem tw_752 : (Jvm.Cond.code ({ cls := "java/util/ArrayList", name := "add", desc := "(Ljava/lang/Object;[Ljava/lang/Object;I)V" } : Jvm.MethodName) prog_26_method_24_code (4 : Nat) (Option.none : Option Jvm.ClassFile.FieldType)) ∈ tq_W := tq_t3 (List.mem_of_getElem? (i := 158) rfl) rfl
theorem tw_753 : (Jvm.Cond.methodLink "java/util/ArrayList" (129 : Nat) ({ cls := "java/util/ArrayList", name := "grow", desc := "()[Ljava/lang/Object;" } : Jvm.MethodName)) ∈ tq_W := tq_t3 (List.mem_of_getElem? (i := 159) rfl) rfl
theorem tw_755 : (Jvm.Cond.instanceMethod ({ cls := "java/util/ArrayList", name := "grow", desc := "()[Ljava/lang/Object;" } : Jvm.MethodName)) ∈ tq_W := tq_t3 (List.mem_of_getElem? (i := 161) rfl) rfl
theorem tw_756 : (Jvm.Cond.code ({ cls := "java/util/ArrayList", name := "grow", desc := "()[Ljava/lang/Object;" } : Jvm.MethodName) prog_26_method_7_code (1 : Nat) (Option.some (Jvm.ClassFile.FieldType.array (Jvm.ClassFile.FieldType.object "java/lang/Object")))) ∈ tq_W := tq_t3 (List.mem_of_getElem? (i := 162) rfl) rfl
theorem tw_757 : (Jvm.Cond.methodLink "java/util/ArrayList" (69 : Nat) ({ cls := "java/util/ArrayList", name := "grow", desc := "(I)[Ljava/lang/Object;" } : Jvm.MethodName)) ∈ tq_W := tq_t3 (List.mem_of_getElem? (i := 163) rfl) rfl
theorem tw_759 : (Jvm.Cond.instanceMethod ({ cls := "java/util/ArrayList", name := "grow", desc := "(I)[Ljava/lang/Object;" } : Jvm.MethodName)) ∈ tq_W := tq_t3 (List.mem_of_getElem? (i := 165) rfl) rfl
theorem tw_760 : (Jvm.Cond.code ({ cls := "java/util/ArrayList", name := "grow", desc := "(I)[Ljava/lang/Object;" } : Jvm.MethodName) prog_26_method_6_code (4 : Nat) (Option.some (Jvm.ClassFile.FieldType.array (Jvm.ClassFile.FieldType.object "java/lang/Object")))) ∈ tq_W := tq_t3 (List.mem_of_getElem? (i := 166) rfl) rfl
theorem tw_761 : (Jvm.Cond.methodLink "java/util/ArrayList" (73 : Nat) ({ cls := "jdk/internal/util/ArraysSupport", name := "newLength", desc := "(III)I" } : Jvm.MethodName)) ∈ tq_W := tq_t3 (List.mem_of_getElem? (i := 167) rfl) rfl
theorem tw_762 : (Jvm.Cond.static ({ cls := "jdk/internal/util/ArraysSupport", name := "newLength", desc := "(III)I" } : Jvm.MethodName)) ∈ tq_W := tq_t3 (List.mem_of_getElem? (i := 168) rfl) rfl
theorem tw_763 : (Jvm.Cond.code ({ cls := "jdk/internal/util/ArraysSupport", name := "newLength", desc := "(III)I" } : Jvm.MethodName) prog_33_method_27_code (4 : Nat) (Option.some Jvm.ClassFile.FieldType.int)) ∈ tq_W := tq_t3 (List.mem_of_getElem? (i := 169) rfl) rfl
theorem tw_764 : (Jvm.Cond.methodLink "jdk/internal/util/ArraysSupport" (194 : Nat) ({ cls := "java/lang/Math", name := "max", desc := "(II)I" } : Jvm.MethodName)) ∈ tq_W := tq_t3 (List.mem_of_getElem? (i := 170) rfl) rfl
theorem tw_765 : (Jvm.Cond.constant "jdk/internal/util/ArraysSupport" (200 : Nat) (2147483639 : Int32)) ∈ tq_W := tq_t3 (List.mem_of_getElem? (i := 171) rfl) rfl
theorem tw_766 : (Jvm.Cond.methodLink "jdk/internal/util/ArraysSupport" (201 : Nat) ({ cls := "jdk/internal/util/ArraysSupport", name := "hugeLength", desc := "(II)I" } : Jvm.MethodName)) ∈ tq_W := tq_t3 (List.mem_of_getElem? (i := 172) rfl) rfl
theorem tw_767 : (Jvm.Cond.static ({ cls := "jdk/internal/util/ArraysSupport", name := "hugeLength", desc := "(II)I" } : Jvm.MethodName)) ∈ tq_W := tq_t3 (List.mem_of_getElem? (i := 173) rfl) rfl
theorem tw_768 : (Jvm.Cond.code ({ cls := "jdk/internal/util/ArraysSupport", name := "hugeLength", desc := "(II)I" } : Jvm.MethodName) prog_33_method_28_code (3 : Nat) (Option.some Jvm.ClassFile.FieldType.int)) ∈ tq_W := tq_t3 (List.mem_of_getElem? (i := 174) rfl) rfl
theorem tw_769 : (Jvm.Cond.methodLink "java/util/ArrayList" (66 : Nat) ({ cls := "java/util/Arrays", name := "copyOf", desc := "([Ljava/lang/Object;I)[Ljava/lang/Object;" } : Jvm.MethodName)) ∈ tq_W := tq_t3 (List.mem_of_getElem? (i := 175) rfl) rfl
theorem tw_770 : (Jvm.Cond.static ({ cls := "java/util/Arrays", name := "copyOf", desc := "([Ljava/lang/Object;I)[Ljava/lang/Object;" } : Jvm.MethodName)) ∈ tq_W := tq_t3 (List.mem_of_getElem? (i := 176) rfl) rfl
theorem tw_771 : (Jvm.Cond.code ({ cls := "java/util/Arrays", name := "copyOf", desc := "([Ljava/lang/Object;I)[Ljava/lang/Object;" } : Jvm.MethodName) prog_27_method_119_code (2 : Nat) (Option.some (Jvm.ClassFile.FieldType.array (Jvm.ClassFile.FieldType.object "java/lang/Object")))) ∈ tq_W := tq_t3 (List.mem_of_getElem? (i := 177) rfl) rfl
theorem tw_772 : (Jvm.Cond.methodLink "java/util/Arrays" (86 : Nat) ({ cls := "java/lang/Object", name := "getClass", desc := "()Ljava/lang/Class;" } : Jvm.MethodName)) ∈ tq_W := tq_t3 (List.mem_of_getElem? (i := 178) rfl) rfl
theorem tw_773 : (Jvm.Cond.instanceMethod ({ cls := "java/lang/Object", name := "getClass", desc := "()Ljava/lang/Class;" } : Jvm.MethodName)) ∈ tq_W := tq_t3 (List.mem_of_getElem? (i := 179) rfl) rfl
theorem tw_774 : (Jvm.Cond.sameMethod "java/lang/Object" "java/lang/Object" "getClass" "()Ljava/lang/Class;") ∈ tq_W := tq_t3 (List.mem_of_getElem? (i := 180) rfl) rfl
theorem tw_775 : (Jvm.Cond.selects "TwoSeas" ({ cls := "java/lang/Object", name := "getClass", desc := "()Ljava/lang/Class;" } : Jvm.MethodName) ({ cls := "java/lang/Object", name := "getClass", desc := "()Ljava/lang/Class;" } : Jvm.MethodName)) ∈ tq_W := tq_t3 (List.mem_of_getElem? (i := 181) rfl) rfl
theorem tw_776 : (Jvm.Cond.selects "TwoSeas$Acts" ({ cls := "java/lang/Object", name := "getClass", desc := "()Ljava/lang/Class;" } : Jvm.MethodName) ({ cls := "java/lang/Object", name := "getClass", desc := "()Ljava/lang/Class;" } : Jvm.MethodName)) ∈ tq_W := tq_t3 (List.mem_of_getElem? (i := 182) rfl) rfl
theorem tw_777 : (Jvm.Cond.selects "TwoSeas$Bill" ({ cls := "java/lang/Object", name := "getClass", desc := "()Ljava/lang/Class;" } : Jvm.MethodName) ({ cls := "java/lang/Object", name := "getClass", desc := "()Ljava/lang/Class;" } : Jvm.MethodName)) ∈ tq_W := tq_t3 (List.mem_of_getElem? (i := 183) rfl) rfl
theorem tw_778 : (Jvm.Cond.selects "TwoSeas$Market" ({ cls := "java/lang/Object", name := "getClass", desc := "()Ljava/lang/Class;" } : Jvm.MethodName) ({ cls := "java/lang/Object", name := "getClass", desc := "()Ljava/lang/Class;" } : Jvm.MethodName)) ∈ tq_W := tq_t3 (List.mem_of_getElem? (i := 184) rfl) rfl
theorem tw_779 : (Jvm.Cond.selects "TwoSeas$Paper" ({ cls := "java/lang/Object", name := "getClass", desc := "()Ljava/lang/Class;" } : Jvm.MethodName) ({ cls := "java/lang/Object", name := "getClass", desc := "()Ljava/lang/Class;" } : Jvm.MethodName)) ∈ tq_W := tq_t3 (List.mem_of_getElem? (i := 185) rfl) rfl
theorem tw_780 : (Jvm.Cond.selects "TwoSeas$Paragraph" ({ cls := "java/lang/Object", name := "getClass", desc := "()Ljava/lang/Class;" } : Jvm.MethodName) ({ cls := "java/lang/Object", name := "getClass", desc := "()Ljava/lang/Class;" } : Jvm.MethodName)) ∈ tq_W := tq_t3 (List.mem_of_getElem? (i := 186) rfl) rfl
theorem tw_781 : (Jvm.Cond.selects "TwoSeas$Place" ({ cls := "java/lang/Object", name := "getClass", desc := "()Ljava/lang/Class;" } : Jvm.MethodName) ({ cls := "java/lang/Object", name := "getClass", desc := "()Ljava/lang/Class;" } : Jvm.MethodName)) ∈ tq_W := tq_t3 (List.mem_of_getElem? (i := 187) rfl) rfl
theorem tw_782 : (Jvm.Cond.selects "TwoSeas$Reader" ({ cls := "java/lang/Object", name := "getClass", desc := "()Ljava/lang/Class;" } : Jvm.MethodName) ({ cls := "java/lang/Object", name := "getClass", desc := "()Ljava/lang/Class;" } : Jvm.MethodName)) ∈ tq_W := tq_t3 (List.mem_of_getElem? (i := 188) rfl) rfl
theorem tw_783 : (Jvm.Cond.selects "TwoSeas$Sheet" ({ cls := "java/lang/Object", name := "getClass", desc := "()Ljava/lang/Class;" } : Jvm.MethodName) ({ cls := "java/lang/Object", name := "getClass", desc := "()Ljava/lang/Class;" } : Jvm.MethodName)) ∈ tq_W := tq_t3 (List.mem_of_getElem? (i := 189) rfl) rfl
theorem tw_784 : (Jvm.Cond.selects "TwoSeas$Ship" ({ cls := "java/lang/Object", name := "getClass", desc := "()Ljava/lang/Class;" } : Jvm.MethodName) ({ cls := "java/lang/Object", name := "getClass", desc := "()Ljava/lang/Class;" } : Jvm.MethodName)) ∈ tq_W := tq_t3 (List.mem_of_getElem? (i := 190) rfl) rfl
theorem tw_785 : (Jvm.Cond.selects "TwoSeas$Test" ({ cls := "java/lang/Object", name := "getClass", desc := "()Ljava/lang/Class;" } : Jvm.MethodName) ({ cls := "java/lang/Object", name := "getClass", desc := "()Ljava/lang/Class;" } : Jvm.MethodName)) ∈ tq_W := tq_t3 (List.mem_of_getElem? (i := 191) rfl) rfl
theorem tw_786 : (Jvm.Cond.selects "TwoSeas$Voyage" ({ cls := "java/lang/Object", name := "getClass", desc := "()Ljava/lang/Class;" } : Jvm.MethodName) ({ cls := "java/lang/Object", name := "getClass", desc := "()Ljava/lang/Class;" } : Jvm.MethodName)) ∈ tq_W := tq_t3 (List.mem_of_getElem? (i := 192) rfl) rfl
theorem tw_787 : (Jvm.Cond.selects "TwoSeasModel" ({ cls := "java/lang/Object", name := "getClass", desc := "()Ljava/lang/Class;" } : Jvm.MethodName) ({ cls := "java/lang/Object", name := "getClass", desc := "()Ljava/lang/Class;" } : Jvm.MethodName)) ∈ tq_W := tq_t3 (List.mem_of_getElem? (i := 193) rfl) rfl
theorem tw_788 : (Jvm.Cond.selects "java/util/ArrayList" ({ cls := "java/lang/Object", name := "getClass", desc := "()Ljava/lang/Class;" } : Jvm.MethodName) ({ cls := "java/lang/Object", name := "getClass", desc := "()Ljava/lang/Class;" } : Jvm.MethodName)) ∈ tq_W := tq_t3 (List.mem_of_getElem? (i := 194) rfl) rfl
theorem tw_789 : (Jvm.Cond.native ({ cls := "java/lang/Object", name := "getClass", desc := "()Ljava/lang/Class;" } : Jvm.MethodName)) ∈ tq_W := tq_t3 (List.mem_of_getElem? (i := 195) rfl) rfl
theorem tw_790 : (Jvm.Cond.methodLink "java/util/Arrays" (300 : Nat) ({ cls := "java/util/Arrays", name := "copyOf", desc := "([Ljava/lang/Object;ILjava/lang/Class;)[Ljava/lang/Object;" } : Jvm.MethodName)) ∈ tq_W := tq_t3 (List.mem_of_getElem? (i := 196) rfl) rfl
theorem tw_791 : (Jvm.Cond.static ({ cls := "java/util/Arrays", name := "copyOf", desc := "([Ljava/lang/Object;ILjava/lang/Class;)[Ljava/lang/Object;" } : Jvm.MethodName)) ∈ tq_W := tq_t3 (List.mem_of_getElem? (i := 197) rfl) rfl
theorem tw_792 : (Jvm.Cond.code ({ cls := "java/util/Arrays", name := "copyOf", desc := "([Ljava/lang/Object;ILjava/lang/Class;)[Ljava/lang/Object;" } : Jvm.MethodName) prog_27_method_120_code (4 : Nat) (Option.some (Jvm.ClassFile.FieldType.array (Jvm.ClassFile.FieldType.object "java/lang/Object")))) ∈ tq_W := tq_t3 (List.mem_of_getElem? (i := 198) rfl) rfl
theorem tw_793 : (Jvm.Cond.classLink "java/util/Arrays" (110 : Nat) "[Ljava/lang/Object;") ∈ tq_W := tq_t3 (List.mem_of_getElem? (i := 199) rfl) rfl
theorem tw_795 : (Jvm.Cond.classLink "java/util/Arrays" (2 : Nat) "java/lang/Object") ∈ tq_W := tq_t3 (List.mem_of_getElem? (i := 201) rfl) rfl
theorem tw_796 : (Jvm.Cond.methodLink "java/util/Arrays" (304 : Nat) ({ cls := "java/lang/Math", name := "min", desc := "(II)I" } : Jvm.MethodName)) ∈ tq_W := tq_t3 (List.mem_of_getElem? (i := 202) rfl) rfl
theorem tw_797 : (Jvm.Cond.static ({ cls := "java/lang/Math", name := "min", desc := "(II)I" } : Jvm.MethodName)) ∈ tq_W := tq_t3 (List.mem_of_getElem? (i := 203) rfl) rfl
theorem tw_798 : (Jvm.Cond.code ({ cls := "java/lang/Math", name := "min", desc := "(II)I" } : Jvm.MethodName) prog_19_method_69_code (2 : Nat) (Option.some Jvm.ClassFile.FieldType.int)) ∈ tq_W := tq_t3 (List.mem_of_getElem? (i := 204) rfl) rfl
theorem tw_799 : (Jvm.Cond.methodLink "java/util/Arrays" (150 : Nat) ({ cls := "java/lang/System", name := "arraycopy", desc := "(Ljava/lang/Object;ILjava/lang/Object;II)V" } : Jvm.MethodName)) ∈ tq_W := tq_t3 (List.mem_of_getElem? (i := 205) rfl) rfl
theorem tw_800 : (Jvm.Cond.static ({ cls := "java/lang/System", name := "arraycopy", desc := "(Ljava/lang/Object;ILjava/lang/Object;II)V" } : Jvm.MethodName)) ∈ tq_W := tq_t3 (List.mem_of_getElem? (i := 206) rfl) rfl
theorem tw_801 : (Jvm.Cond.native ({ cls := "java/lang/System", name := "arraycopy", desc := "(Ljava/lang/Object;ILjava/lang/Object;II)V" } : Jvm.MethodName)) ∈ tq_W := tq_t3 (List.mem_of_getElem? (i := 207) rfl) rfl
theorem tw_802 : (Jvm.Cond.methodLink "java/util/ArrayList" (79 : Nat) ({ cls := "java/lang/Math", name := "max", desc := "(II)I" } : Jvm.MethodName)) ∈ tq_W := tq_t3 (List.mem_of_getElem? (i := 208) rfl) rfl
theorem tw_803 : (Jvm.Cond.classLink "java/util/ArrayList" (7 : Nat) "java/lang/Object") ∈ tq_W := tq_t3 (List.mem_of_getElem? (i := 209) rfl) rfl
theorem tw_806 : (Jvm.Cond.methodLink "TwoSeas" (189 : Nat) ({ cls := "java/util/ArrayList", name := "add", desc := "(Ljava/lang/Object;)Z" } : Jvm.MethodName)) ∈ tq_W := tq_t3 (List.mem_of_getElem? (i := 212) rfl) rfl
theorem tw_807 : (Jvm.Cond.methodLink "TwoSeasLaw" (57 : Nat) ({ cls := "TwoSeas", name := "letter", desc := "(II)I" } : Jvm.MethodName)) ∈ tq_W := tq_t3 (List.mem_of_getElem? (i := 213) rfl) rfl
theorem tw_808 : (Jvm.Cond.instanceMethod ({ cls := "TwoSeas", name := "letter", desc := "(II)I" } : Jvm.MethodName)) ∈ tq_W := tq_t3 (List.mem_of_getElem? (i := 214) rfl) rfl
theorem tw_809 : (Jvm.Cond.selects "TwoSeas" ({ cls := "TwoSeas", name := "letter", desc := "(II)I" } : Jvm.MethodName) ({ cls := "TwoSeas", name := "letter", desc := "(II)I" } : Jvm.MethodName)) ∈ tq_W := tq_t3 (List.mem_of_getElem? (i := 215) rfl) rfl
theorem tw_810 : (Jvm.Cond.code ({ cls := "TwoSeas", name := "letter", desc := "(II)I" } : Jvm.MethodName) prog_1_method_12_code (3 : Nat) (Option.some Jvm.ClassFile.FieldType.int)) ∈ tq_W := tq_t3 (List.mem_of_getElem? (i := 216) rfl) rfl
theorem tw_811 : (Jvm.Cond.methodLink "TwoSeas" (196 : Nat) ({ cls := "TwoSeas", name := "write", desc := "(ILTwoSeas$Place;I)LTwoSeas$Paper;" } : Jvm.MethodName)) ∈ tq_W := tq_t3 (List.mem_of_getElem? (i := 217) rfl) rfl
theorem tw_813 : (Jvm.Cond.instanceMethod ({ cls := "TwoSeas", name := "write", desc := "(ILTwoSeas$Place;I)LTwoSeas$Paper;" } : Jvm.MethodName)) ∈ tq_W := tq_t3 (List.mem_of_getElem? (i := 219) rfl) rfl
theorem tw_814 : (Jvm.Cond.code ({ cls := "TwoSeas", name := "write", desc := "(ILTwoSeas$Place;I)LTwoSeas$Paper;" } : Jvm.MethodName) prog_1_method_67_code (5 : Nat) (Option.some (Jvm.ClassFile.FieldType.object "TwoSeas$Paper"))) ∈ tq_W := tq_t3 (List.mem_of_getElem? (i := 220) rfl) rfl
theorem tw_815 : (Jvm.Cond.methodLink "TwoSeasLaw" (61 : Nat) ({ cls := "TwoSeas", name := "copy", desc := "(II)I" } : Jvm.MethodName)) ∈ tq_W := tq_t3 (List.mem_of_getElem? (i := 221) rfl) rfl
theorem tw_816 : (Jvm.Cond.instanceMethod ({ cls := "TwoSeas", name := "copy", desc := "(II)I" } : Jvm.MethodName)) ∈ tq_W := tq_t3 (List.mem_of_getElem? (i := 222) rfl) rfl
theorem tw_817 : (Jvm.Cond.selects "TwoSeas" ({ cls := "TwoSeas", name := "copy", desc := "(II)I" } : Jvm.MethodName) ({ cls := "TwoSeas", name := "copy", desc := "(II)I" } : Jvm.MethodName)) ∈ tq_W := tq_t3 (List.mem_of_getElem? (i := 223) rfl) rfl
theorem tw_818 : (Jvm.Cond.code ({ cls := "TwoSeas", name := "copy", desc := "(II)I" } : Jvm.MethodName) prog_1_method_13_code (5 : Nat) (Option.some Jvm.ClassFile.FieldType.int)) ∈ tq_W := tq_t3 (List.mem_of_getElem? (i := 224) rfl) rfl
theorem tw_819 : (Jvm.Cond.methodLink "TwoSeas" (200 : Nat) ({ cls := "TwoSeas", name := "isPaper", desc := "(I)Z" } : Jvm.MethodName)) ∈ tq_W := tq_t3 (List.mem_of_getElem? (i := 225) rfl) rfl
theorem tw_821 : (Jvm.Cond.instanceMethod ({ cls := "TwoSeas", name := "isPaper", desc := "(I)Z" } : Jvm.MethodName)) ∈ tq_W := tq_t3 (List.mem_of_getElem? (i := 227) rfl) rfl
theorem tw_822 : (Jvm.Cond.code ({ cls := "TwoSeas", name := "isPaper", desc := "(I)Z" } : Jvm.MethodName) prog_1_method_59_code (2 : Nat) (Option.some Jvm.ClassFile.FieldType.boolean)) ∈ tq_W := tq_t3 (List.mem_of_getElem? (i := 228) rfl) rfl
theorem tw_823 : (Jvm.Cond.methodLink "TwoSeas" (203 : Nat) ({ cls := "TwoSeas", name := "isShip", desc := "(I)Z" } : Jvm.MethodName)) ∈ tq_W := tq_t3 (List.mem_of_getElem? (i := 229) rfl) rfl
theorem tw_825 : (Jvm.Cond.instanceMethod ({ cls := "TwoSeas", name := "isShip", desc := "(I)Z" } : Jvm.MethodName)) ∈ tq_W := tq_t3 (List.mem_of_getElem? (i := 231) rfl) rfl
theorem tw_826 : (Jvm.Cond.code ({ cls := "TwoSeas", name := "isShip", desc := "(I)Z" } : Jvm.MethodName) prog_1_method_60_code (2 : Nat) (Option.some Jvm.ClassFile.FieldType.boolean)) ∈ tq_W := tq_t3 (List.mem_of_getElem? (i := 232) rfl) rfl
theorem tw_827 : (Jvm.Cond.methodLink "TwoSeas" (206 : Nat) ({ cls := "java/util/ArrayList", name := "get", desc := "(I)Ljava/lang/Object;" } : Jvm.MethodName)) ∈ tq_W := tq_t3 (List.mem_of_getElem? (i := 233) rfl) rfl
theorem tw_828 : (Jvm.Cond.instanceMethod ({ cls := "java/util/ArrayList", name := "get", desc := "(I)Ljava/lang/Object;" } : Jvm.MethodName)) ∈ tq_W := tq_t3 (List.mem_of_getElem? (i := 234) rfl) rfl
theorem tw_829 : (Jvm.Cond.selects "java/util/ArrayList" ({ cls := "java/util/ArrayList", name := "get", desc := "(I)Ljava/lang/Object;" } : Jvm.MethodName) ({ cls := "java/util/ArrayList", name := "get", desc := "(I)Ljava/lang/Object;" } : Jvm.MethodName)) ∈ tq_W := tq_t3 (List.mem_of_getElem? (i := 235) rfl) rfl
theorem tw_830 : (Jvm.Cond.code ({ cls := "java/util/ArrayList", name := "get", desc := "(I)Ljava/lang/Object;" } : Jvm.MethodName) prog_26_method_20_code (2 : Nat) (Option.some (Jvm.ClassFile.FieldType.object "java/lang/Object"))) ∈ tq_W := tq_t3 (List.mem_of_getElem? (i := 236) rfl) rfl
theorem tw_831 : (Jvm.Cond.methodLink "java/util/ArrayList" (118 : Nat) ({ cls := "java/util/Objects", name := "checkIndex", desc := "(II)I" } : Jvm.MethodName)) ∈ tq_W := tq_t3 (List.mem_of_getElem? (i := 237) rfl) rfl
theorem tw_832 : (Jvm.Cond.static ({ cls := "java/util/Objects", name := "checkIndex", desc := "(II)I" } : Jvm.MethodName)) ∈ tq_W := tq_t3 (List.mem_of_getElem? (i := 238) rfl) rfl
theorem tw_833 : (Jvm.Cond.code ({ cls := "java/util/Objects", name := "checkIndex", desc := "(II)I" } : Jvm.MethodName) prog_30_method_17_code (2 : Nat) (Option.some Jvm.ClassFile.FieldType.int)) ∈ tq_W := tq_t3 (List.mem_of_getElem? (i := 239) rfl) rfl
theorem tw_834 : (Jvm.Cond.methodLink "java/util/Objects" (105 : Nat) ({ cls := "jdk/internal/util/Preconditions", name := "checkIndex", desc := "(IILjava/util/function/BiFunction;)I" } : Jvm.MethodName)) ∈ tq_W := tq_t4 (List.mem_of_getElem? (i := 0) rfl) rfl
theorem tw_835 : (Jvm.Cond.methodLink "java/util/ArrayList" (123 : Nat) ({ cls := "java/util/ArrayList", name := "elementData", desc := "(I)Ljava/lang/Object;" } : Jvm.MethodName)) ∈ tq_W := tq_t4 (List.mem_of_getElem? (i := 1) rfl) rfl
theorem tw_836 : (Jvm.Cond.instanceMethod ({ cls := "java/util/ArrayList", name := "elementData", desc := "(I)Ljava/lang/Object;" } : Jvm.MethodName)) ∈ tq_W := tq_t4 (List.mem_of_getElem? (i := 2) rfl) rfl
theorem tw_837 : (Jvm.Cond.selects "java/util/ArrayList" ({ cls := "java/util/ArrayList", name := "elementData", desc := "(I)Ljava/lang/Object;" } : Jvm.MethodName) ({ cls := "java/util/ArrayList", name := "elementData", desc := "(I)Ljava/lang/Object;" } : Jvm.MethodName)) ∈ tq_W := tq_t4 (List.mem_of_getElem? (i := 3) rfl) rfl
theorem tw_838 : (Jvm.Cond.code ({ cls := "java/util/ArrayList", name := "elementData", desc := "(I)Ljava/lang/Object;" } : Jvm.MethodName) prog_26_method_18_code (2 : Nat) (Option.some (Jvm.ClassFile.FieldType.object "java/lang/Object"))) ∈ tq_W := tq_t4 (List.mem_of_getElem? (i := 4) rfl) rfl
theorem tw_839 : (Jvm.Cond.classLink "TwoSeas" (210 : Nat) "TwoSeas$Ship") ∈ tq_W := tq_t4 (List.mem_of_getElem? (i := 5) rfl) rfl
theorem tw_840 : (Jvm.Cond.methodLink "TwoSeas" (221 : Nat) ({ cls := "TwoSeas$Paper", name := "comesAboard", desc := "(LTwoSeas$Ship;)V" } : Jvm.MethodName)) ∈ tq_W := tq_t4 (List.mem_of_getElem? (i := 6) rfl) rfl
theorem tw_841 : (Jvm.Cond.instanceMethod ({ cls := "TwoSeas$Paper", name := "comesAboard", desc := "(LTwoSeas$Ship;)V" } : Jvm.MethodName)) ∈ tq_W := tq_t4 (List.mem_of_getElem? (i := 7) rfl) rfl
theorem tw_842 : (Jvm.Cond.selects "TwoSeas$Paper" ({ cls := "TwoSeas$Paper", name := "comesAboard", desc := "(LTwoSeas$Ship;)V" } : Jvm.MethodName) ({ cls := "TwoSeas$Paper", name := "comesAboard", desc := "(LTwoSeas$Ship;)V" } : Jvm.MethodName)) ∈ tq_W := tq_t4 (List.mem_of_getElem? (i := 8) rfl) rfl
theorem tw_843 : (Jvm.Cond.sameMethod "TwoSeas$Paper" "TwoSeas$Paper" "comesAboard" "(LTwoSeas$Ship;)V") ∈ tq_W := tq_t4 (List.mem_of_getElem? (i := 9) rfl) rfl
theorem tw_844 : (Jvm.Cond.selects "TwoSeas$Bill" ({ cls := "TwoSeas$Paper", name := "comesAboard", desc := "(LTwoSeas$Ship;)V" } : Jvm.MethodName) ({ cls := "TwoSeas$Paper", name := "comesAboard", desc := "(LTwoSeas$Ship;)V" } : Jvm.MethodName)) ∈ tq_W := tq_t4 (List.mem_of_getElem? (i := 10) rfl) rfl
theorem tw_845 : (Jvm.Cond.code ({ cls := "TwoSeas$Paper", name := "comesAboard", desc := "(LTwoSeas$Ship;)V" } : Jvm.MethodName) prog_5_method_2_code (2 : Nat) (Option.none : Option Jvm.ClassFile.FieldType)) ∈ tq_W := tq_t4 (List.mem_of_getElem? (i := 11) rfl) rfl
theorem tw_846 : (Jvm.Cond.methodLink "TwoSeasLaw" (65 : Nat) ({ cls := "TwoSeas", name := "known", desc := "(II)I" } : Jvm.MethodName)) ∈ tq_W := tq_t4 (List.mem_of_getElem? (i := 12) rfl) rfl
theorem tw_847 : (Jvm.Cond.instanceMethod ({ cls := "TwoSeas", name := "known", desc := "(II)I" } : Jvm.MethodName)) ∈ tq_W := tq_t4 (List.mem_of_getElem? (i := 13) rfl) rfl
theorem tw_848 : (Jvm.Cond.selects "TwoSeas" ({ cls := "TwoSeas", name := "known", desc := "(II)I" } : Jvm.MethodName) ({ cls := "TwoSeas", name := "known", desc := "(II)I" } : Jvm.MethodName)) ∈ tq_W := tq_t4 (List.mem_of_getElem? (i := 14) rfl) rfl
theorem tw_849 : (Jvm.Cond.code ({ cls := "TwoSeas", name := "known", desc := "(II)I" } : Jvm.MethodName) prog_1_method_14_code (3 : Nat) (Option.some Jvm.ClassFile.FieldType.int)) ∈ tq_W := tq_t4 (List.mem_of_getElem? (i := 15) rfl) rfl
theorem tw_850 : (Jvm.Cond.methodLink "TwoSeasLaw" (69 : Nat) ({ cls := "TwoSeas", name := "paper", desc := "(II)I" } : Jvm.MethodName)) ∈ tq_W := tq_t4 (List.mem_of_getElem? (i := 16) rfl) rfl
theorem tw_851 : (Jvm.Cond.instanceMethod ({ cls := "TwoSeas", name := "paper", desc := "(II)I" } : Jvm.MethodName)) ∈ tq_W := tq_t4 (List.mem_of_getElem? (i := 17) rfl) rfl
theorem tw_852 : (Jvm.Cond.selects "TwoSeas" ({ cls := "TwoSeas", name := "paper", desc := "(II)I" } : Jvm.MethodName) ({ cls := "TwoSeas", name := "paper", desc := "(II)I" } : Jvm.MethodName)) ∈ tq_W := tq_t4 (List.mem_of_getElem? (i := 18) rfl) rfl
theorem tw_853 : (Jvm.Cond.code ({ cls := "TwoSeas", name := "paper", desc := "(II)I" } : Jvm.MethodName) prog_1_method_15_code (4 : Nat) (Option.some Jvm.ClassFile.FieldType.int)) ∈ tq_W := tq_t4 (List.mem_of_getElem? (i := 19) rfl) rfl
theorem tw_854 : (Jvm.Cond.methodLink "TwoSeasLaw" (73 : Nat) ({ cls := "TwoSeas", name := "force", desc := "(I)I" } : Jvm.MethodName)) ∈ tq_W := tq_t4 (List.mem_of_getElem? (i := 20) rfl) rfl
theorem tw_855 : (Jvm.Cond.instanceMethod ({ cls := "TwoSeas", name := "force", desc := "(I)I" } : Jvm.MethodName)) ∈ tq_W := tq_t4 (List.mem_of_getElem? (i := 21) rfl) rfl
theorem tw_856 : (Jvm.Cond.selects "TwoSeas" ({ cls := "TwoSeas", name := "force", desc := "(I)I" } : Jvm.MethodName) ({ cls := "TwoSeas", name := "force", desc := "(I)I" } : Jvm.MethodName)) ∈ tq_W := tq_t4 (List.mem_of_getElem? (i := 22) rfl) rfl
theorem tw_857 : (Jvm.Cond.code ({ cls := "TwoSeas", name := "force", desc := "(I)I" } : Jvm.MethodName) prog_1_method_16_code (2 : Nat) (Option.some Jvm.ClassFile.FieldType.int)) ∈ tq_W := tq_t4 (List.mem_of_getElem? (i := 23) rfl) rfl
theorem tw_858 : (Jvm.Cond.methodLink "TwoSeasLaw" (77 : Nat) ({ cls := "TwoSeas", name := "forced", desc := "(II)I" } : Jvm.MethodName)) ∈ tq_W := tq_t4 (List.mem_of_getElem? (i := 24) rfl) rfl
theorem tw_859 : (Jvm.Cond.instanceMethod ({ cls := "TwoSeas", name := "forced", desc := "(II)I" } : Jvm.MethodName)) ∈ tq_W := tq_t4 (List.mem_of_getElem? (i := 25) rfl) rfl
theorem tw_860 : (Jvm.Cond.selects "TwoSeas" ({ cls := "TwoSeas", name := "forced", desc := "(II)I" } : Jvm.MethodName) ({ cls := "TwoSeas", name := "forced", desc := "(II)I" } : Jvm.MethodName)) ∈ tq_W := tq_t4 (List.mem_of_getElem? (i := 26) rfl) rfl
theorem tw_861 : (Jvm.Cond.code ({ cls := "TwoSeas", name := "forced", desc := "(II)I" } : Jvm.MethodName) prog_1_method_17_code (4 : Nat) (Option.some Jvm.ClassFile.FieldType.int)) ∈ tq_W := tq_t4 (List.mem_of_getElem? (i := 27) rfl) rfl
theorem tw_862 : (Jvm.Cond.methodLink "TwoSeas" (240 : Nat) ({ cls := "TwoSeas", name := "isInForce", desc := "(II)Z" } : Jvm.MethodName)) ∈ tq_W := tq_t4 (List.mem_of_getElem? (i := 28) rfl) rfl
theorem tw_864 : (Jvm.Cond.instanceMethod ({ cls := "TwoSeas", name := "isInForce", desc := "(II)Z" } : Jvm.MethodName)) ∈ tq_W := tq_t4 (List.mem_of_getElem? (i := 30) rfl) rfl
theorem tw_865 : (Jvm.Cond.code ({ cls := "TwoSeas", name := "isInForce", desc := "(II)Z" } : Jvm.MethodName) prog_1_method_62_code (3 : Nat) (Option.some Jvm.ClassFile.FieldType.boolean)) ∈ tq_W := tq_t4 (List.mem_of_getElem? (i := 31) rfl) rfl
theorem tw_866 : (Jvm.Cond.classLink "TwoSeas" (243 : Nat) "TwoSeas$Paragraph") ∈ tq_W := tq_t4 (List.mem_of_getElem? (i := 32) rfl) rfl
theorem tw_867 : (Jvm.Cond.methodLink "TwoSeasLaw" (81 : Nat) ({ cls := "TwoSeas", name := "holds", desc := "(II)I" } : Jvm.MethodName)) ∈ tq_W := tq_t4 (List.mem_of_getElem? (i := 33) rfl) rfl
theorem tw_868 : (Jvm.Cond.instanceMethod ({ cls := "TwoSeas", name := "holds", desc := "(II)I" } : Jvm.MethodName)) ∈ tq_W := tq_t4 (List.mem_of_getElem? (i := 34) rfl) rfl
theorem tw_869 : (Jvm.Cond.selects "TwoSeas" ({ cls := "TwoSeas", name := "holds", desc := "(II)I" } : Jvm.MethodName) ({ cls := "TwoSeas", name := "holds", desc := "(II)I" } : Jvm.MethodName)) ∈ tq_W := tq_t4 (List.mem_of_getElem? (i := 35) rfl) rfl
theorem tw_870 : (Jvm.Cond.code ({ cls := "TwoSeas", name := "holds", desc := "(II)I" } : Jvm.MethodName) prog_1_method_18_code (3 : Nat) (Option.some Jvm.ClassFile.FieldType.int)) ∈ tq_W := tq_t4 (List.mem_of_getElem? (i := 36) rfl) rfl
theorem tw_871 : (Jvm.Cond.methodLink "TwoSeas" (251 : Nat) ({ cls := "TwoSeas", name := "testsHold", desc := "(LTwoSeas$Paragraph;LTwoSeas$Place;)Z" } : Jvm.MethodName)) ∈ tq_W := tq_t4 (List.mem_of_getElem? (i := 37) rfl) rfl
theorem tw_873 : (Jvm.Cond.instanceMethod ({ cls := "TwoSeas", name := "testsHold", desc := "(LTwoSeas$Paragraph;LTwoSeas$Place;)Z" } : Jvm.MethodName)) ∈ tq_W := tq_t4 (List.mem_of_getElem? (i := 39) rfl) rfl
theorem tw_874 : (Jvm.Cond.code ({ cls := "TwoSeas", name := "testsHold", desc := "(LTwoSeas$Paragraph;LTwoSeas$Place;)Z" } : Jvm.MethodName) prog_1_method_79_code (6 : Nat) (Option.some Jvm.ClassFile.FieldType.boolean)) ∈ tq_W := tq_t4 (List.mem_of_getElem? (i := 40) rfl) rfl
theorem tw_875 : (Jvm.Cond.classLink "TwoSeas" (524 : Nat) "TwoSeas$Test") ∈ tq_W := tq_t4 (List.mem_of_getElem? (i := 41) rfl) rfl
theorem tw_876 : (Jvm.Cond.methodLink "TwoSeas" (529 : Nat) ({ cls := "TwoSeas", name := "fieldValue", desc := "(LTwoSeas$Test;LTwoSeas$Place;)I" } : Jvm.MethodName)) ∈ tq_W := tq_t4 (List.mem_of_getElem? (i := 42) rfl) rfl
theorem tw_878 : (Jvm.Cond.instanceMethod ({ cls := "TwoSeas", name := "fieldValue", desc := "(LTwoSeas$Test;LTwoSeas$Place;)I" } : Jvm.MethodName)) ∈ tq_W := tq_t4 (List.mem_of_getElem? (i := 44) rfl) rfl
theorem tw_879 : (Jvm.Cond.code ({ cls := "TwoSeas", name := "fieldValue", desc := "(LTwoSeas$Test;LTwoSeas$Place;)I" } : Jvm.MethodName) prog_1_method_80_code (3 : Nat) (Option.some Jvm.ClassFile.FieldType.int)) ∈ tq_W := tq_t4 (List.mem_of_getElem? (i := 45) rfl) rfl
theorem tw_880 : (Jvm.Cond.methodLink "TwoSeas" (455 : Nat) ({ cls := "TwoSeas", name := "shipsAt", desc := "(I)I" } : Jvm.MethodName)) ∈ tq_W := tq_t4 (List.mem_of_getElem? (i := 46) rfl) rfl
theorem tw_882 : (Jvm.Cond.instanceMethod ({ cls := "TwoSeas", name := "shipsAt", desc := "(I)I" } : Jvm.MethodName)) ∈ tq_W := tq_t4 (List.mem_of_getElem? (i := 48) rfl) rfl
theorem tw_883 : (Jvm.Cond.code ({ cls := "TwoSeas", name := "shipsAt", desc := "(I)I" } : Jvm.MethodName) prog_1_method_68_code (4 : Nat) (Option.some Jvm.ClassFile.FieldType.int)) ∈ tq_W := tq_t4 (List.mem_of_getElem? (i := 49) rfl) rfl
theorem tw_884 : (Jvm.Cond.methodLink "TwoSeas" (533 : Nat) ({ cls := "TwoSeas$Test", name := "isMetBy", desc := "(I)Z" } : Jvm.MethodName)) ∈ tq_W := tq_t4 (List.mem_of_getElem? (i := 50) rfl) rfl
theorem tw_885 : (Jvm.Cond.instanceMethod ({ cls := "TwoSeas$Test", name := "isMetBy", desc := "(I)Z" } : Jvm.MethodName)) ∈ tq_W := tq_t4 (List.mem_of_getElem? (i := 51) rfl) rfl
theorem tw_886 : (Jvm.Cond.selects "TwoSeas$Test" ({ cls := "TwoSeas$Test", name := "isMetBy", desc := "(I)Z" } : Jvm.MethodName) ({ cls := "TwoSeas$Test", name := "isMetBy", desc := "(I)Z" } : Jvm.MethodName)) ∈ tq_W := tq_t4 (List.mem_of_getElem? (i := 52) rfl) rfl
theorem tw_887 : (Jvm.Cond.code ({ cls := "TwoSeas$Test", name := "isMetBy", desc := "(I)Z" } : Jvm.MethodName) prog_11_method_2_code (3 : Nat) (Option.some Jvm.ClassFile.FieldType.boolean)) ∈ tq_W := tq_t4 (List.mem_of_getElem? (i := 53) rfl) rfl
theorem tw_888 : (Jvm.Cond.methodLink "TwoSeasLaw" (85 : Nat) ({ cls := "TwoSeas", name := "ship", desc := "(II)I" } : Jvm.MethodName)) ∈ tq_W := tq_t4 (List.mem_of_getElem? (i := 54) rfl) rfl
theorem tw_889 : (Jvm.Cond.instanceMethod ({ cls := "TwoSeas", name := "ship", desc := "(II)I" } : Jvm.MethodName)) ∈ tq_W := tq_t4 (List.mem_of_getElem? (i := 55) rfl) rfl
theorem tw_890 : (Jvm.Cond.selects "TwoSeas" ({ cls := "TwoSeas", name := "ship", desc := "(II)I" } : Jvm.MethodName) ({ cls := "TwoSeas", name := "ship", desc := "(II)I" } : Jvm.MethodName)) ∈ tq_W := tq_t4 (List.mem_of_getElem? (i := 56) rfl) rfl
theorem tw_891 : (Jvm.Cond.code ({ cls := "TwoSeas", name := "ship", desc := "(II)I" } : Jvm.MethodName) prog_1_method_19_code (3 : Nat) (Option.some Jvm.ClassFile.FieldType.int)) ∈ tq_W := tq_t4 (List.mem_of_getElem? (i := 57) rfl) rfl
theorem tw_892 : (Jvm.Cond.instantiable "TwoSeas$Ship" (11 : Nat)) ∈ tq_W := tq_t4 (List.mem_of_getElem? (i := 58) rfl) rfl
theorem tw_893 : (Jvm.Cond.methodLink "TwoSeas" (255 : Nat) ({ cls := "TwoSeas$Ship", name := "<init>", desc := "(III)V" } : Jvm.MethodName)) ∈ tq_W := tq_t4 (List.mem_of_getElem? (i := 59) rfl) rfl
theorem tw_894 : (Jvm.Cond.instanceMethod ({ cls := "TwoSeas$Ship", name := "<init>", desc := "(III)V" } : Jvm.MethodName)) ∈ tq_W := tq_t4 (List.mem_of_getElem? (i := 60) rfl) rfl
theorem tw_895 : (Jvm.Cond.code ({ cls := "TwoSeas$Ship", name := "<init>", desc := "(III)V" } : Jvm.MethodName) prog_10_method_1_code (4 : Nat) (Option.none : Option Jvm.ClassFile.FieldType)) ∈ tq_W := tq_t4 (List.mem_of_getElem? (i := 61) rfl) rfl
theorem tw_896 : (Jvm.Cond.methodLink "TwoSeas$Ship" (3 : Nat) ({ cls := "java/lang/Object", name := "<init>", desc := "()V" } : Jvm.MethodName)) ∈ tq_W := tq_t4 (List.mem_of_getElem? (i := 62) rfl) rfl
theorem tw_897 : (Jvm.Cond.fieldLink "TwoSeas$Voyage" (21 : Nat) "TwoSeas$Ship" "number" "I") ∈ tq_W := tq_t4 (List.mem_of_getElem? (i := 63) rfl) rfl
theorem tw_898 : (Jvm.Cond.fieldLink "TwoSeas$Ship" (31 : Nat) "TwoSeas$Ship" "number" "I") ∈ tq_W := tq_t4 (List.mem_of_getElem? (i := 64) rfl) rfl
theorem tw_899 : (Jvm.Cond.fieldLink "TwoSeas$Ship" (34 : Nat) "TwoSeas$Ship" "owner" "I") ∈ tq_W := tq_t4 (List.mem_of_getElem? (i := 65) rfl) rfl
theorem tw_900 : (Jvm.Cond.fieldLink "TwoSeas" (262 : Nat) "TwoSeas$Ship" "owner" "I") ∈ tq_W := tq_t4 (List.mem_of_getElem? (i := 66) rfl) rfl
theorem tw_901 : (Jvm.Cond.fieldLink "TwoSeas$Ship" (37 : Nat) "TwoSeas$Ship" "tons" "I") ∈ tq_W := tq_t4 (List.mem_of_getElem? (i := 67) rfl) rfl
theorem tw_902 : (Jvm.Cond.fieldLink "TwoSeas$Ship" (9 : Nat) "TwoSeas$Ship" "place" "I") ∈ tq_W := tq_t4 (List.mem_of_getElem? (i := 68) rfl) rfl
theorem tw_903 : (Jvm.Cond.fieldLink "TwoSeas$Voyage" (27 : Nat) "TwoSeas$Ship" "place" "I") ∈ tq_W := tq_t4 (List.mem_of_getElem? (i := 69) rfl) rfl
theorem tw_904 : (Jvm.Cond.fieldLink "TwoSeas" (212 : Nat) "TwoSeas$Ship" "place" "I") ∈ tq_W := tq_t4 (List.mem_of_getElem? (i := 70) rfl) rfl
theorem tw_905 : (Jvm.Cond.fieldLink "TwoSeas$Ship" (15 : Nat) "TwoSeas$Ship" "comes" "I") ∈ tq_W := tq_t4 (List.mem_of_getElem? (i := 71) rfl) rfl
theorem tw_906 : (Jvm.Cond.fieldLink "TwoSeas" (298 : Nat) "TwoSeas$Ship" "comes" "I") ∈ tq_W := tq_t4 (List.mem_of_getElem? (i := 72) rfl) rfl
theorem tw_907 : (Jvm.Cond.fieldLink "TwoSeas" (258 : Nat) "TwoSeas$Ship" "takenUp" "Z") ∈ tq_W := tq_t4 (List.mem_of_getElem? (i := 73) rfl) rfl
theorem tw_908 : (Jvm.Cond.fieldLink "TwoSeas$Ship" (18 : Nat) "TwoSeas$Ship" "latestVoyage" "I") ∈ tq_W := tq_t4 (List.mem_of_getElem? (i := 74) rfl) rfl
theorem tw_909 : (Jvm.Cond.fieldLink "TwoSeas" (307 : Nat) "TwoSeas$Ship" "latestVoyage" "I") ∈ tq_W := tq_t4 (List.mem_of_getElem? (i := 75) rfl) rfl
theorem tw_910 : (Jvm.Cond.fieldLink "TwoSeas$Ship" (44 : Nat) "TwoSeas$Ship" "bullion" "I") ∈ tq_W := tq_t4 (List.mem_of_getElem? (i := 76) rfl) rfl
theorem tw_911 : (Jvm.Cond.fieldLink "TwoSeas" (272 : Nat) "TwoSeas$Ship" "bullion" "I") ∈ tq_W := tq_t4 (List.mem_of_getElem? (i := 77) rfl) rfl
theorem tw_912 : (Jvm.Cond.fieldLink "TwoSeas$Ship" (21 : Nat) "TwoSeas$Ship" "bales" "[I") ∈ tq_W := tq_t4 (List.mem_of_getElem? (i := 78) rfl) rfl
theorem tw_913 : (Jvm.Cond.fieldLink "TwoSeas$Voyage" (42 : Nat) "TwoSeas$Ship" "bales" "[I") ∈ tq_W := tq_t4 (List.mem_of_getElem? (i := 79) rfl) rfl
theorem tw_914 : (Jvm.Cond.fieldLink "TwoSeas" (295 : Nat) "TwoSeas$Ship" "bales" "[I") ∈ tq_W := tq_t4 (List.mem_of_getElem? (i := 80) rfl) rfl
theorem tw_915 : (Jvm.Cond.fieldLink "TwoSeas$Ship" (25 : Nat) "TwoSeas$Ship" "privateTons" "[I") ∈ tq_W := tq_t4 (List.mem_of_getElem? (i := 81) rfl) rfl
theorem tw_916 : (Jvm.Cond.fieldLink "TwoSeas" (276 : Nat) "TwoSeas$Ship" "privateTons" "[I") ∈ tq_W := tq_t4 (List.mem_of_getElem? (i := 82) rfl) rfl
theorem tw_917 : (Jvm.Cond.fieldLink "TwoSeas$Ship" (28 : Nat) "TwoSeas$Ship" "copies" "[I") ∈ tq_W := tq_t4 (List.mem_of_getElem? (i := 83) rfl) rfl
theorem tw_918 : (Jvm.Cond.fieldLink "TwoSeas$Paper" (61 : Nat) "TwoSeas$Ship" "copies" "[I") ∈ tq_W := tq_t4 (List.mem_of_getElem? (i := 84) rfl) rfl
theorem tw_919 : (Jvm.Cond.fieldLink "TwoSeas" (301 : Nat) "TwoSeas$Ship" "copies" "[I") ∈ tq_W := tq_t4 (List.mem_of_getElem? (i := 85) rfl) rfl
theorem tw_942 : (Jvm.Cond.superclass "TwoSeas$Ship" "java/lang/Object") ∈ tq_W := tq_t4 (List.mem_of_getElem? (i := 108) rfl) rfl
theorem tw_943 : (Jvm.Cond.methodLink "TwoSeasLaw" (89 : Nat) ({ cls := "TwoSeas", name := "take", desc := "()I" } : Jvm.MethodName)) ∈ tq_W := tq_t4 (List.mem_of_getElem? (i := 109) rfl) rfl
theorem tw_944 : (Jvm.Cond.instanceMethod ({ cls := "TwoSeas", name := "take", desc := "()I" } : Jvm.MethodName)) ∈ tq_W := tq_t4 (List.mem_of_getElem? (i := 110) rfl) rfl
theorem tw_945 : (Jvm.Cond.selects "TwoSeas" ({ cls := "TwoSeas", name := "take", desc := "()I" } : Jvm.MethodName) ({ cls := "TwoSeas", name := "take", desc := "()I" } : Jvm.MethodName)) ∈ tq_W := tq_t4 (List.mem_of_getElem? (i := 111) rfl) rfl
theorem tw_946 : (Jvm.Cond.code ({ cls := "TwoSeas", name := "take", desc := "()I" } : Jvm.MethodName) prog_1_method_20_code (5 : Nat) (Option.some Jvm.ClassFile.FieldType.int)) ∈ tq_W := tq_t4 (List.mem_of_getElem? (i := 112) rfl) rfl
theorem tw_947 : (Jvm.Cond.methodLink "TwoSeas" (265 : Nat) ({ cls := "TwoSeas", name := "isTurnBefore", desc := "(II)Z" } : Jvm.MethodName)) ∈ tq_W := tq_t4 (List.mem_of_getElem? (i := 113) rfl) rfl
theorem tw_949 : (Jvm.Cond.instanceMethod ({ cls := "TwoSeas", name := "isTurnBefore", desc := "(II)Z" } : Jvm.MethodName)) ∈ tq_W := tq_t4 (List.mem_of_getElem? (i := 115) rfl) rfl
theorem tw_950 : (Jvm.Cond.code ({ cls := "TwoSeas", name := "isTurnBefore", desc := "(II)Z" } : Jvm.MethodName) prog_1_method_69_code (3 : Nat) (Option.some Jvm.ClassFile.FieldType.boolean)) ∈ tq_W := tq_t4 (List.mem_of_getElem? (i := 116) rfl) rfl
theorem tw_951 : (Jvm.Cond.methodLink "TwoSeasLaw" (94 : Nat) ({ cls := "TwoSeas", name := "load", desc := "(II)I" } : Jvm.MethodName)) ∈ tq_W := tq_t4 (List.mem_of_getElem? (i := 117) rfl) rfl
theorem tw_952 : (Jvm.Cond.instanceMethod ({ cls := "TwoSeas", name := "load", desc := "(II)I" } : Jvm.MethodName)) ∈ tq_W := tq_t4 (List.mem_of_getElem? (i := 118) rfl) rfl
theorem tw_953 : (Jvm.Cond.selects "TwoSeas" ({ cls := "TwoSeas", name := "load", desc := "(II)I" } : Jvm.MethodName) ({ cls := "TwoSeas", name := "load", desc := "(II)I" } : Jvm.MethodName)) ∈ tq_W := tq_t4 (List.mem_of_getElem? (i := 119) rfl) rfl
theorem tw_954 : (Jvm.Cond.code ({ cls := "TwoSeas", name := "load", desc := "(II)I" } : Jvm.MethodName) prog_1_method_21_code (5 : Nat) (Option.some Jvm.ClassFile.FieldType.int)) ∈ tq_W := tq_t4 (List.mem_of_getElem? (i := 120) rfl) rfl
theorem tw_955 : (Jvm.Cond.methodLink "TwoSeas" (268 : Nat) ({ cls := "TwoSeas", name := "canMove", desc := "(LTwoSeas$Ship;LTwoSeas$Place;I)Z" } : Jvm.MethodName)) ∈ tq_W := tq_t4 (List.mem_of_getElem? (i := 121) rfl) rfl
theorem tw_956 : (Jvm.Cond.static ({ cls := "TwoSeas", name := "canMove", desc := "(LTwoSeas$Ship;LTwoSeas$Place;I)Z" } : Jvm.MethodName)) ∈ tq_W := tq_t4 (List.mem_of_getElem? (i := 122) rfl) rfl
theorem tw_957 : (Jvm.Cond.code ({ cls := "TwoSeas", name := "canMove", desc := "(LTwoSeas$Ship;LTwoSeas$Place;I)Z" } : Jvm.MethodName) prog_1_method_71_code (5 : Nat) (Option.some Jvm.ClassFile.FieldType.boolean)) ∈ tq_W := tq_t4 (List.mem_of_getElem? (i := 123) rfl) rfl
theorem tw_958 : (Jvm.Cond.constantLong "TwoSeas" (473 : Nat) (100000000 : Int64)) ∈ tq_W := tq_t4 (List.mem_of_getElem? (i := 124) rfl) rfl
theorem tw_959 : (Jvm.Cond.methodLink "TwoSeasLaw" (98 : Nat) ({ cls := "TwoSeas", name := "stow", desc := "(III)I" } : Jvm.MethodName)) ∈ tq_W := tq_t4 (List.mem_of_getElem? (i := 125) rfl) rfl
theorem tw_960 : (Jvm.Cond.instanceMethod ({ cls := "TwoSeas", name := "stow", desc := "(III)I" } : Jvm.MethodName)) ∈ tq_W := tq_t4 (List.mem_of_getElem? (i := 126) rfl) rfl
theorem tw_961 : (Jvm.Cond.selects "TwoSeas" ({ cls := "TwoSeas", name := "stow", desc := "(III)I" } : Jvm.MethodName) ({ cls := "TwoSeas", name := "stow", desc := "(III)I" } : Jvm.MethodName)) ∈ tq_W := tq_t4 (List.mem_of_getElem? (i := 127) rfl) rfl
theorem tw_962 : (Jvm.Cond.code ({ cls := "TwoSeas", name := "stow", desc := "(III)I" } : Jvm.MethodName) prog_1_method_22_code (5 : Nat) (Option.some Jvm.ClassFile.FieldType.int)) ∈ tq_W := tq_t4 (List.mem_of_getElem? (i := 128) rfl) rfl
theorem tw_963 : (Jvm.Cond.methodLink "TwoSeas" (273 : Nat) ({ cls := "TwoSeas$Ship", name := "freeTons", desc := "()I" } : Jvm.MethodName)) ∈ tq_W := tq_t4 (List.mem_of_getElem? (i := 129) rfl) rfl
theorem tw_964 : (Jvm.Cond.instanceMethod ({ cls := "TwoSeas$Ship", name := "freeTons", desc := "()I" } : Jvm.MethodName)) ∈ tq_W := tq_t4 (List.mem_of_getElem? (i := 130) rfl) rfl
theorem tw_965 : (Jvm.Cond.selects "TwoSeas$Ship" ({ cls := "TwoSeas$Ship", name := "freeTons", desc := "()I" } : Jvm.MethodName) ({ cls := "TwoSeas$Ship", name := "freeTons", desc := "()I" } : Jvm.MethodName)) ∈ tq_W := tq_t4 (List.mem_of_getElem? (i := 131) rfl) rfl
theorem tw_966 : (Jvm.Cond.code ({ cls := "TwoSeas$Ship", name := "freeTons", desc := "()I" } : Jvm.MethodName) prog_10_method_2_code (1 : Nat) (Option.some Jvm.ClassFile.FieldType.int)) ∈ tq_W := tq_t4 (List.mem_of_getElem? (i := 132) rfl) rfl
theorem tw_968 : (Jvm.Cond.static ({ cls := "TwoSeas", name := "sumOf", desc := "([I)I" } : Jvm.MethodName)) ∈ tq_W := tq_t4 (List.mem_of_getElem? (i := 134) rfl) rfl
theorem tw_969 : (Jvm.Cond.code ({ cls := "TwoSeas", name := "sumOf", desc := "([I)I" } : Jvm.MethodName) prog_1_method_65_code (3 : Nat) (Option.some Jvm.ClassFile.FieldType.int)) ∈ tq_W := tq_t4 (List.mem_of_getElem? (i := 135) rfl) rfl
theorem tw_970 : (Jvm.Cond.methodLink "TwoSeasLaw" (102 : Nat) ({ cls := "TwoSeas", name := "sail", desc := "(II)I" } : Jvm.MethodName)) ∈ tq_W := tq_t4 (List.mem_of_getElem? (i := 136) rfl) rfl
theorem tw_971 : (Jvm.Cond.instanceMethod ({ cls := "TwoSeas", name := "sail", desc := "(II)I" } : Jvm.MethodName)) ∈ tq_W := tq_t4 (List.mem_of_getElem? (i := 137) rfl) rfl
theorem tw_972 : (Jvm.Cond.selects "TwoSeas" ({ cls := "TwoSeas", name := "sail", desc := "(II)I" } : Jvm.MethodName) ({ cls := "TwoSeas", name := "sail", desc := "(II)I" } : Jvm.MethodName)) ∈ tq_W := tq_t4 (List.mem_of_getElem? (i := 138) rfl) rfl
theorem tw_973 : (Jvm.Cond.code ({ cls := "TwoSeas", name := "sail", desc := "(II)I" } : Jvm.MethodName) prog_1_method_23_code (4 : Nat) (Option.some Jvm.ClassFile.FieldType.int)) ∈ tq_W := tq_t4 (List.mem_of_getElem? (i := 139) rfl) rfl
theorem tw_974 : (Jvm.Cond.methodLink "TwoSeas" (279 : Nat) ({ cls := "TwoSeas", name := "leave", desc := "(LTwoSeas$Ship;III)LTwoSeas$Voyage;" } : Jvm.MethodName)) ∈ tq_W := tq_t4 (List.mem_of_getElem? (i := 140) rfl) rfl
theorem tw_976 : (Jvm.Cond.instanceMethod ({ cls := "TwoSeas", name := "leave", desc := "(LTwoSeas$Ship;III)LTwoSeas$Voyage;" } : Jvm.MethodName)) ∈ tq_W := tq_t4 (List.mem_of_getElem? (i := 142) rfl) rfl
theorem tw_977 : (Jvm.Cond.code ({ cls := "TwoSeas", name := "leave", desc := "(LTwoSeas$Ship;III)LTwoSeas$Voyage;" } : Jvm.MethodName) prog_1_method_70_code (7 : Nat) (Option.some (Jvm.ClassFile.FieldType.object "TwoSeas$Voyage"))) ∈ tq_W := tq_t4 (List.mem_of_getElem? (i := 143) rfl) rfl
theorem tw_978 : (Jvm.Cond.classLink "TwoSeas" (284 : Nat) "TwoSeas$Voyage") ∈ tq_W := tq_t4 (List.mem_of_getElem? (i := 144) rfl) rfl
theorem tw_979 : (Jvm.Cond.instantiable "TwoSeas$Voyage" (12 : Nat)) ∈ tq_W := tq_t4 (List.mem_of_getElem? (i := 145) rfl) rfl
theorem tw_980 : (Jvm.Cond.methodLink "TwoSeas" (470 : Nat) ({ cls := "TwoSeas$Voyage", name := "<init>", desc := "(ILTwoSeas$Ship;III)V" } : Jvm.MethodName)) ∈ tq_W := tq_t4 (List.mem_of_getElem? (i := 146) rfl) rfl
theorem tw_981 : (Jvm.Cond.instanceMethod ({ cls := "TwoSeas$Voyage", name := "<init>", desc := "(ILTwoSeas$Ship;III)V" } : Jvm.MethodName)) ∈ tq_W := tq_t4 (List.mem_of_getElem? (i := 147) rfl) rfl
theorem tw_982 : (Jvm.Cond.code ({ cls := "TwoSeas$Voyage", name := "<init>", desc := "(ILTwoSeas$Ship;III)V" } : Jvm.MethodName) prog_12_method_1_code (6 : Nat) (Option.none : Option Jvm.ClassFile.FieldType)) ∈ tq_W := tq_t4 (List.mem_of_getElem? (i := 148) rfl) rfl
theorem tw_983 : (Jvm.Cond.methodLink "TwoSeas$Voyage" (3 : Nat) ({ cls := "java/lang/Object", name := "<init>", desc := "()V" } : Jvm.MethodName)) ∈ tq_W := tq_t4 (List.mem_of_getElem? (i := 149) rfl) rfl
theorem tw_984 : (Jvm.Cond.methodLink "TwoSeas$Voyage" (46 : Nat) ({ cls := "[I", name := "clone", desc := "()Ljava/lang/Object;" } : Jvm.MethodName)) ∈ tq_W := tq_t4 (List.mem_of_getElem? (i := 150) rfl) rfl
theorem tw_985 : (Jvm.Cond.classLink "TwoSeas$Voyage" (47 : Nat) "[I") ∈ tq_W := tq_t4 (List.mem_of_getElem? (i := 151) rfl) rfl
theorem tw_986 : (Jvm.Cond.fieldLink "TwoSeas$Voyage" (18 : Nat) "TwoSeas$Voyage" "number" "I") ∈ tq_W := tq_t4 (List.mem_of_getElem? (i := 152) rfl) rfl
theorem tw_987 : (Jvm.Cond.fieldLink "TwoSeas" (283 : Nat) "TwoSeas$Voyage" "number" "I") ∈ tq_W := tq_t4 (List.mem_of_getElem? (i := 153) rfl) rfl
theorem tw_988 : (Jvm.Cond.fieldLink "TwoSeas$Voyage" (24 : Nat) "TwoSeas$Voyage" "ship" "I") ∈ tq_W := tq_t4 (List.mem_of_getElem? (i := 154) rfl) rfl
theorem tw_989 : (Jvm.Cond.fieldLink "TwoSeas" (311 : Nat) "TwoSeas$Voyage" "ship" "I") ∈ tq_W := tq_t4 (List.mem_of_getElem? (i := 155) rfl) rfl
theorem tw_990 : (Jvm.Cond.fieldLink "TwoSeas$Voyage" (30 : Nat) "TwoSeas$Voyage" "from" "I") ∈ tq_W := tq_t4 (List.mem_of_getElem? (i := 156) rfl) rfl
theorem tw_991 : (Jvm.Cond.fieldLink "TwoSeas" (314 : Nat) "TwoSeas$Voyage" "from" "I") ∈ tq_W := tq_t4 (List.mem_of_getElem? (i := 157) rfl) rfl
theorem tw_992 : (Jvm.Cond.fieldLink "TwoSeas$Voyage" (33 : Nat) "TwoSeas$Voyage" "to" "I") ∈ tq_W := tq_t4 (List.mem_of_getElem? (i := 158) rfl) rfl
theorem tw_993 : (Jvm.Cond.fieldLink "TwoSeas" (315 : Nat) "TwoSeas$Voyage" "to" "I") ∈ tq_W := tq_t4 (List.mem_of_getElem? (i := 159) rfl) rfl
theorem tw_994 : (Jvm.Cond.fieldLink "TwoSeas$Voyage" (36 : Nat) "TwoSeas$Voyage" "left" "I") ∈ tq_W := tq_t4 (List.mem_of_getElem? (i := 160) rfl) rfl
theorem tw_995 : (Jvm.Cond.fieldLink "TwoSeas" (316 : Nat) "TwoSeas$Voyage" "left" "I") ∈ tq_W := tq_t4 (List.mem_of_getElem? (i := 161) rfl) rfl
theorem tw_996 : (Jvm.Cond.fieldLink "TwoSeas$Voyage" (39 : Nat) "TwoSeas$Voyage" "comes" "I") ∈ tq_W := tq_t4 (List.mem_of_getElem? (i := 162) rfl) rfl
theorem tw_997 : (Jvm.Cond.fieldLink "TwoSeas" (319 : Nat) "TwoSeas$Voyage" "comes" "I") ∈ tq_W := tq_t4 (List.mem_of_getElem? (i := 163) rfl) rfl
theorem tw_998 : (Jvm.Cond.fieldLink "TwoSeas$Voyage" (51 : Nat) "TwoSeas$Voyage" "bales" "[I") ∈ tq_W := tq_t4 (List.mem_of_getElem? (i := 164) rfl) rfl
theorem tw_999 : (Jvm.Cond.fieldLink "TwoSeas" (310 : Nat) "TwoSeas$Voyage" "bales" "[I") ∈ tq_W := tq_t4 (List.mem_of_getElem? (i := 165) rfl) rfl
theorem tw_1000 : (Jvm.Cond.fieldLink "TwoSeas$Voyage" (52 : Nat) "TwoSeas$Voyage" "counted" "[I") ∈ tq_W := tq_t4 (List.mem_of_getElem? (i := 166) rfl) rfl
theorem tw_1001 : (Jvm.Cond.fieldLink "TwoSeas" (329 : Nat) "TwoSeas$Voyage" "counted" "[I") ∈ tq_W := tq_t4 (List.mem_of_getElem? (i := 167) rfl) rfl
theorem tw_1002 : (Jvm.Cond.fieldLink "TwoSeas" (292 : Nat) "TwoSeas$Voyage" "toldLost" "Z") ∈ tq_W := tq_t4 (List.mem_of_getElem? (i := 168) rfl) rfl
theorem tw_1003 : (Jvm.Cond.fieldLink "TwoSeas$Voyage" (9 : Nat) "TwoSeas$Voyage" "end" "I") ∈ tq_W := tq_t4 (List.mem_of_getElem? (i := 169) rfl) rfl
theorem tw_1004 : (Jvm.Cond.fieldLink "TwoSeas" (289 : Nat) "TwoSeas$Voyage" "end" "I") ∈ tq_W := tq_t4 (List.mem_of_getElem? (i := 170) rfl) rfl
theorem tw_1005 : (Jvm.Cond.fieldLink "TwoSeas$Voyage" (15 : Nat) "TwoSeas$Voyage" "invoice" "I") ∈ tq_W := tq_t4 (List.mem_of_getElem? (i := 171) rfl) rfl
theorem tw_1006 : (Jvm.Cond.fieldLink "TwoSeas" (320 : Nat) "TwoSeas$Voyage" "invoice" "I") ∈ tq_W := tq_t4 (List.mem_of_getElem? (i := 172) rfl) rfl
theorem tw_1007 : (Jvm.Cond.fieldLink "TwoSeas" (326 : Nat) "TwoSeas$Voyage" "beyond" "I") ∈ tq_W := tq_t4 (List.mem_of_getElem? (i := 173) rfl) rfl
theorem tw_1032 : (Jvm.Cond.superclass "TwoSeas$Voyage" "java/lang/Object") ∈ tq_W := tq_t4 (List.mem_of_getElem? (i := 198) rfl) rfl
theorem tw_1033 : (Jvm.Cond.methodLink "TwoSeasLaw" (106 : Nat) ({ cls := "TwoSeas", name := "lose", desc := "(I)I" } : Jvm.MethodName)) ∈ tq_W := tq_t4 (List.mem_of_getElem? (i := 199) rfl) rfl
theorem tw_1034 : (Jvm.Cond.instanceMethod ({ cls := "TwoSeas", name := "lose", desc := "(I)I" } : Jvm.MethodName)) ∈ tq_W := tq_t4 (List.mem_of_getElem? (i := 200) rfl) rfl
theorem tw_1035 : (Jvm.Cond.selects "TwoSeas" ({ cls := "TwoSeas", name := "lose", desc := "(I)I" } : Jvm.MethodName) ({ cls := "TwoSeas", name := "lose", desc := "(I)I" } : Jvm.MethodName)) ∈ tq_W := tq_t4 (List.mem_of_getElem? (i := 201) rfl) rfl
theorem tw_1036 : (Jvm.Cond.code ({ cls := "TwoSeas", name := "lose", desc := "(I)I" } : Jvm.MethodName) prog_1_method_24_code (3 : Nat) (Option.some Jvm.ClassFile.FieldType.int)) ∈ tq_W := tq_t4 (List.mem_of_getElem? (i := 202) rfl) rfl
theorem tw_1037 : (Jvm.Cond.methodLink "TwoSeas" (286 : Nat) ({ cls := "TwoSeas", name := "isVoyage", desc := "(I)Z" } : Jvm.MethodName)) ∈ tq_W := tq_t4 (List.mem_of_getElem? (i := 203) rfl) rfl
theorem tw_1039 : (Jvm.Cond.instanceMethod ({ cls := "TwoSeas", name := "isVoyage", desc := "(I)Z" } : Jvm.MethodName)) ∈ tq_W := tq_t4 (List.mem_of_getElem? (i := 205) rfl) rfl
theorem tw_1040 : (Jvm.Cond.code ({ cls := "TwoSeas", name := "isVoyage", desc := "(I)Z" } : Jvm.MethodName) prog_1_method_61_code (2 : Nat) (Option.some Jvm.ClassFile.FieldType.boolean)) ∈ tq_W := tq_t4 (List.mem_of_getElem? (i := 206) rfl) rfl
theorem tw_1041 : (Jvm.Cond.methodLink "TwoSeasLaw" (110 : Nat) ({ cls := "TwoSeas", name := "shipOf", desc := "(II)I" } : Jvm.MethodName)) ∈ tq_W := tq_t4 (List.mem_of_getElem? (i := 207) rfl) rfl
theorem tw_1042 : (Jvm.Cond.instanceMethod ({ cls := "TwoSeas", name := "shipOf", desc := "(II)I" } : Jvm.MethodName)) ∈ tq_W := tq_t4 (List.mem_of_getElem? (i := 208) rfl) rfl
theorem tw_1043 : (Jvm.Cond.selects "TwoSeas" ({ cls := "TwoSeas", name := "shipOf", desc := "(II)I" } : Jvm.MethodName) ({ cls := "TwoSeas", name := "shipOf", desc := "(II)I" } : Jvm.MethodName)) ∈ tq_W := tq_t4 (List.mem_of_getElem? (i := 209) rfl) rfl
theorem tw_1044 : (Jvm.Cond.code ({ cls := "TwoSeas", name := "shipOf", desc := "(II)I" } : Jvm.MethodName) prog_1_method_25_code (4 : Nat) (Option.some Jvm.ClassFile.FieldType.int)) ∈ tq_W := tq_t4 (List.mem_of_getElem? (i := 210) rfl) rfl
theorem tw_1045 : (Jvm.Cond.methodLink "TwoSeas" (303 : Nat) ({ cls := "TwoSeas", name := "sumOf", desc := "([I)I" } : Jvm.MethodName)) ∈ tq_W := tq_t4 (List.mem_of_getElem? (i := 211) rfl) rfl
theorem tw_1046 : (Jvm.Cond.methodLink "TwoSeasLaw" (114 : Nat) ({ cls := "TwoSeas", name := "voyage", desc := "(II)I" } : Jvm.MethodName)) ∈ tq_W := tq_t4 (List.mem_of_getElem? (i := 212) rfl) rfl
theorem tw_1047 : (Jvm.Cond.instanceMethod ({ cls := "TwoSeas", name := "voyage", desc := "(II)I" } : Jvm.MethodName)) ∈ tq_W := tq_t4 (List.mem_of_getElem? (i := 213) rfl) rfl
theorem tw_1048 : (Jvm.Cond.selects "TwoSeas" ({ cls := "TwoSeas", name := "voyage", desc := "(II)I" } : Jvm.MethodName) ({ cls := "TwoSeas", name := "voyage", desc := "(II)I" } : Jvm.MethodName)) ∈ tq_W := tq_t4 (List.mem_of_getElem? (i := 214) rfl) rfl
theorem tw_1049 : (Jvm.Cond.code ({ cls := "TwoSeas", name := "voyage", desc := "(II)I" } : Jvm.MethodName) prog_1_method_26_code (4 : Nat) (Option.some Jvm.ClassFile.FieldType.int)) ∈ tq_W := tq_t4 (List.mem_of_getElem? (i := 215) rfl) rfl
theorem tw_1050 : (Jvm.Cond.methodLink "TwoSeas" (323 : Nat) ({ cls := "TwoSeas$Voyage", name := "joined", desc := "()I" } : Jvm.MethodName)) ∈ tq_W := tq_t4 (List.mem_of_getElem? (i := 216) rfl) rfl
theorem tw_1051 : (Jvm.Cond.instanceMethod ({ cls := "TwoSeas$Voyage", name := "joined", desc := "()I" } : Jvm.MethodName)) ∈ tq_W := tq_t4 (List.mem_of_getElem? (i := 217) rfl) rfl
theorem tw_1052 : (Jvm.Cond.selects "TwoSeas$Voyage" ({ cls := "TwoSeas$Voyage", name := "joined", desc := "()I" } : Jvm.MethodName) ({ cls := "TwoSeas$Voyage", name := "joined", desc := "()I" } : Jvm.MethodName)) ∈ tq_W := tq_t4 (List.mem_of_getElem? (i := 218) rfl) rfl
theorem tw_1053 : (Jvm.Cond.code ({ cls := "TwoSeas$Voyage", name := "joined", desc := "()I" } : Jvm.MethodName) prog_12_method_2_code (2 : Nat) (Option.some Jvm.ClassFile.FieldType.int)) ∈ tq_W := tq_t4 (List.mem_of_getElem? (i := 219) rfl) rfl
theorem tw_1054 : (Jvm.Cond.methodLink "TwoSeasLaw" (118 : Nat) ({ cls := "TwoSeas", name := "recount", desc := "(III)I" } : Jvm.MethodName)) ∈ tq_W := tq_t4 (List.mem_of_getElem? (i := 220) rfl) rfl
theorem tw_1055 : (Jvm.Cond.instanceMethod ({ cls := "TwoSeas", name := "recount", desc := "(III)I" } : Jvm.MethodName)) ∈ tq_W := tq_t4 (List.mem_of_getElem? (i := 221) rfl) rfl
theorem tw_1056 : (Jvm.Cond.selects "TwoSeas" ({ cls := "TwoSeas", name := "recount", desc := "(III)I" } : Jvm.MethodName) ({ cls := "TwoSeas", name := "recount", desc := "(III)I" } : Jvm.MethodName)) ∈ tq_W := tq_t4 (List.mem_of_getElem? (i := 222) rfl) rfl
theorem tw_1057 : (Jvm.Cond.code ({ cls := "TwoSeas", name := "recount", desc := "(III)I" } : Jvm.MethodName) prog_1_method_27_code (6 : Nat) (Option.some Jvm.ClassFile.FieldType.int)) ∈ tq_W := tq_t4 (List.mem_of_getElem? (i := 223) rfl) rfl
theorem tw_1058 : (Jvm.Cond.methodLink "TwoSeasLaw" (122 : Nat) ({ cls := "TwoSeas", name := "days", desc := "(I)I" } : Jvm.MethodName)) ∈ tq_W := tq_t4 (List.mem_of_getElem? (i := 224) rfl) rfl
theorem tw_1059 : (Jvm.Cond.instanceMethod ({ cls := "TwoSeas", name := "days", desc := "(I)I" } : Jvm.MethodName)) ∈ tq_W := tq_t4 (List.mem_of_getElem? (i := 225) rfl) rfl
theorem tw_1060 : (Jvm.Cond.selects "TwoSeas" ({ cls := "TwoSeas", name := "days", desc := "(I)I" } : Jvm.MethodName) ({ cls := "TwoSeas", name := "days", desc := "(I)I" } : Jvm.MethodName)) ∈ tq_W := tq_t4 (List.mem_of_getElem? (i := 226) rfl) rfl
theorem tw_1061 : (Jvm.Cond.code ({ cls := "TwoSeas", name := "days", desc := "(I)I" } : Jvm.MethodName) prog_1_method_28_code (3 : Nat) (Option.some Jvm.ClassFile.FieldType.int)) ∈ tq_W := tq_t4 (List.mem_of_getElem? (i := 227) rfl) rfl
theorem tw_1062 : (Jvm.Cond.methodLink "TwoSeas" (332 : Nat) ({ cls := "TwoSeas", name := "comeDay", desc := "()V" } : Jvm.MethodName)) ∈ tq_W := tq_t4 (List.mem_of_getElem? (i := 228) rfl) rfl
theorem tw_1064 : (Jvm.Cond.instanceMethod ({ cls := "TwoSeas", name := "comeDay", desc := "()V" } : Jvm.MethodName)) ∈ tq_W := tq_t4 (List.mem_of_getElem? (i := 230) rfl) rfl
theorem tw_1065 : (Jvm.Cond.code ({ cls := "TwoSeas", name := "comeDay", desc := "()V" } : Jvm.MethodName) prog_1_method_73_code (3 : Nat) (Option.none : Option Jvm.ClassFile.FieldType)) ∈ tq_W := tq_t4 (List.mem_of_getElem? (i := 231) rfl) rfl
theorem tw_1066 : (Jvm.Cond.methodLink "TwoSeas" (478 : Nat) ({ cls := "TwoSeas", name := "endVoyage", desc := "(LTwoSeas$Ship;LTwoSeas$Voyage;)V" } : Jvm.MethodName)) ∈ tq_W := tq_t4 (List.mem_of_getElem? (i := 232) rfl) rfl
theorem tw_1068 : (Jvm.Cond.instanceMethod ({ cls := "TwoSeas", name := "endVoyage", desc := "(LTwoSeas$Ship;LTwoSeas$Voyage;)V" } : Jvm.MethodName)) ∈ tq_W := tq_t4 (List.mem_of_getElem? (i := 234) rfl) rfl
theorem tw_1069 : (Jvm.Cond.code ({ cls := "TwoSeas", name := "endVoyage", desc := "(LTwoSeas$Ship;LTwoSeas$Voyage;)V" } : Jvm.MethodName) prog_1_method_74_code (3 : Nat) (Option.none : Option Jvm.ClassFile.FieldType)) ∈ tq_W := tq_t4 (List.mem_of_getElem? (i := 235) rfl) rfl
theorem tw_1070 : (Jvm.Cond.methodLink "TwoSeas" (490 : Nat) ({ cls := "TwoSeas", name := "arrive", desc := "(LTwoSeas$Ship;LTwoSeas$Place;)V" } : Jvm.MethodName)) ∈ tq_W := tq_t4 (List.mem_of_getElem? (i := 236) rfl) rfl
theorem tw_1072 : (Jvm.Cond.instanceMethod ({ cls := "TwoSeas", name := "arrive", desc := "(LTwoSeas$Ship;LTwoSeas$Place;)V" } : Jvm.MethodName)) ∈ tq_W := tq_t4 (List.mem_of_getElem? (i := 238) rfl) rfl
theorem tw_1073 : (Jvm.Cond.code ({ cls := "TwoSeas", name := "arrive", desc := "(LTwoSeas$Ship;LTwoSeas$Place;)V" } : Jvm.MethodName) prog_1_method_75_code (4 : Nat) (Option.none : Option Jvm.ClassFile.FieldType)) ∈ tq_W := tq_t4 (List.mem_of_getElem? (i := 239) rfl) rfl
theorem tw_1074 : (Jvm.Cond.methodLink "TwoSeas" (498 : Nat) ({ cls := "TwoSeas", name := "readAt", desc := "(LTwoSeas$Paper;LTwoSeas$Place;)V" } : Jvm.MethodName)) ∈ tq_W := tq_t5 (List.mem_of_getElem? (i := 0) rfl) rfl
theorem tw_1076 : (Jvm.Cond.instanceMethod ({ cls := "TwoSeas", name := "readAt", desc := "(LTwoSeas$Paper;LTwoSeas$Place;)V" } : Jvm.MethodName)) ∈ tq_W := tq_t5 (List.mem_of_getElem? (i := 2) rfl) rfl
theorem tw_1077 : (Jvm.Cond.code ({ cls := "TwoSeas", name := "readAt", desc := "(LTwoSeas$Paper;LTwoSeas$Place;)V" } : Jvm.MethodName) prog_1_method_76_code (4 : Nat) (Option.none : Option Jvm.ClassFile.FieldType)) ∈ tq_W := tq_t5 (List.mem_of_getElem? (i := 3) rfl) rfl
theorem tw_1078 : (Jvm.Cond.methodLink "TwoSeas" (502 : Nat) ({ cls := "TwoSeas$Place", name := "receiveOrder", desc := "(LTwoSeas$Paper;)V" } : Jvm.MethodName)) ∈ tq_W := tq_t5 (List.mem_of_getElem? (i := 4) rfl) rfl
theorem tw_1079 : (Jvm.Cond.instanceMethod ({ cls := "TwoSeas$Place", name := "receiveOrder", desc := "(LTwoSeas$Paper;)V" } : Jvm.MethodName)) ∈ tq_W := tq_t5 (List.mem_of_getElem? (i := 5) rfl) rfl
theorem tw_1080 : (Jvm.Cond.selects "TwoSeas$Place" ({ cls := "TwoSeas$Place", name := "receiveOrder", desc := "(LTwoSeas$Paper;)V" } : Jvm.MethodName) ({ cls := "TwoSeas$Place", name := "receiveOrder", desc := "(LTwoSeas$Paper;)V" } : Jvm.MethodName)) ∈ tq_W := tq_t5 (List.mem_of_getElem? (i := 6) rfl) rfl
theorem tw_1081 : (Jvm.Cond.code ({ cls := "TwoSeas$Place", name := "receiveOrder", desc := "(LTwoSeas$Paper;)V" } : Jvm.MethodName) prog_7_method_6_code (3 : Nat) (Option.none : Option Jvm.ClassFile.FieldType)) ∈ tq_W := tq_t5 (List.mem_of_getElem? (i := 7) rfl) rfl
theorem tw_1082 : (Jvm.Cond.methodLink "TwoSeas$Place" (72 : Nat) ({ cls := "java/util/ArrayList", name := "size", desc := "()I" } : Jvm.MethodName)) ∈ tq_W := tq_t5 (List.mem_of_getElem? (i := 8) rfl) rfl
theorem tw_1083 : (Jvm.Cond.methodLink "TwoSeas$Place" (76 : Nat) ({ cls := "java/util/ArrayList", name := "get", desc := "(I)Ljava/lang/Object;" } : Jvm.MethodName)) ∈ tq_W := tq_t5 (List.mem_of_getElem? (i := 9) rfl) rfl
theorem tw_1084 : (Jvm.Cond.classLink "TwoSeas$Place" (80 : Nat) "TwoSeas$Paper") ∈ tq_W := tq_t5 (List.mem_of_getElem? (i := 10) rfl) rfl
theorem tw_1085 : (Jvm.Cond.methodLink "TwoSeas$Place" (82 : Nat) ({ cls := "TwoSeas$Place", name := "comesBehind", desc := "(LTwoSeas$Paper;LTwoSeas$Paper;)Z" } : Jvm.MethodName)) ∈ tq_W := tq_t5 (List.mem_of_getElem? (i := 11) rfl) rfl
theorem tw_1087 : (Jvm.Cond.instanceMethod ({ cls := "TwoSeas$Place", name := "comesBehind", desc := "(LTwoSeas$Paper;LTwoSeas$Paper;)Z" } : Jvm.MethodName)) ∈ tq_W := tq_t5 (List.mem_of_getElem? (i := 13) rfl) rfl
theorem tw_1088 : (Jvm.Cond.code ({ cls := "TwoSeas$Place", name := "comesBehind", desc := "(LTwoSeas$Paper;LTwoSeas$Paper;)Z" } : Jvm.MethodName) prog_7_method_7_code (3 : Nat) (Option.some Jvm.ClassFile.FieldType.boolean)) ∈ tq_W := tq_t5 (List.mem_of_getElem? (i := 14) rfl) rfl
theorem tw_1089 : (Jvm.Cond.methodLink "TwoSeas$Place" (86 : Nat) ({ cls := "java/util/ArrayList", name := "add", desc := "(ILjava/lang/Object;)V" } : Jvm.MethodName)) ∈ tq_W := tq_t5 (List.mem_of_getElem? (i := 15) rfl) rfl
theorem tw_1090 : (Jvm.Cond.instanceMethod ({ cls := "java/util/ArrayList", name := "add", desc := "(ILjava/lang/Object;)V" } : Jvm.MethodName)) ∈ tq_W := tq_t5 (List.mem_of_getElem? (i := 16) rfl) rfl
theorem tw_1091 : (Jvm.Cond.selects "java/util/ArrayList" ({ cls := "java/util/ArrayList", name := "add", desc := "(ILjava/lang/Object;)V" } : Jvm.MethodName) ({ cls := "java/util/ArrayList", name := "add", desc := "(ILjava/lang/Object;)V" } : Jvm.MethodName)) ∈ tq_W := tq_t5 (List.mem_of_getElem? (i := 17) rfl) rfl
theorem tw_1092 : (Jvm.Cond.code ({ cls := "java/util/ArrayList", name := "add", desc := "(ILjava/lang/Object;)V" } : Jvm.MethodName) prog_26_method_26_code (5 : Nat) (Option.none : Option Jvm.ClassFile.FieldType)) ∈ tq_W := tq_t5 (List.mem_of_getElem? (i := 18) rfl) rfl
theorem tw_1093 : (Jvm.Cond.methodLink "java/util/ArrayList" (135 : Nat) ({ cls := "java/util/ArrayList", name := "rangeCheckForAdd", desc := "(I)V" } : Jvm.MethodName)) ∈ tq_W := tq_t5 (List.mem_of_getElem? (i := 19) rfl) rfl
theorem tw_1095 : (Jvm.Cond.instanceMethod ({ cls := "java/util/ArrayList", name := "rangeCheckForAdd", desc := "(I)V" } : Jvm.MethodName)) ∈ tq_W := tq_t5 (List.mem_of_getElem? (i := 21) rfl) rfl
theorem tw_1096 : (Jvm.Cond.code ({ cls := "java/util/ArrayList", name := "rangeCheckForAdd", desc := "(I)V" } : Jvm.MethodName) prog_26_method_45_code (2 : Nat) (Option.none : Option Jvm.ClassFile.FieldType)) ∈ tq_W := tq_t5 (List.mem_of_getElem? (i := 22) rfl) rfl
theorem tw_1097 : (Jvm.Cond.methodLink "java/util/ArrayList" (112 : Nat) ({ cls := "java/lang/System", name := "arraycopy", desc := "(Ljava/lang/Object;ILjava/lang/Object;II)V" } : Jvm.MethodName)) ∈ tq_W := tq_t5 (List.mem_of_getElem? (i := 23) rfl) rfl
theorem tw_1098 : (Jvm.Cond.methodLink "TwoSeas$Place" (90 : Nat) ({ cls := "TwoSeas$Place", name := "settleForce", desc := "()V" } : Jvm.MethodName)) ∈ tq_W := tq_t5 (List.mem_of_getElem? (i := 24) rfl) rfl
theorem tw_1100 : (Jvm.Cond.instanceMethod ({ cls := "TwoSeas$Place", name := "settleForce", desc := "()V" } : Jvm.MethodName)) ∈ tq_W := tq_t5 (List.mem_of_getElem? (i := 26) rfl) rfl
theorem tw_1101 : (Jvm.Cond.code ({ cls := "TwoSeas$Place", name := "settleForce", desc := "()V" } : Jvm.MethodName) prog_7_method_8_code (5 : Nat) (Option.none : Option Jvm.ClassFile.FieldType)) ∈ tq_W := tq_t5 (List.mem_of_getElem? (i := 27) rfl) rfl
theorem tw_1102 : (Jvm.Cond.classLink "TwoSeas$Place" (100 : Nat) "TwoSeas$Paragraph") ∈ tq_W := tq_t5 (List.mem_of_getElem? (i := 28) rfl) rfl
theorem tw_1103 : (Jvm.Cond.methodLink "TwoSeas$Place" (105 : Nat) ({ cls := "java/util/ArrayList", name := "clear", desc := "()V" } : Jvm.MethodName)) ∈ tq_W := tq_t5 (List.mem_of_getElem? (i := 29) rfl) rfl
theorem tw_1104 : (Jvm.Cond.instanceMethod ({ cls := "java/util/ArrayList", name := "clear", desc := "()V" } : Jvm.MethodName)) ∈ tq_W := tq_t5 (List.mem_of_getElem? (i := 30) rfl) rfl
theorem tw_1105 : (Jvm.Cond.selects "java/util/ArrayList" ({ cls := "java/util/ArrayList", name := "clear", desc := "()V" } : Jvm.MethodName) ({ cls := "java/util/ArrayList", name := "clear", desc := "()V" } : Jvm.MethodName)) ∈ tq_W := tq_t5 (List.mem_of_getElem? (i := 31) rfl) rfl
theorem tw_1106 : (Jvm.Cond.code ({ cls := "java/util/ArrayList", name := "clear", desc := "()V" } : Jvm.MethodName) prog_26_method_40_code (4 : Nat) (Option.none : Option Jvm.ClassFile.FieldType)) ∈ tq_W := tq_t5 (List.mem_of_getElem? (i := 32) rfl) rfl
theorem tw_1107 : (Jvm.Cond.methodLink "TwoSeas$Place" (108 : Nat) ({ cls := "java/util/ArrayList", name := "add", desc := "(Ljava/lang/Object;)Z" } : Jvm.MethodName)) ∈ tq_W := tq_t5 (List.mem_of_getElem? (i := 33) rfl) rfl
theorem tw_1108 : (Jvm.Cond.methodLink "TwoSeas" (475 : Nat) ({ cls := "java/lang/Math", name := "max", desc := "(II)I" } : Jvm.MethodName)) ∈ tq_W := tq_t5 (List.mem_of_getElem? (i := 34) rfl) rfl
theorem tw_1109 : (Jvm.Cond.methodLink "TwoSeas" (494 : Nat) ({ cls := "TwoSeas$Ship", name := "clearHold", desc := "()V" } : Jvm.MethodName)) ∈ tq_W := tq_t5 (List.mem_of_getElem? (i := 35) rfl) rfl
theorem tw_1110 : (Jvm.Cond.instanceMethod ({ cls := "TwoSeas$Ship", name := "clearHold", desc := "()V" } : Jvm.MethodName)) ∈ tq_W := tq_t5 (List.mem_of_getElem? (i := 36) rfl) rfl
theorem tw_1111 : (Jvm.Cond.selects "TwoSeas$Ship" ({ cls := "TwoSeas$Ship", name := "clearHold", desc := "()V" } : Jvm.MethodName) ({ cls := "TwoSeas$Ship", name := "clearHold", desc := "()V" } : Jvm.MethodName)) ∈ tq_W := tq_t5 (List.mem_of_getElem? (i := 37) rfl) rfl
theorem tw_1112 : (Jvm.Cond.code ({ cls := "TwoSeas$Ship", name := "clearHold", desc := "()V" } : Jvm.MethodName) prog_10_method_3_code (1 : Nat) (Option.none : Option Jvm.ClassFile.FieldType)) ∈ tq_W := tq_t5 (List.mem_of_getElem? (i := 38) rfl) rfl
theorem tw_1113 : (Jvm.Cond.methodLink "TwoSeas$Ship" (47 : Nat) ({ cls := "java/util/Arrays", name := "fill", desc := "([II)V" } : Jvm.MethodName)) ∈ tq_W := tq_t5 (List.mem_of_getElem? (i := 39) rfl) rfl
theorem tw_1114 : (Jvm.Cond.classLink "TwoSeas" (346 : Nat) "TwoSeas$Bill") ∈ tq_W := tq_t5 (List.mem_of_getElem? (i := 40) rfl) rfl
theorem tw_1115 : (Jvm.Cond.methodLink "TwoSeas" (482 : Nat) ({ cls := "TwoSeas", name := "fallDue", desc := "(LTwoSeas$Bill;)V" } : Jvm.MethodName)) ∈ tq_W := tq_t5 (List.mem_of_getElem? (i := 41) rfl) rfl
theorem tw_1117 : (Jvm.Cond.instanceMethod ({ cls := "TwoSeas", name := "fallDue", desc := "(LTwoSeas$Bill;)V" } : Jvm.MethodName)) ∈ tq_W := tq_t5 (List.mem_of_getElem? (i := 43) rfl) rfl
theorem tw_1118 : (Jvm.Cond.code ({ cls := "TwoSeas", name := "fallDue", desc := "(LTwoSeas$Bill;)V" } : Jvm.MethodName) prog_1_method_77_code (3 : Nat) (Option.none : Option Jvm.ClassFile.FieldType)) ∈ tq_W := tq_t5 (List.mem_of_getElem? (i := 44) rfl) rfl
theorem tw_1119 : (Jvm.Cond.methodLink "TwoSeas" (360 : Nat) ({ cls := "TwoSeas$Bill", name := "settle", desc := "(II)V" } : Jvm.MethodName)) ∈ tq_W := tq_t5 (List.mem_of_getElem? (i := 45) rfl) rfl
theorem tw_1120 : (Jvm.Cond.instanceMethod ({ cls := "TwoSeas$Bill", name := "settle", desc := "(II)V" } : Jvm.MethodName)) ∈ tq_W := tq_t5 (List.mem_of_getElem? (i := 46) rfl) rfl
theorem tw_1121 : (Jvm.Cond.selects "TwoSeas$Bill" ({ cls := "TwoSeas$Bill", name := "settle", desc := "(II)V" } : Jvm.MethodName) ({ cls := "TwoSeas$Bill", name := "settle", desc := "(II)V" } : Jvm.MethodName)) ∈ tq_W := tq_t5 (List.mem_of_getElem? (i := 47) rfl) rfl
theorem tw_1122 : (Jvm.Cond.code ({ cls := "TwoSeas$Bill", name := "settle", desc := "(II)V" } : Jvm.MethodName) prog_3_method_3_code (4 : Nat) (Option.none : Option Jvm.ClassFile.FieldType)) ∈ tq_W := tq_t5 (List.mem_of_getElem? (i := 48) rfl) rfl
theorem tw_1123 : (Jvm.Cond.methodLink "TwoSeas" (486 : Nat) ({ cls := "TwoSeas", name := "workAt", desc := "(LTwoSeas$Place;)V" } : Jvm.MethodName)) ∈ tq_W := tq_t5 (List.mem_of_getElem? (i := 49) rfl) rfl
theorem tw_1125 : (Jvm.Cond.instanceMethod ({ cls := "TwoSeas", name := "workAt", desc := "(LTwoSeas$Place;)V" } : Jvm.MethodName)) ∈ tq_W := tq_t5 (List.mem_of_getElem? (i := 51) rfl) rfl
theorem tw_1126 : (Jvm.Cond.code ({ cls := "TwoSeas", name := "workAt", desc := "(LTwoSeas$Place;)V" } : Jvm.MethodName) prog_1_method_78_code (4 : Nat) (Option.none : Option Jvm.ClassFile.FieldType)) ∈ tq_W := tq_t5 (List.mem_of_getElem? (i := 52) rfl) rfl
theorem tw_1127 : (Jvm.Cond.methodLink "TwoSeas" (508 : Nat) ({ cls := "TwoSeas$Place", name := "receiveAdvances", desc := "(I)V" } : Jvm.MethodName)) ∈ tq_W := tq_t5 (List.mem_of_getElem? (i := 53) rfl) rfl
theorem tw_1128 : (Jvm.Cond.instanceMethod ({ cls := "TwoSeas$Place", name := "receiveAdvances", desc := "(I)V" } : Jvm.MethodName)) ∈ tq_W := tq_t5 (List.mem_of_getElem? (i := 54) rfl) rfl
theorem tw_1129 : (Jvm.Cond.selects "TwoSeas$Place" ({ cls := "TwoSeas$Place", name := "receiveAdvances", desc := "(I)V" } : Jvm.MethodName) ({ cls := "TwoSeas$Place", name := "receiveAdvances", desc := "(I)V" } : Jvm.MethodName)) ∈ tq_W := tq_t5 (List.mem_of_getElem? (i := 55) rfl) rfl
theorem tw_1130 : (Jvm.Cond.code ({ cls := "TwoSeas$Place", name := "receiveAdvances", desc := "(I)V" } : Jvm.MethodName) prog_7_method_4_code (5 : Nat) (Option.none : Option Jvm.ClassFile.FieldType)) ∈ tq_W := tq_t5 (List.mem_of_getElem? (i := 56) rfl) rfl
theorem tw_1131 : (Jvm.Cond.methodLink "TwoSeas" (511 : Nat) ({ cls := "TwoSeas$Place", name := "coolDown", desc := "()V" } : Jvm.MethodName)) ∈ tq_W := tq_t5 (List.mem_of_getElem? (i := 57) rfl) rfl
theorem tw_1132 : (Jvm.Cond.instanceMethod ({ cls := "TwoSeas$Place", name := "coolDown", desc := "()V" } : Jvm.MethodName)) ∈ tq_W := tq_t5 (List.mem_of_getElem? (i := 58) rfl) rfl
theorem tw_1133 : (Jvm.Cond.selects "TwoSeas$Place" ({ cls := "TwoSeas$Place", name := "coolDown", desc := "()V" } : Jvm.MethodName) ({ cls := "TwoSeas$Place", name := "coolDown", desc := "()V" } : Jvm.MethodName)) ∈ tq_W := tq_t5 (List.mem_of_getElem? (i := 59) rfl) rfl
theorem tw_1134 : (Jvm.Cond.code ({ cls := "TwoSeas$Place", name := "coolDown", desc := "()V" } : Jvm.MethodName) prog_7_method_5_code (2 : Nat) (Option.none : Option Jvm.ClassFile.FieldType)) ∈ tq_W := tq_t5 (List.mem_of_getElem? (i := 60) rfl) rfl
theorem tw_1135 : (Jvm.Cond.methodLink "TwoSeas$Place" (66 : Nat) ({ cls := "java/lang/Math", name := "max", desc := "(II)I" } : Jvm.MethodName)) ∈ tq_W := tq_t5 (List.mem_of_getElem? (i := 61) rfl) rfl
theorem tw_1136 : (Jvm.Cond.methodLink "TwoSeas" (517 : Nat) ({ cls := "TwoSeas", name := "carryOut", desc := "(LTwoSeas$Paragraph;LTwoSeas$Place;)V" } : Jvm.MethodName)) ∈ tq_W := tq_t5 (List.mem_of_getElem? (i := 62) rfl) rfl
theorem tw_1138 : (Jvm.Cond.instanceMethod ({ cls := "TwoSeas", name := "carryOut", desc := "(LTwoSeas$Paragraph;LTwoSeas$Place;)V" } : Jvm.MethodName)) ∈ tq_W := tq_t5 (List.mem_of_getElem? (i := 64) rfl) rfl
theorem tw_1139 : (Jvm.Cond.code ({ cls := "TwoSeas", name := "carryOut", desc := "(LTwoSeas$Paragraph;LTwoSeas$Place;)V" } : Jvm.MethodName) prog_1_method_81_code (3 : Nat) (Option.none : Option Jvm.ClassFile.FieldType)) ∈ tq_W := tq_t5 (List.mem_of_getElem? (i := 65) rfl) rfl
theorem tw_1140 : (Jvm.Cond.methodLink "TwoSeas" (543 : Nat) ({ cls := "TwoSeas", name := "buyBales", desc := "(LTwoSeas$Paragraph;LTwoSeas$Place;)V" } : Jvm.MethodName)) ∈ tq_W := tq_t5 (List.mem_of_getElem? (i := 66) rfl) rfl
theorem tw_1142 : (Jvm.Cond.instanceMethod ({ cls := "TwoSeas", name := "buyBales", desc := "(LTwoSeas$Paragraph;LTwoSeas$Place;)V" } : Jvm.MethodName)) ∈ tq_W := tq_t5 (List.mem_of_getElem? (i := 68) rfl) rfl
theorem tw_1143 : (Jvm.Cond.code ({ cls := "TwoSeas", name := "buyBales", desc := "(LTwoSeas$Paragraph;LTwoSeas$Place;)V" } : Jvm.MethodName) prog_1_method_82_code (6 : Nat) (Option.none : Option Jvm.ClassFile.FieldType)) ∈ tq_W := tq_t5 (List.mem_of_getElem? (i := 69) rfl) rfl
theorem tw_1144 : (Jvm.Cond.methodLink "TwoSeas" (375 : Nat) ({ cls := "TwoSeas$Place", name := "purchase", desc := "(III)I" } : Jvm.MethodName)) ∈ tq_W := tq_t5 (List.mem_of_getElem? (i := 70) rfl) rfl
theorem tw_1145 : (Jvm.Cond.instanceMethod ({ cls := "TwoSeas$Place", name := "purchase", desc := "(III)I" } : Jvm.MethodName)) ∈ tq_W := tq_t5 (List.mem_of_getElem? (i := 71) rfl) rfl
theorem tw_1146 : (Jvm.Cond.selects "TwoSeas$Place" ({ cls := "TwoSeas$Place", name := "purchase", desc := "(III)I" } : Jvm.MethodName) ({ cls := "TwoSeas$Place", name := "purchase", desc := "(III)I" } : Jvm.MethodName)) ∈ tq_W := tq_t5 (List.mem_of_getElem? (i := 72) rfl) rfl
theorem tw_1147 : (Jvm.Cond.code ({ cls := "TwoSeas$Place", name := "purchase", desc := "(III)I" } : Jvm.MethodName) prog_7_method_3_code (7 : Nat) (Option.some Jvm.ClassFile.FieldType.int)) ∈ tq_W := tq_t5 (List.mem_of_getElem? (i := 73) rfl) rfl
theorem tw_1148 : (Jvm.Cond.methodLink "TwoSeas$Place" (56 : Nat) ({ cls := "TwoSeas$Place", name := "priceOf", desc := "(I)I" } : Jvm.MethodName)) ∈ tq_W := tq_t5 (List.mem_of_getElem? (i := 74) rfl) rfl
theorem tw_1149 : (Jvm.Cond.methodLink "TwoSeas" (560 : Nat) ({ cls := "TwoSeas", name := "enterFor", desc := "(LTwoSeas$Paragraph;LTwoSeas$Place;II)V" } : Jvm.MethodName)) ∈ tq_W := tq_t5 (List.mem_of_getElem? (i := 75) rfl) rfl
theorem tw_1151 : (Jvm.Cond.instanceMethod ({ cls := "TwoSeas", name := "enterFor", desc := "(LTwoSeas$Paragraph;LTwoSeas$Place;II)V" } : Jvm.MethodName)) ∈ tq_W := tq_t5 (List.mem_of_getElem? (i := 77) rfl) rfl
theorem tw_1152 : (Jvm.Cond.code ({ cls := "TwoSeas", name := "enterFor", desc := "(LTwoSeas$Paragraph;LTwoSeas$Place;II)V" } : Jvm.MethodName) prog_1_method_88_code (5 : Nat) (Option.none : Option Jvm.ClassFile.FieldType)) ∈ tq_W := tq_t5 (List.mem_of_getElem? (i := 78) rfl) rfl
theorem tw_1153 : (Jvm.Cond.methodLink "TwoSeas" (379 : Nat) ({ cls := "TwoSeas", name := "enter", desc := "(IIIIIII)V" } : Jvm.MethodName)) ∈ tq_W := tq_t5 (List.mem_of_getElem? (i := 79) rfl) rfl
theorem tw_1155 : (Jvm.Cond.instanceMethod ({ cls := "TwoSeas", name := "enter", desc := "(IIIIIII)V" } : Jvm.MethodName)) ∈ tq_W := tq_t5 (List.mem_of_getElem? (i := 81) rfl) rfl
theorem tw_1156 : (Jvm.Cond.code ({ cls := "TwoSeas", name := "enter", desc := "(IIIIIII)V" } : Jvm.MethodName) prog_1_method_89_code (9 : Nat) (Option.none : Option Jvm.ClassFile.FieldType)) ∈ tq_W := tq_t5 (List.mem_of_getElem? (i := 82) rfl) rfl
theorem tw_1157 : (Jvm.Cond.methodLink "TwoSeas" (546 : Nat) ({ cls := "TwoSeas", name := "giveAdvance", desc := "(LTwoSeas$Paragraph;LTwoSeas$Place;)V" } : Jvm.MethodName)) ∈ tq_W := tq_t5 (List.mem_of_getElem? (i := 83) rfl) rfl
theorem tw_1159 : (Jvm.Cond.instanceMethod ({ cls := "TwoSeas", name := "giveAdvance", desc := "(LTwoSeas$Paragraph;LTwoSeas$Place;)V" } : Jvm.MethodName)) ∈ tq_W := tq_t5 (List.mem_of_getElem? (i := 85) rfl) rfl
theorem tw_1160 : (Jvm.Cond.code ({ cls := "TwoSeas", name := "giveAdvance", desc := "(LTwoSeas$Paragraph;LTwoSeas$Place;)V" } : Jvm.MethodName) prog_1_method_83_code (7 : Nat) (Option.none : Option Jvm.ClassFile.FieldType)) ∈ tq_W := tq_t5 (List.mem_of_getElem? (i := 86) rfl) rfl
theorem tw_1161 : (Jvm.Cond.constantLong "TwoSeas" (564 : Nat) (9 : Int64)) ∈ tq_W := tq_t5 (List.mem_of_getElem? (i := 87) rfl) rfl
theorem tw_1162 : (Jvm.Cond.constantLong "TwoSeas" (566 : Nat) (10 : Int64)) ∈ tq_W := tq_t5 (List.mem_of_getElem? (i := 88) rfl) rfl
theorem tw_1163 : (Jvm.Cond.methodLink "TwoSeas" (549 : Nat) ({ cls := "TwoSeas", name := "ladeShip", desc := "(LTwoSeas$Paragraph;LTwoSeas$Place;)V" } : Jvm.MethodName)) ∈ tq_W := tq_t5 (List.mem_of_getElem? (i := 89) rfl) rfl
theorem tw_1165 : (Jvm.Cond.instanceMethod ({ cls := "TwoSeas", name := "ladeShip", desc := "(LTwoSeas$Paragraph;LTwoSeas$Place;)V" } : Jvm.MethodName)) ∈ tq_W := tq_t5 (List.mem_of_getElem? (i := 91) rfl) rfl
theorem tw_1166 : (Jvm.Cond.code ({ cls := "TwoSeas", name := "ladeShip", desc := "(LTwoSeas$Paragraph;LTwoSeas$Place;)V" } : Jvm.MethodName) prog_1_method_84_code (8 : Nat) (Option.none : Option Jvm.ClassFile.FieldType)) ∈ tq_W := tq_t5 (List.mem_of_getElem? (i := 92) rfl) rfl
theorem tw_1167 : (Jvm.Cond.methodLink "TwoSeas" (441 : Nat) ({ cls := "java/lang/Math", name := "min", desc := "(II)I" } : Jvm.MethodName)) ∈ tq_W := tq_t5 (List.mem_of_getElem? (i := 93) rfl) rfl
theorem tw_1168 : (Jvm.Cond.methodLink "TwoSeas" (552 : Nat) ({ cls := "TwoSeas", name := "sendShip", desc := "(LTwoSeas$Paragraph;LTwoSeas$Place;)V" } : Jvm.MethodName)) ∈ tq_W := tq_t5 (List.mem_of_getElem? (i := 94) rfl) rfl
theorem tw_1170 : (Jvm.Cond.instanceMethod ({ cls := "TwoSeas", name := "sendShip", desc := "(LTwoSeas$Paragraph;LTwoSeas$Place;)V" } : Jvm.MethodName)) ∈ tq_W := tq_t5 (List.mem_of_getElem? (i := 96) rfl) rfl
theorem tw_1171 : (Jvm.Cond.code ({ cls := "TwoSeas", name := "sendShip", desc := "(LTwoSeas$Paragraph;LTwoSeas$Place;)V" } : Jvm.MethodName) prog_1_method_85_code (7 : Nat) (Option.none : Option Jvm.ClassFile.FieldType)) ∈ tq_W := tq_t5 (List.mem_of_getElem? (i := 97) rfl) rfl
theorem tw_1172 : (Jvm.Cond.methodLink "TwoSeas" (574 : Nat) ({ cls := "TwoSeas", name := "beyondRights", desc := "(LTwoSeas$Ship;I)I" } : Jvm.MethodName)) ∈ tq_W := tq_t5 (List.mem_of_getElem? (i := 98) rfl) rfl
theorem tw_1174 : (Jvm.Cond.instanceMethod ({ cls := "TwoSeas", name := "beyondRights", desc := "(LTwoSeas$Ship;I)I" } : Jvm.MethodName)) ∈ tq_W := tq_t5 (List.mem_of_getElem? (i := 100) rfl) rfl
theorem tw_1175 : (Jvm.Cond.code ({ cls := "TwoSeas", name := "beyondRights", desc := "(LTwoSeas$Ship;I)I" } : Jvm.MethodName) prog_1_method_72_code (5 : Nat) (Option.some Jvm.ClassFile.FieldType.int)) ∈ tq_W := tq_t5 (List.mem_of_getElem? (i := 101) rfl) rfl
theorem tw_1176 : (Jvm.Cond.methodLink "TwoSeas" (578 : Nat) ({ cls := "TwoSeas", name := "writeInvoice", desc := "(LTwoSeas$Voyage;LTwoSeas$Ship;LTwoSeas$Place;)V" } : Jvm.MethodName)) ∈ tq_W := tq_t5 (List.mem_of_getElem? (i := 102) rfl) rfl
theorem tw_1178 : (Jvm.Cond.instanceMethod ({ cls := "TwoSeas", name := "writeInvoice", desc := "(LTwoSeas$Voyage;LTwoSeas$Ship;LTwoSeas$Place;)V" } : Jvm.MethodName)) ∈ tq_W := tq_t5 (List.mem_of_getElem? (i := 104) rfl) rfl
theorem tw_1179 : (Jvm.Cond.code ({ cls := "TwoSeas", name := "writeInvoice", desc := "(LTwoSeas$Voyage;LTwoSeas$Ship;LTwoSeas$Place;)V" } : Jvm.MethodName) prog_1_method_86_code (5 : Nat) (Option.none : Option Jvm.ClassFile.FieldType)) ∈ tq_W := tq_t5 (List.mem_of_getElem? (i := 105) rfl) rfl
theorem tw_1180 : (Jvm.Cond.methodLink "TwoSeas" (555 : Nat) ({ cls := "TwoSeas", name := "drawBill", desc := "(LTwoSeas$Paragraph;LTwoSeas$Place;)V" } : Jvm.MethodName)) ∈ tq_W := tq_t5 (List.mem_of_getElem? (i := 106) rfl) rfl
theorem tw_1182 : (Jvm.Cond.instanceMethod ({ cls := "TwoSeas", name := "drawBill", desc := "(LTwoSeas$Paragraph;LTwoSeas$Place;)V" } : Jvm.MethodName)) ∈ tq_W := tq_t5 (List.mem_of_getElem? (i := 108) rfl) rfl
theorem tw_1183 : (Jvm.Cond.code ({ cls := "TwoSeas", name := "drawBill", desc := "(LTwoSeas$Paragraph;LTwoSeas$Place;)V" } : Jvm.MethodName) prog_1_method_87_code (6 : Nat) (Option.none : Option Jvm.ClassFile.FieldType)) ∈ tq_W := tq_t5 (List.mem_of_getElem? (i := 109) rfl) rfl
theorem tw_1184 : (Jvm.Cond.methodLink "TwoSeas" (357 : Nat) ({ cls := "TwoSeas$Bill", name := "isOpen", desc := "()Z" } : Jvm.MethodName)) ∈ tq_W := tq_t5 (List.mem_of_getElem? (i := 110) rfl) rfl
theorem tw_1185 : (Jvm.Cond.instanceMethod ({ cls := "TwoSeas$Bill", name := "isOpen", desc := "()Z" } : Jvm.MethodName)) ∈ tq_W := tq_t5 (List.mem_of_getElem? (i := 111) rfl) rfl
theorem tw_1186 : (Jvm.Cond.selects "TwoSeas$Bill" ({ cls := "TwoSeas$Bill", name := "isOpen", desc := "()Z" } : Jvm.MethodName) ({ cls := "TwoSeas$Bill", name := "isOpen", desc := "()Z" } : Jvm.MethodName)) ∈ tq_W := tq_t5 (List.mem_of_getElem? (i := 112) rfl) rfl
theorem tw_1187 : (Jvm.Cond.code ({ cls := "TwoSeas$Bill", name := "isOpen", desc := "()Z" } : Jvm.MethodName) prog_3_method_2_code (1 : Nat) (Option.some Jvm.ClassFile.FieldType.boolean)) ∈ tq_W := tq_t5 (List.mem_of_getElem? (i := 113) rfl) rfl
theorem tw_1188 : (Jvm.Cond.instantiable "TwoSeas$Bill" (13 : Nat)) ∈ tq_W := tq_t5 (List.mem_of_getElem? (i := 114) rfl) rfl
theorem tw_1189 : (Jvm.Cond.methodLink "TwoSeas" (586 : Nat) ({ cls := "TwoSeas$Bill", name := "<init>", desc := "(ILTwoSeas$Place;II)V" } : Jvm.MethodName)) ∈ tq_W := tq_t5 (List.mem_of_getElem? (i := 115) rfl) rfl
theorem tw_1190 : (Jvm.Cond.instanceMethod ({ cls := "TwoSeas$Bill", name := "<init>", desc := "(ILTwoSeas$Place;II)V" } : Jvm.MethodName)) ∈ tq_W := tq_t5 (List.mem_of_getElem? (i := 116) rfl) rfl
theorem tw_1191 : (Jvm.Cond.code ({ cls := "TwoSeas$Bill", name := "<init>", desc := "(ILTwoSeas$Place;II)V" } : Jvm.MethodName) prog_3_method_1_code (5 : Nat) (Option.none : Option Jvm.ClassFile.FieldType)) ∈ tq_W := tq_t5 (List.mem_of_getElem? (i := 117) rfl) rfl
theorem tw_1192 : (Jvm.Cond.methodLink "TwoSeas$Bill" (3 : Nat) ({ cls := "TwoSeas$Paper", name := "<init>", desc := "(IILTwoSeas$Place;II)V" } : Jvm.MethodName)) ∈ tq_W := tq_t5 (List.mem_of_getElem? (i := 118) rfl) rfl
theorem tw_1193 : (Jvm.Cond.fieldLink "TwoSeas$Bill" (9 : Nat) "TwoSeas$Bill" "state" "I") ∈ tq_W := tq_t5 (List.mem_of_getElem? (i := 119) rfl) rfl
theorem tw_1194 : (Jvm.Cond.fieldLink "TwoSeas" (348 : Nat) "TwoSeas$Bill" "state" "I") ∈ tq_W := tq_t5 (List.mem_of_getElem? (i := 120) rfl) rfl
theorem tw_1195 : (Jvm.Cond.fieldLink "TwoSeas$Bill" (15 : Nat) "TwoSeas$Bill" "due" "I") ∈ tq_W := tq_t5 (List.mem_of_getElem? (i := 121) rfl) rfl
theorem tw_1196 : (Jvm.Cond.fieldLink "TwoSeas" (351 : Nat) "TwoSeas$Bill" "due" "I") ∈ tq_W := tq_t5 (List.mem_of_getElem? (i := 122) rfl) rfl
theorem tw_1197 : (Jvm.Cond.fieldLink "TwoSeas$Bill" (24 : Nat) "TwoSeas$Bill" "settled" "I") ∈ tq_W := tq_t5 (List.mem_of_getElem? (i := 123) rfl) rfl
theorem tw_1198 : (Jvm.Cond.fieldLink "TwoSeas" (354 : Nat) "TwoSeas$Bill" "settled" "I") ∈ tq_W := tq_t5 (List.mem_of_getElem? (i := 124) rfl) rfl
theorem tw_1215 : (Jvm.Cond.superclass "TwoSeas$Bill" "TwoSeas$Paper") ∈ tq_W := tq_t5 (List.mem_of_getElem? (i := 141) rfl) rfl
theorem tw_1216 : (Jvm.Cond.methodLink "TwoSeasLaw" (126 : Nat) ({ cls := "TwoSeas", name := "entry", desc := "(II)I" } : Jvm.MethodName)) ∈ tq_W := tq_t5 (List.mem_of_getElem? (i := 142) rfl) rfl
theorem tw_1217 : (Jvm.Cond.instanceMethod ({ cls := "TwoSeas", name := "entry", desc := "(II)I" } : Jvm.MethodName)) ∈ tq_W := tq_t5 (List.mem_of_getElem? (i := 143) rfl) rfl
theorem tw_1218 : (Jvm.Cond.selects "TwoSeas" ({ cls := "TwoSeas", name := "entry", desc := "(II)I" } : Jvm.MethodName) ({ cls := "TwoSeas", name := "entry", desc := "(II)I" } : Jvm.MethodName)) ∈ tq_W := tq_t5 (List.mem_of_getElem? (i := 144) rfl) rfl
theorem tw_1219 : (Jvm.Cond.code ({ cls := "TwoSeas", name := "entry", desc := "(II)I" } : Jvm.MethodName) prog_1_method_29_code (4 : Nat) (Option.some Jvm.ClassFile.FieldType.int)) ∈ tq_W := tq_t5 (List.mem_of_getElem? (i := 145) rfl) rfl
theorem tw_1220 : (Jvm.Cond.methodLink "TwoSeas" (335 : Nat) ({ cls := "TwoSeas", name := "entriesKept", desc := "()I" } : Jvm.MethodName)) ∈ tq_W := tq_t5 (List.mem_of_getElem? (i := 146) rfl) rfl
theorem tw_1222 : (Jvm.Cond.instanceMethod ({ cls := "TwoSeas", name := "entriesKept", desc := "()I" } : Jvm.MethodName)) ∈ tq_W := tq_t5 (List.mem_of_getElem? (i := 148) rfl) rfl
theorem tw_1223 : (Jvm.Cond.code ({ cls := "TwoSeas", name := "entriesKept", desc := "()I" } : Jvm.MethodName) prog_1_method_64_code (1 : Nat) (Option.some Jvm.ClassFile.FieldType.int)) ∈ tq_W := tq_t5 (List.mem_of_getElem? (i := 149) rfl) rfl
theorem tw_1224 : (Jvm.Cond.methodLink "TwoSeasLaw" (130 : Nat) ({ cls := "TwoSeas", name := "open", desc := "(II)I" } : Jvm.MethodName)) ∈ tq_W := tq_t5 (List.mem_of_getElem? (i := 150) rfl) rfl
theorem tw_1225 : (Jvm.Cond.instanceMethod ({ cls := "TwoSeas", name := "open", desc := "(II)I" } : Jvm.MethodName)) ∈ tq_W := tq_t5 (List.mem_of_getElem? (i := 151) rfl) rfl
theorem tw_1226 : (Jvm.Cond.selects "TwoSeas" ({ cls := "TwoSeas", name := "open", desc := "(II)I" } : Jvm.MethodName) ({ cls := "TwoSeas", name := "open", desc := "(II)I" } : Jvm.MethodName)) ∈ tq_W := tq_t5 (List.mem_of_getElem? (i := 152) rfl) rfl
theorem tw_1227 : (Jvm.Cond.code ({ cls := "TwoSeas", name := "open", desc := "(II)I" } : Jvm.MethodName) prog_1_method_30_code (3 : Nat) (Option.some Jvm.ClassFile.FieldType.int)) ∈ tq_W := tq_t5 (List.mem_of_getElem? (i := 153) rfl) rfl
theorem tw_1228 : (Jvm.Cond.methodLink "TwoSeasLaw" (134 : Nat) ({ cls := "TwoSeas", name := "accept", desc := "(I)I" } : Jvm.MethodName)) ∈ tq_W := tq_t5 (List.mem_of_getElem? (i := 154) rfl) rfl
theorem tw_1229 : (Jvm.Cond.instanceMethod ({ cls := "TwoSeas", name := "accept", desc := "(I)I" } : Jvm.MethodName)) ∈ tq_W := tq_t5 (List.mem_of_getElem? (i := 155) rfl) rfl
theorem tw_1230 : (Jvm.Cond.selects "TwoSeas" ({ cls := "TwoSeas", name := "accept", desc := "(I)I" } : Jvm.MethodName) ({ cls := "TwoSeas", name := "accept", desc := "(I)I" } : Jvm.MethodName)) ∈ tq_W := tq_t5 (List.mem_of_getElem? (i := 156) rfl) rfl
theorem tw_1231 : (Jvm.Cond.code ({ cls := "TwoSeas", name := "accept", desc := "(I)I" } : Jvm.MethodName) prog_1_method_31_code (3 : Nat) (Option.some Jvm.ClassFile.FieldType.int)) ∈ tq_W := tq_t5 (List.mem_of_getElem? (i := 157) rfl) rfl
theorem tw_1232 : (Jvm.Cond.methodLink "TwoSeas" (341 : Nat) ({ cls := "TwoSeas", name := "billAt", desc := "(I)LTwoSeas$Bill;" } : Jvm.MethodName)) ∈ tq_W := tq_t5 (List.mem_of_getElem? (i := 158) rfl) rfl
theorem tw_1234 : (Jvm.Cond.instanceMethod ({ cls := "TwoSeas", name := "billAt", desc := "(I)LTwoSeas$Bill;" } : Jvm.MethodName)) ∈ tq_W := tq_t5 (List.mem_of_getElem? (i := 160) rfl) rfl
theorem tw_1235 : (Jvm.Cond.code ({ cls := "TwoSeas", name := "billAt", desc := "(I)LTwoSeas$Bill;" } : Jvm.MethodName) prog_1_method_63_code (4 : Nat) (Option.some (Jvm.ClassFile.FieldType.object "TwoSeas$Bill"))) ∈ tq_W := tq_t5 (List.mem_of_getElem? (i := 161) rfl) rfl
theorem tw_1236 : (Jvm.Cond.methodLink "TwoSeasLaw" (138 : Nat) ({ cls := "TwoSeas", name := "bill", desc := "(II)I" } : Jvm.MethodName)) ∈ tq_W := tq_t5 (List.mem_of_getElem? (i := 162) rfl) rfl
theorem tw_1237 : (Jvm.Cond.instanceMethod ({ cls := "TwoSeas", name := "bill", desc := "(II)I" } : Jvm.MethodName)) ∈ tq_W := tq_t5 (List.mem_of_getElem? (i := 163) rfl) rfl
theorem tw_1238 : (Jvm.Cond.selects "TwoSeas" ({ cls := "TwoSeas", name := "bill", desc := "(II)I" } : Jvm.MethodName) ({ cls := "TwoSeas", name := "bill", desc := "(II)I" } : Jvm.MethodName)) ∈ tq_W := tq_t5 (List.mem_of_getElem? (i := 164) rfl) rfl
theorem tw_1239 : (Jvm.Cond.code ({ cls := "TwoSeas", name := "bill", desc := "(II)I" } : Jvm.MethodName) prog_1_method_32_code (4 : Nat) (Option.some Jvm.ClassFile.FieldType.int)) ∈ tq_W := tq_t5 (List.mem_of_getElem? (i := 165) rfl) rfl
theorem tw_1240 : (Jvm.Cond.methodLink "TwoSeasLaw" (142 : Nat) ({ cls := "TwoSeas", name := "refuse", desc := "(I)I" } : Jvm.MethodName)) ∈ tq_W := tq_t5 (List.mem_of_getElem? (i := 166) rfl) rfl
theorem tw_1241 : (Jvm.Cond.instanceMethod ({ cls := "TwoSeas", name := "refuse", desc := "(I)I" } : Jvm.MethodName)) ∈ tq_W := tq_t5 (List.mem_of_getElem? (i := 167) rfl) rfl
theorem tw_1242 : (Jvm.Cond.selects "TwoSeas" ({ cls := "TwoSeas", name := "refuse", desc := "(I)I" } : Jvm.MethodName) ({ cls := "TwoSeas", name := "refuse", desc := "(I)I" } : Jvm.MethodName)) ∈ tq_W := tq_t5 (List.mem_of_getElem? (i := 168) rfl) rfl
theorem tw_1243 : (Jvm.Cond.code ({ cls := "TwoSeas", name := "refuse", desc := "(I)I" } : Jvm.MethodName) prog_1_method_33_code (3 : Nat) (Option.some Jvm.ClassFile.FieldType.int)) ∈ tq_W := tq_t5 (List.mem_of_getElem? (i := 169) rfl) rfl
theorem tw_1244 : (Jvm.Cond.methodLink "TwoSeasLaw" (146 : Nat) ({ cls := "TwoSeas", name := "council", desc := "(IIIII)I" } : Jvm.MethodName)) ∈ tq_W := tq_t5 (List.mem_of_getElem? (i := 170) rfl) rfl
theorem tw_1245 : (Jvm.Cond.instanceMethod ({ cls := "TwoSeas", name := "council", desc := "(IIIII)I" } : Jvm.MethodName)) ∈ tq_W := tq_t5 (List.mem_of_getElem? (i := 171) rfl) rfl
theorem tw_1246 : (Jvm.Cond.selects "TwoSeas" ({ cls := "TwoSeas", name := "council", desc := "(IIIII)I" } : Jvm.MethodName) ({ cls := "TwoSeas", name := "council", desc := "(IIIII)I" } : Jvm.MethodName)) ∈ tq_W := tq_t5 (List.mem_of_getElem? (i := 172) rfl) rfl
theorem tw_1247 : (Jvm.Cond.code ({ cls := "TwoSeas", name := "council", desc := "(IIIII)I" } : Jvm.MethodName) prog_1_method_34_code (13 : Nat) (Option.some Jvm.ClassFile.FieldType.int)) ∈ tq_W := tq_t5 (List.mem_of_getElem? (i := 173) rfl) rfl
theorem tw_1248 : (Jvm.Cond.methodLink "TwoSeas" (364 : Nat) ({ cls := "TwoSeas", name := "personsAt", desc := "(I)I" } : Jvm.MethodName)) ∈ tq_W := tq_t5 (List.mem_of_getElem? (i := 174) rfl) rfl
theorem tw_1250 : (Jvm.Cond.instanceMethod ({ cls := "TwoSeas", name := "personsAt", desc := "(I)I" } : Jvm.MethodName)) ∈ tq_W := tq_t5 (List.mem_of_getElem? (i := 176) rfl) rfl
theorem tw_1251 : (Jvm.Cond.code ({ cls := "TwoSeas", name := "personsAt", desc := "(I)I" } : Jvm.MethodName) prog_1_method_90_code (4 : Nat) (Option.some Jvm.ClassFile.FieldType.int)) ∈ tq_W := tq_t5 (List.mem_of_getElem? (i := 177) rfl) rfl
theorem tw_1252 : (Jvm.Cond.methodLink "TwoSeas" (367 : Nat) ({ cls := "TwoSeas", name := "carries", desc := "(III)Z" } : Jvm.MethodName)) ∈ tq_W := tq_t5 (List.mem_of_getElem? (i := 178) rfl) rfl
theorem tw_1254 : (Jvm.Cond.instanceMethod ({ cls := "TwoSeas", name := "carries", desc := "(III)Z" } : Jvm.MethodName)) ∈ tq_W := tq_t5 (List.mem_of_getElem? (i := 180) rfl) rfl
theorem tw_1255 : (Jvm.Cond.code ({ cls := "TwoSeas", name := "carries", desc := "(III)Z" } : Jvm.MethodName) prog_1_method_91_code (6 : Nat) (Option.some Jvm.ClassFile.FieldType.boolean)) ∈ tq_W := tq_t5 (List.mem_of_getElem? (i := 181) rfl) rfl
theorem tw_1256 : (Jvm.Cond.methodLink "TwoSeas" (370 : Nat) ({ cls := "java/lang/Integer", name := "bitCount", desc := "(I)I" } : Jvm.MethodName)) ∈ tq_W := tq_t5 (List.mem_of_getElem? (i := 182) rfl) rfl
theorem tw_1257 : (Jvm.Cond.static ({ cls := "java/lang/Integer", name := "bitCount", desc := "(I)I" } : Jvm.MethodName)) ∈ tq_W := tq_t5 (List.mem_of_getElem? (i := 183) rfl) rfl
theorem tw_1258 : (Jvm.Cond.code ({ cls := "java/lang/Integer", name := "bitCount", desc := "(I)I" } : Jvm.MethodName) prog_17_method_49_code (1 : Nat) (Option.some Jvm.ClassFile.FieldType.int)) ∈ tq_W := tq_t5 (List.mem_of_getElem? (i := 184) rfl) rfl
theorem tw_1259 : (Jvm.Cond.constant "java/lang/Integer" (265 : Nat) (1431655765 : Int32)) ∈ tq_W := tq_t5 (List.mem_of_getElem? (i := 185) rfl) rfl
theorem tw_1260 : (Jvm.Cond.constant "java/lang/Integer" (266 : Nat) (858993459 : Int32)) ∈ tq_W := tq_t5 (List.mem_of_getElem? (i := 186) rfl) rfl
theorem tw_1261 : (Jvm.Cond.constant "java/lang/Integer" (267 : Nat) (252645135 : Int32)) ∈ tq_W := tq_t5 (List.mem_of_getElem? (i := 187) rfl) rfl
theorem tw_1262 : (Jvm.Cond.methodLink "TwoSeas" (590 : Nat) ({ cls := "TwoSeas", name := "weightOf", desc := "(I)I" } : Jvm.MethodName)) ∈ tq_W := tq_t5 (List.mem_of_getElem? (i := 188) rfl) rfl
theorem tw_1264 : (Jvm.Cond.instanceMethod ({ cls := "TwoSeas", name := "weightOf", desc := "(I)I" } : Jvm.MethodName)) ∈ tq_W := tq_t5 (List.mem_of_getElem? (i := 190) rfl) rfl
theorem tw_1265 : (Jvm.Cond.code ({ cls := "TwoSeas", name := "weightOf", desc := "(I)I" } : Jvm.MethodName) prog_1_method_92_code (4 : Nat) (Option.some Jvm.ClassFile.FieldType.int)) ∈ tq_W := tq_t5 (List.mem_of_getElem? (i := 191) rfl) rfl
theorem tw_1266 : (Jvm.Cond.methodLink "TwoSeas" (593 : Nat) ({ cls := "TwoSeas", name := "greatestRank", desc := "(I)I" } : Jvm.MethodName)) ∈ tq_W := tq_t5 (List.mem_of_getElem? (i := 192) rfl) rfl
theorem tw_1268 : (Jvm.Cond.instanceMethod ({ cls := "TwoSeas", name := "greatestRank", desc := "(I)I" } : Jvm.MethodName)) ∈ tq_W := tq_t5 (List.mem_of_getElem? (i := 194) rfl) rfl
theorem tw_1269 : (Jvm.Cond.code ({ cls := "TwoSeas", name := "greatestRank", desc := "(I)I" } : Jvm.MethodName) prog_1_method_93_code (4 : Nat) (Option.some Jvm.ClassFile.FieldType.int)) ∈ tq_W := tq_t5 (List.mem_of_getElem? (i := 195) rfl) rfl
theorem tw_1270 : (Jvm.Cond.methodLink "TwoSeasLaw" (151 : Nat) ({ cls := "TwoSeas", name := "wants", desc := "(IIII)I" } : Jvm.MethodName)) ∈ tq_W := tq_t5 (List.mem_of_getElem? (i := 196) rfl) rfl
theorem tw_1271 : (Jvm.Cond.instanceMethod ({ cls := "TwoSeas", name := "wants", desc := "(IIII)I" } : Jvm.MethodName)) ∈ tq_W := tq_t5 (List.mem_of_getElem? (i := 197) rfl) rfl
theorem tw_1272 : (Jvm.Cond.selects "TwoSeas" ({ cls := "TwoSeas", name := "wants", desc := "(IIII)I" } : Jvm.MethodName) ({ cls := "TwoSeas", name := "wants", desc := "(IIII)I" } : Jvm.MethodName)) ∈ tq_W := tq_t5 (List.mem_of_getElem? (i := 198) rfl) rfl
theorem tw_1273 : (Jvm.Cond.code ({ cls := "TwoSeas", name := "wants", desc := "(IIII)I" } : Jvm.MethodName) prog_1_method_35_code (6 : Nat) (Option.some Jvm.ClassFile.FieldType.int)) ∈ tq_W := tq_t5 (List.mem_of_getElem? (i := 199) rfl) rfl
theorem tw_1274 : (Jvm.Cond.methodLink "TwoSeasLaw" (155 : Nat) ({ cls := "TwoSeas", name := "sale", desc := "(II)I" } : Jvm.MethodName)) ∈ tq_W := tq_t5 (List.mem_of_getElem? (i := 200) rfl) rfl
theorem tw_1275 : (Jvm.Cond.instanceMethod ({ cls := "TwoSeas", name := "sale", desc := "(II)I" } : Jvm.MethodName)) ∈ tq_W := tq_t5 (List.mem_of_getElem? (i := 201) rfl) rfl
theorem tw_1276 : (Jvm.Cond.selects "TwoSeas" ({ cls := "TwoSeas", name := "sale", desc := "(II)I" } : Jvm.MethodName) ({ cls := "TwoSeas", name := "sale", desc := "(II)I" } : Jvm.MethodName)) ∈ tq_W := tq_t5 (List.mem_of_getElem? (i := 202) rfl) rfl
theorem tw_1277 : (Jvm.Cond.code ({ cls := "TwoSeas", name := "sale", desc := "(II)I" } : Jvm.MethodName) prog_1_method_36_code (7 : Nat) (Option.some Jvm.ClassFile.FieldType.int)) ∈ tq_W := tq_t5 (List.mem_of_getElem? (i := 203) rfl) rfl
theorem tw_1278 : (Jvm.Cond.methodLink "TwoSeas" (389 : Nat) ({ cls := "TwoSeas$Market", name := "greatest", desc := "(II)I" } : Jvm.MethodName)) ∈ tq_W := tq_t5 (List.mem_of_getElem? (i := 204) rfl) rfl
theorem tw_1279 : (Jvm.Cond.instanceMethod ({ cls := "TwoSeas$Market", name := "greatest", desc := "(II)I" } : Jvm.MethodName)) ∈ tq_W := tq_t5 (List.mem_of_getElem? (i := 205) rfl) rfl
theorem tw_1280 : (Jvm.Cond.selects "TwoSeas$Market" ({ cls := "TwoSeas$Market", name := "greatest", desc := "(II)I" } : Jvm.MethodName) ({ cls := "TwoSeas$Market", name := "greatest", desc := "(II)I" } : Jvm.MethodName)) ∈ tq_W := tq_t5 (List.mem_of_getElem? (i := 206) rfl) rfl
theorem tw_1281 : (Jvm.Cond.code ({ cls := "TwoSeas$Market", name := "greatest", desc := "(II)I" } : Jvm.MethodName) prog_4_method_2_code (6 : Nat) (Option.some Jvm.ClassFile.FieldType.int)) ∈ tq_W := tq_t5 (List.mem_of_getElem? (i := 207) rfl) rfl
theorem tw_1282 : (Jvm.Cond.methodLink "TwoSeas" (393 : Nat) ({ cls := "TwoSeas$Market", name := "sellOne", desc := "(II)I" } : Jvm.MethodName)) ∈ tq_W := tq_t5 (List.mem_of_getElem? (i := 208) rfl) rfl
theorem tw_1283 : (Jvm.Cond.instanceMethod ({ cls := "TwoSeas$Market", name := "sellOne", desc := "(II)I" } : Jvm.MethodName)) ∈ tq_W := tq_t5 (List.mem_of_getElem? (i := 209) rfl) rfl
theorem tw_1284 : (Jvm.Cond.selects "TwoSeas$Market" ({ cls := "TwoSeas$Market", name := "sellOne", desc := "(II)I" } : Jvm.MethodName) ({ cls := "TwoSeas$Market", name := "sellOne", desc := "(II)I" } : Jvm.MethodName)) ∈ tq_W := tq_t5 (List.mem_of_getElem? (i := 210) rfl) rfl
theorem tw_1285 : (Jvm.Cond.code ({ cls := "TwoSeas$Market", name := "sellOne", desc := "(II)I" } : Jvm.MethodName) prog_4_method_3_code (5 : Nat) (Option.some Jvm.ClassFile.FieldType.int)) ∈ tq_W := tq_t5 (List.mem_of_getElem? (i := 211) rfl) rfl
theorem tw_1286 : (Jvm.Cond.methodLink "TwoSeas$Market" (26 : Nat) ({ cls := "TwoSeas$Market", name := "greatest", desc := "(II)I" } : Jvm.MethodName)) ∈ tq_W := tq_t5 (List.mem_of_getElem? (i := 212) rfl) rfl
theorem tw_1287 : (Jvm.Cond.methodLink "TwoSeasLaw" (159 : Nat) ({ cls := "TwoSeas", name := "bought", desc := "(II)I" } : Jvm.MethodName)) ∈ tq_W := tq_t5 (List.mem_of_getElem? (i := 213) rfl) rfl
theorem tw_1288 : (Jvm.Cond.instanceMethod ({ cls := "TwoSeas", name := "bought", desc := "(II)I" } : Jvm.MethodName)) ∈ tq_W := tq_t5 (List.mem_of_getElem? (i := 214) rfl) rfl
theorem tw_1289 : (Jvm.Cond.selects "TwoSeas" ({ cls := "TwoSeas", name := "bought", desc := "(II)I" } : Jvm.MethodName) ({ cls := "TwoSeas", name := "bought", desc := "(II)I" } : Jvm.MethodName)) ∈ tq_W := tq_t5 (List.mem_of_getElem? (i := 215) rfl) rfl
theorem tw_1290 : (Jvm.Cond.code ({ cls := "TwoSeas", name := "bought", desc := "(II)I" } : Jvm.MethodName) prog_1_method_37_code (3 : Nat) (Option.some Jvm.ClassFile.FieldType.int)) ∈ tq_W := tq_t5 (List.mem_of_getElem? (i := 216) rfl) rfl
theorem tw_1291 : (Jvm.Cond.methodLink "TwoSeasLaw" (163 : Nat) ({ cls := "TwoSeas", name := "shares", desc := "(III)I" } : Jvm.MethodName)) ∈ tq_W := tq_t5 (List.mem_of_getElem? (i := 217) rfl) rfl
theorem tw_1292 : (Jvm.Cond.instanceMethod ({ cls := "TwoSeas", name := "shares", desc := "(III)I" } : Jvm.MethodName)) ∈ tq_W := tq_t5 (List.mem_of_getElem? (i := 218) rfl) rfl
theorem tw_1293 : (Jvm.Cond.selects "TwoSeas" ({ cls := "TwoSeas", name := "shares", desc := "(III)I" } : Jvm.MethodName) ({ cls := "TwoSeas", name := "shares", desc := "(III)I" } : Jvm.MethodName)) ∈ tq_W := tq_t5 (List.mem_of_getElem? (i := 219) rfl) rfl
theorem tw_1294 : (Jvm.Cond.code ({ cls := "TwoSeas", name := "shares", desc := "(III)I" } : Jvm.MethodName) prog_1_method_38_code (4 : Nat) (Option.some Jvm.ClassFile.FieldType.int)) ∈ tq_W := tq_t5 (List.mem_of_getElem? (i := 220) rfl) rfl
theorem tw_1295 : (Jvm.Cond.methodLink "TwoSeas" (405 : Nat) ({ cls := "TwoSeas", name := "isHolder", desc := "(I)Z" } : Jvm.MethodName)) ∈ tq_W := tq_t5 (List.mem_of_getElem? (i := 221) rfl) rfl
theorem tw_1296 : (Jvm.Cond.static ({ cls := "TwoSeas", name := "isHolder", desc := "(I)Z" } : Jvm.MethodName)) ∈ tq_W := tq_t5 (List.mem_of_getElem? (i := 222) rfl) rfl
theorem tw_1297 : (Jvm.Cond.code ({ cls := "TwoSeas", name := "isHolder", desc := "(I)Z" } : Jvm.MethodName) prog_1_method_57_code (1 : Nat) (Option.some Jvm.ClassFile.FieldType.boolean)) ∈ tq_W := tq_t5 (List.mem_of_getElem? (i := 223) rfl) rfl
theorem tw_1298 : (Jvm.Cond.methodLink "TwoSeasLaw" (167 : Nat) ({ cls := "TwoSeas", name := "gain", desc := "()I" } : Jvm.MethodName)) ∈ tq_W := tq_t5 (List.mem_of_getElem? (i := 224) rfl) rfl
theorem tw_1299 : (Jvm.Cond.instanceMethod ({ cls := "TwoSeas", name := "gain", desc := "()I" } : Jvm.MethodName)) ∈ tq_W := tq_t5 (List.mem_of_getElem? (i := 225) rfl) rfl
theorem tw_1300 : (Jvm.Cond.selects "TwoSeas" ({ cls := "TwoSeas", name := "gain", desc := "()I" } : Jvm.MethodName) ({ cls := "TwoSeas", name := "gain", desc := "()I" } : Jvm.MethodName)) ∈ tq_W := tq_t5 (List.mem_of_getElem? (i := 226) rfl) rfl
theorem tw_1301 : (Jvm.Cond.code ({ cls := "TwoSeas", name := "gain", desc := "()I" } : Jvm.MethodName) prog_1_method_39_code (6 : Nat) (Option.some Jvm.ClassFile.FieldType.int)) ∈ tq_W := tq_t5 (List.mem_of_getElem? (i := 227) rfl) rfl
theorem tw_1302 : (Jvm.Cond.methodLink "TwoSeas" (411 : Nat) ({ cls := "TwoSeas", name := "invoicedTo", desc := "(I)I" } : Jvm.MethodName)) ∈ tq_W := tq_t5 (List.mem_of_getElem? (i := 228) rfl) rfl
theorem tw_1304 : (Jvm.Cond.instanceMethod ({ cls := "TwoSeas", name := "invoicedTo", desc := "(I)I" } : Jvm.MethodName)) ∈ tq_W := tq_t5 (List.mem_of_getElem? (i := 230) rfl) rfl
theorem tw_1305 : (Jvm.Cond.code ({ cls := "TwoSeas", name := "invoicedTo", desc := "(I)I" } : Jvm.MethodName) prog_1_method_94_code (2 : Nat) (Option.some Jvm.ClassFile.FieldType.int)) ∈ tq_W := tq_t5 (List.mem_of_getElem? (i := 231) rfl) rfl
theorem tw_1306 : (Jvm.Cond.methodLink "TwoSeasLaw" (171 : Nat) ({ cls := "TwoSeas", name := "divide", desc := "(I)I" } : Jvm.MethodName)) ∈ tq_W := tq_t5 (List.mem_of_getElem? (i := 232) rfl) rfl
theorem tw_1307 : (Jvm.Cond.instanceMethod ({ cls := "TwoSeas", name := "divide", desc := "(I)I" } : Jvm.MethodName)) ∈ tq_W := tq_t5 (List.mem_of_getElem? (i := 233) rfl) rfl
theorem tw_1308 : (Jvm.Cond.selects "TwoSeas" ({ cls := "TwoSeas", name := "divide", desc := "(I)I" } : Jvm.MethodName) ({ cls := "TwoSeas", name := "divide", desc := "(I)I" } : Jvm.MethodName)) ∈ tq_W := tq_t5 (List.mem_of_getElem? (i := 234) rfl) rfl
theorem tw_1309 : (Jvm.Cond.code ({ cls := "TwoSeas", name := "divide", desc := "(I)I" } : Jvm.MethodName) prog_1_method_40_code (5 : Nat) (Option.some Jvm.ClassFile.FieldType.int)) ∈ tq_W := tq_t5 (List.mem_of_getElem? (i := 235) rfl) rfl
theorem tw_1310 : (Jvm.Cond.methodLink "TwoSeas" (414 : Nat) ({ cls := "TwoSeas", name := "gain", desc := "()I" } : Jvm.MethodName)) ∈ tq_W := tq_t5 (List.mem_of_getElem? (i := 236) rfl) rfl
theorem tw_1311 : (Jvm.Cond.constantLong "TwoSeas" (417 : Nat) (800 : Int64)) ∈ tq_W := tq_t5 (List.mem_of_getElem? (i := 237) rfl) rfl
theorem tw_1312 : (Jvm.Cond.methodLink "TwoSeasLaw" (175 : Nat) ({ cls := "TwoSeas", name := "holder", desc := "(II)I" } : Jvm.MethodName)) ∈ tq_W := tq_t5 (List.mem_of_getElem? (i := 238) rfl) rfl
theorem tw_1313 : (Jvm.Cond.instanceMethod ({ cls := "TwoSeas", name := "holder", desc := "(II)I" } : Jvm.MethodName)) ∈ tq_W := tq_t5 (List.mem_of_getElem? (i := 239) rfl) rfl
theorem tw_1314 : (Jvm.Cond.selects "TwoSeas" ({ cls := "TwoSeas", name := "holder", desc := "(II)I" } : Jvm.MethodName) ({ cls := "TwoSeas", name := "holder", desc := "(II)I" } : Jvm.MethodName)) ∈ tq_W := tq_t6 (List.mem_of_getElem? (i := 0) rfl) rfl
theorem tw_1315 : (Jvm.Cond.code ({ cls := "TwoSeas", name := "holder", desc := "(II)I" } : Jvm.MethodName) prog_1_method_41_code (3 : Nat) (Option.some Jvm.ClassFile.FieldType.int)) ∈ tq_W := tq_t6 (List.mem_of_getElem? (i := 1) rfl) rfl
theorem tw_1316 : (Jvm.Cond.methodLink "TwoSeasLaw" (179 : Nat) ({ cls := "TwoSeas", name := "heard", desc := "(III)I" } : Jvm.MethodName)) ∈ tq_W := tq_t6 (List.mem_of_getElem? (i := 2) rfl) rfl
theorem tw_1317 : (Jvm.Cond.instanceMethod ({ cls := "TwoSeas", name := "heard", desc := "(III)I" } : Jvm.MethodName)) ∈ tq_W := tq_t6 (List.mem_of_getElem? (i := 3) rfl) rfl
theorem tw_1318 : (Jvm.Cond.selects "TwoSeas" ({ cls := "TwoSeas", name := "heard", desc := "(III)I" } : Jvm.MethodName) ({ cls := "TwoSeas", name := "heard", desc := "(III)I" } : Jvm.MethodName)) ∈ tq_W := tq_t6 (List.mem_of_getElem? (i := 4) rfl) rfl
theorem tw_1319 : (Jvm.Cond.code ({ cls := "TwoSeas", name := "heard", desc := "(III)I" } : Jvm.MethodName) prog_1_method_42_code (7 : Nat) (Option.some Jvm.ClassFile.FieldType.int)) ∈ tq_W := tq_t6 (List.mem_of_getElem? (i := 5) rfl) rfl
theorem tw_1320 : (Jvm.Cond.methodLink "TwoSeasLaw" (183 : Nat) ({ cls := "TwoSeas", name := "year", desc := "(III)I" } : Jvm.MethodName)) ∈ tq_W := tq_t6 (List.mem_of_getElem? (i := 6) rfl) rfl
theorem tw_1321 : (Jvm.Cond.instanceMethod ({ cls := "TwoSeas", name := "year", desc := "(III)I" } : Jvm.MethodName)) ∈ tq_W := tq_t6 (List.mem_of_getElem? (i := 7) rfl) rfl
theorem tw_1322 : (Jvm.Cond.selects "TwoSeas" ({ cls := "TwoSeas", name := "year", desc := "(III)I" } : Jvm.MethodName) ({ cls := "TwoSeas", name := "year", desc := "(III)I" } : Jvm.MethodName)) ∈ tq_W := tq_t6 (List.mem_of_getElem? (i := 8) rfl) rfl
theorem tw_1323 : (Jvm.Cond.code ({ cls := "TwoSeas", name := "year", desc := "(III)I" } : Jvm.MethodName) prog_1_method_43_code (5 : Nat) (Option.some Jvm.ClassFile.FieldType.int)) ∈ tq_W := tq_t6 (List.mem_of_getElem? (i := 9) rfl) rfl
theorem tw_1324 : (Jvm.Cond.methodLink "TwoSeasLaw" (187 : Nat) ({ cls := "TwoSeas", name := "plan", desc := "(IIII)I" } : Jvm.MethodName)) ∈ tq_W := tq_t6 (List.mem_of_getElem? (i := 10) rfl) rfl
theorem tw_1325 : (Jvm.Cond.instanceMethod ({ cls := "TwoSeas", name := "plan", desc := "(IIII)I" } : Jvm.MethodName)) ∈ tq_W := tq_t6 (List.mem_of_getElem? (i := 11) rfl) rfl
theorem tw_1326 : (Jvm.Cond.selects "TwoSeas" ({ cls := "TwoSeas", name := "plan", desc := "(IIII)I" } : Jvm.MethodName) ({ cls := "TwoSeas", name := "plan", desc := "(IIII)I" } : Jvm.MethodName)) ∈ tq_W := tq_t6 (List.mem_of_getElem? (i := 12) rfl) rfl
theorem tw_1327 : (Jvm.Cond.code ({ cls := "TwoSeas", name := "plan", desc := "(IIII)I" } : Jvm.MethodName) prog_1_method_44_code (15 : Nat) (Option.some Jvm.ClassFile.FieldType.int)) ∈ tq_W := tq_t6 (List.mem_of_getElem? (i := 13) rfl) rfl
theorem tw_1328 : (Jvm.Cond.constant "TwoSeas" (422 : Nat) (-1000000000 : Int32)) ∈ tq_W := tq_t6 (List.mem_of_getElem? (i := 14) rfl) rfl
theorem tw_1329 : (Jvm.Cond.methodLink "TwoSeas" (423 : Nat) ({ cls := "TwoSeas", name := "worstYear", desc := "(IIII)I" } : Jvm.MethodName)) ∈ tq_W := tq_t6 (List.mem_of_getElem? (i := 15) rfl) rfl
theorem tw_1331 : (Jvm.Cond.instanceMethod ({ cls := "TwoSeas", name := "worstYear", desc := "(IIII)I" } : Jvm.MethodName)) ∈ tq_W := tq_t6 (List.mem_of_getElem? (i := 17) rfl) rfl
theorem tw_1332 : (Jvm.Cond.code ({ cls := "TwoSeas", name := "worstYear", desc := "(IIII)I" } : Jvm.MethodName) prog_1_method_95_code (7 : Nat) (Option.some Jvm.ClassFile.FieldType.int)) ∈ tq_W := tq_t6 (List.mem_of_getElem? (i := 18) rfl) rfl
theorem tw_1333 : (Jvm.Cond.methodLink "TwoSeas" (596 : Nat) ({ cls := "TwoSeas", name := "lotsBring", desc := "([IIIII)I" } : Jvm.MethodName)) ∈ tq_W := tq_t6 (List.mem_of_getElem? (i := 19) rfl) rfl
theorem tw_1334 : (Jvm.Cond.static ({ cls := "TwoSeas", name := "lotsBring", desc := "([IIIII)I" } : Jvm.MethodName)) ∈ tq_W := tq_t6 (List.mem_of_getElem? (i := 20) rfl) rfl
theorem tw_1335 : (Jvm.Cond.code ({ cls := "TwoSeas", name := "lotsBring", desc := "([IIIII)I" } : Jvm.MethodName) prog_1_method_96_code (5 : Nat) (Option.some Jvm.ClassFile.FieldType.int)) ∈ tq_W := tq_t6 (List.mem_of_getElem? (i := 21) rfl) rfl
theorem tw_1336 : (Jvm.Cond.methodLink "TwoSeas" (427 : Nat) ({ cls := "TwoSeas", name := "keepIfBetter", desc := "([IIIIII)V" } : Jvm.MethodName)) ∈ tq_W := tq_t6 (List.mem_of_getElem? (i := 22) rfl) rfl
theorem tw_1337 : (Jvm.Cond.static ({ cls := "TwoSeas", name := "keepIfBetter", desc := "([IIIIII)V" } : Jvm.MethodName)) ∈ tq_W := tq_t6 (List.mem_of_getElem? (i := 23) rfl) rfl
theorem tw_1338 : (Jvm.Cond.code ({ cls := "TwoSeas", name := "keepIfBetter", desc := "([IIIIII)V" } : Jvm.MethodName) prog_1_method_97_code (6 : Nat) (Option.none : Option Jvm.ClassFile.FieldType)) ∈ tq_W := tq_t6 (List.mem_of_getElem? (i := 24) rfl) rfl
theorem tw_1339 : (Jvm.Cond.methodLink "TwoSeasLaw" (191 : Nat) ({ cls := "TwoSeas", name := "act", desc := "(III)I" } : Jvm.MethodName)) ∈ tq_W := tq_t6 (List.mem_of_getElem? (i := 25) rfl) rfl
theorem tw_1340 : (Jvm.Cond.instanceMethod ({ cls := "TwoSeas", name := "act", desc := "(III)I" } : Jvm.MethodName)) ∈ tq_W := tq_t6 (List.mem_of_getElem? (i := 26) rfl) rfl
theorem tw_1341 : (Jvm.Cond.selects "TwoSeas" ({ cls := "TwoSeas", name := "act", desc := "(III)I" } : Jvm.MethodName) ({ cls := "TwoSeas", name := "act", desc := "(III)I" } : Jvm.MethodName)) ∈ tq_W := tq_t6 (List.mem_of_getElem? (i := 27) rfl) rfl
theorem tw_1342 : (Jvm.Cond.code ({ cls := "TwoSeas", name := "act", desc := "(III)I" } : Jvm.MethodName) prog_1_method_45_code (5 : Nat) (Option.some Jvm.ClassFile.FieldType.int)) ∈ tq_W := tq_t6 (List.mem_of_getElem? (i := 28) rfl) rfl
theorem tw_1343 : (Jvm.Cond.methodLink "TwoSeas" (431 : Nat) ({ cls := "TwoSeas$Acts", name := "begin", desc := "()V" } : Jvm.MethodName)) ∈ tq_W := tq_t6 (List.mem_of_getElem? (i := 29) rfl) rfl
theorem tw_1344 : (Jvm.Cond.instanceMethod ({ cls := "TwoSeas$Acts", name := "begin", desc := "()V" } : Jvm.MethodName)) ∈ tq_W := tq_t6 (List.mem_of_getElem? (i := 30) rfl) rfl
theorem tw_1345 : (Jvm.Cond.selects "TwoSeas$Acts" ({ cls := "TwoSeas$Acts", name := "begin", desc := "()V" } : Jvm.MethodName) ({ cls := "TwoSeas$Acts", name := "begin", desc := "()V" } : Jvm.MethodName)) ∈ tq_W := tq_t6 (List.mem_of_getElem? (i := 31) rfl) rfl
theorem tw_1346 : (Jvm.Cond.code ({ cls := "TwoSeas$Acts", name := "begin", desc := "()V" } : Jvm.MethodName) prog_2_method_2_code (1 : Nat) (Option.none : Option Jvm.ClassFile.FieldType)) ∈ tq_W := tq_t6 (List.mem_of_getElem? (i := 32) rfl) rfl
theorem tw_1349 : (Jvm.Cond.instanceMethod ({ cls := "TwoSeas$Acts", name := "run", desc := "(LTwoSeas$Paper;IIII)I" } : Jvm.MethodName)) ∈ tq_W := tq_t6 (List.mem_of_getElem? (i := 35) rfl) rfl
theorem tw_1350 : (Jvm.Cond.code ({ cls := "TwoSeas$Acts", name := "run", desc := "(LTwoSeas$Paper;IIII)I" } : Jvm.MethodName) prog_2_method_3_code (10 : Nat) (Option.some Jvm.ClassFile.FieldType.int)) ∈ tq_W := tq_t6 (List.mem_of_getElem? (i := 36) rfl) rfl
theorem tw_1351 : (Jvm.Cond.methodLink "TwoSeas$Acts" (19 : Nat) ({ cls := "TwoSeas$Acts", name := "kindWithBody", desc := "(II)I" } : Jvm.MethodName)) ∈ tq_W := tq_t6 (List.mem_of_getElem? (i := 37) rfl) rfl
theorem tw_1352 : (Jvm.Cond.static ({ cls := "TwoSeas$Acts", name := "kindWithBody", desc := "(II)I" } : Jvm.MethodName)) ∈ tq_W := tq_t6 (List.mem_of_getElem? (i := 38) rfl) rfl
theorem tw_1353 : (Jvm.Cond.code ({ cls := "TwoSeas$Acts", name := "kindWithBody", desc := "(II)I" } : Jvm.MethodName) prog_2_method_4_code (4 : Nat) (Option.some Jvm.ClassFile.FieldType.int)) ∈ tq_W := tq_t6 (List.mem_of_getElem? (i := 39) rfl) rfl
theorem tw_1358 : (Jvm.Cond.methodLink "TwoSeas$Acts" (29 : Nat) ({ cls := "TwoSeas$Acts", name := "begins", desc := "(I)V" } : Jvm.MethodName)) ∈ tq_W := tq_t6 (List.mem_of_getElem? (i := 44) rfl) rfl
theorem tw_1360 : (Jvm.Cond.instanceMethod ({ cls := "TwoSeas$Acts", name := "begins", desc := "(I)V" } : Jvm.MethodName)) ∈ tq_W := tq_t6 (List.mem_of_getElem? (i := 46) rfl) rfl
theorem tw_1361 : (Jvm.Cond.code ({ cls := "TwoSeas$Acts", name := "begins", desc := "(I)V" } : Jvm.MethodName) prog_2_method_5_code (2 : Nat) (Option.none : Option Jvm.ClassFile.FieldType)) ∈ tq_W := tq_t6 (List.mem_of_getElem? (i := 47) rfl) rfl
theorem tw_1362 : (Jvm.Cond.methodLink "TwoSeas$Acts" (41 : Nat) ({ cls := "TwoSeas$Acts", name := "run", desc := "(LTwoSeas$Paper;IIII)I" } : Jvm.MethodName)) ∈ tq_W := tq_t6 (List.mem_of_getElem? (i := 48) rfl) rfl
theorem tw_1363 : (Jvm.Cond.methodLink "TwoSeasLaw" (195 : Nat) ({ cls := "TwoSeas", name := "trace", desc := "(I)I" } : Jvm.MethodName)) ∈ tq_W := tq_t6 (List.mem_of_getElem? (i := 49) rfl) rfl
theorem tw_1364 : (Jvm.Cond.instanceMethod ({ cls := "TwoSeas", name := "trace", desc := "(I)I" } : Jvm.MethodName)) ∈ tq_W := tq_t6 (List.mem_of_getElem? (i := 50) rfl) rfl
theorem tw_1365 : (Jvm.Cond.selects "TwoSeas" ({ cls := "TwoSeas", name := "trace", desc := "(I)I" } : Jvm.MethodName) ({ cls := "TwoSeas", name := "trace", desc := "(I)I" } : Jvm.MethodName)) ∈ tq_W := tq_t6 (List.mem_of_getElem? (i := 51) rfl) rfl
theorem tw_1366 : (Jvm.Cond.code ({ cls := "TwoSeas", name := "trace", desc := "(I)I" } : Jvm.MethodName) prog_1_method_46_code (2 : Nat) (Option.some Jvm.ClassFile.FieldType.int)) ∈ tq_W := tq_t6 (List.mem_of_getElem? (i := 52) rfl) rfl
theorem tw_1367 : (Jvm.Cond.methodLink "TwoSeasLaw" (199 : Nat) ({ cls := "TwoSeas", name := "taken", desc := "(II)I" } : Jvm.MethodName)) ∈ tq_W := tq_t6 (List.mem_of_getElem? (i := 53) rfl) rfl
theorem tw_1368 : (Jvm.Cond.instanceMethod ({ cls := "TwoSeas", name := "taken", desc := "(II)I" } : Jvm.MethodName)) ∈ tq_W := tq_t6 (List.mem_of_getElem? (i := 54) rfl) rfl
theorem tw_1369 : (Jvm.Cond.selects "TwoSeas" ({ cls := "TwoSeas", name := "taken", desc := "(II)I" } : Jvm.MethodName) ({ cls := "TwoSeas", name := "taken", desc := "(II)I" } : Jvm.MethodName)) ∈ tq_W := tq_t6 (List.mem_of_getElem? (i := 55) rfl) rfl
theorem tw_1370 : (Jvm.Cond.code ({ cls := "TwoSeas", name := "taken", desc := "(II)I" } : Jvm.MethodName) prog_1_method_47_code (4 : Nat) (Option.some Jvm.ClassFile.FieldType.int)) ∈ tq_W := tq_t6 (List.mem_of_getElem? (i := 56) rfl) rfl
theorem tw_1371 : (Jvm.Cond.methodLink "TwoSeas" (449 : Nat) ({ cls := "TwoSeas", name := "isUnder", desc := "(II)Z" } : Jvm.MethodName)) ∈ tq_W := tq_t6 (List.mem_of_getElem? (i := 57) rfl) rfl
theorem tw_1372 : (Jvm.Cond.static ({ cls := "TwoSeas", name := "isUnder", desc := "(II)Z" } : Jvm.MethodName)) ∈ tq_W := tq_t6 (List.mem_of_getElem? (i := 58) rfl) rfl
theorem tw_1373 : (Jvm.Cond.code ({ cls := "TwoSeas", name := "isUnder", desc := "(II)Z" } : Jvm.MethodName) prog_1_method_98_code (4 : Nat) (Option.some Jvm.ClassFile.FieldType.boolean)) ∈ tq_W := tq_t6 (List.mem_of_getElem? (i := 59) rfl) rfl
theorem tw_1374 : (Jvm.Cond.fieldLink "TwoSeas" (600 : Nat) "TwoSeas" "ABOVE" "[I") ∈ tq_W := tq_t6 (List.mem_of_getElem? (i := 60) rfl) rfl
theorem tw_1375 : (Jvm.Cond.methodLink "TwoSeasLaw" (203 : Nat) ({ cls := "TwoSeas", name := "count", desc := "(I)I" } : Jvm.MethodName)) ∈ tq_W := tq_t6 (List.mem_of_getElem? (i := 61) rfl) rfl
theorem tw_1376 : (Jvm.Cond.instanceMethod ({ cls := "TwoSeas", name := "count", desc := "(I)I" } : Jvm.MethodName)) ∈ tq_W := tq_t6 (List.mem_of_getElem? (i := 62) rfl) rfl
theorem tw_1377 : (Jvm.Cond.selects "TwoSeas" ({ cls := "TwoSeas", name := "count", desc := "(I)I" } : Jvm.MethodName) ({ cls := "TwoSeas", name := "count", desc := "(I)I" } : Jvm.MethodName)) ∈ tq_W := tq_t6 (List.mem_of_getElem? (i := 63) rfl) rfl
theorem tw_1378 : (Jvm.Cond.code ({ cls := "TwoSeas", name := "count", desc := "(I)I" } : Jvm.MethodName) prog_1_method_48_code (2 : Nat) (Option.some Jvm.ClassFile.FieldType.int)) ∈ tq_W := tq_t6 (List.mem_of_getElem? (i := 64) rfl) rfl
theorem tw_1379 : (Jvm.Cond.methodLink "TwoSeasLaw" (207 : Nat) ({ cls := "TwoSeas", name := "sheet", desc := "(III)I" } : Jvm.MethodName)) ∈ tq_W := tq_t6 (List.mem_of_getElem? (i := 65) rfl) rfl
theorem tw_1380 : (Jvm.Cond.instanceMethod ({ cls := "TwoSeas", name := "sheet", desc := "(III)I" } : Jvm.MethodName)) ∈ tq_W := tq_t6 (List.mem_of_getElem? (i := 66) rfl) rfl
theorem tw_1381 : (Jvm.Cond.selects "TwoSeas" ({ cls := "TwoSeas", name := "sheet", desc := "(III)I" } : Jvm.MethodName) ({ cls := "TwoSeas", name := "sheet", desc := "(III)I" } : Jvm.MethodName)) ∈ tq_W := tq_t6 (List.mem_of_getElem? (i := 67) rfl) rfl
theorem tw_1382 : (Jvm.Cond.code ({ cls := "TwoSeas", name := "sheet", desc := "(III)I" } : Jvm.MethodName) prog_1_method_49_code (4 : Nat) (Option.some Jvm.ClassFile.FieldType.int)) ∈ tq_W := tq_t6 (List.mem_of_getElem? (i := 68) rfl) rfl
theorem tw_1383 : (Jvm.Cond.methodLink "TwoSeas" (458 : Nat) ({ cls := "TwoSeas$Sheet", name := "become", desc := "(II)V" } : Jvm.MethodName)) ∈ tq_W := tq_t6 (List.mem_of_getElem? (i := 69) rfl) rfl
theorem tw_1384 : (Jvm.Cond.instanceMethod ({ cls := "TwoSeas$Sheet", name := "become", desc := "(II)V" } : Jvm.MethodName)) ∈ tq_W := tq_t6 (List.mem_of_getElem? (i := 70) rfl) rfl
theorem tw_1385 : (Jvm.Cond.selects "TwoSeas$Sheet" ({ cls := "TwoSeas$Sheet", name := "become", desc := "(II)V" } : Jvm.MethodName) ({ cls := "TwoSeas$Sheet", name := "become", desc := "(II)V" } : Jvm.MethodName)) ∈ tq_W := tq_t6 (List.mem_of_getElem? (i := 71) rfl) rfl
theorem tw_1386 : (Jvm.Cond.code ({ cls := "TwoSeas$Sheet", name := "become", desc := "(II)V" } : Jvm.MethodName) prog_9_method_3_code (3 : Nat) (Option.none : Option Jvm.ClassFile.FieldType)) ∈ tq_W := tq_t6 (List.mem_of_getElem? (i := 72) rfl) rfl
theorem tw_1387 : (Jvm.Cond.methodLink "TwoSeas$Sheet" (22 : Nat) ({ cls := "java/util/Arrays", name := "fill", desc := "([II)V" } : Jvm.MethodName)) ∈ tq_W := tq_t6 (List.mem_of_getElem? (i := 73) rfl) rfl
theorem tw_1388 : (Jvm.Cond.methodLink "TwoSeasLaw" (211 : Nat) ({ cls := "TwoSeas", name := "cell", desc := "(III)I" } : Jvm.MethodName)) ∈ tq_W := tq_t6 (List.mem_of_getElem? (i := 74) rfl) rfl
theorem tw_1389 : (Jvm.Cond.instanceMethod ({ cls := "TwoSeas", name := "cell", desc := "(III)I" } : Jvm.MethodName)) ∈ tq_W := tq_t6 (List.mem_of_getElem? (i := 75) rfl) rfl
theorem tw_1390 : (Jvm.Cond.selects "TwoSeas" ({ cls := "TwoSeas", name := "cell", desc := "(III)I" } : Jvm.MethodName) ({ cls := "TwoSeas", name := "cell", desc := "(III)I" } : Jvm.MethodName)) ∈ tq_W := tq_t6 (List.mem_of_getElem? (i := 76) rfl) rfl
theorem tw_1391 : (Jvm.Cond.code ({ cls := "TwoSeas", name := "cell", desc := "(III)I" } : Jvm.MethodName) prog_1_method_50_code (5 : Nat) (Option.some Jvm.ClassFile.FieldType.int)) ∈ tq_W := tq_t6 (List.mem_of_getElem? (i := 77) rfl) rfl
theorem tw_1392 : (Jvm.Cond.methodLink "TwoSeas" (461 : Nat) ({ cls := "TwoSeas$Sheet", name := "put", desc := "(II)V" } : Jvm.MethodName)) ∈ tq_W := tq_t6 (List.mem_of_getElem? (i := 78) rfl) rfl
theorem tw_1393 : (Jvm.Cond.instanceMethod ({ cls := "TwoSeas$Sheet", name := "put", desc := "(II)V" } : Jvm.MethodName)) ∈ tq_W := tq_t6 (List.mem_of_getElem? (i := 79) rfl) rfl
theorem tw_1394 : (Jvm.Cond.selects "TwoSeas$Sheet" ({ cls := "TwoSeas$Sheet", name := "put", desc := "(II)V" } : Jvm.MethodName) ({ cls := "TwoSeas$Sheet", name := "put", desc := "(II)V" } : Jvm.MethodName)) ∈ tq_W := tq_t6 (List.mem_of_getElem? (i := 80) rfl) rfl
theorem tw_1395 : (Jvm.Cond.code ({ cls := "TwoSeas$Sheet", name := "put", desc := "(II)V" } : Jvm.MethodName) prog_9_method_5_code (3 : Nat) (Option.none : Option Jvm.ClassFile.FieldType)) ∈ tq_W := tq_t6 (List.mem_of_getElem? (i := 81) rfl) rfl
theorem tw_1396 : (Jvm.Cond.methodLink "TwoSeasLaw" (215 : Nat) ({ cls := "TwoSeas", name := "carry", desc := "(IIIII)I" } : Jvm.MethodName)) ∈ tq_W := tq_t6 (List.mem_of_getElem? (i := 82) rfl) rfl
theorem tw_1397 : (Jvm.Cond.instanceMethod ({ cls := "TwoSeas", name := "carry", desc := "(IIIII)I" } : Jvm.MethodName)) ∈ tq_W := tq_t6 (List.mem_of_getElem? (i := 83) rfl) rfl
theorem tw_1398 : (Jvm.Cond.selects "TwoSeas" ({ cls := "TwoSeas", name := "carry", desc := "(IIIII)I" } : Jvm.MethodName) ({ cls := "TwoSeas", name := "carry", desc := "(IIIII)I" } : Jvm.MethodName)) ∈ tq_W := tq_t6 (List.mem_of_getElem? (i := 84) rfl) rfl
theorem tw_1399 : (Jvm.Cond.code ({ cls := "TwoSeas", name := "carry", desc := "(IIIII)I" } : Jvm.MethodName) prog_1_method_51_code (8 : Nat) (Option.some Jvm.ClassFile.FieldType.int)) ∈ tq_W := tq_t6 (List.mem_of_getElem? (i := 85) rfl) rfl
theorem tw_1400 : (Jvm.Cond.methodLink "TwoSeas" (464 : Nat) ({ cls := "java/lang/System", name := "arraycopy", desc := "(Ljava/lang/Object;ILjava/lang/Object;II)V" } : Jvm.MethodName)) ∈ tq_W := tq_t6 (List.mem_of_getElem? (i := 86) rfl) rfl
theorem tw_1401 : (Jvm.Cond.classLink "TwoSeasLaw" (10 : Nat) "TwoSeasModel") ∈ tq_W := tq_t6 (List.mem_of_getElem? (i := 87) rfl) rfl
theorem tw_1402 : (Jvm.Cond.instantiable "TwoSeasModel" (77 : Nat)) ∈ tq_W := tq_t6 (List.mem_of_getElem? (i := 88) rfl) rfl
theorem tw_1403 : (Jvm.Cond.methodLink "TwoSeasLaw" (12 : Nat) ({ cls := "TwoSeasModel", name := "<init>", desc := "()V" } : Jvm.MethodName)) ∈ tq_W := tq_t6 (List.mem_of_getElem? (i := 89) rfl) rfl
theorem tw_1404 : (Jvm.Cond.instanceMethod ({ cls := "TwoSeasModel", name := "<init>", desc := "()V" } : Jvm.MethodName)) ∈ tq_W := tq_t6 (List.mem_of_getElem? (i := 90) rfl) rfl
theorem tw_1405 : (Jvm.Cond.code ({ cls := "TwoSeasModel", name := "<init>", desc := "()V" } : Jvm.MethodName) prog_14_method_1_code (3 : Nat) (Option.none : Option Jvm.ClassFile.FieldType)) ∈ tq_W := tq_t6 (List.mem_of_getElem? (i := 91) rfl) rfl
theorem tw_1406 : (Jvm.Cond.methodLink "TwoSeasModel" (1 : Nat) ({ cls := "java/lang/Object", name := "<init>", desc := "()V" } : Jvm.MethodName)) ∈ tq_W := tq_t6 (List.mem_of_getElem? (i := 92) rfl) rfl
theorem tw_1407 : (Jvm.Cond.classLink "TwoSeasModel" (13 : Nat) "[[I") ∈ tq_W := tq_t6 (List.mem_of_getElem? (i := 93) rfl) rfl
theorem tw_1408 : (Jvm.Cond.fieldLink "TwoSeasModel" (227 : Nat) "TwoSeasModel" "day" "I") ∈ tq_W := tq_t6 (List.mem_of_getElem? (i := 94) rfl) rfl
theorem tw_1409 : (Jvm.Cond.fieldLink "TwoSeasModel" (7 : Nat) "TwoSeasModel" "coins" "[I") ∈ tq_W := tq_t6 (List.mem_of_getElem? (i := 95) rfl) rfl
theorem tw_1410 : (Jvm.Cond.fieldLink "TwoSeasModel" (15 : Nat) "TwoSeasModel" "stock" "[[I") ∈ tq_W := tq_t6 (List.mem_of_getElem? (i := 96) rfl) rfl
theorem tw_1411 : (Jvm.Cond.fieldLink "TwoSeasModel" (18 : Nat) "TwoSeasModel" "ways" "[[I") ∈ tq_W := tq_t6 (List.mem_of_getElem? (i := 97) rfl) rfl
theorem tw_1412 : (Jvm.Cond.fieldLink "TwoSeasModel" (21 : Nat) "TwoSeasModel" "base" "[[I") ∈ tq_W := tq_t6 (List.mem_of_getElem? (i := 98) rfl) rfl
theorem tw_1413 : (Jvm.Cond.fieldLink "TwoSeasModel" (24 : Nat) "TwoSeasModel" "heat" "[[I") ∈ tq_W := tq_t6 (List.mem_of_getElem? (i := 99) rfl) rfl
theorem tw_1414 : (Jvm.Cond.fieldLink "TwoSeasModel" (217 : Nat) "TwoSeasModel" "persons" "I") ∈ tq_W := tq_t6 (List.mem_of_getElem? (i := 100) rfl) rfl
theorem tw_1415 : (Jvm.Cond.fieldLink "TwoSeasModel" (27 : Nat) "TwoSeasModel" "personAt" "[I") ∈ tq_W := tq_t6 (List.mem_of_getElem? (i := 101) rfl) rfl
theorem tw_1416 : (Jvm.Cond.fieldLink "TwoSeasModel" (30 : Nat) "TwoSeasModel" "personRank" "[I") ∈ tq_W := tq_t6 (List.mem_of_getElem? (i := 102) rfl) rfl
theorem tw_1417 : (Jvm.Cond.fieldLink "TwoSeasModel" (224 : Nat) "TwoSeasModel" "papers" "I") ∈ tq_W := tq_t6 (List.mem_of_getElem? (i := 103) rfl) rfl
theorem tw_1418 : (Jvm.Cond.fieldLink "TwoSeasModel" (33 : Nat) "TwoSeasModel" "kind" "[I") ∈ tq_W := tq_t6 (List.mem_of_getElem? (i := 104) rfl) rfl
theorem tw_1419 : (Jvm.Cond.fieldLink "TwoSeasModel" (36 : Nat) "TwoSeasModel" "written" "[I") ∈ tq_W := tq_t6 (List.mem_of_getElem? (i := 105) rfl) rfl
theorem tw_1420 : (Jvm.Cond.fieldLink "TwoSeasModel" (39 : Nat) "TwoSeasModel" "writtenOn" "[I") ∈ tq_W := tq_t6 (List.mem_of_getElem? (i := 106) rfl) rfl
theorem tw_1421 : (Jvm.Cond.fieldLink "TwoSeasModel" (42 : Nat) "TwoSeasModel" "meantFor" "[I") ∈ tq_W := tq_t6 (List.mem_of_getElem? (i := 107) rfl) rfl
theorem tw_1422 : (Jvm.Cond.fieldLink "TwoSeasModel" (45 : Nat) "TwoSeasModel" "copies" "[I") ∈ tq_W := tq_t6 (List.mem_of_getElem? (i := 108) rfl) rfl
theorem tw_1423 : (Jvm.Cond.fieldLink "TwoSeasModel" (48 : Nat) "TwoSeasModel" "knownFrom" "[[I") ∈ tq_W := tq_t6 (List.mem_of_getElem? (i := 109) rfl) rfl
theorem tw_1424 : (Jvm.Cond.fieldLink "TwoSeasModel" (51 : Nat) "TwoSeasModel" "tells" "[[I") ∈ tq_W := tq_t6 (List.mem_of_getElem? (i := 110) rfl) rfl
theorem tw_1425 : (Jvm.Cond.fieldLink "TwoSeasModel" (54 : Nat) "TwoSeasModel" "paragraphs" "[I") ∈ tq_W := tq_t6 (List.mem_of_getElem? (i := 111) rfl) rfl
theorem tw_1426 : (Jvm.Cond.fieldLink "TwoSeasModel" (57 : Nat) "TwoSeasModel" "acts" "[[I") ∈ tq_W := tq_t6 (List.mem_of_getElem? (i := 112) rfl) rfl
theorem tw_1427 : (Jvm.Cond.fieldLink "TwoSeasModel" (60 : Nat) "TwoSeasModel" "tests" "[[I") ∈ tq_W := tq_t6 (List.mem_of_getElem? (i := 113) rfl) rfl
theorem tw_1428 : (Jvm.Cond.fieldLink "TwoSeasModel" (63 : Nat) "TwoSeasModel" "aboard" "[[I") ∈ tq_W := tq_t6 (List.mem_of_getElem? (i := 114) rfl) rfl
theorem tw_1429 : (Jvm.Cond.fieldLink "TwoSeasModel" (324 : Nat) "TwoSeasModel" "ships" "I") ∈ tq_W := tq_t6 (List.mem_of_getElem? (i := 115) rfl) rfl
theorem tw_1430 : (Jvm.Cond.fieldLink "TwoSeasModel" (66 : Nat) "TwoSeasModel" "owner" "[I") ∈ tq_W := tq_t6 (List.mem_of_getElem? (i := 116) rfl) rfl
theorem tw_1431 : (Jvm.Cond.fieldLink "TwoSeasModel" (69 : Nat) "TwoSeasModel" "tons" "[I") ∈ tq_W := tq_t6 (List.mem_of_getElem? (i := 117) rfl) rfl
theorem tw_1432 : (Jvm.Cond.fieldLink "TwoSeasModel" (72 : Nat) "TwoSeasModel" "shipAt" "[I") ∈ tq_W := tq_t6 (List.mem_of_getElem? (i := 118) rfl) rfl
theorem tw_1433 : (Jvm.Cond.fieldLink "TwoSeasModel" (75 : Nat) "TwoSeasModel" "up" "[Z") ∈ tq_W := tq_t6 (List.mem_of_getElem? (i := 119) rfl) rfl
theorem tw_1434 : (Jvm.Cond.fieldLink "TwoSeasModel" (79 : Nat) "TwoSeasModel" "turns" "[I") ∈ tq_W := tq_t6 (List.mem_of_getElem? (i := 120) rfl) rfl
theorem tw_1435 : (Jvm.Cond.fieldLink "TwoSeasModel" (82 : Nat) "TwoSeasModel" "bales" "[[I") ∈ tq_W := tq_t6 (List.mem_of_getElem? (i := 121) rfl) rfl
theorem tw_1436 : (Jvm.Cond.fieldLink "TwoSeasModel" (85 : Nat) "TwoSeasModel" "shipCoins" "[I") ∈ tq_W := tq_t6 (List.mem_of_getElem? (i := 122) rfl) rfl
theorem tw_1437 : (Jvm.Cond.fieldLink "TwoSeasModel" (88 : Nat) "TwoSeasModel" "own" "[[I") ∈ tq_W := tq_t6 (List.mem_of_getElem? (i := 123) rfl) rfl
theorem tw_1438 : (Jvm.Cond.fieldLink "TwoSeasModel" (91 : Nat) "TwoSeasModel" "latest" "[I") ∈ tq_W := tq_t6 (List.mem_of_getElem? (i := 124) rfl) rfl
theorem tw_1439 : (Jvm.Cond.fieldLink "TwoSeasModel" (379 : Nat) "TwoSeasModel" "voyages" "I") ∈ tq_W := tq_t6 (List.mem_of_getElem? (i := 125) rfl) rfl
theorem tw_1440 : (Jvm.Cond.fieldLink "TwoSeasModel" (94 : Nat) "TwoSeasModel" "vShip" "[I") ∈ tq_W := tq_t6 (List.mem_of_getElem? (i := 126) rfl) rfl
theorem tw_1441 : (Jvm.Cond.fieldLink "TwoSeasModel" (97 : Nat) "TwoSeasModel" "vFrom" "[I") ∈ tq_W := tq_t6 (List.mem_of_getElem? (i := 127) rfl) rfl
theorem tw_1442 : (Jvm.Cond.fieldLink "TwoSeasModel" (100 : Nat) "TwoSeasModel" "vTo" "[I") ∈ tq_W := tq_t6 (List.mem_of_getElem? (i := 128) rfl) rfl
theorem tw_1443 : (Jvm.Cond.fieldLink "TwoSeasModel" (103 : Nat) "TwoSeasModel" "vLeft" "[I") ∈ tq_W := tq_t6 (List.mem_of_getElem? (i := 129) rfl) rfl
theorem tw_1444 : (Jvm.Cond.fieldLink "TwoSeasModel" (106 : Nat) "TwoSeasModel" "vComes" "[I") ∈ tq_W := tq_t6 (List.mem_of_getElem? (i := 130) rfl) rfl
theorem tw_1445 : (Jvm.Cond.fieldLink "TwoSeasModel" (109 : Nat) "TwoSeasModel" "vLost" "[Z") ∈ tq_W := tq_t6 (List.mem_of_getElem? (i := 131) rfl) rfl
theorem tw_1446 : (Jvm.Cond.fieldLink "TwoSeasModel" (112 : Nat) "TwoSeasModel" "vEnd" "[I") ∈ tq_W := tq_t6 (List.mem_of_getElem? (i := 132) rfl) rfl
theorem tw_1447 : (Jvm.Cond.fieldLink "TwoSeasModel" (115 : Nat) "TwoSeasModel" "vBales" "[[I") ∈ tq_W := tq_t6 (List.mem_of_getElem? (i := 133) rfl) rfl
theorem tw_1448 : (Jvm.Cond.fieldLink "TwoSeasModel" (118 : Nat) "TwoSeasModel" "vCame" "[[I") ∈ tq_W := tq_t6 (List.mem_of_getElem? (i := 134) rfl) rfl
theorem tw_1449 : (Jvm.Cond.fieldLink "TwoSeasModel" (121 : Nat) "TwoSeasModel" "vInvoice" "[I") ∈ tq_W := tq_t6 (List.mem_of_getElem? (i := 135) rfl) rfl
theorem tw_1450 : (Jvm.Cond.fieldLink "TwoSeasModel" (124 : Nat) "TwoSeasModel" "vBeyond" "[I") ∈ tq_W := tq_t6 (List.mem_of_getElem? (i := 136) rfl) rfl
theorem tw_1451 : (Jvm.Cond.fieldLink "TwoSeasModel" (409 : Nat) "TwoSeasModel" "entries" "I") ∈ tq_W := tq_t6 (List.mem_of_getElem? (i := 137) rfl) rfl
theorem tw_1452 : (Jvm.Cond.fieldLink "TwoSeasModel" (127 : Nat) "TwoSeasModel" "log" "[[I") ∈ tq_W := tq_t6 (List.mem_of_getElem? (i := 138) rfl) rfl
theorem tw_1453 : (Jvm.Cond.fieldLink "TwoSeasModel" (400 : Nat) "TwoSeasModel" "advances" "I") ∈ tq_W := tq_t6 (List.mem_of_getElem? (i := 139) rfl) rfl
theorem tw_1454 : (Jvm.Cond.fieldLink "TwoSeasModel" (130 : Nat) "TwoSeasModel" "aAt" "[I") ∈ tq_W := tq_t6 (List.mem_of_getElem? (i := 140) rfl) rfl
theorem tw_1455 : (Jvm.Cond.fieldLink "TwoSeasModel" (133 : Nat) "TwoSeasModel" "aSort" "[I") ∈ tq_W := tq_t6 (List.mem_of_getElem? (i := 141) rfl) rfl
theorem tw_1456 : (Jvm.Cond.fieldLink "TwoSeasModel" (136 : Nat) "TwoSeasModel" "aBales" "[I") ∈ tq_W := tq_t6 (List.mem_of_getElem? (i := 142) rfl) rfl
theorem tw_1457 : (Jvm.Cond.fieldLink "TwoSeasModel" (139 : Nat) "TwoSeasModel" "aOn" "[I") ∈ tq_W := tq_t6 (List.mem_of_getElem? (i := 143) rfl) rfl
theorem tw_1458 : (Jvm.Cond.fieldLink "TwoSeasModel" (142 : Nat) "TwoSeasModel" "aTimes" "[I") ∈ tq_W := tq_t6 (List.mem_of_getElem? (i := 144) rfl) rfl
theorem tw_1459 : (Jvm.Cond.fieldLink "TwoSeasModel" (145 : Nat) "TwoSeasModel" "wants" "[[I") ∈ tq_W := tq_t6 (List.mem_of_getElem? (i := 145) rfl) rfl
theorem tw_1460 : (Jvm.Cond.fieldLink "TwoSeasModel" (148 : Nat) "TwoSeasModel" "limit" "[[I") ∈ tq_W := tq_t6 (List.mem_of_getElem? (i := 146) rfl) rfl
theorem tw_1461 : (Jvm.Cond.fieldLink "TwoSeasModel" (151 : Nat) "TwoSeasModel" "boughtBales" "[I") ∈ tq_W := tq_t6 (List.mem_of_getElem? (i := 147) rfl) rfl
theorem tw_1462 : (Jvm.Cond.fieldLink "TwoSeasModel" (154 : Nat) "TwoSeasModel" "boughtCoins" "[I") ∈ tq_W := tq_t6 (List.mem_of_getElem? (i := 148) rfl) rfl
theorem tw_1463 : (Jvm.Cond.fieldLink "TwoSeasModel" (506 : Nat) "TwoSeasModel" "salesCoins" "I") ∈ tq_W := tq_t6 (List.mem_of_getElem? (i := 149) rfl) rfl
theorem tw_1464 : (Jvm.Cond.fieldLink "TwoSeasModel" (157 : Nat) "TwoSeasModel" "shares" "[I") ∈ tq_W := tq_t6 (List.mem_of_getElem? (i := 150) rfl) rfl
theorem tw_1465 : (Jvm.Cond.fieldLink "TwoSeasModel" (160 : Nat) "TwoSeasModel" "shareCoins" "[I") ∈ tq_W := tq_t6 (List.mem_of_getElem? (i := 151) rfl) rfl
theorem tw_1466 : (Jvm.Cond.fieldLink "TwoSeasModel" (509 : Nat) "TwoSeasModel" "dividends" "I") ∈ tq_W := tq_t6 (List.mem_of_getElem? (i := 152) rfl) rfl
theorem tw_1467 : (Jvm.Cond.fieldLink "TwoSeasModel" (163 : Nat) "TwoSeasModel" "brings" "[[I") ∈ tq_W := tq_t6 (List.mem_of_getElem? (i := 153) rfl) rfl
theorem tw_1468 : (Jvm.Cond.fieldLink "TwoSeasModel" (166 : Nat) "TwoSeasModel" "tape" "[I") ∈ tq_W := tq_t6 (List.mem_of_getElem? (i := 154) rfl) rfl
theorem tw_1469 : (Jvm.Cond.fieldLink "TwoSeasModel" (230 : Nat) "TwoSeasModel" "tapeSize" "I") ∈ tq_W := tq_t6 (List.mem_of_getElem? (i := 155) rfl) rfl
theorem tw_1470 : (Jvm.Cond.fieldLink "TwoSeasModel" (169 : Nat) "TwoSeasModel" "sheetSort" "[I") ∈ tq_W := tq_t6 (List.mem_of_getElem? (i := 156) rfl) rfl
theorem tw_1471 : (Jvm.Cond.fieldLink "TwoSeasModel" (172 : Nat) "TwoSeasModel" "sheet" "[[I") ∈ tq_W := tq_t6 (List.mem_of_getElem? (i := 157) rfl) rfl
theorem tw_1472 : (Jvm.Cond.fieldLink "TwoSeasModel" (175 : Nat) "TwoSeasModel" "sheetSize" "[I") ∈ tq_W := tq_t6 (List.mem_of_getElem? (i := 158) rfl) rfl
theorem tw_1473 : (Jvm.Cond.fieldLink "TwoSeasModel" (178 : Nat) "TwoSeasModel" "trace" "[I") ∈ tq_W := tq_t6 (List.mem_of_getElem? (i := 159) rfl) rfl
theorem tw_1474 : (Jvm.Cond.fieldLink "TwoSeasModel" (532 : Nat) "TwoSeasModel" "ran" "I") ∈ tq_W := tq_t6 (List.mem_of_getElem? (i := 160) rfl) rfl
theorem tw_1475 : (Jvm.Cond.fieldLink "TwoSeasModel" (236 : Nat) "TwoSeasModel" "at" "I") ∈ tq_W := tq_t6 (List.mem_of_getElem? (i := 161) rfl) rfl
theorem tw_1476 : (Jvm.Cond.fieldLink "TwoSeasModel" (233 : Nat) "TwoSeasModel" "fault" "I") ∈ tq_W := tq_t6 (List.mem_of_getElem? (i := 162) rfl) rfl
theorem tw_1477 : (Jvm.Cond.fieldLink "TwoSeasModel" (256 : Nat) "TwoSeasModel" "found" "I") ∈ tq_W := tq_t6 (List.mem_of_getElem? (i := 163) rfl) rfl
theorem tw_1478 : (Jvm.Cond.fieldLink "TwoSeasModel" (181 : Nat) "TwoSeasModel" "act" "[I") ∈ tq_W := tq_t6 (List.mem_of_getElem? (i := 164) rfl) rfl
theorem tw_1479 : (Jvm.Cond.fieldLink "TwoSeasModel" (184 : Nat) "TwoSeasModel" "test" "[I") ∈ tq_W := tq_t6 (List.mem_of_getElem? (i := 165) rfl) rfl
theorem tw_1480 : (Jvm.Cond.fieldLink "TwoSeasModel" (187 : Nat) "TwoSeasModel" "inForce" "[I") ∈ tq_W := tq_t6 (List.mem_of_getElem? (i := 166) rfl) rfl
theorem tw_1481 : (Jvm.Cond.fieldLink "TwoSeasModel" (412 : Nat) "TwoSeasModel" "buying" "I") ∈ tq_W := tq_t6 (List.mem_of_getElem? (i := 167) rfl) rfl
theorem tw_1482 : (Jvm.Cond.fieldLink "TwoSeasModel" (415 : Nat) "TwoSeasModel" "keep" "I") ∈ tq_W := tq_t6 (List.mem_of_getElem? (i := 168) rfl) rfl
theorem tw_1483 : (Jvm.Cond.fieldLink "TwoSeasModel" (190 : Nat) "TwoSeasModel" "lots" "[I") ∈ tq_W := tq_t6 (List.mem_of_getElem? (i := 169) rfl) rfl
theorem tw_1484 : (Jvm.Cond.fieldLink "TwoSeasModel" (193 : Nat) "TwoSeasModel" "bestLots" "[I") ∈ tq_W := tq_t6 (List.mem_of_getElem? (i := 170) rfl) rfl
theorem tw_1639 : (Jvm.Cond.superclass "TwoSeasModel" "java/lang/Object") ∈ tq_W := tq_t7 (List.mem_of_getElem? (i := 85) rfl) rfl
theorem tw_1640 : (Jvm.Cond.arrayClass Jvm.ClassFile.FieldType.boolean) ∈ tq_W := tq_t7 (List.mem_of_getElem? (i := 86) rfl) rfl
theorem tw_1641 : (Jvm.Cond.methodLink "TwoSeasLaw" (17 : Nat) ({ cls := "TwoSeasModel", name := "factory", desc := "(III)I" } : Jvm.MethodName)) ∈ tq_W := tq_t7 (List.mem_of_getElem? (i := 87) rfl) rfl
theorem tw_1642 : (Jvm.Cond.instanceMethod ({ cls := "TwoSeasModel", name := "factory", desc := "(III)I" } : Jvm.MethodName)) ∈ tq_W := tq_t7 (List.mem_of_getElem? (i := 88) rfl) rfl
theorem tw_1643 : (Jvm.Cond.selects "TwoSeasModel" ({ cls := "TwoSeasModel", name := "factory", desc := "(III)I" } : Jvm.MethodName) ({ cls := "TwoSeasModel", name := "factory", desc := "(III)I" } : Jvm.MethodName)) ∈ tq_W := tq_t7 (List.mem_of_getElem? (i := 89) rfl) rfl
theorem tw_1644 : (Jvm.Cond.code ({ cls := "TwoSeasModel", name := "factory", desc := "(III)I" } : Jvm.MethodName) prog_14_method_6_code (5 : Nat) (Option.some Jvm.ClassFile.FieldType.int)) ∈ tq_W := tq_t7 (List.mem_of_getElem? (i := 90) rfl) rfl
theorem tw_1645 : (Jvm.Cond.methodLink "TwoSeasModel" (200 : Nat) ({ cls := "TwoSeasModel", name := "isFactory", desc := "(I)Z" } : Jvm.MethodName)) ∈ tq_W := tq_t7 (List.mem_of_getElem? (i := 91) rfl) rfl
theorem tw_1646 : (Jvm.Cond.static ({ cls := "TwoSeasModel", name := "isFactory", desc := "(I)Z" } : Jvm.MethodName)) ∈ tq_W := tq_t7 (List.mem_of_getElem? (i := 92) rfl) rfl
theorem tw_1647 : (Jvm.Cond.code ({ cls := "TwoSeasModel", name := "isFactory", desc := "(I)Z" } : Jvm.MethodName) prog_14_method_4_code (1 : Nat) (Option.some Jvm.ClassFile.FieldType.boolean)) ∈ tq_W := tq_t7 (List.mem_of_getElem? (i := 93) rfl) rfl
theorem tw_1648 : (Jvm.Cond.methodLink "TwoSeasModel" (196 : Nat) ({ cls := "TwoSeasModel", name := "in", desc := "(III)Z" } : Jvm.MethodName)) ∈ tq_W := tq_t7 (List.mem_of_getElem? (i := 94) rfl) rfl
theorem tw_1649 : (Jvm.Cond.static ({ cls := "TwoSeasModel", name := "in", desc := "(III)Z" } : Jvm.MethodName)) ∈ tq_W := tq_t7 (List.mem_of_getElem? (i := 95) rfl) rfl
theorem tw_1650 : (Jvm.Cond.code ({ cls := "TwoSeasModel", name := "in", desc := "(III)Z" } : Jvm.MethodName) prog_14_method_2_code (3 : Nat) (Option.some Jvm.ClassFile.FieldType.boolean)) ∈ tq_W := tq_t7 (List.mem_of_getElem? (i := 96) rfl) rfl
theorem tw_1651 : (Jvm.Cond.methodLink "TwoSeasLaw" (21 : Nat) ({ cls := "TwoSeasModel", name := "base", desc := "(III)I" } : Jvm.MethodName)) ∈ tq_W := tq_t7 (List.mem_of_getElem? (i := 97) rfl) rfl
theorem tw_1652 : (Jvm.Cond.instanceMethod ({ cls := "TwoSeasModel", name := "base", desc := "(III)I" } : Jvm.MethodName)) ∈ tq_W := tq_t7 (List.mem_of_getElem? (i := 98) rfl) rfl
theorem tw_1653 : (Jvm.Cond.selects "TwoSeasModel" ({ cls := "TwoSeasModel", name := "base", desc := "(III)I" } : Jvm.MethodName) ({ cls := "TwoSeasModel", name := "base", desc := "(III)I" } : Jvm.MethodName)) ∈ tq_W := tq_t7 (List.mem_of_getElem? (i := 99) rfl) rfl
theorem tw_1654 : (Jvm.Cond.code ({ cls := "TwoSeasModel", name := "base", desc := "(III)I" } : Jvm.MethodName) prog_14_method_7_code (5 : Nat) (Option.some Jvm.ClassFile.FieldType.int)) ∈ tq_W := tq_t7 (List.mem_of_getElem? (i := 100) rfl) rfl
theorem tw_1655 : (Jvm.Cond.methodLink "TwoSeasModel" (204 : Nat) ({ cls := "TwoSeasModel", name := "isSort", desc := "(I)Z" } : Jvm.MethodName)) ∈ tq_W := tq_t7 (List.mem_of_getElem? (i := 101) rfl) rfl
theorem tw_1656 : (Jvm.Cond.static ({ cls := "TwoSeasModel", name := "isSort", desc := "(I)Z" } : Jvm.MethodName)) ∈ tq_W := tq_t7 (List.mem_of_getElem? (i := 102) rfl) rfl
theorem tw_1657 : (Jvm.Cond.code ({ cls := "TwoSeasModel", name := "isSort", desc := "(I)Z" } : Jvm.MethodName) prog_14_method_5_code (1 : Nat) (Option.some Jvm.ClassFile.FieldType.boolean)) ∈ tq_W := tq_t7 (List.mem_of_getElem? (i := 103) rfl) rfl
theorem tw_1658 : (Jvm.Cond.methodLink "TwoSeasLaw" (26 : Nat) ({ cls := "TwoSeasModel", name := "price", desc := "(II)I" } : Jvm.MethodName)) ∈ tq_W := tq_t7 (List.mem_of_getElem? (i := 104) rfl) rfl
theorem tw_1659 : (Jvm.Cond.instanceMethod ({ cls := "TwoSeasModel", name := "price", desc := "(II)I" } : Jvm.MethodName)) ∈ tq_W := tq_t7 (List.mem_of_getElem? (i := 105) rfl) rfl
theorem tw_1660 : (Jvm.Cond.selects "TwoSeasModel" ({ cls := "TwoSeasModel", name := "price", desc := "(II)I" } : Jvm.MethodName) ({ cls := "TwoSeasModel", name := "price", desc := "(II)I" } : Jvm.MethodName)) ∈ tq_W := tq_t7 (List.mem_of_getElem? (i := 106) rfl) rfl
theorem tw_1661 : (Jvm.Cond.code ({ cls := "TwoSeasModel", name := "price", desc := "(II)I" } : Jvm.MethodName) prog_14_method_9_code (3 : Nat) (Option.some Jvm.ClassFile.FieldType.int)) ∈ tq_W := tq_t7 (List.mem_of_getElem? (i := 107) rfl) rfl
theorem tw_1662 : (Jvm.Cond.methodLink "TwoSeasModel" (207 : Nat) ({ cls := "TwoSeasModel", name := "priceOf", desc := "(II)I" } : Jvm.MethodName)) ∈ tq_W := tq_t7 (List.mem_of_getElem? (i := 108) rfl) rfl
theorem tw_1664 : (Jvm.Cond.instanceMethod ({ cls := "TwoSeasModel", name := "priceOf", desc := "(II)I" } : Jvm.MethodName)) ∈ tq_W := tq_t7 (List.mem_of_getElem? (i := 110) rfl) rfl
theorem tw_1665 : (Jvm.Cond.code ({ cls := "TwoSeasModel", name := "priceOf", desc := "(II)I" } : Jvm.MethodName) prog_14_method_8_code (3 : Nat) (Option.some Jvm.ClassFile.FieldType.int)) ∈ tq_W := tq_t7 (List.mem_of_getElem? (i := 111) rfl) rfl
theorem tw_1666 : (Jvm.Cond.methodLink "TwoSeasLaw" (30 : Nat) ({ cls := "TwoSeasModel", name := "bullion", desc := "(II)I" } : Jvm.MethodName)) ∈ tq_W := tq_t7 (List.mem_of_getElem? (i := 112) rfl) rfl
theorem tw_1667 : (Jvm.Cond.instanceMethod ({ cls := "TwoSeasModel", name := "bullion", desc := "(II)I" } : Jvm.MethodName)) ∈ tq_W := tq_t7 (List.mem_of_getElem? (i := 113) rfl) rfl
theorem tw_1668 : (Jvm.Cond.selects "TwoSeasModel" ({ cls := "TwoSeasModel", name := "bullion", desc := "(II)I" } : Jvm.MethodName) ({ cls := "TwoSeasModel", name := "bullion", desc := "(II)I" } : Jvm.MethodName)) ∈ tq_W := tq_t7 (List.mem_of_getElem? (i := 114) rfl) rfl
theorem tw_1669 : (Jvm.Cond.code ({ cls := "TwoSeasModel", name := "bullion", desc := "(II)I" } : Jvm.MethodName) prog_14_method_10_code (3 : Nat) (Option.some Jvm.ClassFile.FieldType.int)) ∈ tq_W := tq_t7 (List.mem_of_getElem? (i := 115) rfl) rfl
theorem tw_1670 : (Jvm.Cond.methodLink "TwoSeasModel" (211 : Nat) ({ cls := "TwoSeasModel", name := "isPlace", desc := "(I)Z" } : Jvm.MethodName)) ∈ tq_W := tq_t7 (List.mem_of_getElem? (i := 116) rfl) rfl
theorem tw_1671 : (Jvm.Cond.static ({ cls := "TwoSeasModel", name := "isPlace", desc := "(I)Z" } : Jvm.MethodName)) ∈ tq_W := tq_t7 (List.mem_of_getElem? (i := 117) rfl) rfl
theorem tw_1672 : (Jvm.Cond.code ({ cls := "TwoSeasModel", name := "isPlace", desc := "(I)Z" } : Jvm.MethodName) prog_14_method_3_code (1 : Nat) (Option.some Jvm.ClassFile.FieldType.boolean)) ∈ tq_W := tq_t7 (List.mem_of_getElem? (i := 118) rfl) rfl
theorem tw_1673 : (Jvm.Cond.constant "TwoSeasModel" (214 : Nat) (-1000000 : Int32)) ∈ tq_W := tq_t7 (List.mem_of_getElem? (i := 119) rfl) rfl
theorem tw_1674 : (Jvm.Cond.constant "TwoSeasModel" (215 : Nat) (1000000 : Int32)) ∈ tq_W := tq_t7 (List.mem_of_getElem? (i := 120) rfl) rfl
theorem tw_1675 : (Jvm.Cond.constant "TwoSeasModel" (216 : Nat) (100000000 : Int32)) ∈ tq_W := tq_t7 (List.mem_of_getElem? (i := 121) rfl) rfl
theorem tw_1676 : (Jvm.Cond.methodLink "TwoSeasLaw" (34 : Nat) ({ cls := "TwoSeasModel", name := "stock", desc := "(II)I" } : Jvm.MethodName)) ∈ tq_W := tq_t7 (List.mem_of_getElem? (i := 122) rfl) rfl
theorem tw_1677 : (Jvm.Cond.instanceMethod ({ cls := "TwoSeasModel", name := "stock", desc := "(II)I" } : Jvm.MethodName)) ∈ tq_W := tq_t7 (List.mem_of_getElem? (i := 123) rfl) rfl
theorem tw_1678 : (Jvm.Cond.selects "TwoSeasModel" ({ cls := "TwoSeasModel", name := "stock", desc := "(II)I" } : Jvm.MethodName) ({ cls := "TwoSeasModel", name := "stock", desc := "(II)I" } : Jvm.MethodName)) ∈ tq_W := tq_t7 (List.mem_of_getElem? (i := 124) rfl) rfl
theorem tw_1679 : (Jvm.Cond.code ({ cls := "TwoSeasModel", name := "stock", desc := "(II)I" } : Jvm.MethodName) prog_14_method_11_code (3 : Nat) (Option.some Jvm.ClassFile.FieldType.int)) ∈ tq_W := tq_t7 (List.mem_of_getElem? (i := 125) rfl) rfl
theorem tw_1680 : (Jvm.Cond.methodLink "TwoSeasLaw" (38 : Nat) ({ cls := "TwoSeasModel", name := "person", desc := "(II)I" } : Jvm.MethodName)) ∈ tq_W := tq_t7 (List.mem_of_getElem? (i := 126) rfl) rfl
theorem tw_1681 : (Jvm.Cond.instanceMethod ({ cls := "TwoSeasModel", name := "person", desc := "(II)I" } : Jvm.MethodName)) ∈ tq_W := tq_t7 (List.mem_of_getElem? (i := 127) rfl) rfl
theorem tw_1682 : (Jvm.Cond.selects "TwoSeasModel" ({ cls := "TwoSeasModel", name := "person", desc := "(II)I" } : Jvm.MethodName) ({ cls := "TwoSeasModel", name := "person", desc := "(II)I" } : Jvm.MethodName)) ∈ tq_W := tq_t7 (List.mem_of_getElem? (i := 128) rfl) rfl
theorem tw_1683 : (Jvm.Cond.code ({ cls := "TwoSeasModel", name := "person", desc := "(II)I" } : Jvm.MethodName) prog_14_method_12_code (3 : Nat) (Option.some Jvm.ClassFile.FieldType.int)) ∈ tq_W := tq_t7 (List.mem_of_getElem? (i := 129) rfl) rfl
theorem tw_1684 : (Jvm.Cond.methodLink "TwoSeasLaw" (42 : Nat) ({ cls := "TwoSeasModel", name := "goes", desc := "(II)I" } : Jvm.MethodName)) ∈ tq_W := tq_t7 (List.mem_of_getElem? (i := 130) rfl) rfl
theorem tw_1685 : (Jvm.Cond.instanceMethod ({ cls := "TwoSeasModel", name := "goes", desc := "(II)I" } : Jvm.MethodName)) ∈ tq_W := tq_t7 (List.mem_of_getElem? (i := 131) rfl) rfl
theorem tw_1686 : (Jvm.Cond.selects "TwoSeasModel" ({ cls := "TwoSeasModel", name := "goes", desc := "(II)I" } : Jvm.MethodName) ({ cls := "TwoSeasModel", name := "goes", desc := "(II)I" } : Jvm.MethodName)) ∈ tq_W := tq_t7 (List.mem_of_getElem? (i := 132) rfl) rfl
theorem tw_1687 : (Jvm.Cond.code ({ cls := "TwoSeasModel", name := "goes", desc := "(II)I" } : Jvm.MethodName) prog_14_method_14_code (4 : Nat) (Option.some Jvm.ClassFile.FieldType.int)) ∈ tq_W := tq_t7 (List.mem_of_getElem? (i := 133) rfl) rfl
theorem tw_1688 : (Jvm.Cond.methodLink "TwoSeasModel" (221 : Nat) ({ cls := "TwoSeasModel", name := "isPerson", desc := "(I)Z" } : Jvm.MethodName)) ∈ tq_W := tq_t7 (List.mem_of_getElem? (i := 134) rfl) rfl
theorem tw_1690 : (Jvm.Cond.instanceMethod ({ cls := "TwoSeasModel", name := "isPerson", desc := "(I)Z" } : Jvm.MethodName)) ∈ tq_W := tq_t7 (List.mem_of_getElem? (i := 136) rfl) rfl
theorem tw_1691 : (Jvm.Cond.code ({ cls := "TwoSeasModel", name := "isPerson", desc := "(I)Z" } : Jvm.MethodName) prog_14_method_13_code (2 : Nat) (Option.some Jvm.ClassFile.FieldType.boolean)) ∈ tq_W := tq_t7 (List.mem_of_getElem? (i := 137) rfl) rfl
theorem tw_1692 : (Jvm.Cond.methodLink "TwoSeasLaw" (46 : Nat) ({ cls := "TwoSeasModel", name := "feed", desc := "(II)I" } : Jvm.MethodName)) ∈ tq_W := tq_t7 (List.mem_of_getElem? (i := 138) rfl) rfl
theorem tw_1693 : (Jvm.Cond.instanceMethod ({ cls := "TwoSeasModel", name := "feed", desc := "(II)I" } : Jvm.MethodName)) ∈ tq_W := tq_t7 (List.mem_of_getElem? (i := 139) rfl) rfl
theorem tw_1694 : (Jvm.Cond.selects "TwoSeasModel" ({ cls := "TwoSeasModel", name := "feed", desc := "(II)I" } : Jvm.MethodName) ({ cls := "TwoSeasModel", name := "feed", desc := "(II)I" } : Jvm.MethodName)) ∈ tq_W := tq_t7 (List.mem_of_getElem? (i := 140) rfl) rfl
theorem tw_1695 : (Jvm.Cond.code ({ cls := "TwoSeasModel", name := "feed", desc := "(II)I" } : Jvm.MethodName) prog_14_method_17_code (4 : Nat) (Option.some Jvm.ClassFile.FieldType.int)) ∈ tq_W := tq_t7 (List.mem_of_getElem? (i := 141) rfl) rfl
theorem tw_1696 : (Jvm.Cond.methodLink "TwoSeasLaw" (51 : Nat) ({ cls := "TwoSeasModel", name := "mail", desc := "(IIII)I" } : Jvm.MethodName)) ∈ tq_W := tq_t7 (List.mem_of_getElem? (i := 142) rfl) rfl
theorem tw_1697 : (Jvm.Cond.instanceMethod ({ cls := "TwoSeasModel", name := "mail", desc := "(IIII)I" } : Jvm.MethodName)) ∈ tq_W := tq_t7 (List.mem_of_getElem? (i := 143) rfl) rfl
theorem tw_1698 : (Jvm.Cond.selects "TwoSeasModel" ({ cls := "TwoSeasModel", name := "mail", desc := "(IIII)I" } : Jvm.MethodName) ({ cls := "TwoSeasModel", name := "mail", desc := "(IIII)I" } : Jvm.MethodName)) ∈ tq_W := tq_t7 (List.mem_of_getElem? (i := 144) rfl) rfl
theorem tw_1699 : (Jvm.Cond.code ({ cls := "TwoSeasModel", name := "mail", desc := "(IIII)I" } : Jvm.MethodName) prog_14_method_18_code (6 : Nat) (Option.some Jvm.ClassFile.FieldType.int)) ∈ tq_W := tq_t7 (List.mem_of_getElem? (i := 145) rfl) rfl
theorem tw_1700 : (Jvm.Cond.methodLink "TwoSeasLaw" (56 : Nat) ({ cls := "TwoSeasModel", name := "order", desc := "(I)I" } : Jvm.MethodName)) ∈ tq_W := tq_t7 (List.mem_of_getElem? (i := 146) rfl) rfl
theorem tw_1701 : (Jvm.Cond.instanceMethod ({ cls := "TwoSeasModel", name := "order", desc := "(I)I" } : Jvm.MethodName)) ∈ tq_W := tq_t7 (List.mem_of_getElem? (i := 147) rfl) rfl
theorem tw_1702 : (Jvm.Cond.selects "TwoSeasModel" ({ cls := "TwoSeasModel", name := "order", desc := "(I)I" } : Jvm.MethodName) ({ cls := "TwoSeasModel", name := "order", desc := "(I)I" } : Jvm.MethodName)) ∈ tq_W := tq_t7 (List.mem_of_getElem? (i := 148) rfl) rfl
theorem tw_1703 : (Jvm.Cond.code ({ cls := "TwoSeasModel", name := "order", desc := "(I)I" } : Jvm.MethodName) prog_14_method_28_code (3 : Nat) (Option.some Jvm.ClassFile.FieldType.int)) ∈ tq_W := tq_t7 (List.mem_of_getElem? (i := 149) rfl) rfl
theorem tw_1704 : (Jvm.Cond.methodLink "TwoSeasModel" (317 : Nat) ({ cls := "TwoSeasModel", name := "orderHere", desc := "(I)Z" } : Jvm.MethodName)) ∈ tq_W := tq_t7 (List.mem_of_getElem? (i := 150) rfl) rfl
theorem tw_1706 : (Jvm.Cond.instanceMethod ({ cls := "TwoSeasModel", name := "orderHere", desc := "(I)Z" } : Jvm.MethodName)) ∈ tq_W := tq_t7 (List.mem_of_getElem? (i := 152) rfl) rfl
theorem tw_1707 : (Jvm.Cond.code ({ cls := "TwoSeasModel", name := "orderHere", desc := "(I)Z" } : Jvm.MethodName) prog_14_method_27_code (3 : Nat) (Option.some Jvm.ClassFile.FieldType.boolean)) ∈ tq_W := tq_t7 (List.mem_of_getElem? (i := 153) rfl) rfl
theorem tw_1708 : (Jvm.Cond.methodLink "TwoSeasModel" (313 : Nat) ({ cls := "TwoSeasModel", name := "paragraphHere", desc := "(II)Z" } : Jvm.MethodName)) ∈ tq_W := tq_t7 (List.mem_of_getElem? (i := 154) rfl) rfl
theorem tw_1710 : (Jvm.Cond.instanceMethod ({ cls := "TwoSeasModel", name := "paragraphHere", desc := "(II)Z" } : Jvm.MethodName)) ∈ tq_W := tq_t7 (List.mem_of_getElem? (i := 156) rfl) rfl
theorem tw_1711 : (Jvm.Cond.code ({ cls := "TwoSeasModel", name := "paragraphHere", desc := "(II)Z" } : Jvm.MethodName) prog_14_method_26_code (5 : Nat) (Option.some Jvm.ClassFile.FieldType.boolean)) ∈ tq_W := tq_t7 (List.mem_of_getElem? (i := 157) rfl) rfl
theorem tw_1712 : (Jvm.Cond.methodLink "TwoSeasModel" (294 : Nat) ({ cls := "TwoSeasModel", name := "actHere", desc := "([I)Z" } : Jvm.MethodName)) ∈ tq_W := tq_t7 (List.mem_of_getElem? (i := 158) rfl) rfl
theorem tw_1714 : (Jvm.Cond.instanceMethod ({ cls := "TwoSeasModel", name := "actHere", desc := "([I)Z" } : Jvm.MethodName)) ∈ tq_W := tq_t7 (List.mem_of_getElem? (i := 160) rfl) rfl
theorem tw_1715 : (Jvm.Cond.code ({ cls := "TwoSeasModel", name := "actHere", desc := "([I)Z" } : Jvm.MethodName) prog_14_method_24_code (4 : Nat) (Option.some Jvm.ClassFile.FieldType.boolean)) ∈ tq_W := tq_t7 (List.mem_of_getElem? (i := 161) rfl) rfl
theorem tw_1716 : (Jvm.Cond.methodLink "TwoSeasModel" (245 : Nat) ({ cls := "TwoSeasModel", name := "here", desc := "()I" } : Jvm.MethodName)) ∈ tq_W := tq_t7 (List.mem_of_getElem? (i := 162) rfl) rfl
theorem tw_1718 : (Jvm.Cond.instanceMethod ({ cls := "TwoSeasModel", name := "here", desc := "()I" } : Jvm.MethodName)) ∈ tq_W := tq_t7 (List.mem_of_getElem? (i := 164) rfl) rfl
theorem tw_1719 : (Jvm.Cond.code ({ cls := "TwoSeasModel", name := "here", desc := "()I" } : Jvm.MethodName) prog_14_method_20_code (1 : Nat) (Option.some Jvm.ClassFile.FieldType.int)) ∈ tq_W := tq_t7 (List.mem_of_getElem? (i := 165) rfl) rfl
theorem tw_1726 : (Jvm.Cond.methodLink "TwoSeasModel" (271 : Nat) ({ cls := "TwoSeasModel", name := "word", desc := "(Ljava/lang/String;)Z" } : Jvm.MethodName)) ∈ tq_W := tq_t7 (List.mem_of_getElem? (i := 172) rfl) rfl
theorem tw_1728 : (Jvm.Cond.instanceMethod ({ cls := "TwoSeasModel", name := "word", desc := "(Ljava/lang/String;)Z" } : Jvm.MethodName)) ∈ tq_W := tq_t7 (List.mem_of_getElem? (i := 174) rfl) rfl
theorem tw_1729 : (Jvm.Cond.code ({ cls := "TwoSeasModel", name := "word", desc := "(Ljava/lang/String;)Z" } : Jvm.MethodName) prog_14_method_21_code (3 : Nat) (Option.some Jvm.ClassFile.FieldType.boolean)) ∈ tq_W := tq_t7 (List.mem_of_getElem? (i := 175) rfl) rfl
theorem tw_1730 : (Jvm.Cond.methodLink "TwoSeasModel" (239 : Nat) ({ cls := "java/lang/String", name := "length", desc := "()I" } : Jvm.MethodName)) ∈ tq_W := tq_t7 (List.mem_of_getElem? (i := 176) rfl) rfl
theorem tw_1731 : (Jvm.Cond.methodLink "TwoSeasModel" (248 : Nat) ({ cls := "java/lang/String", name := "charAt", desc := "(I)C" } : Jvm.MethodName)) ∈ tq_W := tq_t7 (List.mem_of_getElem? (i := 177) rfl) rfl
theorem tw_1732 : (Jvm.Cond.methodLink "TwoSeasModel" (252 : Nat) ({ cls := "TwoSeasModel", name := "wrong", desc := "()Z" } : Jvm.MethodName)) ∈ tq_W := tq_t7 (List.mem_of_getElem? (i := 178) rfl) rfl
theorem tw_1734 : (Jvm.Cond.instanceMethod ({ cls := "TwoSeasModel", name := "wrong", desc := "()Z" } : Jvm.MethodName)) ∈ tq_W := tq_t7 (List.mem_of_getElem? (i := 180) rfl) rfl
theorem tw_1735 : (Jvm.Cond.code ({ cls := "TwoSeasModel", name := "wrong", desc := "()Z" } : Jvm.MethodName) prog_14_method_19_code (1 : Nat) (Option.some Jvm.ClassFile.FieldType.boolean)) ∈ tq_W := tq_t7 (List.mem_of_getElem? (i := 181) rfl) rfl
theorem tw_1736 : (Jvm.Cond.methodLink "TwoSeasModel" (275 : Nat) ({ cls := "TwoSeasModel", name := "sortHere", desc := "()Z" } : Jvm.MethodName)) ∈ tq_W := tq_t7 (List.mem_of_getElem? (i := 182) rfl) rfl
theorem tw_1738 : (Jvm.Cond.instanceMethod ({ cls := "TwoSeasModel", name := "sortHere", desc := "()Z" } : Jvm.MethodName)) ∈ tq_W := tq_t7 (List.mem_of_getElem? (i := 184) rfl) rfl
theorem tw_1739 : (Jvm.Cond.code ({ cls := "TwoSeasModel", name := "sortHere", desc := "()Z" } : Jvm.MethodName) prog_14_method_22_code (2 : Nat) (Option.some Jvm.ClassFile.FieldType.boolean)) ∈ tq_W := tq_t7 (List.mem_of_getElem? (i := 185) rfl) rfl
theorem tw_1741 : (Jvm.Cond.methodLink "TwoSeasModel" (280 : Nat) ({ cls := "TwoSeasModel", name := "numberHere", desc := "()Z" } : Jvm.MethodName)) ∈ tq_W := tq_t7 (List.mem_of_getElem? (i := 187) rfl) rfl
theorem tw_1743 : (Jvm.Cond.instanceMethod ({ cls := "TwoSeasModel", name := "numberHere", desc := "()Z" } : Jvm.MethodName)) ∈ tq_W := tq_t7 (List.mem_of_getElem? (i := 189) rfl) rfl
theorem tw_1744 : (Jvm.Cond.code ({ cls := "TwoSeasModel", name := "numberHere", desc := "()Z" } : Jvm.MethodName) prog_14_method_23_code (2 : Nat) (Option.some Jvm.ClassFile.FieldType.boolean)) ∈ tq_W := tq_t7 (List.mem_of_getElem? (i := 190) rfl) rfl
theorem tw_1746 : (Jvm.Cond.methodLink "TwoSeasModel" (300 : Nat) ({ cls := "TwoSeasModel", name := "testHere", desc := "([I)Z" } : Jvm.MethodName)) ∈ tq_W := tq_t7 (List.mem_of_getElem? (i := 192) rfl) rfl
theorem tw_1748 : (Jvm.Cond.instanceMethod ({ cls := "TwoSeasModel", name := "testHere", desc := "([I)Z" } : Jvm.MethodName)) ∈ tq_W := tq_t7 (List.mem_of_getElem? (i := 194) rfl) rfl
theorem tw_1749 : (Jvm.Cond.code ({ cls := "TwoSeasModel", name := "testHere", desc := "([I)Z" } : Jvm.MethodName) prog_14_method_25_code (3 : Nat) (Option.some Jvm.ClassFile.FieldType.boolean)) ∈ tq_W := tq_t7 (List.mem_of_getElem? (i := 195) rfl) rfl
theorem tw_1756 : (Jvm.Cond.methodLink "TwoSeasModel" (303 : Nat) ({ cls := "java/lang/System", name := "arraycopy", desc := "(Ljava/lang/Object;ILjava/lang/Object;II)V" } : Jvm.MethodName)) ∈ tq_W := tq_t7 (List.mem_of_getElem? (i := 202) rfl) rfl
theorem tw_1759 : (Jvm.Cond.methodLink "TwoSeasModel" (320 : Nat) ({ cls := "TwoSeasModel", name := "write", desc := "(III)I" } : Jvm.MethodName)) ∈ tq_W := tq_t7 (List.mem_of_getElem? (i := 205) rfl) rfl
theorem tw_1761 : (Jvm.Cond.instanceMethod ({ cls := "TwoSeasModel", name := "write", desc := "(III)I" } : Jvm.MethodName)) ∈ tq_W := tq_t7 (List.mem_of_getElem? (i := 207) rfl) rfl
theorem tw_1762 : (Jvm.Cond.code ({ cls := "TwoSeasModel", name := "write", desc := "(III)I" } : Jvm.MethodName) prog_14_method_16_code (6 : Nat) (Option.some Jvm.ClassFile.FieldType.int)) ∈ tq_W := tq_t7 (List.mem_of_getElem? (i := 208) rfl) rfl
theorem tw_1763 : (Jvm.Cond.methodLink "TwoSeasLaw" (60 : Nat) ({ cls := "TwoSeasModel", name := "letter", desc := "(II)I" } : Jvm.MethodName)) ∈ tq_W := tq_t7 (List.mem_of_getElem? (i := 209) rfl) rfl
theorem tw_1764 : (Jvm.Cond.instanceMethod ({ cls := "TwoSeasModel", name := "letter", desc := "(II)I" } : Jvm.MethodName)) ∈ tq_W := tq_t7 (List.mem_of_getElem? (i := 210) rfl) rfl
theorem tw_1765 : (Jvm.Cond.selects "TwoSeasModel" ({ cls := "TwoSeasModel", name := "letter", desc := "(II)I" } : Jvm.MethodName) ({ cls := "TwoSeasModel", name := "letter", desc := "(II)I" } : Jvm.MethodName)) ∈ tq_W := tq_t7 (List.mem_of_getElem? (i := 211) rfl) rfl
theorem tw_1766 : (Jvm.Cond.code ({ cls := "TwoSeasModel", name := "letter", desc := "(II)I" } : Jvm.MethodName) prog_14_method_29_code (5 : Nat) (Option.some Jvm.ClassFile.FieldType.int)) ∈ tq_W := tq_t7 (List.mem_of_getElem? (i := 212) rfl) rfl
theorem tw_1767 : (Jvm.Cond.methodLink "TwoSeasLaw" (64 : Nat) ({ cls := "TwoSeasModel", name := "copy", desc := "(II)I" } : Jvm.MethodName)) ∈ tq_W := tq_t7 (List.mem_of_getElem? (i := 213) rfl) rfl
theorem tw_1768 : (Jvm.Cond.instanceMethod ({ cls := "TwoSeasModel", name := "copy", desc := "(II)I" } : Jvm.MethodName)) ∈ tq_W := tq_t7 (List.mem_of_getElem? (i := 214) rfl) rfl
theorem tw_1769 : (Jvm.Cond.selects "TwoSeasModel" ({ cls := "TwoSeasModel", name := "copy", desc := "(II)I" } : Jvm.MethodName) ({ cls := "TwoSeasModel", name := "copy", desc := "(II)I" } : Jvm.MethodName)) ∈ tq_W := tq_t7 (List.mem_of_getElem? (i := 215) rfl) rfl
theorem tw_1770 : (Jvm.Cond.code ({ cls := "TwoSeasModel", name := "copy", desc := "(II)I" } : Jvm.MethodName) prog_14_method_31_code (3 : Nat) (Option.some Jvm.ClassFile.FieldType.int)) ∈ tq_W := tq_t7 (List.mem_of_getElem? (i := 216) rfl) rfl
theorem tw_1771 : (Jvm.Cond.methodLink "TwoSeasModel" (327 : Nat) ({ cls := "TwoSeasModel", name := "isPaper", desc := "(I)Z" } : Jvm.MethodName)) ∈ tq_W := tq_t7 (List.mem_of_getElem? (i := 217) rfl) rfl
theorem tw_1773 : (Jvm.Cond.instanceMethod ({ cls := "TwoSeasModel", name := "isPaper", desc := "(I)Z" } : Jvm.MethodName)) ∈ tq_W := tq_t7 (List.mem_of_getElem? (i := 219) rfl) rfl
theorem tw_1774 : (Jvm.Cond.code ({ cls := "TwoSeasModel", name := "isPaper", desc := "(I)Z" } : Jvm.MethodName) prog_14_method_15_code (2 : Nat) (Option.some Jvm.ClassFile.FieldType.boolean)) ∈ tq_W := tq_t7 (List.mem_of_getElem? (i := 220) rfl) rfl
theorem tw_1775 : (Jvm.Cond.methodLink "TwoSeasModel" (330 : Nat) ({ cls := "TwoSeasModel", name := "isShip", desc := "(I)Z" } : Jvm.MethodName)) ∈ tq_W := tq_t7 (List.mem_of_getElem? (i := 221) rfl) rfl
theorem tw_1777 : (Jvm.Cond.instanceMethod ({ cls := "TwoSeasModel", name := "isShip", desc := "(I)Z" } : Jvm.MethodName)) ∈ tq_W := tq_t7 (List.mem_of_getElem? (i := 223) rfl) rfl
theorem tw_1778 : (Jvm.Cond.code ({ cls := "TwoSeasModel", name := "isShip", desc := "(I)Z" } : Jvm.MethodName) prog_14_method_30_code (2 : Nat) (Option.some Jvm.ClassFile.FieldType.boolean)) ∈ tq_W := tq_t7 (List.mem_of_getElem? (i := 224) rfl) rfl
theorem tw_1779 : (Jvm.Cond.methodLink "TwoSeasLaw" (68 : Nat) ({ cls := "TwoSeasModel", name := "known", desc := "(II)I" } : Jvm.MethodName)) ∈ tq_W := tq_t7 (List.mem_of_getElem? (i := 225) rfl) rfl
theorem tw_1780 : (Jvm.Cond.instanceMethod ({ cls := "TwoSeasModel", name := "known", desc := "(II)I" } : Jvm.MethodName)) ∈ tq_W := tq_t7 (List.mem_of_getElem? (i := 226) rfl) rfl
theorem tw_1781 : (Jvm.Cond.selects "TwoSeasModel" ({ cls := "TwoSeasModel", name := "known", desc := "(II)I" } : Jvm.MethodName) ({ cls := "TwoSeasModel", name := "known", desc := "(II)I" } : Jvm.MethodName)) ∈ tq_W := tq_t7 (List.mem_of_getElem? (i := 227) rfl) rfl
theorem tw_1782 : (Jvm.Cond.code ({ cls := "TwoSeasModel", name := "known", desc := "(II)I" } : Jvm.MethodName) prog_14_method_32_code (3 : Nat) (Option.some Jvm.ClassFile.FieldType.int)) ∈ tq_W := tq_t7 (List.mem_of_getElem? (i := 228) rfl) rfl
theorem tw_1783 : (Jvm.Cond.methodLink "TwoSeasLaw" (72 : Nat) ({ cls := "TwoSeasModel", name := "paper", desc := "(II)I" } : Jvm.MethodName)) ∈ tq_W := tq_t7 (List.mem_of_getElem? (i := 229) rfl) rfl
theorem tw_1784 : (Jvm.Cond.instanceMethod ({ cls := "TwoSeasModel", name := "paper", desc := "(II)I" } : Jvm.MethodName)) ∈ tq_W := tq_t7 (List.mem_of_getElem? (i := 230) rfl) rfl
theorem tw_1785 : (Jvm.Cond.selects "TwoSeasModel" ({ cls := "TwoSeasModel", name := "paper", desc := "(II)I" } : Jvm.MethodName) ({ cls := "TwoSeasModel", name := "paper", desc := "(II)I" } : Jvm.MethodName)) ∈ tq_W := tq_t7 (List.mem_of_getElem? (i := 231) rfl) rfl
theorem tw_1786 : (Jvm.Cond.code ({ cls := "TwoSeasModel", name := "paper", desc := "(II)I" } : Jvm.MethodName) prog_14_method_33_code (3 : Nat) (Option.some Jvm.ClassFile.FieldType.int)) ∈ tq_W := tq_t7 (List.mem_of_getElem? (i := 232) rfl) rfl
theorem tw_1787 : (Jvm.Cond.methodLink "TwoSeasLaw" (76 : Nat) ({ cls := "TwoSeasModel", name := "force", desc := "(I)I" } : Jvm.MethodName)) ∈ tq_W := tq_t7 (List.mem_of_getElem? (i := 233) rfl) rfl
theorem tw_1788 : (Jvm.Cond.instanceMethod ({ cls := "TwoSeasModel", name := "force", desc := "(I)I" } : Jvm.MethodName)) ∈ tq_W := tq_t7 (List.mem_of_getElem? (i := 234) rfl) rfl
theorem tw_1789 : (Jvm.Cond.selects "TwoSeasModel" ({ cls := "TwoSeasModel", name := "force", desc := "(I)I" } : Jvm.MethodName) ({ cls := "TwoSeasModel", name := "force", desc := "(I)I" } : Jvm.MethodName)) ∈ tq_W := tq_t7 (List.mem_of_getElem? (i := 235) rfl) rfl
theorem tw_1790 : (Jvm.Cond.code ({ cls := "TwoSeasModel", name := "force", desc := "(I)I" } : Jvm.MethodName) prog_14_method_41_code (2 : Nat) (Option.some Jvm.ClassFile.FieldType.int)) ∈ tq_W := tq_t7 (List.mem_of_getElem? (i := 236) rfl) rfl
theorem tw_1791 : (Jvm.Cond.methodLink "TwoSeasModel" (352 : Nat) ({ cls := "TwoSeasModel", name := "gather", desc := "(I)I" } : Jvm.MethodName)) ∈ tq_W := tq_t7 (List.mem_of_getElem? (i := 237) rfl) rfl
theorem tw_1793 : (Jvm.Cond.instanceMethod ({ cls := "TwoSeasModel", name := "gather", desc := "(I)I" } : Jvm.MethodName)) ∈ tq_W := tq_t7 (List.mem_of_getElem? (i := 239) rfl) rfl
theorem tw_1794 : (Jvm.Cond.code ({ cls := "TwoSeasModel", name := "gather", desc := "(I)I" } : Jvm.MethodName) prog_14_method_40_code (5 : Nat) (Option.some Jvm.ClassFile.FieldType.int)) ∈ tq_W := tq_t8 (List.mem_of_getElem? (i := 0) rfl) rfl
theorem tw_1795 : (Jvm.Cond.methodLink "TwoSeasModel" (346 : Nat) ({ cls := "TwoSeasModel", name := "nextOrder", desc := "(II)I" } : Jvm.MethodName)) ∈ tq_W := tq_t8 (List.mem_of_getElem? (i := 1) rfl) rfl
theorem tw_1797 : (Jvm.Cond.instanceMethod ({ cls := "TwoSeasModel", name := "nextOrder", desc := "(II)I" } : Jvm.MethodName)) ∈ tq_W := tq_t8 (List.mem_of_getElem? (i := 3) rfl) rfl
theorem tw_1798 : (Jvm.Cond.code ({ cls := "TwoSeasModel", name := "nextOrder", desc := "(II)I" } : Jvm.MethodName) prog_14_method_39_code (5 : Nat) (Option.some Jvm.ClassFile.FieldType.int)) ∈ tq_W := tq_t8 (List.mem_of_getElem? (i := 4) rfl) rfl
theorem tw_1799 : (Jvm.Cond.methodLink "TwoSeasModel" (337 : Nat) ({ cls := "TwoSeasModel", name := "known", desc := "(III)Z" } : Jvm.MethodName)) ∈ tq_W := tq_t8 (List.mem_of_getElem? (i := 5) rfl) rfl
theorem tw_1801 : (Jvm.Cond.instanceMethod ({ cls := "TwoSeasModel", name := "known", desc := "(III)Z" } : Jvm.MethodName)) ∈ tq_W := tq_t8 (List.mem_of_getElem? (i := 7) rfl) rfl
theorem tw_1802 : (Jvm.Cond.code ({ cls := "TwoSeasModel", name := "known", desc := "(III)Z" } : Jvm.MethodName) prog_14_method_34_code (4 : Nat) (Option.some Jvm.ClassFile.FieldType.boolean)) ∈ tq_W := tq_t8 (List.mem_of_getElem? (i := 8) rfl) rfl
theorem tw_1803 : (Jvm.Cond.methodLink "TwoSeasModel" (340 : Nat) ({ cls := "TwoSeasModel", name := "ahead", desc := "(III)Z" } : Jvm.MethodName)) ∈ tq_W := tq_t8 (List.mem_of_getElem? (i := 9) rfl) rfl
theorem tw_1805 : (Jvm.Cond.instanceMethod ({ cls := "TwoSeasModel", name := "ahead", desc := "(III)Z" } : Jvm.MethodName)) ∈ tq_W := tq_t8 (List.mem_of_getElem? (i := 11) rfl) rfl
theorem tw_1806 : (Jvm.Cond.code ({ cls := "TwoSeasModel", name := "ahead", desc := "(III)Z" } : Jvm.MethodName) prog_14_method_35_code (4 : Nat) (Option.some Jvm.ClassFile.FieldType.boolean)) ∈ tq_W := tq_t8 (List.mem_of_getElem? (i := 12) rfl) rfl
theorem tw_1807 : (Jvm.Cond.methodLink "TwoSeasModel" (349 : Nat) ({ cls := "TwoSeasModel", name := "standing", desc := "(III)Z" } : Jvm.MethodName)) ∈ tq_W := tq_t8 (List.mem_of_getElem? (i := 13) rfl) rfl
theorem tw_1809 : (Jvm.Cond.instanceMethod ({ cls := "TwoSeasModel", name := "standing", desc := "(III)Z" } : Jvm.MethodName)) ∈ tq_W := tq_t8 (List.mem_of_getElem? (i := 15) rfl) rfl
theorem tw_1810 : (Jvm.Cond.code ({ cls := "TwoSeasModel", name := "standing", desc := "(III)Z" } : Jvm.MethodName) prog_14_method_38_code (5 : Nat) (Option.some Jvm.ClassFile.FieldType.boolean)) ∈ tq_W := tq_t8 (List.mem_of_getElem? (i := 16) rfl) rfl
theorem tw_1811 : (Jvm.Cond.methodLink "TwoSeasModel" (343 : Nat) ({ cls := "TwoSeasModel", name := "hasAct", desc := "(III)Z" } : Jvm.MethodName)) ∈ tq_W := tq_t8 (List.mem_of_getElem? (i := 17) rfl) rfl
theorem tw_1813 : (Jvm.Cond.instanceMethod ({ cls := "TwoSeasModel", name := "hasAct", desc := "(III)Z" } : Jvm.MethodName)) ∈ tq_W := tq_t8 (List.mem_of_getElem? (i := 19) rfl) rfl
theorem tw_1814 : (Jvm.Cond.code ({ cls := "TwoSeasModel", name := "hasAct", desc := "(III)Z" } : Jvm.MethodName) prog_14_method_37_code (5 : Nat) (Option.some Jvm.ClassFile.FieldType.boolean)) ∈ tq_W := tq_t8 (List.mem_of_getElem? (i := 20) rfl) rfl
theorem tw_1815 : (Jvm.Cond.methodLink "TwoSeasModel" (333 : Nat) ({ cls := "TwoSeasModel", name := "sameAct", desc := "(IIII)Z" } : Jvm.MethodName)) ∈ tq_W := tq_t8 (List.mem_of_getElem? (i := 21) rfl) rfl
theorem tw_1817 : (Jvm.Cond.instanceMethod ({ cls := "TwoSeasModel", name := "sameAct", desc := "(IIII)Z" } : Jvm.MethodName)) ∈ tq_W := tq_t8 (List.mem_of_getElem? (i := 23) rfl) rfl
theorem tw_1818 : (Jvm.Cond.code ({ cls := "TwoSeasModel", name := "sameAct", desc := "(IIII)Z" } : Jvm.MethodName) prog_14_method_36_code (5 : Nat) (Option.some Jvm.ClassFile.FieldType.boolean)) ∈ tq_W := tq_t8 (List.mem_of_getElem? (i := 24) rfl) rfl
theorem tw_1819 : (Jvm.Cond.methodLink "TwoSeasLaw" (80 : Nat) ({ cls := "TwoSeasModel", name := "forced", desc := "(II)I" } : Jvm.MethodName)) ∈ tq_W := tq_t8 (List.mem_of_getElem? (i := 25) rfl) rfl
theorem tw_1820 : (Jvm.Cond.instanceMethod ({ cls := "TwoSeasModel", name := "forced", desc := "(II)I" } : Jvm.MethodName)) ∈ tq_W := tq_t8 (List.mem_of_getElem? (i := 26) rfl) rfl
theorem tw_1821 : (Jvm.Cond.selects "TwoSeasModel" ({ cls := "TwoSeasModel", name := "forced", desc := "(II)I" } : Jvm.MethodName) ({ cls := "TwoSeasModel", name := "forced", desc := "(II)I" } : Jvm.MethodName)) ∈ tq_W := tq_t8 (List.mem_of_getElem? (i := 27) rfl) rfl
theorem tw_1822 : (Jvm.Cond.code ({ cls := "TwoSeasModel", name := "forced", desc := "(II)I" } : Jvm.MethodName) prog_14_method_42_code (4 : Nat) (Option.some Jvm.ClassFile.FieldType.int)) ∈ tq_W := tq_t8 (List.mem_of_getElem? (i := 28) rfl) rfl
theorem tw_1823 : (Jvm.Cond.methodLink "TwoSeasLaw" (84 : Nat) ({ cls := "TwoSeasModel", name := "holds", desc := "(II)I" } : Jvm.MethodName)) ∈ tq_W := tq_t8 (List.mem_of_getElem? (i := 29) rfl) rfl
theorem tw_1824 : (Jvm.Cond.instanceMethod ({ cls := "TwoSeasModel", name := "holds", desc := "(II)I" } : Jvm.MethodName)) ∈ tq_W := tq_t8 (List.mem_of_getElem? (i := 30) rfl) rfl
theorem tw_1825 : (Jvm.Cond.selects "TwoSeasModel" ({ cls := "TwoSeasModel", name := "holds", desc := "(II)I" } : Jvm.MethodName) ({ cls := "TwoSeasModel", name := "holds", desc := "(II)I" } : Jvm.MethodName)) ∈ tq_W := tq_t8 (List.mem_of_getElem? (i := 31) rfl) rfl
theorem tw_1826 : (Jvm.Cond.code ({ cls := "TwoSeasModel", name := "holds", desc := "(II)I" } : Jvm.MethodName) prog_14_method_46_code (4 : Nat) (Option.some Jvm.ClassFile.FieldType.int)) ∈ tq_W := tq_t8 (List.mem_of_getElem? (i := 32) rfl) rfl
theorem tw_1827 : (Jvm.Cond.methodLink "TwoSeasModel" (362 : Nat) ({ cls := "TwoSeasModel", name := "forced", desc := "(II)I" } : Jvm.MethodName)) ∈ tq_W := tq_t8 (List.mem_of_getElem? (i := 33) rfl) rfl
theorem tw_1828 : (Jvm.Cond.methodLink "TwoSeasModel" (365 : Nat) ({ cls := "TwoSeasModel", name := "hold", desc := "(III)Z" } : Jvm.MethodName)) ∈ tq_W := tq_t8 (List.mem_of_getElem? (i := 34) rfl) rfl
theorem tw_1830 : (Jvm.Cond.instanceMethod ({ cls := "TwoSeasModel", name := "hold", desc := "(III)Z" } : Jvm.MethodName)) ∈ tq_W := tq_t8 (List.mem_of_getElem? (i := 36) rfl) rfl
theorem tw_1831 : (Jvm.Cond.code ({ cls := "TwoSeasModel", name := "hold", desc := "(III)Z" } : Jvm.MethodName) prog_14_method_45_code (8 : Nat) (Option.some Jvm.ClassFile.FieldType.boolean)) ∈ tq_W := tq_t8 (List.mem_of_getElem? (i := 37) rfl) rfl
theorem tw_1832 : (Jvm.Cond.methodLink "TwoSeasModel" (359 : Nat) ({ cls := "TwoSeasModel", name := "one", desc := "(III)Z" } : Jvm.MethodName)) ∈ tq_W := tq_t8 (List.mem_of_getElem? (i := 38) rfl) rfl
theorem tw_1834 : (Jvm.Cond.instanceMethod ({ cls := "TwoSeasModel", name := "one", desc := "(III)Z" } : Jvm.MethodName)) ∈ tq_W := tq_t8 (List.mem_of_getElem? (i := 40) rfl) rfl
theorem tw_1835 : (Jvm.Cond.code ({ cls := "TwoSeasModel", name := "one", desc := "(III)Z" } : Jvm.MethodName) prog_14_method_44_code (7 : Nat) (Option.some Jvm.ClassFile.FieldType.boolean)) ∈ tq_W := tq_t8 (List.mem_of_getElem? (i := 41) rfl) rfl
theorem tw_1836 : (Jvm.Cond.methodLink "TwoSeasModel" (356 : Nat) ({ cls := "TwoSeasModel", name := "fieldOf", desc := "(III)I" } : Jvm.MethodName)) ∈ tq_W := tq_t8 (List.mem_of_getElem? (i := 42) rfl) rfl
theorem tw_1838 : (Jvm.Cond.instanceMethod ({ cls := "TwoSeasModel", name := "fieldOf", desc := "(III)I" } : Jvm.MethodName)) ∈ tq_W := tq_t8 (List.mem_of_getElem? (i := 44) rfl) rfl
theorem tw_1839 : (Jvm.Cond.code ({ cls := "TwoSeasModel", name := "fieldOf", desc := "(III)I" } : Jvm.MethodName) prog_14_method_43_code (6 : Nat) (Option.some Jvm.ClassFile.FieldType.int)) ∈ tq_W := tq_t8 (List.mem_of_getElem? (i := 45) rfl) rfl
theorem tw_1840 : (Jvm.Cond.methodLink "TwoSeasLaw" (88 : Nat) ({ cls := "TwoSeasModel", name := "ship", desc := "(II)I" } : Jvm.MethodName)) ∈ tq_W := tq_t8 (List.mem_of_getElem? (i := 46) rfl) rfl
theorem tw_1841 : (Jvm.Cond.instanceMethod ({ cls := "TwoSeasModel", name := "ship", desc := "(II)I" } : Jvm.MethodName)) ∈ tq_W := tq_t8 (List.mem_of_getElem? (i := 47) rfl) rfl
theorem tw_1842 : (Jvm.Cond.selects "TwoSeasModel" ({ cls := "TwoSeasModel", name := "ship", desc := "(II)I" } : Jvm.MethodName) ({ cls := "TwoSeasModel", name := "ship", desc := "(II)I" } : Jvm.MethodName)) ∈ tq_W := tq_t8 (List.mem_of_getElem? (i := 48) rfl) rfl
theorem tw_1843 : (Jvm.Cond.code ({ cls := "TwoSeasModel", name := "ship", desc := "(II)I" } : Jvm.MethodName) prog_14_method_47_code (3 : Nat) (Option.some Jvm.ClassFile.FieldType.int)) ∈ tq_W := tq_t8 (List.mem_of_getElem? (i := 49) rfl) rfl
theorem tw_1844 : (Jvm.Cond.methodLink "TwoSeasLaw" (93 : Nat) ({ cls := "TwoSeasModel", name := "take", desc := "()I" } : Jvm.MethodName)) ∈ tq_W := tq_t8 (List.mem_of_getElem? (i := 50) rfl) rfl
theorem tw_1845 : (Jvm.Cond.instanceMethod ({ cls := "TwoSeasModel", name := "take", desc := "()I" } : Jvm.MethodName)) ∈ tq_W := tq_t8 (List.mem_of_getElem? (i := 51) rfl) rfl
theorem tw_1846 : (Jvm.Cond.selects "TwoSeasModel" ({ cls := "TwoSeasModel", name := "take", desc := "()I" } : Jvm.MethodName) ({ cls := "TwoSeasModel", name := "take", desc := "()I" } : Jvm.MethodName)) ∈ tq_W := tq_t8 (List.mem_of_getElem? (i := 52) rfl) rfl
theorem tw_1847 : (Jvm.Cond.code ({ cls := "TwoSeasModel", name := "take", desc := "()I" } : Jvm.MethodName) prog_14_method_48_code (3 : Nat) (Option.some Jvm.ClassFile.FieldType.int)) ∈ tq_W := tq_t8 (List.mem_of_getElem? (i := 53) rfl) rfl
theorem tw_1848 : (Jvm.Cond.methodLink "TwoSeasLaw" (97 : Nat) ({ cls := "TwoSeasModel", name := "load", desc := "(II)I" } : Jvm.MethodName)) ∈ tq_W := tq_t8 (List.mem_of_getElem? (i := 54) rfl) rfl
theorem tw_1849 : (Jvm.Cond.instanceMethod ({ cls := "TwoSeasModel", name := "load", desc := "(II)I" } : Jvm.MethodName)) ∈ tq_W := tq_t8 (List.mem_of_getElem? (i := 55) rfl) rfl
theorem tw_1850 : (Jvm.Cond.selects "TwoSeasModel" ({ cls := "TwoSeasModel", name := "load", desc := "(II)I" } : Jvm.MethodName) ({ cls := "TwoSeasModel", name := "load", desc := "(II)I" } : Jvm.MethodName)) ∈ tq_W := tq_t8 (List.mem_of_getElem? (i := 56) rfl) rfl
theorem tw_1851 : (Jvm.Cond.code ({ cls := "TwoSeasModel", name := "load", desc := "(II)I" } : Jvm.MethodName) prog_14_method_49_code (6 : Nat) (Option.some Jvm.ClassFile.FieldType.int)) ∈ tq_W := tq_t8 (List.mem_of_getElem? (i := 57) rfl) rfl
theorem tw_1852 : (Jvm.Cond.constantLong "TwoSeasModel" (368 : Nat) (100000000 : Int64)) ∈ tq_W := tq_t8 (List.mem_of_getElem? (i := 58) rfl) rfl
theorem tw_1853 : (Jvm.Cond.methodLink "TwoSeasLaw" (101 : Nat) ({ cls := "TwoSeasModel", name := "stow", desc := "(III)I" } : Jvm.MethodName)) ∈ tq_W := tq_t8 (List.mem_of_getElem? (i := 59) rfl) rfl
theorem tw_1854 : (Jvm.Cond.instanceMethod ({ cls := "TwoSeasModel", name := "stow", desc := "(III)I" } : Jvm.MethodName)) ∈ tq_W := tq_t8 (List.mem_of_getElem? (i := 60) rfl) rfl
theorem tw_1855 : (Jvm.Cond.selects "TwoSeasModel" ({ cls := "TwoSeasModel", name := "stow", desc := "(III)I" } : Jvm.MethodName) ({ cls := "TwoSeasModel", name := "stow", desc := "(III)I" } : Jvm.MethodName)) ∈ tq_W := tq_t8 (List.mem_of_getElem? (i := 61) rfl) rfl
theorem tw_1856 : (Jvm.Cond.code ({ cls := "TwoSeasModel", name := "stow", desc := "(III)I" } : Jvm.MethodName) prog_14_method_53_code (4 : Nat) (Option.some Jvm.ClassFile.FieldType.int)) ∈ tq_W := tq_t8 (List.mem_of_getElem? (i := 62) rfl) rfl
theorem tw_1857 : (Jvm.Cond.methodLink "TwoSeasModel" (376 : Nat) ({ cls := "TwoSeasModel", name := "free", desc := "(I)I" } : Jvm.MethodName)) ∈ tq_W := tq_t8 (List.mem_of_getElem? (i := 63) rfl) rfl
theorem tw_1859 : (Jvm.Cond.instanceMethod ({ cls := "TwoSeasModel", name := "free", desc := "(I)I" } : Jvm.MethodName)) ∈ tq_W := tq_t8 (List.mem_of_getElem? (i := 65) rfl) rfl
theorem tw_1860 : (Jvm.Cond.code ({ cls := "TwoSeasModel", name := "free", desc := "(I)I" } : Jvm.MethodName) prog_14_method_52_code (2 : Nat) (Option.some Jvm.ClassFile.FieldType.int)) ∈ tq_W := tq_t8 (List.mem_of_getElem? (i := 66) rfl) rfl
theorem tw_1861 : (Jvm.Cond.methodLink "TwoSeasModel" (370 : Nat) ({ cls := "TwoSeasModel", name := "balesOn", desc := "(I)I" } : Jvm.MethodName)) ∈ tq_W := tq_t8 (List.mem_of_getElem? (i := 67) rfl) rfl
theorem tw_1863 : (Jvm.Cond.instanceMethod ({ cls := "TwoSeasModel", name := "balesOn", desc := "(I)I" } : Jvm.MethodName)) ∈ tq_W := tq_t8 (List.mem_of_getElem? (i := 69) rfl) rfl
theorem tw_1864 : (Jvm.Cond.code ({ cls := "TwoSeasModel", name := "balesOn", desc := "(I)I" } : Jvm.MethodName) prog_14_method_50_code (4 : Nat) (Option.some Jvm.ClassFile.FieldType.int)) ∈ tq_W := tq_t8 (List.mem_of_getElem? (i := 70) rfl) rfl
theorem tw_1865 : (Jvm.Cond.methodLink "TwoSeasModel" (373 : Nat) ({ cls := "TwoSeasModel", name := "ownOn", desc := "(I)I" } : Jvm.MethodName)) ∈ tq_W := tq_t8 (List.mem_of_getElem? (i := 71) rfl) rfl
theorem tw_1867 : (Jvm.Cond.instanceMethod ({ cls := "TwoSeasModel", name := "ownOn", desc := "(I)I" } : Jvm.MethodName)) ∈ tq_W := tq_t8 (List.mem_of_getElem? (i := 73) rfl) rfl
theorem tw_1868 : (Jvm.Cond.code ({ cls := "TwoSeasModel", name := "ownOn", desc := "(I)I" } : Jvm.MethodName) prog_14_method_51_code (4 : Nat) (Option.some Jvm.ClassFile.FieldType.int)) ∈ tq_W := tq_t8 (List.mem_of_getElem? (i := 74) rfl) rfl
theorem tw_1869 : (Jvm.Cond.methodLink "TwoSeasLaw" (105 : Nat) ({ cls := "TwoSeasModel", name := "sail", desc := "(II)I" } : Jvm.MethodName)) ∈ tq_W := tq_t8 (List.mem_of_getElem? (i := 75) rfl) rfl
theorem tw_1870 : (Jvm.Cond.instanceMethod ({ cls := "TwoSeasModel", name := "sail", desc := "(II)I" } : Jvm.MethodName)) ∈ tq_W := tq_t8 (List.mem_of_getElem? (i := 76) rfl) rfl
theorem tw_1871 : (Jvm.Cond.selects "TwoSeasModel" ({ cls := "TwoSeasModel", name := "sail", desc := "(II)I" } : Jvm.MethodName) ({ cls := "TwoSeasModel", name := "sail", desc := "(II)I" } : Jvm.MethodName)) ∈ tq_W := tq_t8 (List.mem_of_getElem? (i := 77) rfl) rfl
theorem tw_1872 : (Jvm.Cond.code ({ cls := "TwoSeasModel", name := "sail", desc := "(II)I" } : Jvm.MethodName) prog_14_method_55_code (3 : Nat) (Option.some Jvm.ClassFile.FieldType.int)) ∈ tq_W := tq_t8 (List.mem_of_getElem? (i := 78) rfl) rfl
theorem tw_1873 : (Jvm.Cond.methodLink "TwoSeasModel" (382 : Nat) ({ cls := "TwoSeasModel", name := "leave", desc := "(II)I" } : Jvm.MethodName)) ∈ tq_W := tq_t8 (List.mem_of_getElem? (i := 79) rfl) rfl
theorem tw_1875 : (Jvm.Cond.instanceMethod ({ cls := "TwoSeasModel", name := "leave", desc := "(II)I" } : Jvm.MethodName)) ∈ tq_W := tq_t8 (List.mem_of_getElem? (i := 81) rfl) rfl
theorem tw_1876 : (Jvm.Cond.code ({ cls := "TwoSeasModel", name := "leave", desc := "(II)I" } : Jvm.MethodName) prog_14_method_54_code (7 : Nat) (Option.some Jvm.ClassFile.FieldType.int)) ∈ tq_W := tq_t8 (List.mem_of_getElem? (i := 82) rfl) rfl
theorem tw_1877 : (Jvm.Cond.methodLink "TwoSeasLaw" (109 : Nat) ({ cls := "TwoSeasModel", name := "lose", desc := "(I)I" } : Jvm.MethodName)) ∈ tq_W := tq_t8 (List.mem_of_getElem? (i := 83) rfl) rfl
theorem tw_1878 : (Jvm.Cond.instanceMethod ({ cls := "TwoSeasModel", name := "lose", desc := "(I)I" } : Jvm.MethodName)) ∈ tq_W := tq_t8 (List.mem_of_getElem? (i := 84) rfl) rfl
theorem tw_1879 : (Jvm.Cond.selects "TwoSeasModel" ({ cls := "TwoSeasModel", name := "lose", desc := "(I)I" } : Jvm.MethodName) ({ cls := "TwoSeasModel", name := "lose", desc := "(I)I" } : Jvm.MethodName)) ∈ tq_W := tq_t8 (List.mem_of_getElem? (i := 85) rfl) rfl
theorem tw_1880 : (Jvm.Cond.code ({ cls := "TwoSeasModel", name := "lose", desc := "(I)I" } : Jvm.MethodName) prog_14_method_57_code (2 : Nat) (Option.some Jvm.ClassFile.FieldType.int)) ∈ tq_W := tq_t8 (List.mem_of_getElem? (i := 86) rfl) rfl
theorem tw_1881 : (Jvm.Cond.methodLink "TwoSeasModel" (385 : Nat) ({ cls := "TwoSeasModel", name := "isVoyage", desc := "(I)Z" } : Jvm.MethodName)) ∈ tq_W := tq_t8 (List.mem_of_getElem? (i := 87) rfl) rfl
theorem tw_1883 : (Jvm.Cond.instanceMethod ({ cls := "TwoSeasModel", name := "isVoyage", desc := "(I)Z" } : Jvm.MethodName)) ∈ tq_W := tq_t8 (List.mem_of_getElem? (i := 89) rfl) rfl
theorem tw_1884 : (Jvm.Cond.code ({ cls := "TwoSeasModel", name := "isVoyage", desc := "(I)Z" } : Jvm.MethodName) prog_14_method_56_code (2 : Nat) (Option.some Jvm.ClassFile.FieldType.boolean)) ∈ tq_W := tq_t8 (List.mem_of_getElem? (i := 90) rfl) rfl
theorem tw_1885 : (Jvm.Cond.methodLink "TwoSeasLaw" (113 : Nat) ({ cls := "TwoSeasModel", name := "shipOf", desc := "(II)I" } : Jvm.MethodName)) ∈ tq_W := tq_t8 (List.mem_of_getElem? (i := 91) rfl) rfl
theorem tw_1886 : (Jvm.Cond.instanceMethod ({ cls := "TwoSeasModel", name := "shipOf", desc := "(II)I" } : Jvm.MethodName)) ∈ tq_W := tq_t8 (List.mem_of_getElem? (i := 92) rfl) rfl
theorem tw_1887 : (Jvm.Cond.selects "TwoSeasModel" ({ cls := "TwoSeasModel", name := "shipOf", desc := "(II)I" } : Jvm.MethodName) ({ cls := "TwoSeasModel", name := "shipOf", desc := "(II)I" } : Jvm.MethodName)) ∈ tq_W := tq_t8 (List.mem_of_getElem? (i := 93) rfl) rfl
theorem tw_1888 : (Jvm.Cond.code ({ cls := "TwoSeasModel", name := "shipOf", desc := "(II)I" } : Jvm.MethodName) prog_14_method_58_code (5 : Nat) (Option.some Jvm.ClassFile.FieldType.int)) ∈ tq_W := tq_t8 (List.mem_of_getElem? (i := 94) rfl) rfl
theorem tw_1889 : (Jvm.Cond.methodLink "TwoSeasLaw" (117 : Nat) ({ cls := "TwoSeasModel", name := "voyage", desc := "(II)I" } : Jvm.MethodName)) ∈ tq_W := tq_t8 (List.mem_of_getElem? (i := 95) rfl) rfl
theorem tw_1890 : (Jvm.Cond.instanceMethod ({ cls := "TwoSeasModel", name := "voyage", desc := "(II)I" } : Jvm.MethodName)) ∈ tq_W := tq_t8 (List.mem_of_getElem? (i := 96) rfl) rfl
theorem tw_1891 : (Jvm.Cond.selects "TwoSeasModel" ({ cls := "TwoSeasModel", name := "voyage", desc := "(II)I" } : Jvm.MethodName) ({ cls := "TwoSeasModel", name := "voyage", desc := "(II)I" } : Jvm.MethodName)) ∈ tq_W := tq_t8 (List.mem_of_getElem? (i := 97) rfl) rfl
theorem tw_1892 : (Jvm.Cond.code ({ cls := "TwoSeasModel", name := "voyage", desc := "(II)I" } : Jvm.MethodName) prog_14_method_60_code (3 : Nat) (Option.some Jvm.ClassFile.FieldType.int)) ∈ tq_W := tq_t8 (List.mem_of_getElem? (i := 98) rfl) rfl
theorem tw_1893 : (Jvm.Cond.methodLink "TwoSeasModel" (388 : Nat) ({ cls := "TwoSeasModel", name := "joins", desc := "(I)I" } : Jvm.MethodName)) ∈ tq_W := tq_t8 (List.mem_of_getElem? (i := 99) rfl) rfl
theorem tw_1895 : (Jvm.Cond.instanceMethod ({ cls := "TwoSeasModel", name := "joins", desc := "(I)I" } : Jvm.MethodName)) ∈ tq_W := tq_t8 (List.mem_of_getElem? (i := 101) rfl) rfl
theorem tw_1896 : (Jvm.Cond.code ({ cls := "TwoSeasModel", name := "joins", desc := "(I)I" } : Jvm.MethodName) prog_14_method_59_code (3 : Nat) (Option.some Jvm.ClassFile.FieldType.int)) ∈ tq_W := tq_t8 (List.mem_of_getElem? (i := 102) rfl) rfl
theorem tw_1897 : (Jvm.Cond.methodLink "TwoSeasLaw" (121 : Nat) ({ cls := "TwoSeasModel", name := "recount", desc := "(III)I" } : Jvm.MethodName)) ∈ tq_W := tq_t8 (List.mem_of_getElem? (i := 103) rfl) rfl
theorem tw_1898 : (Jvm.Cond.instanceMethod ({ cls := "TwoSeasModel", name := "recount", desc := "(III)I" } : Jvm.MethodName)) ∈ tq_W := tq_t8 (List.mem_of_getElem? (i := 104) rfl) rfl
theorem tw_1899 : (Jvm.Cond.selects "TwoSeasModel" ({ cls := "TwoSeasModel", name := "recount", desc := "(III)I" } : Jvm.MethodName) ({ cls := "TwoSeasModel", name := "recount", desc := "(III)I" } : Jvm.MethodName)) ∈ tq_W := tq_t8 (List.mem_of_getElem? (i := 105) rfl) rfl
theorem tw_1900 : (Jvm.Cond.code ({ cls := "TwoSeasModel", name := "recount", desc := "(III)I" } : Jvm.MethodName) prog_14_method_61_code (5 : Nat) (Option.some Jvm.ClassFile.FieldType.int)) ∈ tq_W := tq_t8 (List.mem_of_getElem? (i := 106) rfl) rfl
theorem tw_1901 : (Jvm.Cond.methodLink "TwoSeasLaw" (133 : Nat) ({ cls := "TwoSeasModel", name := "open", desc := "(II)I" } : Jvm.MethodName)) ∈ tq_W := tq_t8 (List.mem_of_getElem? (i := 107) rfl) rfl
theorem tw_1902 : (Jvm.Cond.instanceMethod ({ cls := "TwoSeasModel", name := "open", desc := "(II)I" } : Jvm.MethodName)) ∈ tq_W := tq_t8 (List.mem_of_getElem? (i := 108) rfl) rfl
theorem tw_1903 : (Jvm.Cond.selects "TwoSeasModel" ({ cls := "TwoSeasModel", name := "open", desc := "(II)I" } : Jvm.MethodName) ({ cls := "TwoSeasModel", name := "open", desc := "(II)I" } : Jvm.MethodName)) ∈ tq_W := tq_t8 (List.mem_of_getElem? (i := 109) rfl) rfl
theorem tw_1904 : (Jvm.Cond.code ({ cls := "TwoSeasModel", name := "open", desc := "(II)I" } : Jvm.MethodName) prog_14_method_72_code (3 : Nat) (Option.some Jvm.ClassFile.FieldType.int)) ∈ tq_W := tq_t8 (List.mem_of_getElem? (i := 110) rfl) rfl
theorem tw_1905 : (Jvm.Cond.methodLink "TwoSeasModel" (406 : Nat) ({ cls := "TwoSeasModel", name := "openOf", desc := "(II)I" } : Jvm.MethodName)) ∈ tq_W := tq_t8 (List.mem_of_getElem? (i := 111) rfl) rfl
theorem tw_1907 : (Jvm.Cond.instanceMethod ({ cls := "TwoSeasModel", name := "openOf", desc := "(II)I" } : Jvm.MethodName)) ∈ tq_W := tq_t8 (List.mem_of_getElem? (i := 113) rfl) rfl
theorem tw_1908 : (Jvm.Cond.code ({ cls := "TwoSeasModel", name := "openOf", desc := "(II)I" } : Jvm.MethodName) prog_14_method_69_code (5 : Nat) (Option.some Jvm.ClassFile.FieldType.int)) ∈ tq_W := tq_t8 (List.mem_of_getElem? (i := 114) rfl) rfl
theorem tw_1909 : (Jvm.Cond.methodLink "TwoSeasModel" (403 : Nat) ({ cls := "TwoSeasModel", name := "leftOf", desc := "(I)I" } : Jvm.MethodName)) ∈ tq_W := tq_t8 (List.mem_of_getElem? (i := 115) rfl) rfl
theorem tw_1911 : (Jvm.Cond.instanceMethod ({ cls := "TwoSeasModel", name := "leftOf", desc := "(I)I" } : Jvm.MethodName)) ∈ tq_W := tq_t8 (List.mem_of_getElem? (i := 117) rfl) rfl
theorem tw_1912 : (Jvm.Cond.code ({ cls := "TwoSeasModel", name := "leftOf", desc := "(I)I" } : Jvm.MethodName) prog_14_method_67_code (2 : Nat) (Option.some Jvm.ClassFile.FieldType.int)) ∈ tq_W := tq_t8 (List.mem_of_getElem? (i := 118) rfl) rfl
theorem tw_1913 : (Jvm.Cond.methodLink "TwoSeasLaw" (125 : Nat) ({ cls := "TwoSeasModel", name := "days", desc := "(I)I" } : Jvm.MethodName)) ∈ tq_W := tq_t8 (List.mem_of_getElem? (i := 119) rfl) rfl
theorem tw_1914 : (Jvm.Cond.instanceMethod ({ cls := "TwoSeasModel", name := "days", desc := "(I)I" } : Jvm.MethodName)) ∈ tq_W := tq_t8 (List.mem_of_getElem? (i := 120) rfl) rfl
theorem tw_1915 : (Jvm.Cond.selects "TwoSeasModel" ({ cls := "TwoSeasModel", name := "days", desc := "(I)I" } : Jvm.MethodName) ({ cls := "TwoSeasModel", name := "days", desc := "(I)I" } : Jvm.MethodName)) ∈ tq_W := tq_t8 (List.mem_of_getElem? (i := 121) rfl) rfl
theorem tw_1916 : (Jvm.Cond.code ({ cls := "TwoSeasModel", name := "days", desc := "(I)I" } : Jvm.MethodName) prog_14_method_82_code (3 : Nat) (Option.some Jvm.ClassFile.FieldType.int)) ∈ tq_W := tq_t8 (List.mem_of_getElem? (i := 122) rfl) rfl
theorem tw_1917 : (Jvm.Cond.methodLink "TwoSeasModel" (477 : Nat) ({ cls := "TwoSeasModel", name := "dayComes", desc := "()V" } : Jvm.MethodName)) ∈ tq_W := tq_t8 (List.mem_of_getElem? (i := 123) rfl) rfl
theorem tw_1919 : (Jvm.Cond.instanceMethod ({ cls := "TwoSeasModel", name := "dayComes", desc := "()V" } : Jvm.MethodName)) ∈ tq_W := tq_t8 (List.mem_of_getElem? (i := 125) rfl) rfl
theorem tw_1920 : (Jvm.Cond.code ({ cls := "TwoSeasModel", name := "dayComes", desc := "()V" } : Jvm.MethodName) prog_14_method_81_code (2 : Nat) (Option.none : Option Jvm.ClassFile.FieldType)) ∈ tq_W := tq_t8 (List.mem_of_getElem? (i := 126) rfl) rfl
theorem tw_1921 : (Jvm.Cond.methodLink "TwoSeasModel" (465 : Nat) ({ cls := "TwoSeasModel", name := "gone", desc := "(I)V" } : Jvm.MethodName)) ∈ tq_W := tq_t8 (List.mem_of_getElem? (i := 127) rfl) rfl
theorem tw_1923 : (Jvm.Cond.instanceMethod ({ cls := "TwoSeasModel", name := "gone", desc := "(I)V" } : Jvm.MethodName)) ∈ tq_W := tq_t8 (List.mem_of_getElem? (i := 129) rfl) rfl
theorem tw_1924 : (Jvm.Cond.code ({ cls := "TwoSeasModel", name := "gone", desc := "(I)V" } : Jvm.MethodName) prog_14_method_63_code (3 : Nat) (Option.none : Option Jvm.ClassFile.FieldType)) ∈ tq_W := tq_t8 (List.mem_of_getElem? (i := 130) rfl) rfl
theorem tw_1925 : (Jvm.Cond.methodLink "TwoSeasModel" (391 : Nat) ({ cls := "TwoSeasModel", name := "empty", desc := "(I)V" } : Jvm.MethodName)) ∈ tq_W := tq_t8 (List.mem_of_getElem? (i := 131) rfl) rfl
theorem tw_1927 : (Jvm.Cond.instanceMethod ({ cls := "TwoSeasModel", name := "empty", desc := "(I)V" } : Jvm.MethodName)) ∈ tq_W := tq_t8 (List.mem_of_getElem? (i := 133) rfl) rfl
theorem tw_1928 : (Jvm.Cond.code ({ cls := "TwoSeasModel", name := "empty", desc := "(I)V" } : Jvm.MethodName) prog_14_method_62_code (3 : Nat) (Option.none : Option Jvm.ClassFile.FieldType)) ∈ tq_W := tq_t8 (List.mem_of_getElem? (i := 134) rfl) rfl
theorem tw_1929 : (Jvm.Cond.methodLink "TwoSeasModel" (468 : Nat) ({ cls := "TwoSeasModel", name := "comes", desc := "(I)V" } : Jvm.MethodName)) ∈ tq_W := tq_t8 (List.mem_of_getElem? (i := 135) rfl) rfl
theorem tw_1931 : (Jvm.Cond.instanceMethod ({ cls := "TwoSeasModel", name := "comes", desc := "(I)V" } : Jvm.MethodName)) ∈ tq_W := tq_t8 (List.mem_of_getElem? (i := 137) rfl) rfl
theorem tw_1932 : (Jvm.Cond.code ({ cls := "TwoSeasModel", name := "comes", desc := "(I)V" } : Jvm.MethodName) prog_14_method_64_code (5 : Nat) (Option.none : Option Jvm.ClassFile.FieldType)) ∈ tq_W := tq_t8 (List.mem_of_getElem? (i := 138) rfl) rfl
theorem tw_1933 : (Jvm.Cond.methodLink "TwoSeasModel" (471 : Nat) ({ cls := "TwoSeasModel", name := "billsFallDue", desc := "()V" } : Jvm.MethodName)) ∈ tq_W := tq_t8 (List.mem_of_getElem? (i := 139) rfl) rfl
theorem tw_1935 : (Jvm.Cond.instanceMethod ({ cls := "TwoSeasModel", name := "billsFallDue", desc := "()V" } : Jvm.MethodName)) ∈ tq_W := tq_t8 (List.mem_of_getElem? (i := 141) rfl) rfl
theorem tw_1936 : (Jvm.Cond.code ({ cls := "TwoSeasModel", name := "billsFallDue", desc := "()V" } : Jvm.MethodName) prog_14_method_66_code (3 : Nat) (Option.none : Option Jvm.ClassFile.FieldType)) ∈ tq_W := tq_t8 (List.mem_of_getElem? (i := 142) rfl) rfl
theorem tw_1937 : (Jvm.Cond.methodLink "TwoSeasModel" (397 : Nat) ({ cls := "TwoSeasModel", name := "interest", desc := "(I)I" } : Jvm.MethodName)) ∈ tq_W := tq_t8 (List.mem_of_getElem? (i := 143) rfl) rfl
theorem tw_1939 : (Jvm.Cond.instanceMethod ({ cls := "TwoSeasModel", name := "interest", desc := "(I)I" } : Jvm.MethodName)) ∈ tq_W := tq_t8 (List.mem_of_getElem? (i := 145) rfl) rfl
theorem tw_1940 : (Jvm.Cond.code ({ cls := "TwoSeasModel", name := "interest", desc := "(I)I" } : Jvm.MethodName) prog_14_method_65_code (3 : Nat) (Option.some Jvm.ClassFile.FieldType.int)) ∈ tq_W := tq_t8 (List.mem_of_getElem? (i := 146) rfl) rfl
theorem tw_1941 : (Jvm.Cond.constantLong "TwoSeasModel" (395 : Nat) (100 : Int64)) ∈ tq_W := tq_t8 (List.mem_of_getElem? (i := 147) rfl) rfl
theorem tw_1942 : (Jvm.Cond.methodLink "TwoSeasModel" (474 : Nat) ({ cls := "TwoSeasModel", name := "factoryDay", desc := "(I)V" } : Jvm.MethodName)) ∈ tq_W := tq_t8 (List.mem_of_getElem? (i := 148) rfl) rfl
theorem tw_1944 : (Jvm.Cond.instanceMethod ({ cls := "TwoSeasModel", name := "factoryDay", desc := "(I)V" } : Jvm.MethodName)) ∈ tq_W := tq_t8 (List.mem_of_getElem? (i := 150) rfl) rfl
theorem tw_1945 : (Jvm.Cond.code ({ cls := "TwoSeasModel", name := "factoryDay", desc := "(I)V" } : Jvm.MethodName) prog_14_method_80_code (8 : Nat) (Option.none : Option Jvm.ClassFile.FieldType)) ∈ tq_W := tq_t8 (List.mem_of_getElem? (i := 151) rfl) rfl
theorem tw_1946 : (Jvm.Cond.methodLink "TwoSeasModel" (445 : Nat) ({ cls := "TwoSeasModel", name := "advancesCome", desc := "(I)V" } : Jvm.MethodName)) ∈ tq_W := tq_t8 (List.mem_of_getElem? (i := 152) rfl) rfl
theorem tw_1948 : (Jvm.Cond.instanceMethod ({ cls := "TwoSeasModel", name := "advancesCome", desc := "(I)V" } : Jvm.MethodName)) ∈ tq_W := tq_t8 (List.mem_of_getElem? (i := 154) rfl) rfl
theorem tw_1949 : (Jvm.Cond.code ({ cls := "TwoSeasModel", name := "advancesCome", desc := "(I)V" } : Jvm.MethodName) prog_14_method_68_code (4 : Nat) (Option.none : Option Jvm.ClassFile.FieldType)) ∈ tq_W := tq_t8 (List.mem_of_getElem? (i := 155) rfl) rfl
theorem tw_1950 : (Jvm.Cond.methodLink "TwoSeasModel" (442 : Nat) ({ cls := "java/lang/Math", name := "max", desc := "(II)I" } : Jvm.MethodName)) ∈ tq_W := tq_t8 (List.mem_of_getElem? (i := 156) rfl) rfl
theorem tw_1951 : (Jvm.Cond.methodLink "TwoSeasModel" (448 : Nat) ({ cls := "TwoSeasModel", name := "doBuy", desc := "(IIIII)V" } : Jvm.MethodName)) ∈ tq_W := tq_t8 (List.mem_of_getElem? (i := 157) rfl) rfl
theorem tw_1953 : (Jvm.Cond.instanceMethod ({ cls := "TwoSeasModel", name := "doBuy", desc := "(IIIII)V" } : Jvm.MethodName)) ∈ tq_W := tq_t8 (List.mem_of_getElem? (i := 159) rfl) rfl
theorem tw_1954 : (Jvm.Cond.code ({ cls := "TwoSeasModel", name := "doBuy", desc := "(IIIII)V" } : Jvm.MethodName) prog_14_method_75_code (7 : Nat) (Option.none : Option Jvm.ClassFile.FieldType)) ∈ tq_W := tq_t8 (List.mem_of_getElem? (i := 160) rfl) rfl
theorem tw_1955 : (Jvm.Cond.methodLink "TwoSeasModel" (418 : Nat) ({ cls := "TwoSeasModel", name := "buy", desc := "(IIII)I" } : Jvm.MethodName)) ∈ tq_W := tq_t8 (List.mem_of_getElem? (i := 161) rfl) rfl
theorem tw_1957 : (Jvm.Cond.instanceMethod ({ cls := "TwoSeasModel", name := "buy", desc := "(IIII)I" } : Jvm.MethodName)) ∈ tq_W := tq_t8 (List.mem_of_getElem? (i := 163) rfl) rfl
theorem tw_1958 : (Jvm.Cond.code ({ cls := "TwoSeasModel", name := "buy", desc := "(IIII)I" } : Jvm.MethodName) prog_14_method_74_code (7 : Nat) (Option.some Jvm.ClassFile.FieldType.int)) ∈ tq_W := tq_t8 (List.mem_of_getElem? (i := 164) rfl) rfl
theorem tw_1959 : (Jvm.Cond.methodLink "TwoSeasModel" (422 : Nat) ({ cls := "TwoSeasModel", name := "enter", desc := "(IIIIIII)V" } : Jvm.MethodName)) ∈ tq_W := tq_t8 (List.mem_of_getElem? (i := 165) rfl) rfl
theorem tw_1961 : (Jvm.Cond.instanceMethod ({ cls := "TwoSeasModel", name := "enter", desc := "(IIIIIII)V" } : Jvm.MethodName)) ∈ tq_W := tq_t8 (List.mem_of_getElem? (i := 167) rfl) rfl
theorem tw_1962 : (Jvm.Cond.code ({ cls := "TwoSeasModel", name := "enter", desc := "(IIIIIII)V" } : Jvm.MethodName) prog_14_method_73_code (9 : Nat) (Option.none : Option Jvm.ClassFile.FieldType)) ∈ tq_W := tq_t8 (List.mem_of_getElem? (i := 168) rfl) rfl
theorem tw_1963 : (Jvm.Cond.methodLink "TwoSeasModel" (452 : Nat) ({ cls := "TwoSeasModel", name := "doAdvance", desc := "(IIIII)V" } : Jvm.MethodName)) ∈ tq_W := tq_t8 (List.mem_of_getElem? (i := 169) rfl) rfl
theorem tw_1965 : (Jvm.Cond.instanceMethod ({ cls := "TwoSeasModel", name := "doAdvance", desc := "(IIIII)V" } : Jvm.MethodName)) ∈ tq_W := tq_t8 (List.mem_of_getElem? (i := 171) rfl) rfl
theorem tw_1966 : (Jvm.Cond.code ({ cls := "TwoSeasModel", name := "doAdvance", desc := "(IIIII)V" } : Jvm.MethodName) prog_14_method_76_code (8 : Nat) (Option.none : Option Jvm.ClassFile.FieldType)) ∈ tq_W := tq_t8 (List.mem_of_getElem? (i := 172) rfl) rfl
theorem tw_1967 : (Jvm.Cond.constantLong "TwoSeasModel" (426 : Nat) (9 : Int64)) ∈ tq_W := tq_t8 (List.mem_of_getElem? (i := 173) rfl) rfl
theorem tw_1968 : (Jvm.Cond.constantLong "TwoSeasModel" (428 : Nat) (10 : Int64)) ∈ tq_W := tq_t8 (List.mem_of_getElem? (i := 174) rfl) rfl
theorem tw_1969 : (Jvm.Cond.methodLink "TwoSeasModel" (430 : Nat) ({ cls := "TwoSeasModel", name := "anyOpen", desc := "(II)Z" } : Jvm.MethodName)) ∈ tq_W := tq_t8 (List.mem_of_getElem? (i := 175) rfl) rfl
theorem tw_1971 : (Jvm.Cond.instanceMethod ({ cls := "TwoSeasModel", name := "anyOpen", desc := "(II)Z" } : Jvm.MethodName)) ∈ tq_W := tq_t8 (List.mem_of_getElem? (i := 177) rfl) rfl
theorem tw_1972 : (Jvm.Cond.code ({ cls := "TwoSeasModel", name := "anyOpen", desc := "(II)Z" } : Jvm.MethodName) prog_14_method_70_code (4 : Nat) (Option.some Jvm.ClassFile.FieldType.boolean)) ∈ tq_W := tq_t8 (List.mem_of_getElem? (i := 178) rfl) rfl
theorem tw_1973 : (Jvm.Cond.methodLink "TwoSeasModel" (433 : Nat) ({ cls := "TwoSeasModel", name := "give", desc := "(III)V" } : Jvm.MethodName)) ∈ tq_W := tq_t8 (List.mem_of_getElem? (i := 179) rfl) rfl
theorem tw_1975 : (Jvm.Cond.instanceMethod ({ cls := "TwoSeasModel", name := "give", desc := "(III)V" } : Jvm.MethodName)) ∈ tq_W := tq_t8 (List.mem_of_getElem? (i := 181) rfl) rfl
theorem tw_1976 : (Jvm.Cond.code ({ cls := "TwoSeasModel", name := "give", desc := "(III)V" } : Jvm.MethodName) prog_14_method_71_code (6 : Nat) (Option.none : Option Jvm.ClassFile.FieldType)) ∈ tq_W := tq_t8 (List.mem_of_getElem? (i := 182) rfl) rfl
theorem tw_1977 : (Jvm.Cond.methodLink "TwoSeasModel" (455 : Nat) ({ cls := "TwoSeasModel", name := "doLade", desc := "(IIIII)V" } : Jvm.MethodName)) ∈ tq_W := tq_t8 (List.mem_of_getElem? (i := 183) rfl) rfl
theorem tw_1979 : (Jvm.Cond.instanceMethod ({ cls := "TwoSeasModel", name := "doLade", desc := "(IIIII)V" } : Jvm.MethodName)) ∈ tq_W := tq_t8 (List.mem_of_getElem? (i := 185) rfl) rfl
theorem tw_1980 : (Jvm.Cond.code ({ cls := "TwoSeasModel", name := "doLade", desc := "(IIIII)V" } : Jvm.MethodName) prog_14_method_77_code (8 : Nat) (Option.none : Option Jvm.ClassFile.FieldType)) ∈ tq_W := tq_t8 (List.mem_of_getElem? (i := 186) rfl) rfl
theorem tw_1981 : (Jvm.Cond.methodLink "TwoSeasModel" (437 : Nat) ({ cls := "java/lang/Math", name := "min", desc := "(II)I" } : Jvm.MethodName)) ∈ tq_W := tq_t8 (List.mem_of_getElem? (i := 187) rfl) rfl
theorem tw_1982 : (Jvm.Cond.methodLink "TwoSeasModel" (458 : Nat) ({ cls := "TwoSeasModel", name := "doSail", desc := "(IIII)V" } : Jvm.MethodName)) ∈ tq_W := tq_t8 (List.mem_of_getElem? (i := 188) rfl) rfl
theorem tw_1984 : (Jvm.Cond.instanceMethod ({ cls := "TwoSeasModel", name := "doSail", desc := "(IIII)V" } : Jvm.MethodName)) ∈ tq_W := tq_t8 (List.mem_of_getElem? (i := 190) rfl) rfl
theorem tw_1985 : (Jvm.Cond.code ({ cls := "TwoSeasModel", name := "doSail", desc := "(IIII)V" } : Jvm.MethodName) prog_14_method_78_code (8 : Nat) (Option.none : Option Jvm.ClassFile.FieldType)) ∈ tq_W := tq_t8 (List.mem_of_getElem? (i := 191) rfl) rfl
theorem tw_1986 : (Jvm.Cond.methodLink "TwoSeasModel" (462 : Nat) ({ cls := "TwoSeasModel", name := "doDraw", desc := "(IIII)V" } : Jvm.MethodName)) ∈ tq_W := tq_t8 (List.mem_of_getElem? (i := 192) rfl) rfl
theorem tw_1988 : (Jvm.Cond.instanceMethod ({ cls := "TwoSeasModel", name := "doDraw", desc := "(IIII)V" } : Jvm.MethodName)) ∈ tq_W := tq_t8 (List.mem_of_getElem? (i := 194) rfl) rfl
theorem tw_1989 : (Jvm.Cond.code ({ cls := "TwoSeasModel", name := "doDraw", desc := "(IIII)V" } : Jvm.MethodName) prog_14_method_79_code (6 : Nat) (Option.none : Option Jvm.ClassFile.FieldType)) ∈ tq_W := tq_t8 (List.mem_of_getElem? (i := 195) rfl) rfl
theorem tw_1990 : (Jvm.Cond.methodLink "TwoSeasLaw" (129 : Nat) ({ cls := "TwoSeasModel", name := "entry", desc := "(II)I" } : Jvm.MethodName)) ∈ tq_W := tq_t8 (List.mem_of_getElem? (i := 196) rfl) rfl
theorem tw_1991 : (Jvm.Cond.instanceMethod ({ cls := "TwoSeasModel", name := "entry", desc := "(II)I" } : Jvm.MethodName)) ∈ tq_W := tq_t8 (List.mem_of_getElem? (i := 197) rfl) rfl
theorem tw_1992 : (Jvm.Cond.selects "TwoSeasModel" ({ cls := "TwoSeasModel", name := "entry", desc := "(II)I" } : Jvm.MethodName) ({ cls := "TwoSeasModel", name := "entry", desc := "(II)I" } : Jvm.MethodName)) ∈ tq_W := tq_t8 (List.mem_of_getElem? (i := 198) rfl) rfl
theorem tw_1993 : (Jvm.Cond.code ({ cls := "TwoSeasModel", name := "entry", desc := "(II)I" } : Jvm.MethodName) prog_14_method_83_code (3 : Nat) (Option.some Jvm.ClassFile.FieldType.int)) ∈ tq_W := tq_t8 (List.mem_of_getElem? (i := 199) rfl) rfl
theorem tw_1994 : (Jvm.Cond.methodLink "TwoSeasLaw" (137 : Nat) ({ cls := "TwoSeasModel", name := "accept", desc := "(I)I" } : Jvm.MethodName)) ∈ tq_W := tq_t8 (List.mem_of_getElem? (i := 200) rfl) rfl
theorem tw_1995 : (Jvm.Cond.instanceMethod ({ cls := "TwoSeasModel", name := "accept", desc := "(I)I" } : Jvm.MethodName)) ∈ tq_W := tq_t8 (List.mem_of_getElem? (i := 201) rfl) rfl
theorem tw_1996 : (Jvm.Cond.selects "TwoSeasModel" ({ cls := "TwoSeasModel", name := "accept", desc := "(I)I" } : Jvm.MethodName) ({ cls := "TwoSeasModel", name := "accept", desc := "(I)I" } : Jvm.MethodName)) ∈ tq_W := tq_t8 (List.mem_of_getElem? (i := 202) rfl) rfl
theorem tw_1997 : (Jvm.Cond.code ({ cls := "TwoSeasModel", name := "accept", desc := "(I)I" } : Jvm.MethodName) prog_14_method_85_code (2 : Nat) (Option.some Jvm.ClassFile.FieldType.int)) ∈ tq_W := tq_t8 (List.mem_of_getElem? (i := 203) rfl) rfl
theorem tw_1998 : (Jvm.Cond.methodLink "TwoSeasModel" (480 : Nat) ({ cls := "TwoSeasModel", name := "isBill", desc := "(I)Z" } : Jvm.MethodName)) ∈ tq_W := tq_t8 (List.mem_of_getElem? (i := 204) rfl) rfl
theorem tw_2000 : (Jvm.Cond.instanceMethod ({ cls := "TwoSeasModel", name := "isBill", desc := "(I)Z" } : Jvm.MethodName)) ∈ tq_W := tq_t8 (List.mem_of_getElem? (i := 206) rfl) rfl
theorem tw_2001 : (Jvm.Cond.code ({ cls := "TwoSeasModel", name := "isBill", desc := "(I)Z" } : Jvm.MethodName) prog_14_method_84_code (2 : Nat) (Option.some Jvm.ClassFile.FieldType.boolean)) ∈ tq_W := tq_t8 (List.mem_of_getElem? (i := 207) rfl) rfl
theorem tw_2002 : (Jvm.Cond.methodLink "TwoSeasLaw" (141 : Nat) ({ cls := "TwoSeasModel", name := "bill", desc := "(II)I" } : Jvm.MethodName)) ∈ tq_W := tq_t8 (List.mem_of_getElem? (i := 208) rfl) rfl
theorem tw_2003 : (Jvm.Cond.instanceMethod ({ cls := "TwoSeasModel", name := "bill", desc := "(II)I" } : Jvm.MethodName)) ∈ tq_W := tq_t8 (List.mem_of_getElem? (i := 209) rfl) rfl
theorem tw_2004 : (Jvm.Cond.selects "TwoSeasModel" ({ cls := "TwoSeasModel", name := "bill", desc := "(II)I" } : Jvm.MethodName) ({ cls := "TwoSeasModel", name := "bill", desc := "(II)I" } : Jvm.MethodName)) ∈ tq_W := tq_t8 (List.mem_of_getElem? (i := 210) rfl) rfl
theorem tw_2005 : (Jvm.Cond.code ({ cls := "TwoSeasModel", name := "bill", desc := "(II)I" } : Jvm.MethodName) prog_14_method_86_code (3 : Nat) (Option.some Jvm.ClassFile.FieldType.int)) ∈ tq_W := tq_t8 (List.mem_of_getElem? (i := 211) rfl) rfl
theorem tw_2006 : (Jvm.Cond.methodLink "TwoSeasLaw" (145 : Nat) ({ cls := "TwoSeasModel", name := "refuse", desc := "(I)I" } : Jvm.MethodName)) ∈ tq_W := tq_t8 (List.mem_of_getElem? (i := 212) rfl) rfl
theorem tw_2007 : (Jvm.Cond.instanceMethod ({ cls := "TwoSeasModel", name := "refuse", desc := "(I)I" } : Jvm.MethodName)) ∈ tq_W := tq_t8 (List.mem_of_getElem? (i := 213) rfl) rfl
theorem tw_2008 : (Jvm.Cond.selects "TwoSeasModel" ({ cls := "TwoSeasModel", name := "refuse", desc := "(I)I" } : Jvm.MethodName) ({ cls := "TwoSeasModel", name := "refuse", desc := "(I)I" } : Jvm.MethodName)) ∈ tq_W := tq_t8 (List.mem_of_getElem? (i := 214) rfl) rfl
theorem tw_2009 : (Jvm.Cond.code ({ cls := "TwoSeasModel", name := "refuse", desc := "(I)I" } : Jvm.MethodName) prog_14_method_87_code (2 : Nat) (Option.some Jvm.ClassFile.FieldType.int)) ∈ tq_W := tq_t8 (List.mem_of_getElem? (i := 215) rfl) rfl
theorem tw_2010 : (Jvm.Cond.methodLink "TwoSeasLaw" (150 : Nat) ({ cls := "TwoSeasModel", name := "council", desc := "(IIIII)I" } : Jvm.MethodName)) ∈ tq_W := tq_t8 (List.mem_of_getElem? (i := 216) rfl) rfl
theorem tw_2011 : (Jvm.Cond.instanceMethod ({ cls := "TwoSeasModel", name := "council", desc := "(IIIII)I" } : Jvm.MethodName)) ∈ tq_W := tq_t8 (List.mem_of_getElem? (i := 217) rfl) rfl
theorem tw_2012 : (Jvm.Cond.selects "TwoSeasModel" ({ cls := "TwoSeasModel", name := "council", desc := "(IIIII)I" } : Jvm.MethodName) ({ cls := "TwoSeasModel", name := "council", desc := "(IIIII)I" } : Jvm.MethodName)) ∈ tq_W := tq_t8 (List.mem_of_getElem? (i := 218) rfl) rfl
theorem tw_2013 : (Jvm.Cond.code ({ cls := "TwoSeasModel", name := "council", desc := "(IIIII)I" } : Jvm.MethodName) prog_14_method_92_code (10 : Nat) (Option.some Jvm.ClassFile.FieldType.int)) ∈ tq_W := tq_t8 (List.mem_of_getElem? (i := 219) rfl) rfl
theorem tw_2014 : (Jvm.Cond.methodLink "TwoSeasModel" (488 : Nat) ({ cls := "TwoSeasModel", name := "sitting", desc := "(I)I" } : Jvm.MethodName)) ∈ tq_W := tq_t8 (List.mem_of_getElem? (i := 220) rfl) rfl
theorem tw_2016 : (Jvm.Cond.instanceMethod ({ cls := "TwoSeasModel", name := "sitting", desc := "(I)I" } : Jvm.MethodName)) ∈ tq_W := tq_t8 (List.mem_of_getElem? (i := 222) rfl) rfl
theorem tw_2017 : (Jvm.Cond.code ({ cls := "TwoSeasModel", name := "sitting", desc := "(I)I" } : Jvm.MethodName) prog_14_method_88_code (4 : Nat) (Option.some Jvm.ClassFile.FieldType.int)) ∈ tq_W := tq_t8 (List.mem_of_getElem? (i := 223) rfl) rfl
theorem tw_2018 : (Jvm.Cond.methodLink "TwoSeasModel" (497 : Nat) ({ cls := "TwoSeasModel", name := "carries", desc := "(III)Z" } : Jvm.MethodName)) ∈ tq_W := tq_t8 (List.mem_of_getElem? (i := 224) rfl) rfl
theorem tw_2020 : (Jvm.Cond.instanceMethod ({ cls := "TwoSeasModel", name := "carries", desc := "(III)Z" } : Jvm.MethodName)) ∈ tq_W := tq_t8 (List.mem_of_getElem? (i := 226) rfl) rfl
theorem tw_2021 : (Jvm.Cond.code ({ cls := "TwoSeasModel", name := "carries", desc := "(III)Z" } : Jvm.MethodName) prog_14_method_91_code (4 : Nat) (Option.some Jvm.ClassFile.FieldType.boolean)) ∈ tq_W := tq_t8 (List.mem_of_getElem? (i := 227) rfl) rfl
theorem tw_2022 : (Jvm.Cond.methodLink "TwoSeasModel" (483 : Nat) ({ cls := "java/lang/Integer", name := "bitCount", desc := "(I)I" } : Jvm.MethodName)) ∈ tq_W := tq_t8 (List.mem_of_getElem? (i := 228) rfl) rfl
theorem tw_2023 : (Jvm.Cond.methodLink "TwoSeasModel" (491 : Nat) ({ cls := "TwoSeasModel", name := "ranks", desc := "(I)I" } : Jvm.MethodName)) ∈ tq_W := tq_t8 (List.mem_of_getElem? (i := 229) rfl) rfl
theorem tw_2025 : (Jvm.Cond.instanceMethod ({ cls := "TwoSeasModel", name := "ranks", desc := "(I)I" } : Jvm.MethodName)) ∈ tq_W := tq_t8 (List.mem_of_getElem? (i := 231) rfl) rfl
theorem tw_2026 : (Jvm.Cond.code ({ cls := "TwoSeasModel", name := "ranks", desc := "(I)I" } : Jvm.MethodName) prog_14_method_89_code (4 : Nat) (Option.some Jvm.ClassFile.FieldType.int)) ∈ tq_W := tq_t8 (List.mem_of_getElem? (i := 232) rfl) rfl
theorem tw_2027 : (Jvm.Cond.methodLink "TwoSeasModel" (494 : Nat) ({ cls := "TwoSeasModel", name := "greatestRank", desc := "(I)I" } : Jvm.MethodName)) ∈ tq_W := tq_t8 (List.mem_of_getElem? (i := 233) rfl) rfl
theorem tw_2029 : (Jvm.Cond.instanceMethod ({ cls := "TwoSeasModel", name := "greatestRank", desc := "(I)I" } : Jvm.MethodName)) ∈ tq_W := tq_t8 (List.mem_of_getElem? (i := 235) rfl) rfl
theorem tw_2030 : (Jvm.Cond.code ({ cls := "TwoSeasModel", name := "greatestRank", desc := "(I)I" } : Jvm.MethodName) prog_14_method_90_code (4 : Nat) (Option.some Jvm.ClassFile.FieldType.int)) ∈ tq_W := tq_t8 (List.mem_of_getElem? (i := 236) rfl) rfl
theorem tw_2031 : (Jvm.Cond.methodLink "TwoSeasLaw" (154 : Nat) ({ cls := "TwoSeasModel", name := "wants", desc := "(IIII)I" } : Jvm.MethodName)) ∈ tq_W := tq_t8 (List.mem_of_getElem? (i := 237) rfl) rfl
theorem tw_2032 : (Jvm.Cond.instanceMethod ({ cls := "TwoSeasModel", name := "wants", desc := "(IIII)I" } : Jvm.MethodName)) ∈ tq_W := tq_t8 (List.mem_of_getElem? (i := 238) rfl) rfl
theorem tw_2033 : (Jvm.Cond.selects "TwoSeasModel" ({ cls := "TwoSeasModel", name := "wants", desc := "(IIII)I" } : Jvm.MethodName) ({ cls := "TwoSeasModel", name := "wants", desc := "(IIII)I" } : Jvm.MethodName)) ∈ tq_W := tq_t8 (List.mem_of_getElem? (i := 239) rfl) rfl
theorem tw_2034 : (Jvm.Cond.code ({ cls := "TwoSeasModel", name := "wants", desc := "(IIII)I" } : Jvm.MethodName) prog_14_method_94_code (6 : Nat) (Option.some Jvm.ClassFile.FieldType.int)) ∈ tq_W := tq_t9 (List.mem_of_getElem? (i := 0) rfl) rfl
theorem tw_2035 : (Jvm.Cond.methodLink "TwoSeasModel" (500 : Nat) ({ cls := "TwoSeasModel", name := "isBuyer", desc := "(I)Z" } : Jvm.MethodName)) ∈ tq_W := tq_t9 (List.mem_of_getElem? (i := 1) rfl) rfl
theorem tw_2036 : (Jvm.Cond.static ({ cls := "TwoSeasModel", name := "isBuyer", desc := "(I)Z" } : Jvm.MethodName)) ∈ tq_W := tq_t9 (List.mem_of_getElem? (i := 2) rfl) rfl
theorem tw_2037 : (Jvm.Cond.code ({ cls := "TwoSeasModel", name := "isBuyer", desc := "(I)Z" } : Jvm.MethodName) prog_14_method_93_code (1 : Nat) (Option.some Jvm.ClassFile.FieldType.boolean)) ∈ tq_W := tq_t9 (List.mem_of_getElem? (i := 3) rfl) rfl
theorem tw_2038 : (Jvm.Cond.methodLink "TwoSeasLaw" (158 : Nat) ({ cls := "TwoSeasModel", name := "sale", desc := "(II)I" } : Jvm.MethodName)) ∈ tq_W := tq_t9 (List.mem_of_getElem? (i := 4) rfl) rfl
theorem tw_2039 : (Jvm.Cond.instanceMethod ({ cls := "TwoSeasModel", name := "sale", desc := "(II)I" } : Jvm.MethodName)) ∈ tq_W := tq_t9 (List.mem_of_getElem? (i := 5) rfl) rfl
theorem tw_2040 : (Jvm.Cond.selects "TwoSeasModel" ({ cls := "TwoSeasModel", name := "sale", desc := "(II)I" } : Jvm.MethodName) ({ cls := "TwoSeasModel", name := "sale", desc := "(II)I" } : Jvm.MethodName)) ∈ tq_W := tq_t9 (List.mem_of_getElem? (i := 6) rfl) rfl
theorem tw_2041 : (Jvm.Cond.code ({ cls := "TwoSeasModel", name := "sale", desc := "(II)I" } : Jvm.MethodName) prog_14_method_96_code (8 : Nat) (Option.some Jvm.ClassFile.FieldType.int)) ∈ tq_W := tq_t9 (List.mem_of_getElem? (i := 7) rfl) rfl
theorem tw_2042 : (Jvm.Cond.methodLink "TwoSeasModel" (503 : Nat) ({ cls := "TwoSeasModel", name := "greatest", desc := "(II)I" } : Jvm.MethodName)) ∈ tq_W := tq_t9 (List.mem_of_getElem? (i := 8) rfl) rfl
theorem tw_2044 : (Jvm.Cond.instanceMethod ({ cls := "TwoSeasModel", name := "greatest", desc := "(II)I" } : Jvm.MethodName)) ∈ tq_W := tq_t9 (List.mem_of_getElem? (i := 10) rfl) rfl
theorem tw_2045 : (Jvm.Cond.code ({ cls := "TwoSeasModel", name := "greatest", desc := "(II)I" } : Jvm.MethodName) prog_14_method_95_code (5 : Nat) (Option.some Jvm.ClassFile.FieldType.int)) ∈ tq_W := tq_t9 (List.mem_of_getElem? (i := 11) rfl) rfl
theorem tw_2046 : (Jvm.Cond.methodLink "TwoSeasLaw" (162 : Nat) ({ cls := "TwoSeasModel", name := "bought", desc := "(II)I" } : Jvm.MethodName)) ∈ tq_W := tq_t9 (List.mem_of_getElem? (i := 12) rfl) rfl
theorem tw_2047 : (Jvm.Cond.instanceMethod ({ cls := "TwoSeasModel", name := "bought", desc := "(II)I" } : Jvm.MethodName)) ∈ tq_W := tq_t9 (List.mem_of_getElem? (i := 13) rfl) rfl
theorem tw_2048 : (Jvm.Cond.selects "TwoSeasModel" ({ cls := "TwoSeasModel", name := "bought", desc := "(II)I" } : Jvm.MethodName) ({ cls := "TwoSeasModel", name := "bought", desc := "(II)I" } : Jvm.MethodName)) ∈ tq_W := tq_t9 (List.mem_of_getElem? (i := 14) rfl) rfl
theorem tw_2049 : (Jvm.Cond.code ({ cls := "TwoSeasModel", name := "bought", desc := "(II)I" } : Jvm.MethodName) prog_14_method_97_code (3 : Nat) (Option.some Jvm.ClassFile.FieldType.int)) ∈ tq_W := tq_t9 (List.mem_of_getElem? (i := 15) rfl) rfl
theorem tw_2050 : (Jvm.Cond.methodLink "TwoSeasLaw" (166 : Nat) ({ cls := "TwoSeasModel", name := "shares", desc := "(III)I" } : Jvm.MethodName)) ∈ tq_W := tq_t9 (List.mem_of_getElem? (i := 16) rfl) rfl
theorem tw_2051 : (Jvm.Cond.instanceMethod ({ cls := "TwoSeasModel", name := "shares", desc := "(III)I" } : Jvm.MethodName)) ∈ tq_W := tq_t9 (List.mem_of_getElem? (i := 17) rfl) rfl
theorem tw_2052 : (Jvm.Cond.selects "TwoSeasModel" ({ cls := "TwoSeasModel", name := "shares", desc := "(III)I" } : Jvm.MethodName) ({ cls := "TwoSeasModel", name := "shares", desc := "(III)I" } : Jvm.MethodName)) ∈ tq_W := tq_t9 (List.mem_of_getElem? (i := 18) rfl) rfl
theorem tw_2053 : (Jvm.Cond.code ({ cls := "TwoSeasModel", name := "shares", desc := "(III)I" } : Jvm.MethodName) prog_14_method_98_code (4 : Nat) (Option.some Jvm.ClassFile.FieldType.int)) ∈ tq_W := tq_t9 (List.mem_of_getElem? (i := 19) rfl) rfl
theorem tw_2054 : (Jvm.Cond.methodLink "TwoSeasLaw" (170 : Nat) ({ cls := "TwoSeasModel", name := "gain", desc := "()I" } : Jvm.MethodName)) ∈ tq_W := tq_t9 (List.mem_of_getElem? (i := 20) rfl) rfl
theorem tw_2055 : (Jvm.Cond.instanceMethod ({ cls := "TwoSeasModel", name := "gain", desc := "()I" } : Jvm.MethodName)) ∈ tq_W := tq_t9 (List.mem_of_getElem? (i := 21) rfl) rfl
theorem tw_2056 : (Jvm.Cond.selects "TwoSeasModel" ({ cls := "TwoSeasModel", name := "gain", desc := "()I" } : Jvm.MethodName) ({ cls := "TwoSeasModel", name := "gain", desc := "()I" } : Jvm.MethodName)) ∈ tq_W := tq_t9 (List.mem_of_getElem? (i := 22) rfl) rfl
theorem tw_2057 : (Jvm.Cond.code ({ cls := "TwoSeasModel", name := "gain", desc := "()I" } : Jvm.MethodName) prog_14_method_100_code (5 : Nat) (Option.some Jvm.ClassFile.FieldType.int)) ∈ tq_W := tq_t9 (List.mem_of_getElem? (i := 23) rfl) rfl
theorem tw_2058 : (Jvm.Cond.methodLink "TwoSeasModel" (512 : Nat) ({ cls := "TwoSeasModel", name := "invoiced", desc := "(II)Z" } : Jvm.MethodName)) ∈ tq_W := tq_t9 (List.mem_of_getElem? (i := 24) rfl) rfl
theorem tw_2060 : (Jvm.Cond.instanceMethod ({ cls := "TwoSeasModel", name := "invoiced", desc := "(II)Z" } : Jvm.MethodName)) ∈ tq_W := tq_t9 (List.mem_of_getElem? (i := 26) rfl) rfl
theorem tw_2061 : (Jvm.Cond.code ({ cls := "TwoSeasModel", name := "invoiced", desc := "(II)Z" } : Jvm.MethodName) prog_14_method_99_code (4 : Nat) (Option.some Jvm.ClassFile.FieldType.boolean)) ∈ tq_W := tq_t9 (List.mem_of_getElem? (i := 27) rfl) rfl
theorem tw_2062 : (Jvm.Cond.methodLink "TwoSeasLaw" (174 : Nat) ({ cls := "TwoSeasModel", name := "divide", desc := "(I)I" } : Jvm.MethodName)) ∈ tq_W := tq_t9 (List.mem_of_getElem? (i := 28) rfl) rfl
theorem tw_2063 : (Jvm.Cond.instanceMethod ({ cls := "TwoSeasModel", name := "divide", desc := "(I)I" } : Jvm.MethodName)) ∈ tq_W := tq_t9 (List.mem_of_getElem? (i := 29) rfl) rfl
theorem tw_2064 : (Jvm.Cond.selects "TwoSeasModel" ({ cls := "TwoSeasModel", name := "divide", desc := "(I)I" } : Jvm.MethodName) ({ cls := "TwoSeasModel", name := "divide", desc := "(I)I" } : Jvm.MethodName)) ∈ tq_W := tq_t9 (List.mem_of_getElem? (i := 30) rfl) rfl
theorem tw_2065 : (Jvm.Cond.code ({ cls := "TwoSeasModel", name := "divide", desc := "(I)I" } : Jvm.MethodName) prog_14_method_101_code (5 : Nat) (Option.some Jvm.ClassFile.FieldType.int)) ∈ tq_W := tq_t9 (List.mem_of_getElem? (i := 31) rfl) rfl
theorem tw_2066 : (Jvm.Cond.methodLink "TwoSeasModel" (515 : Nat) ({ cls := "TwoSeasModel", name := "gain", desc := "()I" } : Jvm.MethodName)) ∈ tq_W := tq_t9 (List.mem_of_getElem? (i := 32) rfl) rfl
theorem tw_2067 : (Jvm.Cond.constantLong "TwoSeasModel" (518 : Nat) (800 : Int64)) ∈ tq_W := tq_t9 (List.mem_of_getElem? (i := 33) rfl) rfl
theorem tw_2068 : (Jvm.Cond.methodLink "TwoSeasLaw" (178 : Nat) ({ cls := "TwoSeasModel", name := "holder", desc := "(II)I" } : Jvm.MethodName)) ∈ tq_W := tq_t9 (List.mem_of_getElem? (i := 34) rfl) rfl
theorem tw_2069 : (Jvm.Cond.instanceMethod ({ cls := "TwoSeasModel", name := "holder", desc := "(II)I" } : Jvm.MethodName)) ∈ tq_W := tq_t9 (List.mem_of_getElem? (i := 35) rfl) rfl
theorem tw_2070 : (Jvm.Cond.selects "TwoSeasModel" ({ cls := "TwoSeasModel", name := "holder", desc := "(II)I" } : Jvm.MethodName) ({ cls := "TwoSeasModel", name := "holder", desc := "(II)I" } : Jvm.MethodName)) ∈ tq_W := tq_t9 (List.mem_of_getElem? (i := 36) rfl) rfl
theorem tw_2071 : (Jvm.Cond.code ({ cls := "TwoSeasModel", name := "holder", desc := "(II)I" } : Jvm.MethodName) prog_14_method_102_code (3 : Nat) (Option.some Jvm.ClassFile.FieldType.int)) ∈ tq_W := tq_t9 (List.mem_of_getElem? (i := 37) rfl) rfl
theorem tw_2072 : (Jvm.Cond.methodLink "TwoSeasLaw" (182 : Nat) ({ cls := "TwoSeasModel", name := "heard", desc := "(III)I" } : Jvm.MethodName)) ∈ tq_W := tq_t9 (List.mem_of_getElem? (i := 38) rfl) rfl
theorem tw_2073 : (Jvm.Cond.instanceMethod ({ cls := "TwoSeasModel", name := "heard", desc := "(III)I" } : Jvm.MethodName)) ∈ tq_W := tq_t9 (List.mem_of_getElem? (i := 39) rfl) rfl
theorem tw_2074 : (Jvm.Cond.selects "TwoSeasModel" ({ cls := "TwoSeasModel", name := "heard", desc := "(III)I" } : Jvm.MethodName) ({ cls := "TwoSeasModel", name := "heard", desc := "(III)I" } : Jvm.MethodName)) ∈ tq_W := tq_t9 (List.mem_of_getElem? (i := 40) rfl) rfl
theorem tw_2075 : (Jvm.Cond.code ({ cls := "TwoSeasModel", name := "heard", desc := "(III)I" } : Jvm.MethodName) prog_14_method_103_code (7 : Nat) (Option.some Jvm.ClassFile.FieldType.int)) ∈ tq_W := tq_t9 (List.mem_of_getElem? (i := 41) rfl) rfl
theorem tw_2076 : (Jvm.Cond.methodLink "TwoSeasLaw" (186 : Nat) ({ cls := "TwoSeasModel", name := "year", desc := "(III)I" } : Jvm.MethodName)) ∈ tq_W := tq_t9 (List.mem_of_getElem? (i := 42) rfl) rfl
theorem tw_2077 : (Jvm.Cond.instanceMethod ({ cls := "TwoSeasModel", name := "year", desc := "(III)I" } : Jvm.MethodName)) ∈ tq_W := tq_t9 (List.mem_of_getElem? (i := 43) rfl) rfl
theorem tw_2078 : (Jvm.Cond.selects "TwoSeasModel" ({ cls := "TwoSeasModel", name := "year", desc := "(III)I" } : Jvm.MethodName) ({ cls := "TwoSeasModel", name := "year", desc := "(III)I" } : Jvm.MethodName)) ∈ tq_W := tq_t9 (List.mem_of_getElem? (i := 44) rfl) rfl
theorem tw_2079 : (Jvm.Cond.code ({ cls := "TwoSeasModel", name := "year", desc := "(III)I" } : Jvm.MethodName) prog_14_method_104_code (5 : Nat) (Option.some Jvm.ClassFile.FieldType.int)) ∈ tq_W := tq_t9 (List.mem_of_getElem? (i := 45) rfl) rfl
theorem tw_2080 : (Jvm.Cond.methodLink "TwoSeasLaw" (190 : Nat) ({ cls := "TwoSeasModel", name := "plan", desc := "(IIII)I" } : Jvm.MethodName)) ∈ tq_W := tq_t9 (List.mem_of_getElem? (i := 46) rfl) rfl
theorem tw_2081 : (Jvm.Cond.instanceMethod ({ cls := "TwoSeasModel", name := "plan", desc := "(IIII)I" } : Jvm.MethodName)) ∈ tq_W := tq_t9 (List.mem_of_getElem? (i := 47) rfl) rfl
theorem tw_2082 : (Jvm.Cond.selects "TwoSeasModel" ({ cls := "TwoSeasModel", name := "plan", desc := "(IIII)I" } : Jvm.MethodName) ({ cls := "TwoSeasModel", name := "plan", desc := "(IIII)I" } : Jvm.MethodName)) ∈ tq_W := tq_t9 (List.mem_of_getElem? (i := 48) rfl) rfl
theorem tw_2083 : (Jvm.Cond.code ({ cls := "TwoSeasModel", name := "plan", desc := "(IIII)I" } : Jvm.MethodName) prog_14_method_106_code (6 : Nat) (Option.some Jvm.ClassFile.FieldType.int)) ∈ tq_W := tq_t9 (List.mem_of_getElem? (i := 49) rfl) rfl
theorem tw_2084 : (Jvm.Cond.constant "TwoSeasModel" (521 : Nat) (-1000000000 : Int32)) ∈ tq_W := tq_t9 (List.mem_of_getElem? (i := 50) rfl) rfl
theorem tw_2085 : (Jvm.Cond.constant "TwoSeasModel" (522 : Nat) (-2147483648 : Int32)) ∈ tq_W := tq_t9 (List.mem_of_getElem? (i := 51) rfl) rfl
theorem tw_2086 : (Jvm.Cond.methodLink "TwoSeasModel" (523 : Nat) ({ cls := "TwoSeasModel", name := "judge", desc := "(III)V" } : Jvm.MethodName)) ∈ tq_W := tq_t9 (List.mem_of_getElem? (i := 52) rfl) rfl
theorem tw_2088 : (Jvm.Cond.instanceMethod ({ cls := "TwoSeasModel", name := "judge", desc := "(III)V" } : Jvm.MethodName)) ∈ tq_W := tq_t9 (List.mem_of_getElem? (i := 54) rfl) rfl
theorem tw_2089 : (Jvm.Cond.code ({ cls := "TwoSeasModel", name := "judge", desc := "(III)V" } : Jvm.MethodName) prog_14_method_105_code (10 : Nat) (Option.none : Option Jvm.ClassFile.FieldType)) ∈ tq_W := tq_t9 (List.mem_of_getElem? (i := 55) rfl) rfl
theorem tw_2090 : (Jvm.Cond.constant "TwoSeasModel" (520 : Nat) (2147483647 : Int32)) ∈ tq_W := tq_t9 (List.mem_of_getElem? (i := 56) rfl) rfl
theorem tw_2091 : (Jvm.Cond.methodLink "TwoSeasLaw" (194 : Nat) ({ cls := "TwoSeasModel", name := "act", desc := "(III)I" } : Jvm.MethodName)) ∈ tq_W := tq_t9 (List.mem_of_getElem? (i := 57) rfl) rfl
theorem tw_2092 : (Jvm.Cond.instanceMethod ({ cls := "TwoSeasModel", name := "act", desc := "(III)I" } : Jvm.MethodName)) ∈ tq_W := tq_t9 (List.mem_of_getElem? (i := 58) rfl) rfl
theorem tw_2093 : (Jvm.Cond.selects "TwoSeasModel" ({ cls := "TwoSeasModel", name := "act", desc := "(III)I" } : Jvm.MethodName) ({ cls := "TwoSeasModel", name := "act", desc := "(III)I" } : Jvm.MethodName)) ∈ tq_W := tq_t9 (List.mem_of_getElem? (i := 59) rfl) rfl
theorem tw_2094 : (Jvm.Cond.code ({ cls := "TwoSeasModel", name := "act", desc := "(III)I" } : Jvm.MethodName) prog_14_method_110_code (4 : Nat) (Option.some Jvm.ClassFile.FieldType.int)) ∈ tq_W := tq_t9 (List.mem_of_getElem? (i := 60) rfl) rfl
theorem tw_2095 : (Jvm.Cond.methodLink "TwoSeasModel" (535 : Nat) ({ cls := "TwoSeasModel", name := "run", desc := "(IIII)I" } : Jvm.MethodName)) ∈ tq_W := tq_t9 (List.mem_of_getElem? (i := 61) rfl) rfl
theorem tw_2097 : (Jvm.Cond.instanceMethod ({ cls := "TwoSeasModel", name := "run", desc := "(IIII)I" } : Jvm.MethodName)) ∈ tq_W := tq_t9 (List.mem_of_getElem? (i := 63) rfl) rfl
theorem tw_2098 : (Jvm.Cond.code ({ cls := "TwoSeasModel", name := "run", desc := "(IIII)I" } : Jvm.MethodName) prog_14_method_109_code (9 : Nat) (Option.some Jvm.ClassFile.FieldType.int)) ∈ tq_W := tq_t9 (List.mem_of_getElem? (i := 64) rfl) rfl
theorem tw_2099 : (Jvm.Cond.methodLink "TwoSeasModel" (526 : Nat) ({ cls := "TwoSeasModel", name := "bodyOf", desc := "(II)I" } : Jvm.MethodName)) ∈ tq_W := tq_t9 (List.mem_of_getElem? (i := 65) rfl) rfl
theorem tw_2100 : (Jvm.Cond.static ({ cls := "TwoSeasModel", name := "bodyOf", desc := "(II)I" } : Jvm.MethodName)) ∈ tq_W := tq_t9 (List.mem_of_getElem? (i := 66) rfl) rfl
theorem tw_2101 : (Jvm.Cond.code ({ cls := "TwoSeasModel", name := "bodyOf", desc := "(II)I" } : Jvm.MethodName) prog_14_method_108_code (2 : Nat) (Option.some Jvm.ClassFile.FieldType.int)) ∈ tq_W := tq_t9 (List.mem_of_getElem? (i := 67) rfl) rfl
theorem tw_2102 : (Jvm.Cond.methodLink "TwoSeasModel" (529 : Nat) ({ cls := "TwoSeasModel", name := "above", desc := "(I)I" } : Jvm.MethodName)) ∈ tq_W := tq_t9 (List.mem_of_getElem? (i := 68) rfl) rfl
theorem tw_2103 : (Jvm.Cond.static ({ cls := "TwoSeasModel", name := "above", desc := "(I)I" } : Jvm.MethodName)) ∈ tq_W := tq_t9 (List.mem_of_getElem? (i := 69) rfl) rfl
theorem tw_2104 : (Jvm.Cond.code ({ cls := "TwoSeasModel", name := "above", desc := "(I)I" } : Jvm.MethodName) prog_14_method_107_code (1 : Nat) (Option.some Jvm.ClassFile.FieldType.int)) ∈ tq_W := tq_t9 (List.mem_of_getElem? (i := 70) rfl) rfl
theorem tw_2105 : (Jvm.Cond.methodLink "TwoSeasLaw" (198 : Nat) ({ cls := "TwoSeasModel", name := "trace", desc := "(I)I" } : Jvm.MethodName)) ∈ tq_W := tq_t9 (List.mem_of_getElem? (i := 71) rfl) rfl
theorem tw_2106 : (Jvm.Cond.instanceMethod ({ cls := "TwoSeasModel", name := "trace", desc := "(I)I" } : Jvm.MethodName)) ∈ tq_W := tq_t9 (List.mem_of_getElem? (i := 72) rfl) rfl
theorem tw_2107 : (Jvm.Cond.selects "TwoSeasModel" ({ cls := "TwoSeasModel", name := "trace", desc := "(I)I" } : Jvm.MethodName) ({ cls := "TwoSeasModel", name := "trace", desc := "(I)I" } : Jvm.MethodName)) ∈ tq_W := tq_t9 (List.mem_of_getElem? (i := 73) rfl) rfl
theorem tw_2108 : (Jvm.Cond.code ({ cls := "TwoSeasModel", name := "trace", desc := "(I)I" } : Jvm.MethodName) prog_14_method_111_code (2 : Nat) (Option.some Jvm.ClassFile.FieldType.int)) ∈ tq_W := tq_t9 (List.mem_of_getElem? (i := 74) rfl) rfl
theorem tw_2109 : (Jvm.Cond.methodLink "TwoSeasLaw" (202 : Nat) ({ cls := "TwoSeasModel", name := "taken", desc := "(II)I" } : Jvm.MethodName)) ∈ tq_W := tq_t9 (List.mem_of_getElem? (i := 75) rfl) rfl
theorem tw_2110 : (Jvm.Cond.instanceMethod ({ cls := "TwoSeasModel", name := "taken", desc := "(II)I" } : Jvm.MethodName)) ∈ tq_W := tq_t9 (List.mem_of_getElem? (i := 76) rfl) rfl
theorem tw_2111 : (Jvm.Cond.selects "TwoSeasModel" ({ cls := "TwoSeasModel", name := "taken", desc := "(II)I" } : Jvm.MethodName) ({ cls := "TwoSeasModel", name := "taken", desc := "(II)I" } : Jvm.MethodName)) ∈ tq_W := tq_t9 (List.mem_of_getElem? (i := 77) rfl) rfl
theorem tw_2112 : (Jvm.Cond.code ({ cls := "TwoSeasModel", name := "taken", desc := "(II)I" } : Jvm.MethodName) prog_14_method_112_code (4 : Nat) (Option.some Jvm.ClassFile.FieldType.int)) ∈ tq_W := tq_t9 (List.mem_of_getElem? (i := 78) rfl) rfl
theorem tw_2113 : (Jvm.Cond.methodLink "TwoSeasLaw" (206 : Nat) ({ cls := "TwoSeasModel", name := "count", desc := "(I)I" } : Jvm.MethodName)) ∈ tq_W := tq_t9 (List.mem_of_getElem? (i := 79) rfl) rfl
theorem tw_2114 : (Jvm.Cond.instanceMethod ({ cls := "TwoSeasModel", name := "count", desc := "(I)I" } : Jvm.MethodName)) ∈ tq_W := tq_t9 (List.mem_of_getElem? (i := 80) rfl) rfl
theorem tw_2115 : (Jvm.Cond.selects "TwoSeasModel" ({ cls := "TwoSeasModel", name := "count", desc := "(I)I" } : Jvm.MethodName) ({ cls := "TwoSeasModel", name := "count", desc := "(I)I" } : Jvm.MethodName)) ∈ tq_W := tq_t9 (List.mem_of_getElem? (i := 81) rfl) rfl
theorem tw_2116 : (Jvm.Cond.code ({ cls := "TwoSeasModel", name := "count", desc := "(I)I" } : Jvm.MethodName) prog_14_method_113_code (4 : Nat) (Option.some Jvm.ClassFile.FieldType.int)) ∈ tq_W := tq_t9 (List.mem_of_getElem? (i := 82) rfl) rfl
theorem tw_2117 : (Jvm.Cond.methodLink "TwoSeasLaw" (210 : Nat) ({ cls := "TwoSeasModel", name := "sheet", desc := "(III)I" } : Jvm.MethodName)) ∈ tq_W := tq_t9 (List.mem_of_getElem? (i := 83) rfl) rfl
theorem tw_2118 : (Jvm.Cond.instanceMethod ({ cls := "TwoSeasModel", name := "sheet", desc := "(III)I" } : Jvm.MethodName)) ∈ tq_W := tq_t9 (List.mem_of_getElem? (i := 84) rfl) rfl
theorem tw_2119 : (Jvm.Cond.selects "TwoSeasModel" ({ cls := "TwoSeasModel", name := "sheet", desc := "(III)I" } : Jvm.MethodName) ({ cls := "TwoSeasModel", name := "sheet", desc := "(III)I" } : Jvm.MethodName)) ∈ tq_W := tq_t9 (List.mem_of_getElem? (i := 85) rfl) rfl
theorem tw_2120 : (Jvm.Cond.code ({ cls := "TwoSeasModel", name := "sheet", desc := "(III)I" } : Jvm.MethodName) prog_14_method_114_code (5 : Nat) (Option.some Jvm.ClassFile.FieldType.int)) ∈ tq_W := tq_t9 (List.mem_of_getElem? (i := 86) rfl) rfl
theorem tw_2121 : (Jvm.Cond.methodLink "TwoSeasLaw" (214 : Nat) ({ cls := "TwoSeasModel", name := "cell", desc := "(III)I" } : Jvm.MethodName)) ∈ tq_W := tq_t9 (List.mem_of_getElem? (i := 87) rfl) rfl
theorem tw_2122 : (Jvm.Cond.instanceMethod ({ cls := "TwoSeasModel", name := "cell", desc := "(III)I" } : Jvm.MethodName)) ∈ tq_W := tq_t9 (List.mem_of_getElem? (i := 88) rfl) rfl
theorem tw_2123 : (Jvm.Cond.selects "TwoSeasModel" ({ cls := "TwoSeasModel", name := "cell", desc := "(III)I" } : Jvm.MethodName) ({ cls := "TwoSeasModel", name := "cell", desc := "(III)I" } : Jvm.MethodName)) ∈ tq_W := tq_t9 (List.mem_of_getElem? (i := 89) rfl) rfl
theorem tw_2124 : (Jvm.Cond.code ({ cls := "TwoSeasModel", name := "cell", desc := "(III)I" } : Jvm.MethodName) prog_14_method_116_code (4 : Nat) (Option.some Jvm.ClassFile.FieldType.int)) ∈ tq_W := tq_t9 (List.mem_of_getElem? (i := 90) rfl) rfl
theorem tw_2125 : (Jvm.Cond.methodLink "TwoSeasModel" (538 : Nat) ({ cls := "TwoSeasModel", name := "cut", desc := "(II)I" } : Jvm.MethodName)) ∈ tq_W := tq_t9 (List.mem_of_getElem? (i := 91) rfl) rfl
theorem tw_2126 : (Jvm.Cond.static ({ cls := "TwoSeasModel", name := "cut", desc := "(II)I" } : Jvm.MethodName)) ∈ tq_W := tq_t9 (List.mem_of_getElem? (i := 92) rfl) rfl
theorem tw_2127 : (Jvm.Cond.code ({ cls := "TwoSeasModel", name := "cut", desc := "(II)I" } : Jvm.MethodName) prog_14_method_115_code (2 : Nat) (Option.some Jvm.ClassFile.FieldType.int)) ∈ tq_W := tq_t9 (List.mem_of_getElem? (i := 93) rfl) rfl
theorem tw_2128 : (Jvm.Cond.methodLink "TwoSeasLaw" (218 : Nat) ({ cls := "TwoSeasModel", name := "carry", desc := "(IIIII)I" } : Jvm.MethodName)) ∈ tq_W := tq_t9 (List.mem_of_getElem? (i := 94) rfl) rfl
theorem tw_2129 : (Jvm.Cond.instanceMethod ({ cls := "TwoSeasModel", name := "carry", desc := "(IIIII)I" } : Jvm.MethodName)) ∈ tq_W := tq_t9 (List.mem_of_getElem? (i := 95) rfl) rfl
theorem tw_2130 : (Jvm.Cond.selects "TwoSeasModel" ({ cls := "TwoSeasModel", name := "carry", desc := "(IIIII)I" } : Jvm.MethodName) ({ cls := "TwoSeasModel", name := "carry", desc := "(IIIII)I" } : Jvm.MethodName)) ∈ tq_W := tq_t9 (List.mem_of_getElem? (i := 96) rfl) rfl
theorem tw_2131 : (Jvm.Cond.code ({ cls := "TwoSeasModel", name := "carry", desc := "(IIIII)I" } : Jvm.MethodName) prog_14_method_117_code (6 : Nat) (Option.some Jvm.ClassFile.FieldType.int)) ∈ tq_W := tq_t9 (List.mem_of_getElem? (i := 97) rfl) rfl
theorem tw_2148 : (Jvm.Cond.sameMethod "[Ljava/lang/Object;" "java/lang/Object" "getClass" "()Ljava/lang/Class;") ∈ tq_W := tq_t9 (List.mem_of_getElem? (i := 114) rfl) rfl
theorem tw_2149 : (Jvm.Cond.selects "[Ljava/lang/Object;" ({ cls := "java/lang/Object", name := "getClass", desc := "()Ljava/lang/Class;" } : Jvm.MethodName) ({ cls := "java/lang/Object", name := "getClass", desc := "()Ljava/lang/Class;" } : Jvm.MethodName)) ∈ tq_W := tq_t9 (List.mem_of_getElem? (i := 115) rfl) rfl
theorem tw_2158 : (Jvm.Cond.fieldLink "java/lang/String" (9 : Nat) "java/lang/String" "value" "[B") ∈ tq_W := tq_t9 (List.mem_of_getElem? (i := 124) rfl) rfl
theorem tw_2159 : (Jvm.Cond.fieldLink "java/lang/String" (15 : Nat) "java/lang/String" "coder" "B") ∈ tq_W := tq_t9 (List.mem_of_getElem? (i := 125) rfl) rfl
theorem tq_inX0 : ∀ w ∈ u_ws RX0 TX0 2, w ∈ tq_W := tq_inl _ [237, 239] (by decide +kernel) (by decide +kernel)
theorem tq_inX1 : ∀ w ∈ u_ws RX1 TX1 13, w ∈ tq_W := tq_inl _ [1205, 1206, 1207, 1208, 1209, 1210, 1211, 1212, 1213, 1214, 1199, 1201, 1203] (by decide +kernel) (by decide +kernel)
theorem tq_inX2 : ∀ w ∈ u_ws RX2 TX2 5, w ∈ tq_W := tq_inl _ [215, 217, 219, 221, 223] (by decide +kernel) (by decide +kernel)
theorem tq_inX3 : ∀ w ∈ u_ws RX3 TX3 10, w ∈ tq_W := tq_inl _ [539, 541, 543, 545, 547, 549, 551, 553, 555, 557] (by decide +kernel) (by decide +kernel)
theorem tq_inX4 : ∀ w ∈ u_ws RX4 TX4 7, w ∈ tq_W := tq_inl _ [677, 679, 681, 683, 685, 687, 689] (by decide +kernel) (by decide +kernel)
theorem tq_inX5 : ∀ w ∈ u_ws RX5 TX5 17, w ∈ tq_W := tq_inl _ [282, 284, 286, 288, 290, 292, 294, 296, 298, 300, 302, 304, 306, 308, 310, 312, 314] (by decide +kernel) (by decide +kernel)
theorem tq_inX6 : ∀ w ∈ u_ws RX6 TX6 4, w ∈ tq_W := tq_inl _ [189, 191, 193, 195] (by decide +kernel) (by decide +kernel)
theorem tq_inX7 : ∀ w ∈ u_ws RX7 TX7 3, w ∈ tq_W := tq_inl _ [327, 329, 331] (by decide +kernel) (by decide +kernel)
theorem tq_inX8 : ∀ w ∈ u_ws RX8 TX8 11, w ∈ tq_W := tq_inl _ [920, 922, 924, 926, 928, 930, 932, 934, 936, 938, 940] (by decide +kernel) (by decide +kernel)
theorem tq_inX9 : ∀ w ∈ u_ws RX9 TX9 6, w ∈ tq_W := tq_inl _ [732, 734, 736, 738, 740, 742] (by decide +kernel) (by decide +kernel)
theorem tq_inX10 : ∀ w ∈ u_ws RX10 TX10 12, w ∈ tq_W := tq_inl _ [1008, 1010, 1012, 1014, 1016, 1018, 1020, 1022, 1024, 1026, 1028, 1030] (by decide +kernel) (by decide +kernel)
theorem tq_inX11 : ∀ w ∈ u_ws RX11 TX11 20, w ∈ tq_W := tq_inl _ [357, 359, 361, 363, 365, 367, 369, 371, 373, 375, 377, 379, 381, 383, 385, 387, 389, 391, 393, 395] (by decide +kernel) (by decide +kernel)
theorem tq_inX12 : ∀ w ∈ u_ws RX12 TX12 77, w ∈ tq_W := tq_inl _ [1485, 1487, 1489, 1491, 1493, 1495, 1497, 1499, 1501, 1503, 1505, 1507, 1509, 1511, 1513, 1515, 1517, 1519, 1521, 1523, 1525, 1527, 1529, 1531, 1533, 1535, 1537, 1539, 1541, 1543, 1545, 1547, 1549, 1551, 1553, 1555, 1557, 1559, 1561, 1563, 1565, 1567, 1569, 1571, 1573, 1575, 1577, 1579, 1581, 1583, 1585, 1587, 1589, 1591, 1593, 1595, 1597, 1599, 1601, 1603, 1605, 1607, 1609, 1611, 1613, 1615, 1617, 1619, 1621, 1623, 1625, 1627, 1629, 1631, 1633, 1635, 1637] (by decide +kernel) (by decide +kernel)
