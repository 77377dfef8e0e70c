/-! the heap's own measure: cells by its size, slots by their sum -/
def tq_all (H : Heap) : Nat := (H.toList.map (fun c : Cell => c.slots.size)).sum
theorem tq_foldl (l : List Cell) : ∀ a : Nat, l.foldl (fun n c => n + c.slots.size) a = a + (l.map (fun c : Cell => c.slots.size)).sum := by
  induction l with
  | nil => intro a; simp
  | cons x l ih =>
    intro a
    rw [List.foldl_cons, ih, List.map_cons, List.sum_cons]
    omega
theorem tq_book {s : State} (h : s.slotsTrue = true) : s.slotsUsed = tq_all s.heap := by
  have h1 : s.slotsUsed = s.heap.foldl (fun n c => n + c.slots.size) 0 := by
    simpa [State.slotsTrue] using h
  rw [h1, ← Array.foldl_toList, tq_foldl]
  unfold tq_all
  omega
section TQT
variable {p : Program} {l : Launch} {e : Env} {R : Room} {s : State} {m : MethodId} {args : Array Value} {below : List Frame} {meth : Method} {c : Code} {H : Heap} {locs : List Loc} {cells slots : Nat} {Q : State → Prop} {g : JFrame}
/-- what W counts is the heap's own measure: it may be counted anew -/
theorem tq_tight {c1 n1 : Nat} (h1 : H.size ≤ s.heap.size + c1) (h2 : tq_all H ≤ tq_all s.heap + n1) (k : W p l e R s m args below meth c H locs c1 n1 Q g) : W p l e R s m args below meth c H locs cells slots Q g := by
  intro T hT X
  refine k T hT { X with same := ?_ }
  have hb := tq_book X.book
  have h0 : s.slotsTrue = true := by
    have h := X.room
    simp only [State.hasRoom, Bool.and_eq_true] at h
    exact h.2
  have hb0 := tq_book h0
  obtain ⟨a1, a2, a3, a4, a5, a6⟩ := X.same
  have a4' : T.slotsUsed = s.slotsUsed + (((T.setVm s.vm).heap.toList.drop s.heap.size).map (·.slots.size)).sum := a4
  refine ⟨a1, a2, ?_, a4, ?_, a6⟩
  · show T.heap.size ≤ _
    rw [hT]
    exact h1
  · rw [hT] at hb
    omega
/-- what is known of the heap at any time -/
theorem tq_facts (k : s.heap.size ≤ H.size → H.size ≤ s.heap.size + cells → tq_all H ≤ tq_all s.heap + slots → W p l e R s m args below meth c H locs cells slots Q g) : W p l e R s m args below meth c H locs cells slots Q g := by
  intro T hT X
  have hb := tq_book X.book
  have h0 : s.slotsTrue = true := by
    have h := X.room
    simp only [State.hasRoom, Bool.and_eq_true] at h
    exact h.2
  have hb0 := tq_book h0
  obtain ⟨a1, a2, a3, a4, a5, a6⟩ := X.same
  have a4' : T.slotsUsed = s.slotsUsed + (((T.setVm s.vm).heap.toList.drop s.heap.size).map (·.slots.size)).sum := a4
  have a2' : s.heap.size ≤ T.heap.size := a2
  have a3' : T.heap.size ≤ s.heap.size + cells := a3
  rw [hT] at hb a2' a3'
  exact k a2' a3' (by omega) T hT X
end TQT
theorem tq_same0 {st t : State} {L : List Loc} (h : st.sameButNew t L 0 0) : t.heap.size = st.heap.size ∧ tq_all t.heap = tq_all st.heap := by
  obtain ⟨-, h1, h2, -, -, h3⟩ := h
  have hs : t.heap.size = st.heap.size := by omega
  refine ⟨hs, ?_⟩
  unfold tq_all
  congr 1
  apply List.ext_getElem?
  intro j
  rw [List.getElem?_map, List.getElem?_map, Array.getElem?_toList, Array.getElem?_toList]
  cases hc : st.heap[j]? with
  | none =>
    have : t.heap[j]? = none := by
      rw [Array.getElem?_eq_none_iff] at hc ⊢
      omega
    rw [this]
  | some x =>
    obtain ⟨x', h4, -, h5, -⟩ := h3 j x hc
    rw [h4]
    simp [h5]
/-- a contract that makes nothing says so -/
theorem tq_met0 {l : Launch} {y : MethodName} {ws : List Cond} {rm : Room} {Pc : Array Value → State → Prop} {Qc : Array Value → State → Outcome → State → Prop} {free : Addr → Prop} (hM : Met l y ws rm Pc Qc 0 0 free) : Met l y ws rm Pc (fun a st o t => Qc a st o t ∧ t.heap.size = st.heap.size ∧ tq_all t.heap = tq_all st.heap) 0 0 free := by
  intro p e ha hc hk s m args below hf hfit hheap hP
  obtain ⟨k, o, h1, h2, h3, hq, L, hF, hL⟩ := hM p e ha hc hk s m args below hf hfit hheap hP
  have h9 := tq_same0 hF.2.2
  exact ⟨k, o, h1, h2, h3, ⟨hq, h9⟩, L, hF, hL⟩
