variable {l : Launch} {D : va_G} {cy : Nat → ClassId} {z A0 : Nat} {H0 : Heap} {ad : Nat → Nat → Nat} {M : tq_St}
-- X11 plan
def wbX11_plan_50 (post : tq_Nn → tq_St → Int32 → Prop)  (N : tq_Nn) (S : tq_St) : Prop :=
  post N S ((-1000000000))
def wbX11_plan_221 (post : tq_Nn → tq_St → Int32 → Prop) (L92 : tq_Nn → tq_St → Int32 → Nat → Int32 → Int32 → Nat → Int32 → Prop) (L101 : tq_Nn → tq_St → Int32 → Nat → Int32 → Int32 → Nat → Int32 → Int32 → Prop) (L110 : tq_Nn → tq_St → Int32 → Nat → Int32 → Int32 → Nat → Int32 → Int32 → Int32 → Prop) (N : tq_Nn) (S : tq_St) (x4 : Int32) (x6 : Nat) (x7 : Int32) (x8 : Int32) (x9 : Nat) (x10 : Int32) (x11 : Int32) (x12 : Int32) : Prop :=
  L110 N S x4 x6 x7 x8 x9 x10 x11 (x12 + 1)
def wbX11_plan_119 (post : tq_Nn → tq_St → Int32 → Prop) (L92 : tq_Nn → tq_St → Int32 → Nat → Int32 → Int32 → Nat → Int32 → Prop) (L101 : tq_Nn → tq_St → Int32 → Nat → Int32 → Int32 → Nat → Int32 → Int32 → Prop) (L110 : tq_Nn → tq_St → Int32 → Nat → Int32 → Int32 → Nat → Int32 → Int32 → Int32 → Prop) : Nat → tq_Nn → tq_St → Int32 → Nat → Int32 → Int32 → Nat → Int32 → Int32 → Int32 → Int32 → Prop
  | 0, _, _, _, _, _, _, _, _, _, _, _ => False
  | n + 1, N, S, x4, x6, x7, x8, x9, x10, x11, x12, x13 =>
    (5 < x13 → (wbX11_plan_221 post L92 L101 L110 N S x4 x6 x7 x8 x9 x10 x11 x12)) ∧ (¬ 5 < x13 → (x6 < 5 ∧ ((x7 < (((x10 + x11) + x12) + x13) → (wbX11_plan_221 post L92 L101 L110 N S x4 x6 x7 x8 x9 x10 x11 x12)) ∧ (¬ x7 < (((x10 + x11) + x12) + x13) → ((((((x10 * (S 31 x6 0)) + (x11 * (S 31 x6 1))) + (x12 * (S 31 x6 2))) + (x13 * (S 31 x6 3))) ≤ x8 → (wpX11_worstYear N (fun S34 r35 => wpX11_keepIfBetter (fun N36 S37  => (wbX11_plan_119 post L92 L101 L110 n) N36 S37 x4 x6 x7 x8 x9 x10 x11 x12 (x13 + 1)) N S34 x9 (10 * (r35 - ((((x10 * (S 31 x6 0)) + (x11 * (S 31 x6 1))) + (x12 * (S 31 x6 2))) + (x13 * (S 31 x6 3))))) x10 x11 x12 x13) S x10 x11 x12 x13)) ∧ (¬ ((((x10 * (S 31 x6 0)) + (x11 * (S 31 x6 1))) + (x12 * (S 31 x6 2))) + (x13 * (S 31 x6 3))) ≤ x8 → (wbX11_plan_221 post L92 L101 L110 N S x4 x6 x7 x8 x9 x10 x11 x12)))))))
def wbX11_plan_110 (post : tq_Nn → tq_St → Int32 → Prop) (L92 : tq_Nn → tq_St → Int32 → Nat → Int32 → Int32 → Nat → Int32 → Prop) (L101 : tq_Nn → tq_St → Int32 → Nat → Int32 → Int32 → Nat → Int32 → Int32 → Prop) : Nat → tq_Nn → tq_St → Int32 → Nat → Int32 → Int32 → Nat → Int32 → Int32 → Int32 → Prop
  | 0, _, _, _, _, _, _, _, _, _, _ => False
  | n + 1, N, S, x4, x6, x7, x8, x9, x10, x11, x12 =>
    (5 < x12 → (L101 N S x4 x6 x7 x8 x9 x10 (x11 + 1))) ∧ (¬ 5 < x12 → (∃ nq, wbX11_plan_119 post L92 L101 (wbX11_plan_110 post L92 L101 n) nq N S x4 x6 x7 x8 x9 x10 x11 x12 0))
def wbX11_plan_101 (post : tq_Nn → tq_St → Int32 → Prop) (L92 : tq_Nn → tq_St → Int32 → Nat → Int32 → Int32 → Nat → Int32 → Prop) : Nat → tq_Nn → tq_St → Int32 → Nat → Int32 → Int32 → Nat → Int32 → Int32 → Prop
  | 0, _, _, _, _, _, _, _, _, _ => False
  | n + 1, N, S, x4, x6, x7, x8, x9, x10, x11 =>
    (5 < x11 → (L92 N S x4 x6 x7 x8 x9 (x10 + 1))) ∧ (¬ 5 < x11 → (∃ nq, wbX11_plan_110 post L92 (wbX11_plan_101 post L92 n) nq N S x4 x6 x7 x8 x9 x10 x11 0))
def wbX11_plan_92 (post : tq_Nn → tq_St → Int32 → Prop) : Nat → tq_Nn → tq_St → Int32 → Nat → Int32 → Int32 → Nat → Int32 → Prop
  | 0, _, _, _, _, _, _, _, _ => False
  | n + 1, N, S, x4, x6, x7, x8, x9, x10 =>
    (5 < x10 → (vp_in x4 5 ∧ ¬ x9 < 1 ∧ N 12 x9 = 1 ∧ (post N S (S 12 x9 x4.toNatClampNeg)))) ∧ (¬ 5 < x10 → (∃ nq, wbX11_plan_101 post (wbX11_plan_92 post n) nq N S x4 x6 x7 x8 x9 x10 0))
def wbX11_plan_33 (post : tq_Nn → tq_St → Int32 → Prop)  (N : tq_Nn) (S : tq_St) (x1 : Int32) (x2 : Int32) (x3 : Int32) (x4 : Int32) (y0 : Int32) : Prop :=
  (y0 = 0 → (wbX11_plan_50 post N S )) ∧ (¬ y0 = 0 → (wpX11_within N (fun S11 r12 => (¬ r12 = 0 → (vp_in x1 5 ∧ (N 0 0 + 1 ≤ tq_CX ∧ N 0 1 + 5 ≤ tq_CY ∧ (∀ i17, ¬ i17 < 1 → i17 ≤ N 0 0 → ∀ N18, N18 = tq_na N (i17 + 1) 12 i17 1 5 → ∀ S19, S19 = tq_cp S11 12 i17 (fun _ => 0) → (¬ i17 < 1 ∧ N18 12 i17 = 1 ∧ (∀ S23, S23 = tq_up S19 12 i17 0 ((-1000000000)) → (∃ nq, wbX11_plan_92 post nq N18 S23 x4 x1.toNatClampNeg (x2 / 10) (x3 / 10) i17 0))))))) ∧ (r12 = 0 → (wbX11_plan_50 post N S11 ))) S x4 0 4))
def wbX11_plan_32 (post : tq_Nn → tq_St → Int32 → Prop)  (N : tq_Nn) (S : tq_St) (x1 : Int32) (x2 : Int32) (x3 : Int32) (x4 : Int32) : Prop :=
  wbX11_plan_33 post N S x1 x2 x3 x4 0
def wpX11_plan (post : tq_Nn → tq_St → Int32 → Prop) (N : tq_Nn) (S : tq_St) (p0 : Int32) (p1 : Int32) (p2 : Int32) (p3 : Int32) : Prop :=
  wpX11_isFactory N (fun S1 r2 => (r2 = 0 → (wbX11_plan_32 post N S1 p0 p1 p2 p3)) ∧ (¬ r2 = 0 → (wpX11_within N (fun S4 r5 => (r5 = 0 → (wbX11_plan_32 post N S4 p0 p1 p2 p3)) ∧ (¬ r5 = 0 → (wpX11_within N (fun S7 r8 => (r8 = 0 → (wbX11_plan_32 post N S7 p0 p1 p2 p3)) ∧ (¬ r8 = 0 → (wbX11_plan_33 post N S7 p0 p1 p2 p3 1))) S4 p2 0 (1000000)))) S1 p1 0 200))) S p0
set_option maxHeartbeats 4000000 in
set_option maxRecDepth 100000 in
theorem bX11_plan_50 {p : Program} {e : Env} {s : State} {m : MethodId} {args : Array Value} {below : List Frame} {meth : Method} {c : Code} {post : tq_Nn → tq_St → Int32 → Prop} (C : tq_At p s m meth c args cX11_plan 15 ((some .int)) ((tq_ws yX11_plan cX11_plan 15 (some .int))) RX11 D cy z ad)  : ∀ (N : tq_Nn) (S : tq_St)  (H : Heap) (locs : List Loc) (ls : Array Slot), wbX11_plan_50 post  N S  → tq_nb z A0 s N → tq_wd D cy z H0 ad N (tq_mix S M) H → va_S (fun q => z ≤ q) s.heap H locs → lv_has ls 15 [] → tq_Wb p l e 2 50 s m args below meth c z A0 N H locs (MQ below (va_Qi (fun r (u : tq_Nn × tq_St) => post u.1 u.2 r) (tq_PB D cy z A0 H0 ad M) (fun q => z ≤ q)) args s (z + tq_CX - s.heap.size) (A0 + tq_CY - tq_all s.heap) (fun q => z ≤ q)) (F0 m 50 ls []) := by
  obtain ⟨hx, hb, hr, hml, hown, hts, hlocks, hK, hG⟩ := id C
  have hw : ∀ w ∈ tq_W, w.before args s = true := fun w h => hts w (List.mem_cons_of_mem _ h)
  intro N S  H locs ls h hN hW hS hl
  unfold wbX11_plan_50 at h
  refine lv_ldcw hx hb hown (hw _ tw_1328) dX11_plan_50 ?_
  exact tqb_iret (v := (-1000000000)) hx hb hr hN h hW hS dX11_plan_53 hlocks
set_option maxHeartbeats 4000000 in
set_option maxRecDepth 100000 in
theorem bX11_plan_221 {p : Program} {e : Env} {s : State} {m : MethodId} {args : Array Value} {below : List Frame} {meth : Method} {c : Code} {post : tq_Nn → tq_St → Int32 → Prop} (C : tq_At p s m meth c args cX11_plan 15 ((some .int)) ((tq_ws yX11_plan cX11_plan 15 (some .int))) RX11 D cy z ad) {L92 : tq_Nn → tq_St → Int32 → Nat → Int32 → Int32 → Nat → Int32 → Prop} (hL92 : ∀ (N : tq_Nn) (S : tq_St) (x4 : Int32) (x6 : Nat) (x7 : Int32) (x8 : Int32) (x9 : Nat) (x10 : Int32) (H : Heap) (locs : List Loc) (ls : Array Slot), L92 N S x4 x6 x7 x8 x9 x10 → tq_nb z A0 s N → tq_wd D cy z H0 ad N (tq_mix S M) H → va_S (fun q => z ≤ q) s.heap H locs → lv_has ls 15 [(0, .ref (ad 1 0)), (4, .int x4), (6, .ref (ad 31 x6)), (7, .int x7), (8, .int x8), (9, .ref (ad 12 x9)), (10, .int x10)] → tq_Wb p l e 2 50 s m args below meth c z A0 N H locs (MQ below (va_Qi (fun r (u : tq_Nn × tq_St) => post u.1 u.2 r) (tq_PB D cy z A0 H0 ad M) (fun q => z ≤ q)) args s (z + tq_CX - s.heap.size) (A0 + tq_CY - tq_all s.heap) (fun q => z ≤ q)) (F0 m 92 ls [])) {L101 : tq_Nn → tq_St → Int32 → Nat → Int32 → Int32 → Nat → Int32 → Int32 → Prop} (hL101 : ∀ (N : tq_Nn) (S : tq_St) (x4 : Int32) (x6 : Nat) (x7 : Int32) (x8 : Int32) (x9 : Nat) (x10 : Int32) (x11 : Int32) (H : Heap) (locs : List Loc) (ls : Array Slot), L101 N S x4 x6 x7 x8 x9 x10 x11 → tq_nb z A0 s N → tq_wd D cy z H0 ad N (tq_mix S M) H → va_S (fun q => z ≤ q) s.heap H locs → lv_has ls 15 [(0, .ref (ad 1 0)), (4, .int x4), (6, .ref (ad 31 x6)), (7, .int x7), (8, .int x8), (9, .ref (ad 12 x9)), (10, .int x10), (11, .int x11)] → tq_Wb p l e 2 50 s m args below meth c z A0 N H locs (MQ below (va_Qi (fun r (u : tq_Nn × tq_St) => post u.1 u.2 r) (tq_PB D cy z A0 H0 ad M) (fun q => z ≤ q)) args s (z + tq_CX - s.heap.size) (A0 + tq_CY - tq_all s.heap) (fun q => z ≤ q)) (F0 m 101 ls [])) {L110 : tq_Nn → tq_St → Int32 → Nat → Int32 → Int32 → Nat → Int32 → Int32 → Int32 → Prop} (hL110 : ∀ (N : tq_Nn) (S : tq_St) (x4 : Int32) (x6 : Nat) (x7 : Int32) (x8 : Int32) (x9 : Nat) (x10 : Int32) (x11 : Int32) (x12 : Int32) (H : Heap) (locs : List Loc) (ls : Array Slot), L110 N S x4 x6 x7 x8 x9 x10 x11 x12 → tq_nb z A0 s N → tq_wd D cy z H0 ad N (tq_mix S M) H → va_S (fun q => z ≤ q) s.heap H locs → lv_has ls 15 [(0, .ref (ad 1 0)), (4, .int x4), (6, .ref (ad 31 x6)), (7, .int x7), (8, .int x8), (9, .ref (ad 12 x9)), (10, .int x10), (11, .int x11), (12, .int x12)] → tq_Wb p l e 2 50 s m args below meth c z A0 N H locs (MQ below (va_Qi (fun r (u : tq_Nn × tq_St) => post u.1 u.2 r) (tq_PB D cy z A0 H0 ad M) (fun q => z ≤ q)) args s (z + tq_CX - s.heap.size) (A0 + tq_CY - tq_all s.heap) (fun q => z ≤ q)) (F0 m 110 ls [])) : ∀ (N : tq_Nn) (S : tq_St) (x4 : Int32) (x6 : Nat) (x7 : Int32) (x8 : Int32) (x9 : Nat) (x10 : Int32) (x11 : Int32) (x12 : Int32) (H : Heap) (locs : List Loc) (ls : Array Slot), wbX11_plan_221 post L92 L101 L110 N S x4 x6 x7 x8 x9 x10 x11 x12 → tq_nb z A0 s N → tq_wd D cy z H0 ad N (tq_mix S M) H → va_S (fun q => z ≤ q) s.heap H locs → lv_has ls 15 [(0, .ref (ad 1 0)), (4, .int x4), (6, .ref (ad 31 x6)), (7, .int x7), (8, .int x8), (9, .ref (ad 12 x9)), (10, .int x10), (11, .int x11), (12, .int x12)] → tq_Wb p l e 2 50 s m args below meth c z A0 N H locs (MQ below (va_Qi (fun r (u : tq_Nn × tq_St) => post u.1 u.2 r) (tq_PB D cy z A0 H0 ad M) (fun q => z ≤ q)) args s (z + tq_CX - s.heap.size) (A0 + tq_CY - tq_all s.heap) (fun q => z ≤ q)) (F0 m 221 ls []) := by
  obtain ⟨hx, hb, hr, hml, hown, hts, hlocks, hK, hG⟩ := id C
  have hw : ∀ w ∈ tq_W, w.before args s = true := fun w h => hts w (List.mem_cons_of_mem _ h)
  intro N S x4 x6 x7 x8 x9 x10 x11 x12 H locs ls h hN hW hS hl
  unfold wbX11_plan_221 at h
  refine lv_iinc (v := x12 + 1) (lv' := [(12, .int (x12 + 1)), (0, .ref (ad 1 0)), (4, .int x4), (6, .ref (ad 31 x6)), (7, .int x7), (8, .int x8), (9, .ref (ad 12 x9)), (10, .int x10), (11, .int x11)]) hx hb dX11_plan_221 hl (k := 8) rfl rfl (by decide) rfl (fun ls hl => ?_)
  refine lv_goto (tgt := 110) hx hb dX11_plan_224 (by decide) ?_
  exact hL110 _ _ _ _ _ _ _ _ _ _ _ _ _ h hN hW hS (lv_sub hl [1, 2, 3, 4, 5, 6, 7, 8, 0] rfl)
set_option maxHeartbeats 4000000 in
set_option maxRecDepth 100000 in
theorem bX11_plan_119 {p : Program} {e : Env} {s : State} {m : MethodId} {args : Array Value} {below : List Frame} {meth : Method} {c : Code} {post : tq_Nn → tq_St → Int32 → Prop} (C : tq_At p s m meth c args cX11_plan 15 ((some .int)) ((tq_ws yX11_plan cX11_plan 15 (some .int))) RX11 D cy z ad) {L92 : tq_Nn → tq_St → Int32 → Nat → Int32 → Int32 → Nat → Int32 → Prop} (hL92 : ∀ (N : tq_Nn) (S : tq_St) (x4 : Int32) (x6 : Nat) (x7 : Int32) (x8 : Int32) (x9 : Nat) (x10 : Int32) (H : Heap) (locs : List Loc) (ls : Array Slot), L92 N S x4 x6 x7 x8 x9 x10 → tq_nb z A0 s N → tq_wd D cy z H0 ad N (tq_mix S M) H → va_S (fun q => z ≤ q) s.heap H locs → lv_has ls 15 [(0, .ref (ad 1 0)), (4, .int x4), (6, .ref (ad 31 x6)), (7, .int x7), (8, .int x8), (9, .ref (ad 12 x9)), (10, .int x10)] → tq_Wb p l e 2 50 s m args below meth c z A0 N H locs (MQ below (va_Qi (fun r (u : tq_Nn × tq_St) => post u.1 u.2 r) (tq_PB D cy z A0 H0 ad M) (fun q => z ≤ q)) args s (z + tq_CX - s.heap.size) (A0 + tq_CY - tq_all s.heap) (fun q => z ≤ q)) (F0 m 92 ls [])) {L101 : tq_Nn → tq_St → Int32 → Nat → Int32 → Int32 → Nat → Int32 → Int32 → Prop} (hL101 : ∀ (N : tq_Nn) (S : tq_St) (x4 : Int32) (x6 : Nat) (x7 : Int32) (x8 : Int32) (x9 : Nat) (x10 : Int32) (x11 : Int32) (H : Heap) (locs : List Loc) (ls : Array Slot), L101 N S x4 x6 x7 x8 x9 x10 x11 → tq_nb z A0 s N → tq_wd D cy z H0 ad N (tq_mix S M) H → va_S (fun q => z ≤ q) s.heap H locs → lv_has ls 15 [(0, .ref (ad 1 0)), (4, .int x4), (6, .ref (ad 31 x6)), (7, .int x7), (8, .int x8), (9, .ref (ad 12 x9)), (10, .int x10), (11, .int x11)] → tq_Wb p l e 2 50 s m args below meth c z A0 N H locs (MQ below (va_Qi (fun r (u : tq_Nn × tq_St) => post u.1 u.2 r) (tq_PB D cy z A0 H0 ad M) (fun q => z ≤ q)) args s (z + tq_CX - s.heap.size) (A0 + tq_CY - tq_all s.heap) (fun q => z ≤ q)) (F0 m 101 ls [])) {L110 : tq_Nn → tq_St → Int32 → Nat → Int32 → Int32 → Nat → Int32 → Int32 → Int32 → Prop} (hL110 : ∀ (N : tq_Nn) (S : tq_St) (x4 : Int32) (x6 : Nat) (x7 : Int32) (x8 : Int32) (x9 : Nat) (x10 : Int32) (x11 : Int32) (x12 : Int32) (H : Heap) (locs : List Loc) (ls : Array Slot), L110 N S x4 x6 x7 x8 x9 x10 x11 x12 → tq_nb z A0 s N → tq_wd D cy z H0 ad N (tq_mix S M) H → va_S (fun q => z ≤ q) s.heap H locs → lv_has ls 15 [(0, .ref (ad 1 0)), (4, .int x4), (6, .ref (ad 31 x6)), (7, .int x7), (8, .int x8), (9, .ref (ad 12 x9)), (10, .int x10), (11, .int x11), (12, .int x12)] → tq_Wb p l e 2 50 s m args below meth c z A0 N H locs (MQ below (va_Qi (fun r (u : tq_Nn × tq_St) => post u.1 u.2 r) (tq_PB D cy z A0 H0 ad M) (fun q => z ≤ q)) args s (z + tq_CX - s.heap.size) (A0 + tq_CY - tq_all s.heap) (fun q => z ≤ q)) (F0 m 110 ls [])) : ∀ n : Nat, ∀ (N : tq_Nn) (S : tq_St) (x4 : Int32) (x6 : Nat) (x7 : Int32) (x8 : Int32) (x9 : Nat) (x10 : Int32) (x11 : Int32) (x12 : Int32) (x13 : Int32) (H : Heap) (locs : List Loc) (ls : Array Slot), wbX11_plan_119 post L92 L101 L110 n N S x4 x6 x7 x8 x9 x10 x11 x12 x13 → tq_nb z A0 s N → tq_wd D cy z H0 ad N (tq_mix S M) H → va_S (fun q => z ≤ q) s.heap H locs → lv_has ls 15 [(0, .ref (ad 1 0)), (4, .int x4), (6, .ref (ad 31 x6)), (7, .int x7), (8, .int x8), (9, .ref (ad 12 x9)), (10, .int x10), (11, .int x11), (12, .int x12), (13, .int x13)] → tq_Wb p l e 2 50 s m args below meth c z A0 N H locs (MQ below (va_Qi (fun r (u : tq_Nn × tq_St) => post u.1 u.2 r) (tq_PB D cy z A0 H0 ad M) (fun q => z ≤ q)) args s (z + tq_CX - s.heap.size) (A0 + tq_CY - tq_all s.heap) (fun q => z ≤ q)) (F0 m 119 ls []) := by
  obtain ⟨hx, hb, hr, hml, hown, hts, hlocks, hK, hG⟩ := id C
  have hw : ∀ w ∈ tq_W, w.before args s = true := fun w h => hts w (List.mem_cons_of_mem _ h)
  intro n
  induction n with
  | zero =>
    intro N S x4 x6 x7 x8 x9 x10 x11 x12 x13 H locs ls h
    exact absurd h (by unfold wbX11_plan_119; exact id)
  | succ n ih =>
    intro N S x4 x6 x7 x8 x9 x10 x11 x12 x13 H locs ls h hN hW hS hl
    unfold wbX11_plan_119 at h
    refine lv_iload hx hb dX11_plan_119 (lv_at hl 9 rfl) ?_
    refine lv_iconst (v := 5) hx hb dX11_plan_121 (by decide) ?_
    refine lv_icmp_gt (tgt := 221) hx hb dX11_plan_122 (by decide) (fun c30 => ?_) (fun c30 => ?_)
    · have h := h.1 c30
      exact bX11_plan_221 C (fun N9 M9 a09 a19 a29 a39 a49 a59 H9 q9 ls9 h9 hN9 hW9 hS9 hl9 => hL92 N9 M9 a09 a19 a29 a39 a49 a59 H9 q9 ls9 h9 hN9 hW9 hS9 hl9) (fun N9 M9 a09 a19 a29 a39 a49 a59 a69 H9 q9 ls9 h9 hN9 hW9 hS9 hl9 => hL101 N9 M9 a09 a19 a29 a39 a49 a59 a69 H9 q9 ls9 h9 hN9 hW9 hS9 hl9) (fun N9 M9 a09 a19 a29 a39 a49 a59 a69 a79 H9 q9 ls9 h9 hN9 hW9 hS9 hl9 => hL110 N9 M9 a09 a19 a29 a39 a49 a59 a69 a79 H9 q9 ls9 h9 hN9 hW9 hS9 hl9) _ _ _ _ _ _ _ _ _ _ _ _ _ h hN hW hS (lv_sub hl [0, 1, 2, 3, 4, 5, 6, 7, 8] rfl)
    · have h := h.2 c30
      refine lv_iload hx hb dX11_plan_125 (lv_at hl 6 rfl) ?_
      refine lv_aload hx hb dX11_plan_127 (lv_at hl 2 rfl) ?_
      refine lv_iconst (v := 0) hx hb dX11_plan_129 (by decide) ?_
      obtain ⟨b31, h⟩ := h
      refine tqc_iald (jn := 0) hx hb hK hW (by decide) (tq_mk_31 b31) (by unfold vp_in; decide) (by decide) dX11_plan_130 ?_
      refine lv_imul hx hb dX11_plan_131 ?_
      refine lv_iload hx hb dX11_plan_132 (lv_at hl 7 rfl) ?_
      refine lv_aload hx hb dX11_plan_134 (lv_at hl 2 rfl) ?_
      refine lv_iconst (v := 1) hx hb dX11_plan_136 (by decide) ?_
      refine tqc_iald (jn := 1) hx hb hK hW (by decide) (tq_mk_31 b31) (by unfold vp_in; decide) (by decide) dX11_plan_137 ?_
      refine lv_imul hx hb dX11_plan_138 ?_
      refine lv_iadd hx hb dX11_plan_139 ?_
      refine lv_iload hx hb dX11_plan_140 (lv_at hl 8 rfl) ?_
      refine lv_aload hx hb dX11_plan_142 (lv_at hl 2 rfl) ?_
      refine lv_iconst (v := 2) hx hb dX11_plan_144 (by decide) ?_
      refine tqc_iald (jn := 2) hx hb hK hW (by decide) (tq_mk_31 b31) (by unfold vp_in; decide) (by decide) dX11_plan_145 ?_
      refine lv_imul hx hb dX11_plan_146 ?_
      refine lv_iadd hx hb dX11_plan_147 ?_
      refine lv_iload hx hb dX11_plan_148 (lv_at hl 9 rfl) ?_
      refine lv_aload hx hb dX11_plan_150 (lv_at hl 2 rfl) ?_
      refine lv_iconst (v := 3) hx hb dX11_plan_152 (by decide) ?_
      refine tqc_iald (jn := 3) hx hb hK hW (by decide) (tq_mk_31 b31) (by unfold vp_in; decide) (by decide) dX11_plan_153 ?_
      refine lv_imul hx hb dX11_plan_154 ?_
      refine lv_iadd hx hb dX11_plan_155 ?_
      refine lv_istore (lv' := [(14, .int ((((x10 * (S 31 x6 0)) + (x11 * (S 31 x6 1))) + (x12 * (S 31 x6 2))) + (x13 * (S 31 x6 3)))), (0, .ref (ad 1 0)), (4, .int x4), (6, .ref (ad 31 x6)), (7, .int x7), (8, .int x8), (9, .ref (ad 12 x9)), (10, .int x10), (11, .int x11), (12, .int x12), (13, .int x13)]) hx hb dX11_plan_156 hl (by decide) rfl (fun ls hl => ?_)
      refine lv_iload hx hb dX11_plan_158 (lv_at hl 7 rfl) ?_
      refine lv_iload hx hb dX11_plan_160 (lv_at hl 8 rfl) ?_
      refine lv_iadd hx hb dX11_plan_162 ?_
      refine lv_iload hx hb dX11_plan_163 (lv_at hl 9 rfl) ?_
      refine lv_iadd hx hb dX11_plan_165 ?_
      refine lv_iload hx hb dX11_plan_166 (lv_at hl 10 rfl) ?_
      refine lv_iadd hx hb dX11_plan_168 ?_
      refine lv_iload hx hb dX11_plan_169 (lv_at hl 4 rfl) ?_
      refine lv_icmp_gt (tgt := 221) hx hb dX11_plan_171 (by decide) (fun c32 => ?_) (fun c32 => ?_)
      · have h := h.1 c32
        exact bX11_plan_221 C (fun N9 M9 a09 a19 a29 a39 a49 a59 H9 q9 ls9 h9 hN9 hW9 hS9 hl9 => hL92 N9 M9 a09 a19 a29 a39 a49 a59 H9 q9 ls9 h9 hN9 hW9 hS9 hl9) (fun N9 M9 a09 a19 a29 a39 a49 a59 a69 H9 q9 ls9 h9 hN9 hW9 hS9 hl9 => hL101 N9 M9 a09 a19 a29 a39 a49 a59 a69 H9 q9 ls9 h9 hN9 hW9 hS9 hl9) (fun N9 M9 a09 a19 a29 a39 a49 a59 a69 a79 H9 q9 ls9 h9 hN9 hW9 hS9 hl9 => hL110 N9 M9 a09 a19 a29 a39 a49 a59 a69 a79 H9 q9 ls9 h9 hN9 hW9 hS9 hl9) _ _ _ _ _ _ _ _ _ _ _ _ _ h hN hW hS (lv_sub hl [1, 2, 3, 4, 5, 6, 7, 8, 9] rfl)
      · have h := h.2 c32
        refine lv_iload hx hb dX11_plan_174 (lv_at hl 0 rfl) ?_
        refine lv_iload hx hb dX11_plan_176 (lv_at hl 5 rfl) ?_
        refine lv_icmp_le (tgt := 184) hx hb dX11_plan_178 (by decide) (fun c33 => ?_) (fun c33 => ?_)
        · have h := h.1 c33
          refine lv_aload hx hb dX11_plan_184 (lv_at hl 6 rfl) ?_
          refine lv_bipush (v := 10) hx hb dX11_plan_186 (by decide) ?_
          refine lv_aload_n hx hb dX11_plan_188 rfl (lv_at hl 1 rfl) ?_
          refine lv_iload hx hb dX11_plan_189 (lv_at hl 7 rfl) ?_
          refine lv_iload hx hb dX11_plan_191 (lv_at hl 8 rfl) ?_
          refine lv_iload hx hb dX11_plan_193 (lv_at hl 9 rfl) ?_
          refine lv_iload hx hb dX11_plan_195 (lv_at hl 10 rfl) ?_
          refine tqc_callVi (As := [.int x10, .int x11, .int x12, .int x13]) (rest := [.int 10, .ref (ad 12 x9)]) (kX11_worstYear h) ⟨hx, hb, hml, hown, hts⟩ (cwV 4 hts (tq_goodV tw_1329 tw_1331 tw_53 tw_115 tw_1332) rfl rfl rfl (by decide +kernel) ⟨(Nat.le_of_ble_eq_true rfl), (Nat.le_of_ble_eq_true rfl)⟩) (tq_recvC hK hW (by decide) (tq_mk_1 (by decide)) rfl) hK hG hW hS rfl hl.1 rfl (Nat.le_of_ble_eq_true rfl) dX11_plan_197 hN.f (fun r35 S34 H locs h hW hS => ?_)
          refine lv_iload hx hb dX11_plan_200 (lv_at hl 0 rfl) ?_
          refine lv_isub hx hb dX11_plan_202 ?_
          refine lv_imul hx hb dX11_plan_203 ?_
          refine lv_iload hx hb dX11_plan_204 (lv_at hl 7 rfl) ?_
          refine lv_iload hx hb dX11_plan_206 (lv_at hl 8 rfl) ?_
          refine lv_iload hx hb dX11_plan_208 (lv_at hl 9 rfl) ?_
          refine lv_iload hx hb dX11_plan_210 (lv_at hl 10 rfl) ?_
          refine tqb_callSv (As := [.ref (ad 12 x9), .int (10 * (r35 - ((((x10 * (S 31 x6 0)) + (x11 * (S 31 x6 1))) + (x12 * (S 31 x6 2))) + (x13 * (S 31 x6 3))))), .int x10, .int x11, .int x12, .int x13]) (rest := []) (kX11_keepIfBetter h) ⟨hx, hb, hml, hown, hts⟩ (va_cwS 6 hts (tq_goodS tw_1336 tw_1337 tw_115 tw_1338) rfl rfl rfl (by decide +kernel) ⟨(Nat.le_of_ble_eq_true rfl), (Nat.le_of_ble_eq_true rfl)⟩) hK hG hW hS rfl hl.1 rfl (Nat.le_of_ble_eq_true rfl) dX11_plan_212 hN (fun  N36 S37 H locs h hN hW hS => ?_)
          refine lv_iinc (v := x13 + 1) (lv' := [(13, .int (x13 + 1)), (14, .int ((((x10 * (S 31 x6 0)) + (x11 * (S 31 x6 1))) + (x12 * (S 31 x6 2))) + (x13 * (S 31 x6 3)))), (0, .ref (ad 1 0)), (4, .int x4), (6, .ref (ad 31 x6)), (7, .int x7), (8, .int x8), (9, .ref (ad 12 x9)), (10, .int x10), (11, .int x11), (12, .int x12)]) hx hb dX11_plan_215 hl (k := 10) rfl rfl (by decide) rfl (fun ls hl => ?_)
          refine lv_goto (tgt := 119) hx hb dX11_plan_218 (by decide) ?_
          exact ih _ _ _ _ _ _ _ _ _ _ _ _ _ _ h hN hW hS (lv_sub hl [2, 3, 4, 5, 6, 7, 8, 9, 10, 0] rfl)
        · have h := h.2 c33
          refine lv_goto (tgt := 221) hx hb dX11_plan_181 (by decide) ?_
          exact bX11_plan_221 C (fun N9 M9 a09 a19 a29 a39 a49 a59 H9 q9 ls9 h9 hN9 hW9 hS9 hl9 => hL92 N9 M9 a09 a19 a29 a39 a49 a59 H9 q9 ls9 h9 hN9 hW9 hS9 hl9) (fun N9 M9 a09 a19 a29 a39 a49 a59 a69 H9 q9 ls9 h9 hN9 hW9 hS9 hl9 => hL101 N9 M9 a09 a19 a29 a39 a49 a59 a69 H9 q9 ls9 h9 hN9 hW9 hS9 hl9) (fun N9 M9 a09 a19 a29 a39 a49 a59 a69 a79 H9 q9 ls9 h9 hN9 hW9 hS9 hl9 => hL110 N9 M9 a09 a19 a29 a39 a49 a59 a69 a79 H9 q9 ls9 h9 hN9 hW9 hS9 hl9) _ _ _ _ _ _ _ _ _ _ _ _ _ h hN hW hS (lv_sub hl [1, 2, 3, 4, 5, 6, 7, 8, 9] rfl)
set_option maxHeartbeats 4000000 in
set_option maxRecDepth 100000 in
theorem bX11_plan_110 {p : Program} {e : Env} {s : State} {m : MethodId} {args : Array Value} {below : List Frame} {meth : Method} {c : Code} {post : tq_Nn → tq_St → Int32 → Prop} (C : tq_At p s m meth c args cX11_plan 15 ((some .int)) ((tq_ws yX11_plan cX11_plan 15 (some .int))) RX11 D cy z ad) {L92 : tq_Nn → tq_St → Int32 → Nat → Int32 → Int32 → Nat → Int32 → Prop} (hL92 : ∀ (N : tq_Nn) (S : tq_St) (x4 : Int32) (x6 : Nat) (x7 : Int32) (x8 : Int32) (x9 : Nat) (x10 : Int32) (H : Heap) (locs : List Loc) (ls : Array Slot), L92 N S x4 x6 x7 x8 x9 x10 → tq_nb z A0 s N → tq_wd D cy z H0 ad N (tq_mix S M) H → va_S (fun q => z ≤ q) s.heap H locs → lv_has ls 15 [(0, .ref (ad 1 0)), (4, .int x4), (6, .ref (ad 31 x6)), (7, .int x7), (8, .int x8), (9, .ref (ad 12 x9)), (10, .int x10)] → tq_Wb p l e 2 50 s m args below meth c z A0 N H locs (MQ below (va_Qi (fun r (u : tq_Nn × tq_St) => post u.1 u.2 r) (tq_PB D cy z A0 H0 ad M) (fun q => z ≤ q)) args s (z + tq_CX - s.heap.size) (A0 + tq_CY - tq_all s.heap) (fun q => z ≤ q)) (F0 m 92 ls [])) {L101 : tq_Nn → tq_St → Int32 → Nat → Int32 → Int32 → Nat → Int32 → Int32 → Prop} (hL101 : ∀ (N : tq_Nn) (S : tq_St) (x4 : Int32) (x6 : Nat) (x7 : Int32) (x8 : Int32) (x9 : Nat) (x10 : Int32) (x11 : Int32) (H : Heap) (locs : List Loc) (ls : Array Slot), L101 N S x4 x6 x7 x8 x9 x10 x11 → tq_nb z A0 s N → tq_wd D cy z H0 ad N (tq_mix S M) H → va_S (fun q => z ≤ q) s.heap H locs → lv_has ls 15 [(0, .ref (ad 1 0)), (4, .int x4), (6, .ref (ad 31 x6)), (7, .int x7), (8, .int x8), (9, .ref (ad 12 x9)), (10, .int x10), (11, .int x11)] → tq_Wb p l e 2 50 s m args below meth c z A0 N H locs (MQ below (va_Qi (fun r (u : tq_Nn × tq_St) => post u.1 u.2 r) (tq_PB D cy z A0 H0 ad M) (fun q => z ≤ q)) args s (z + tq_CX - s.heap.size) (A0 + tq_CY - tq_all s.heap) (fun q => z ≤ q)) (F0 m 101 ls [])) : ∀ n : Nat, ∀ (N : tq_Nn) (S : tq_St) (x4 : Int32) (x6 : Nat) (x7 : Int32) (x8 : Int32) (x9 : Nat) (x10 : Int32) (x11 : Int32) (x12 : Int32) (H : Heap) (locs : List Loc) (ls : Array Slot), wbX11_plan_110 post L92 L101 n N S x4 x6 x7 x8 x9 x10 x11 x12 → tq_nb z A0 s N → tq_wd D cy z H0 ad N (tq_mix S M) H → va_S (fun q => z ≤ q) s.heap H locs → lv_has ls 15 [(0, .ref (ad 1 0)), (4, .int x4), (6, .ref (ad 31 x6)), (7, .int x7), (8, .int x8), (9, .ref (ad 12 x9)), (10, .int x10), (11, .int x11), (12, .int x12)] → tq_Wb p l e 2 50 s m args below meth c z A0 N H locs (MQ below (va_Qi (fun r (u : tq_Nn × tq_St) => post u.1 u.2 r) (tq_PB D cy z A0 H0 ad M) (fun q => z ≤ q)) args s (z + tq_CX - s.heap.size) (A0 + tq_CY - tq_all s.heap) (fun q => z ≤ q)) (F0 m 110 ls []) := by
  obtain ⟨hx, hb, hr, hml, hown, hts, hlocks, hK, hG⟩ := id C
  have hw : ∀ w ∈ tq_W, w.before args s = true := fun w h => hts w (List.mem_cons_of_mem _ h)
  intro n
  induction n with
  | zero =>
    intro N S x4 x6 x7 x8 x9 x10 x11 x12 H locs ls h
    exact absurd h (by unfold wbX11_plan_110; exact id)
  | succ n ih =>
    intro N S x4 x6 x7 x8 x9 x10 x11 x12 H locs ls h hN hW hS hl
    unfold wbX11_plan_110 at h
    refine lv_iload hx hb dX11_plan_110 (lv_at hl 8 rfl) ?_
    refine lv_iconst (v := 5) hx hb dX11_plan_112 (by decide) ?_
    refine lv_icmp_gt (tgt := 227) hx hb dX11_plan_113 (by decide) (fun c29 => ?_) (fun c29 => ?_)
    · have h := h.1 c29
      refine lv_iinc (v := x11 + 1) (lv' := [(11, .int (x11 + 1)), (0, .ref (ad 1 0)), (4, .int x4), (6, .ref (ad 31 x6)), (7, .int x7), (8, .int x8), (9, .ref (ad 12 x9)), (10, .int x10), (12, .int x12)]) hx hb dX11_plan_227 hl (k := 7) rfl rfl (by decide) rfl (fun ls hl => ?_)
      refine lv_goto (tgt := 101) hx hb dX11_plan_230 (by decide) ?_
      exact hL101 _ _ _ _ _ _ _ _ _ _ _ _ h hN hW hS (lv_sub hl [1, 2, 3, 4, 5, 6, 7, 0] rfl)
    · have h := h.2 c29
      refine lv_iconst (v := 0) hx hb dX11_plan_116 (by decide) ?_
      refine lv_istore (lv' := [(13, .int 0), (0, .ref (ad 1 0)), (4, .int x4), (6, .ref (ad 31 x6)), (7, .int x7), (8, .int x8), (9, .ref (ad 12 x9)), (10, .int x10), (11, .int x11), (12, .int x12)]) hx hb dX11_plan_117 hl (by decide) rfl (fun ls hl => ?_)
      obtain ⟨nq, h⟩ := h
      exact bX11_plan_119 C (fun N9 M9 a09 a19 a29 a39 a49 a59 H9 q9 ls9 h9 hN9 hW9 hS9 hl9 => hL92 N9 M9 a09 a19 a29 a39 a49 a59 H9 q9 ls9 h9 hN9 hW9 hS9 hl9) (fun N9 M9 a09 a19 a29 a39 a49 a59 a69 H9 q9 ls9 h9 hN9 hW9 hS9 hl9 => hL101 N9 M9 a09 a19 a29 a39 a49 a59 a69 H9 q9 ls9 h9 hN9 hW9 hS9 hl9) (fun N9 M9 a09 a19 a29 a39 a49 a59 a69 a79 H9 q9 ls9 h9 hN9 hW9 hS9 hl9 => ih N9 M9 a09 a19 a29 a39 a49 a59 a69 a79 H9 q9 ls9 h9 hN9 hW9 hS9 hl9) nq _ _ _ _ _ _ _ _ _ _ _ _ _ _ h hN hW hS (lv_sub hl [1, 2, 3, 4, 5, 6, 7, 8, 9, 0] rfl)
set_option maxHeartbeats 4000000 in
set_option maxRecDepth 100000 in
theorem bX11_plan_101 {p : Program} {e : Env} {s : State} {m : MethodId} {args : Array Value} {below : List Frame} {meth : Method} {c : Code} {post : tq_Nn → tq_St → Int32 → Prop} (C : tq_At p s m meth c args cX11_plan 15 ((some .int)) ((tq_ws yX11_plan cX11_plan 15 (some .int))) RX11 D cy z ad) {L92 : tq_Nn → tq_St → Int32 → Nat → Int32 → Int32 → Nat → Int32 → Prop} (hL92 : ∀ (N : tq_Nn) (S : tq_St) (x4 : Int32) (x6 : Nat) (x7 : Int32) (x8 : Int32) (x9 : Nat) (x10 : Int32) (H : Heap) (locs : List Loc) (ls : Array Slot), L92 N S x4 x6 x7 x8 x9 x10 → tq_nb z A0 s N → tq_wd D cy z H0 ad N (tq_mix S M) H → va_S (fun q => z ≤ q) s.heap H locs → lv_has ls 15 [(0, .ref (ad 1 0)), (4, .int x4), (6, .ref (ad 31 x6)), (7, .int x7), (8, .int x8), (9, .ref (ad 12 x9)), (10, .int x10)] → tq_Wb p l e 2 50 s m args below meth c z A0 N H locs (MQ below (va_Qi (fun r (u : tq_Nn × tq_St) => post u.1 u.2 r) (tq_PB D cy z A0 H0 ad M) (fun q => z ≤ q)) args s (z + tq_CX - s.heap.size) (A0 + tq_CY - tq_all s.heap) (fun q => z ≤ q)) (F0 m 92 ls [])) : ∀ n : Nat, ∀ (N : tq_Nn) (S : tq_St) (x4 : Int32) (x6 : Nat) (x7 : Int32) (x8 : Int32) (x9 : Nat) (x10 : Int32) (x11 : Int32) (H : Heap) (locs : List Loc) (ls : Array Slot), wbX11_plan_101 post L92 n N S x4 x6 x7 x8 x9 x10 x11 → tq_nb z A0 s N → tq_wd D cy z H0 ad N (tq_mix S M) H → va_S (fun q => z ≤ q) s.heap H locs → lv_has ls 15 [(0, .ref (ad 1 0)), (4, .int x4), (6, .ref (ad 31 x6)), (7, .int x7), (8, .int x8), (9, .ref (ad 12 x9)), (10, .int x10), (11, .int x11)] → tq_Wb p l e 2 50 s m args below meth c z A0 N H locs (MQ below (va_Qi (fun r (u : tq_Nn × tq_St) => post u.1 u.2 r) (tq_PB D cy z A0 H0 ad M) (fun q => z ≤ q)) args s (z + tq_CX - s.heap.size) (A0 + tq_CY - tq_all s.heap) (fun q => z ≤ q)) (F0 m 101 ls []) := by
  obtain ⟨hx, hb, hr, hml, hown, hts, hlocks, hK, hG⟩ := id C
  have hw : ∀ w ∈ tq_W, w.before args s = true := fun w h => hts w (List.mem_cons_of_mem _ h)
  intro n
  induction n with
  | zero =>
    intro N S x4 x6 x7 x8 x9 x10 x11 H locs ls h
    exact absurd h (by unfold wbX11_plan_101; exact id)
  | succ n ih =>
    intro N S x4 x6 x7 x8 x9 x10 x11 H locs ls h hN hW hS hl
    unfold wbX11_plan_101 at h
    refine lv_iload hx hb dX11_plan_101 (lv_at hl 7 rfl) ?_
    refine lv_iconst (v := 5) hx hb dX11_plan_103 (by decide) ?_
    refine lv_icmp_gt (tgt := 233) hx hb dX11_plan_104 (by decide) (fun c28 => ?_) (fun c28 => ?_)
    · have h := h.1 c28
      refine lv_iinc (v := x10 + 1) (lv' := [(10, .int (x10 + 1)), (0, .ref (ad 1 0)), (4, .int x4), (6, .ref (ad 31 x6)), (7, .int x7), (8, .int x8), (9, .ref (ad 12 x9)), (11, .int x11)]) hx hb dX11_plan_233 hl (k := 6) rfl rfl (by decide) rfl (fun ls hl => ?_)
      refine lv_goto (tgt := 92) hx hb dX11_plan_236 (by decide) ?_
      exact hL92 _ _ _ _ _ _ _ _ _ _ _ h hN hW hS (lv_sub hl [1, 2, 3, 4, 5, 6, 0] rfl)
    · have h := h.2 c28
      refine lv_iconst (v := 0) hx hb dX11_plan_107 (by decide) ?_
      refine lv_istore (lv' := [(12, .int 0), (0, .ref (ad 1 0)), (4, .int x4), (6, .ref (ad 31 x6)), (7, .int x7), (8, .int x8), (9, .ref (ad 12 x9)), (10, .int x10), (11, .int x11)]) hx hb dX11_plan_108 hl (by decide) rfl (fun ls hl => ?_)
      obtain ⟨nq, h⟩ := h
      exact bX11_plan_110 C (fun N9 M9 a09 a19 a29 a39 a49 a59 H9 q9 ls9 h9 hN9 hW9 hS9 hl9 => hL92 N9 M9 a09 a19 a29 a39 a49 a59 H9 q9 ls9 h9 hN9 hW9 hS9 hl9) (fun N9 M9 a09 a19 a29 a39 a49 a59 a69 H9 q9 ls9 h9 hN9 hW9 hS9 hl9 => ih N9 M9 a09 a19 a29 a39 a49 a59 a69 H9 q9 ls9 h9 hN9 hW9 hS9 hl9) nq _ _ _ _ _ _ _ _ _ _ _ _ _ h hN hW hS (lv_sub hl [1, 2, 3, 4, 5, 6, 7, 8, 0] rfl)
set_option maxHeartbeats 4000000 in
set_option maxRecDepth 100000 in
theorem bX11_plan_92 {p : Program} {e : Env} {s : State} {m : MethodId} {args : Array Value} {below : List Frame} {meth : Method} {c : Code} {post : tq_Nn → tq_St → Int32 → Prop} (C : tq_At p s m meth c args cX11_plan 15 ((some .int)) ((tq_ws yX11_plan cX11_plan 15 (some .int))) RX11 D cy z ad)  : ∀ n : Nat, ∀ (N : tq_Nn) (S : tq_St) (x4 : Int32) (x6 : Nat) (x7 : Int32) (x8 : Int32) (x9 : Nat) (x10 : Int32) (H : Heap) (locs : List Loc) (ls : Array Slot), wbX11_plan_92 post  n N S x4 x6 x7 x8 x9 x10 → tq_nb z A0 s N → tq_wd D cy z H0 ad N (tq_mix S M) H → va_S (fun q => z ≤ q) s.heap H locs → lv_has ls 15 [(0, .ref (ad 1 0)), (4, .int x4), (6, .ref (ad 31 x6)), (7, .int x7), (8, .int x8), (9, .ref (ad 12 x9)), (10, .int x10)] → tq_Wb p l e 2 50 s m args below meth c z A0 N H locs (MQ below (va_Qi (fun r (u : tq_Nn × tq_St) => post u.1 u.2 r) (tq_PB D cy z A0 H0 ad M) (fun q => z ≤ q)) args s (z + tq_CX - s.heap.size) (A0 + tq_CY - tq_all s.heap) (fun q => z ≤ q)) (F0 m 92 ls []) := by
  obtain ⟨hx, hb, hr, hml, hown, hts, hlocks, hK, hG⟩ := id C
  have hw : ∀ w ∈ tq_W, w.before args s = true := fun w h => hts w (List.mem_cons_of_mem _ h)
  intro n
  induction n with
  | zero =>
    intro N S x4 x6 x7 x8 x9 x10 H locs ls h
    exact absurd h (by unfold wbX11_plan_92; exact id)
  | succ n ih =>
    intro N S x4 x6 x7 x8 x9 x10 H locs ls h hN hW hS hl
    unfold wbX11_plan_92 at h
    refine lv_iload hx hb dX11_plan_92 (lv_at hl 6 rfl) ?_
    refine lv_iconst (v := 5) hx hb dX11_plan_94 (by decide) ?_
    refine lv_icmp_gt (tgt := 239) hx hb dX11_plan_95 (by decide) (fun c24 => ?_) (fun c24 => ?_)
    · have h := h.1 c24
      refine lv_aload hx hb dX11_plan_239 (lv_at hl 5 rfl) ?_
      refine lv_iload hx hb dX11_plan_241 (lv_at hl 1 rfl) ?_
      obtain ⟨b25, h⟩ := h
      obtain ⟨b26, b27, h⟩ := h
      refine tqc_iald (jn := x4.toNatClampNeg) hx hb hK hW (by decide) (tq_mk_912 ⟨b26, b27⟩) b25 rfl dX11_plan_243 ?_
      exact tqb_iret (v := S 12 x9 x4.toNatClampNeg) hx hb hr hN h hW hS dX11_plan_244 hlocks
    · have h := h.2 c24
      refine lv_iconst (v := 0) hx hb dX11_plan_98 (by decide) ?_
      refine lv_istore (lv' := [(11, .int 0), (0, .ref (ad 1 0)), (4, .int x4), (6, .ref (ad 31 x6)), (7, .int x7), (8, .int x8), (9, .ref (ad 12 x9)), (10, .int x10)]) hx hb dX11_plan_99 hl (by decide) rfl (fun ls hl => ?_)
      obtain ⟨nq, h⟩ := h
      exact bX11_plan_101 C (fun N9 M9 a09 a19 a29 a39 a49 a59 H9 q9 ls9 h9 hN9 hW9 hS9 hl9 => ih N9 M9 a09 a19 a29 a39 a49 a59 H9 q9 ls9 h9 hN9 hW9 hS9 hl9) nq _ _ _ _ _ _ _ _ _ _ _ _ h hN hW hS (lv_sub hl [1, 2, 3, 4, 5, 6, 7, 0] rfl)
set_option maxHeartbeats 4000000 in
set_option maxRecDepth 100000 in
theorem bX11_plan_33 {p : Program} {e : Env} {s : State} {m : MethodId} {args : Array Value} {below : List Frame} {meth : Method} {c : Code} {post : tq_Nn → tq_St → Int32 → Prop} (C : tq_At p s m meth c args cX11_plan 15 ((some .int)) ((tq_ws yX11_plan cX11_plan 15 (some .int))) RX11 D cy z ad)  : ∀ (N : tq_Nn) (S : tq_St) (x1 : Int32) (x2 : Int32) (x3 : Int32) (x4 : Int32) (y0 : Int32) (H : Heap) (locs : List Loc) (ls : Array Slot), wbX11_plan_33 post  N S x1 x2 x3 x4 y0 → tq_nb z A0 s N → tq_wd D cy z H0 ad N (tq_mix S M) H → va_S (fun q => z ≤ q) s.heap H locs → lv_has ls 15 [(0, .ref (ad 1 0)), (1, .int x1), (2, .int x2), (3, .int x3), (4, .int x4)] → tq_Wb p l e 2 50 s m args below meth c z A0 N H locs (MQ below (va_Qi (fun r (u : tq_Nn × tq_St) => post u.1 u.2 r) (tq_PB D cy z A0 H0 ad M) (fun q => z ≤ q)) args s (z + tq_CX - s.heap.size) (A0 + tq_CY - tq_all s.heap) (fun q => z ≤ q)) (F0 m 33 ls [.int y0]) := by
  obtain ⟨hx, hb, hr, hml, hown, hts, hlocks, hK, hG⟩ := id C
  have hw : ∀ w ∈ tq_W, w.before args s = true := fun w h => hts w (List.mem_cons_of_mem _ h)
  intro N S x1 x2 x3 x4 y0 H locs ls h hN hW hS hl
  unfold wbX11_plan_33 at h
  refine lv_istore (lv' := [(5, .int y0), (0, .ref (ad 1 0)), (1, .int x1), (2, .int x2), (3, .int x3), (4, .int x4)]) hx hb dX11_plan_33 hl (by decide) rfl (fun ls hl => ?_)
  refine lv_iload hx hb dX11_plan_35 (lv_at hl 0 rfl) ?_
  refine lv_if_eq (tgt := 50) hx hb dX11_plan_37 (by decide) (fun c10 => ?_) (fun c10 => ?_)
  · have h := h.1 c10
    exact bX11_plan_50 C  _ _  _ _ _ h hN hW hS (lv_sub hl [] rfl)
  · have h := h.2 c10
    refine lv_iload hx hb dX11_plan_40 (lv_at hl 5 rfl) ?_
    refine lv_iconst (v := 0) hx hb dX11_plan_42 (by decide) ?_
    refine lv_iconst (v := 4) hx hb dX11_plan_43 (by decide) ?_
    refine tqc_callSi (As := [.int x4, .int 0, .int 4]) (rest := []) (kX11_within h) ⟨hx, hb, hml, hown, hts⟩ (va_cwS 3 hts (tq_goodS tw_405 tw_406 tw_115 tw_407) rfl rfl rfl (by decide +kernel) ⟨(Nat.le_of_ble_eq_true rfl), (Nat.le_of_ble_eq_true rfl)⟩) hK hG hW hS rfl hl.1 rfl (Nat.le_of_ble_eq_true rfl) dX11_plan_44 hN.f (fun r12 S11 H locs h hW hS => ?_)
    refine lv_if_ne (tgt := 54) hx hb dX11_plan_47 (by decide) (fun c13 => ?_) (fun c13 => ?_)
    · have h := h.1 c13
      refine lv_aload_n hx hb dX11_plan_54 rfl (lv_at hl 1 rfl) ?_
      refine tqc_get (v := .ref (ad 12 0)) hx hb hw tq_inX11 hown hK hW (by decide) (tq_mk_1 (by decide)) rfl 1 (by decide) (hw _ tw_338) (fun _ h9 => h9) rfl dX11_plan_55 ?_
      refine lv_iload_n hx hb dX11_plan_58 rfl (lv_at hl 2 rfl) ?_
      obtain ⟨b14, h⟩ := h
      refine tqc_aald (jn := x1.toNatClampNeg) (v := .ref (ad 2 x1.toNatClampNeg)) hx hb hK hW (by decide) (tq_mk_12 (by decide)) 3 rfl rfl b14 rfl rfl dX11_plan_59 ?_
      refine tqc_get (v := .ref (ad 31 x1.toNatClampNeg)) hx hb hw tq_inX5 hown hK hW (by decide) (tq_mk_2 (tq_lt b14)) rfl 6 (by decide) (hw _ tw_266) (fun _ h9 => h9) rfl dX11_plan_60 ?_
      refine lv_astore (lv' := [(6, .ref (ad 31 x1.toNatClampNeg)), (5, .int y0), (0, .ref (ad 1 0)), (1, .int x1), (2, .int x2), (3, .int x3), (4, .int x4)]) hx hb dX11_plan_63 hl (by decide) rfl (fun ls hl => ?_)
      refine lv_iload_n hx hb dX11_plan_65 rfl (lv_at hl 4 rfl) ?_
      refine lv_bipush (v := 10) hx hb dX11_plan_66 (by decide) ?_
      refine lv_idiv hx hb dX11_plan_68 (by decide) ?_
      refine lv_istore (lv' := [(7, .int (x2 / 10)), (6, .ref (ad 31 x1.toNatClampNeg)), (5, .int y0), (0, .ref (ad 1 0)), (1, .int x1), (2, .int x2), (3, .int x3), (4, .int x4)]) hx hb dX11_plan_69 hl (by decide) rfl (fun ls hl => ?_)
      refine lv_iload_n hx hb dX11_plan_71 rfl (lv_at hl 6 rfl) ?_
      refine lv_bipush (v := 10) hx hb dX11_plan_72 (by decide) ?_
      refine lv_idiv hx hb dX11_plan_74 (by decide) ?_
      refine lv_istore (lv' := [(8, .int (x3 / 10)), (7, .int (x2 / 10)), (6, .ref (ad 31 x1.toNatClampNeg)), (5, .int y0), (0, .ref (ad 1 0)), (1, .int x1), (2, .int x2), (3, .int x3), (4, .int x4)]) hx hb dX11_plan_75 hl (by decide) rfl (fun ls hl => ?_)
      refine lv_iconst (v := 5) hx hb dX11_plan_77 (by decide) ?_
      obtain ⟨b15, b16, h⟩ := h
      refine tqw_newt hx hb (hw _ tw_177) hK hG hW hS hN b15 b16 (by decide) (by decide) dX11_plan_78 (fun i17 H hz9 hi20 hi2 hN hW hS => ?_)
      generalize eN18 : tq_na N (i17 + 1) 12 i17 1 5 = N18 at hN hW ⊢
      generalize eS19 : tq_cp S11 12 i17 (fun _ => 0) = S19 at hW
      have h := h i17 hi20 hi2 N18 eN18.symm S19 eS19.symm
      refine lv_astore (lv' := [(9, .ref (ad 12 i17)), (8, .int (x3 / 10)), (7, .int (x2 / 10)), (6, .ref (ad 31 x1.toNatClampNeg)), (5, .int y0), (0, .ref (ad 1 0)), (1, .int x1), (2, .int x2), (3, .int x3), (4, .int x4)]) hx hb dX11_plan_80 hl (by decide) rfl (fun ls hl => ?_)
      refine lv_aload hx hb dX11_plan_82 (lv_at hl 0 rfl) ?_
      refine lv_iconst (v := 0) hx hb dX11_plan_84 (by decide) ?_
      refine lv_ldcw hx hb hown (hw _ tw_1328) dX11_plan_85 ?_
      obtain ⟨b21, b22, h⟩ := h
      refine tqc_iast (jn := 0) hx hb hK hW hS (by decide) (tq_mk_912 ⟨b21, b22⟩) (by unfold vp_in; decide) (by decide) (tq_mk_912 ⟨b21, b22⟩) dX11_plan_88 (fun H locs hW hS => ?_)
      generalize eS23 : tq_up S19 12 i17 0 ((-1000000000)) = S23 at hW
      have h := h S23 eS23.symm
      refine lv_iconst (v := 0) hx hb dX11_plan_89 (by decide) ?_
      refine lv_istore (lv' := [(10, .int 0), (9, .ref (ad 12 i17)), (8, .int (x3 / 10)), (7, .int (x2 / 10)), (6, .ref (ad 31 x1.toNatClampNeg)), (5, .int y0), (0, .ref (ad 1 0)), (1, .int x1), (2, .int x2), (3, .int x3), (4, .int x4)]) hx hb dX11_plan_90 hl (by decide) rfl (fun ls hl => ?_)
      obtain ⟨nq, h⟩ := h
      exact bX11_plan_92 C  nq _ _ _ _ _ _ _ _ _ _ _ h hN hW hS (lv_sub hl [6, 10, 4, 3, 2, 1, 0] rfl)
    · have h := h.2 c13
      exact bX11_plan_50 C  _ _  _ _ _ h hN hW hS (lv_sub hl [] rfl)
set_option maxHeartbeats 4000000 in
set_option maxRecDepth 100000 in
theorem bX11_plan_32 {p : Program} {e : Env} {s : State} {m : MethodId} {args : Array Value} {below : List Frame} {meth : Method} {c : Code} {post : tq_Nn → tq_St → Int32 → Prop} (C : tq_At p s m meth c args cX11_plan 15 ((some .int)) ((tq_ws yX11_plan cX11_plan 15 (some .int))) RX11 D cy z ad)  : ∀ (N : tq_Nn) (S : tq_St) (x1 : Int32) (x2 : Int32) (x3 : Int32) (x4 : Int32) (H : Heap) (locs : List Loc) (ls : Array Slot), wbX11_plan_32 post  N S x1 x2 x3 x4 → tq_nb z A0 s N → tq_wd D cy z H0 ad N (tq_mix S M) H → va_S (fun q => z ≤ q) s.heap H locs → lv_has ls 15 [(0, .ref (ad 1 0)), (1, .int x1), (2, .int x2), (3, .int x3), (4, .int x4)] → tq_Wb p l e 2 50 s m args below meth c z A0 N H locs (MQ below (va_Qi (fun r (u : tq_Nn × tq_St) => post u.1 u.2 r) (tq_PB D cy z A0 H0 ad M) (fun q => z ≤ q)) args s (z + tq_CX - s.heap.size) (A0 + tq_CY - tq_all s.heap) (fun q => z ≤ q)) (F0 m 32 ls []) := by
  obtain ⟨hx, hb, hr, hml, hown, hts, hlocks, hK, hG⟩ := id C
  have hw : ∀ w ∈ tq_W, w.before args s = true := fun w h => hts w (List.mem_cons_of_mem _ h)
  intro N S x1 x2 x3 x4 H locs ls h hN hW hS hl
  unfold wbX11_plan_32 at h
  refine lv_iconst (v := 0) hx hb dX11_plan_32 (by decide) ?_
  exact bX11_plan_33 C  _ _ _ _ _ _ _ _ _ _ h hN hW hS (lv_sub hl [0, 1, 2, 3, 4] rfl)
set_option maxHeartbeats 4000000 in
set_option maxRecDepth 100000 in
theorem kX11_plan {post : tq_Nn → tq_St → Int32 → Prop} {N : tq_Nn} {S : tq_St} {sz sl : Nat} {p0 : Int32} {p1 : Int32} {p2 : Int32} {p3 : Int32} (h : wpX11_plan post N S p0 p1 p2 p3) : tq_bI l yX11_plan (tq_ws yX11_plan cX11_plan 15 (some .int)) 2 50 D cy z A0 H0 ad N M S sz sl [.ref (ad 1 0), .int p0, .int p1, .int p2, .int p3] post := by
  unfold wpX11_plan at h
  refine Met.ofW (cc := cX11_plan) (maxL := 15) (ret := (some .int)) (by decide) rfl ?_
  intro p e s m args below meth c s₁ B hml hv
  obtain ⟨rfl, ⟨hW, hK, hG⟩, rfl, rfl, hN1, hN2, hN3, hN4⟩ := hv
  have hN : tq_nb z A0 s N := ⟨hN1, hN2, hN3, hN4⟩
  have hx := B.exec
  have hb := B.bytes
  have hr := B.returns
  have hts := atoms_spec (ws := (tq_ws yX11_plan cX11_plan 15 (some .int))) B.pre
  have hw : ∀ w ∈ tq_W, w.before _ s = true := fun w h => hts w (List.mem_cons_of_mem _ h)
  have hown : s.vm.findClass RX11 = some m.cls := findClass_of_methodNamed B.named
  have hlocks := B.notSynchronized
  have C : tq_At p s m meth c [.ref (ad 1 0), .int p0, .int p1, .int p2, .int p3].toArray cX11_plan 15 ((some .int)) ((tq_ws yX11_plan cX11_plan 15 (some .int))) RX11 D cy z ad := ⟨hx, hb, hr, hml, hown, hts, hlocks, hK, hG⟩
  have hS : va_S (fun q => z ≤ q) s.heap s.heap [] := va_S.rf
  have hl := lv_entry ([.ref (ad 1 0), .int p0, .int p1, .int p2, .int p3]) (n := 15) (Nat.le_of_ble_eq_true rfl)
  rw [lg_entry_eq]
  generalize (lg_sl ([.ref (ad 1 0), .int p0, .int p1, .int p2, .int p3]) ++ List.replicate (15 - (lg_sl ([.ref (ad 1 0), .int p0, .int p1, .int p2, .int p3])).length) Slot.unset).toArray = ls at hl ⊢
  have hl : lv_has ls 15 [(0, .ref (ad 1 0)), (1, .int p0), (2, .int p1), (3, .int p2), (4, .int p3)] := hl
  have hW : tq_wd D cy z H0 ad N (tq_mix S M) s.heap := hW
  refine tq_tight (c1 := z + N 0 0 - s.heap.size) (n1 := A0 + N 0 1 - tq_all s.heap) (by omega) (by omega) ?_
  refine lv_iload_n hx hb dX11_plan_0 rfl (lv_at hl 1 rfl) ?_
  refine tqc_callSi (As := [.int p0]) (rest := []) (kX11_isFactory h) ⟨hx, hb, hml, hown, hts⟩ (va_cwS 1 hts (tq_goodS tw_402 tw_403 tw_115 tw_404) rfl rfl rfl (by decide +kernel) ⟨(Nat.le_of_ble_eq_true rfl), (Nat.le_of_ble_eq_true rfl)⟩) hK hG hW hS rfl hl.1 rfl (Nat.le_of_ble_eq_true rfl) dX11_plan_1 hN.f (fun r2 S1 H locs h hW hS => ?_)
  refine lv_if_eq (tgt := 32) hx hb dX11_plan_4 (by decide) (fun c3 => ?_) (fun c3 => ?_)
  · have h := h.1 c3
    exact bX11_plan_32 C  _ _ _ _ _ _ _ _ _ h hN hW hS (lv_sub hl [0, 1, 2, 3, 4] rfl)
  · have h := h.2 c3
    refine lv_iload_n hx hb dX11_plan_7 rfl (lv_at hl 2 rfl) ?_
    refine lv_iconst (v := 0) hx hb dX11_plan_8 (by decide) ?_
    refine lv_sipush (v := 200) hx hb dX11_plan_9 (by decide) ?_
    refine tqc_callSi (As := [.int p1, .int 0, .int 200]) (rest := []) (kX11_within h) ⟨hx, hb, hml, hown, hts⟩ (va_cwS 3 hts (tq_goodS tw_405 tw_406 tw_115 tw_407) rfl rfl rfl (by decide +kernel) ⟨(Nat.le_of_ble_eq_true rfl), (Nat.le_of_ble_eq_true rfl)⟩) hK hG hW hS rfl hl.1 rfl (Nat.le_of_ble_eq_true rfl) dX11_plan_12 hN.f (fun r5 S4 H locs h hW hS => ?_)
    refine lv_if_eq (tgt := 32) hx hb dX11_plan_15 (by decide) (fun c6 => ?_) (fun c6 => ?_)
    · have h := h.1 c6
      exact bX11_plan_32 C  _ _ _ _ _ _ _ _ _ h hN hW hS (lv_sub hl [0, 1, 2, 3, 4] rfl)
    · have h := h.2 c6
      refine lv_iload_n hx hb dX11_plan_18 rfl (lv_at hl 3 rfl) ?_
      refine lv_iconst (v := 0) hx hb dX11_plan_19 (by decide) ?_
      refine lv_ldc hx hb hown (hw _ tw_431) dX11_plan_20 ?_
      refine tqc_callSi (As := [.int p2, .int 0, .int ((1000000))]) (rest := []) (kX11_within h) ⟨hx, hb, hml, hown, hts⟩ (va_cwS 3 hts (tq_goodS tw_405 tw_406 tw_115 tw_407) rfl rfl rfl (by decide +kernel) ⟨(Nat.le_of_ble_eq_true rfl), (Nat.le_of_ble_eq_true rfl)⟩) hK hG hW hS rfl hl.1 rfl (Nat.le_of_ble_eq_true rfl) dX11_plan_22 hN.f (fun r8 S7 H locs h hW hS => ?_)
      refine lv_if_eq (tgt := 32) hx hb dX11_plan_25 (by decide) (fun c9 => ?_) (fun c9 => ?_)
      · have h := h.1 c9
        exact bX11_plan_32 C  _ _ _ _ _ _ _ _ _ h hN hW hS (lv_sub hl [0, 1, 2, 3, 4] rfl)
      · have h := h.2 c9
        refine lv_iconst (v := 1) hx hb dX11_plan_28 (by decide) ?_
        refine lv_goto (tgt := 33) hx hb dX11_plan_29 (by decide) ?_
        exact bX11_plan_33 C  _ _ _ _ _ _ _ _ _ _ h hN hW hS (lv_sub hl [0, 1, 2, 3, 4] rfl)
