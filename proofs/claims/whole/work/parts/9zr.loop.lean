/-! the law's loop -/
theorem lw_less {p : Program} {l : Launch} {e : Env} {R R1 : Room} {s : State} {m : MethodId} {args : Array Value} {below : List Frame} {meth : Method} {c : Code} {H : Heap} {locs : List Loc} {cells slots : Nat} {Q : State → Prop} {g : JFrame} (h1 : R1.frames ≤ R.frames) (h2 : R1.cells ≤ R.cells) (h3 : R1.slots ≤ R.slots) (h4 : R1.locals ≤ R.locals) (kk : W p l e R1 s m args below meth c H locs cells slots Q g) : W p l e R s m args below meth c H locs cells slots Q g := by
  intro T hT X
  refine kk T hT { X with room := ?_ }
  have h := X.room
  simp only [State.hasRoom, Bool.and_eq_true, decide_eq_true_eq] at h ⊢
  obtain ⟨⟨⟨⟨a, b1, b2, b3, b4, b5⟩, c1⟩, d1⟩, f1⟩ := h
  exact ⟨⟨⟨⟨by omega, by omega, by omega, by omega, by omega, b5⟩, by omega⟩, by omega⟩, f1⟩
def lw_Q (_ : Array Value) (s : State) (o : Outcome) (t : State) : Prop := o = .returned (some (.int 1)) ∧ Framed s o t [] 600000 7302250
def lw_Z (below : List Frame) (a : Array Value) (s : State) : State → Prop := fun t => ∃ o, t.status = .running ∧ Ended t below o ∧ lw_Q a s o t
/-- the law's own end, in any room -/
theorem lw_retR {p : Program} {l : Launch} {e : Env} {R : Room} {s : State} {m : MethodId} {below : List Frame} {meth : Method} {c : Code} {b : Nat} (hx : p.tables.exec = Jvm.exec) (hb : c.code = code) (hr : meth.sig.returnType = ret) (hlocks : meth.locks = false) {pc : Nat} {H : Heap} {ls : Array Slot} (hdg : decode code pc = .ok (.ireturn, 1)) : W p l e R s m #[Value.ref b] below meth c H [] 600000 7302250 (lw_Z below #[Value.ref b] s) (F0 m pc ls [.int 1]) := by
  intro T hT X
  obtain ⟨fs, hret, hrun, hended, hW, hframe⟩ := X.leave (v := some (.int 1)) (hlocks := hlocks) (fun h => by rw [hr] at h; cases h)
  have hmeth' : T.vm.method? m = some meth := X.method'
  refine ⟨T.setFrames fs, ?_, .returned (some (.int 1)), hrun, hended, rfl, ⟨_, rfl⟩, hW, hframe⟩
  jvm_step X.here [X.here.top, hx, hb, hdg, hmeth', hr, ret, narrow_b1]
  (try refine ⟨rfl, ?_⟩); (try refine ⟨rfl, ?_⟩)
  first | (intro acts; rw [hret _ acts rfl rfl rfl]) | rw [hret _ _ rfl rfl rfl]
  exact Steps.refl _
section TQLOOP
variable {p : Program} {l : Launch} {e : Env} {s : State} {m : MethodId} {below : List Frame} {meth : Method} {c : Code}
variable {D : va_G} {cy : Nat → ClassId} {z A0 : Nat} {H0 : Heap} {ad : Nat → Nat → Nat} {b L : Nat} {xs : Nat → Int32}
/-- what the loop needs to go on: behind any call -/
abbrev tqL_K (p : Program) (l : Launch) (e : Env) (s : State) (m : MethodId) (below : List Frame) (meth : Method) (c : Code) (D : va_G) (cy : Nat → ClassId) (z A0 : Nat) (H0 : Heap) (ad : Nat → Nat → Nat) (b cn pc : Nat) (ls : Array Slot) : Prop :=
  ∀ (N1 : tq_Nn) (S1 M1 : tq_St) (H1 : Heap) (locs1 : List Loc), tp_R (cn + 1) N1 S1 M1 → tq_nb z A0 s N1 → tq_wd D cy z H0 ad N1 (tq_mix S1 M1) H1 → va_S (fun q => z ≤ q) s.heap H1 locs1 → tq_Wb p l e 2048 84000 s m #[Value.ref b] below meth c z A0 N1 H1 locs1 (lw_Z below #[Value.ref b] s) (F0 m pc ls [])
set_option maxHeartbeats 4000000 in
set_option maxRecDepth 100000 in
theorem tqL_sw {N : tq_Nn} {S M : tq_St} {H : Heap} {locs : List Loc} {ls : Array Slot} {i cn t : Nat} (C : tq_At p s m meth c #[Value.ref b] cL_law 4 (some .boolean) tqL_T RL D cy z ad) (hX : va_X b L xs s s.heap) (hbl : b < s.heap.size) (hbz : ¬ z ≤ b) (hi : i + 6 ≤ L) (hL : L ≤ 3072) (hR : tp_R cn N S M) (hc : cn < 512) (hN : tq_nb z A0 s N) (hW : tq_wd D cy z H0 ad N (tq_mix S M) H) (hS : va_S (fun q => z ≤ q) s.heap H locs) (hl : lv_has ls 4 [(0, .ref b), (1, .ref (ad 1 0)), (2, .ref (ad 64 0)), (3, .int (Int32.ofNat i))]) (ht64 : t < 64)
    (kk : tqL_K p l e s m below meth c D cy z A0 H0 ad b cn 1988 ls) : tq_Wb p l e 2048 84000 s m #[Value.ref b] below meth c z A0 N H locs (lw_Z below #[Value.ref b] s) (F0 m 33 ls [.int (nI t)]) := by
  obtain ⟨hx, hb, hr, hml, hown, hts, hlocks, hK, hG⟩ := id C
  have hcs : t = 0 ∨ t = 1 ∨ t = 2 ∨ t = 3 ∨ t = 4 ∨ t = 5 ∨ t = 6 ∨ t = 7 ∨ t = 8 ∨ t = 9 ∨ t = 10 ∨ t = 11 ∨ t = 12 ∨ t = 13 ∨ t = 14 ∨ t = 15 ∨ t = 16 ∨ t = 17 ∨ t = 18 ∨ t = 19 ∨ t = 20 ∨ t = 21 ∨ t = 22 ∨ t = 23 ∨ t = 24 ∨ t = 25 ∨ t = 26 ∨ t = 27 ∨ t = 28 ∨ t = 29 ∨ t = 30 ∨ t = 31 ∨ t = 32 ∨ t = 33 ∨ t = 34 ∨ t = 35 ∨ t = 36 ∨ t = 37 ∨ t = 38 ∨ t = 39 ∨ t = 40 ∨ t = 41 ∨ t = 42 ∨ t = 43 ∨ t = 44 ∨ t = 45 ∨ t = 46 ∨ t = 47 ∨ t = 48 ∨ t = 49 ∨ 50 ≤ t := by omega
  rcases hcs with rfl | rfl | rfl | rfl | rfl | rfl | rfl | rfl | rfl | rfl | rfl | rfl | rfl | rfl | rfl | rfl | rfl | rfl | rfl | rfl | rfl | rfl | rfl | rfl | rfl | rfl | rfl | rfl | rfl | rfl | rfl | rfl | rfl | rfl | rfl | rfl | rfl | rfl | rfl | rfl | rfl | rfl | rfl | rfl | rfl | rfl | rfl | rfl | rfl | rfl | ht
  · exact lv_tableIn (off := 215) (tgt := 248) hx hb dL_law_33 (by decide) (by decide) rfl (by decide) (tqL_c0 C hX hbl hbz hi hL (sim_factory hR hc) hN hW hS hl kk)
  · exact lv_tableIn (off := 258) (tgt := 291) hx hb dL_law_33 (by decide) (by decide) rfl (by decide) (tqL_c1 C hX hbl hbz hi hL (sim_base hR hc) hN hW hS hl kk)
  · exact lv_tableIn (off := 301) (tgt := 334) hx hb dL_law_33 (by decide) (by decide) rfl (by decide) (tqL_c2 C hX hbl hbz hi hL (sim_price hR hc) hN hW hS hl kk)
  · exact lv_tableIn (off := 334) (tgt := 367) hx hb dL_law_33 (by decide) (by decide) rfl (by decide) (tqL_c3 C hX hbl hbz hi hL (sim_bullion hR hc) hN hW hS hl kk)
  · exact lv_tableIn (off := 367) (tgt := 400) hx hb dL_law_33 (by decide) (by decide) rfl (by decide) (tqL_c4 C hX hbl hbz hi hL (sim_stock hR hc) hN hW hS hl kk)
  · exact lv_tableIn (off := 400) (tgt := 433) hx hb dL_law_33 (by decide) (by decide) rfl (by decide) (tqL_c5 C hX hbl hbz hi hL (sim_person hR hc) hN hW hS hl kk)
  · exact lv_tableIn (off := 433) (tgt := 466) hx hb dL_law_33 (by decide) (by decide) rfl (by decide) (tqL_c6 C hX hbl hbz hi hL (sim_goes hR hc) hN hW hS hl kk)
  · exact lv_tableIn (off := 466) (tgt := 499) hx hb dL_law_33 (by decide) (by decide) rfl (by decide) (tqL_c7 C hX hbl hbz hi hL (sim_feed hR hc) hN hW hS hl kk)
  · exact lv_tableIn (off := 499) (tgt := 532) hx hb dL_law_33 (by decide) (by decide) rfl (by decide) (tqL_c8 C hX hbl hbz hi hL (sim_mail hR hc) hN hW hS hl kk)
  · exact lv_tableIn (off := 552) (tgt := 585) hx hb dL_law_33 (by decide) (by decide) rfl (by decide) (tqL_c9 C hX hbl hbz hi hL (sim_order hR hc) hN hW hS hl kk)
  · exact lv_tableIn (off := 575) (tgt := 608) hx hb dL_law_33 (by decide) (by decide) rfl (by decide) (tqL_c10 C hX hbl hbz hi hL (sim_letter hR hc) hN hW hS hl kk)
  · exact lv_tableIn (off := 608) (tgt := 641) hx hb dL_law_33 (by decide) (by decide) rfl (by decide) (tqL_c11 C hX hbl hbz hi hL (sim_copy hR hc) hN hW hS hl kk)
  · exact lv_tableIn (off := 641) (tgt := 674) hx hb dL_law_33 (by decide) (by decide) rfl (by decide) (tqL_c12 C hX hbl hbz hi hL (sim_known hR hc) hN hW hS hl kk)
  · exact lv_tableIn (off := 674) (tgt := 707) hx hb dL_law_33 (by decide) (by decide) rfl (by decide) (tqL_c13 C hX hbl hbz hi hL (sim_paper hR hc) hN hW hS hl kk)
  · exact lv_tableIn (off := 707) (tgt := 740) hx hb dL_law_33 (by decide) (by decide) rfl (by decide) (tqL_c14 C hX hbl hbz hi hL (sim_force hR hc) hN hW hS hl kk)
  · exact lv_tableIn (off := 730) (tgt := 763) hx hb dL_law_33 (by decide) (by decide) rfl (by decide) (tqL_c15 C hX hbl hbz hi hL (sim_forced hR hc) hN hW hS hl kk)
  · exact lv_tableIn (off := 763) (tgt := 796) hx hb dL_law_33 (by decide) (by decide) rfl (by decide) (tqL_c16 C hX hbl hbz hi hL (sim_holds hR hc) hN hW hS hl kk)
  · exact lv_tableIn (off := 796) (tgt := 829) hx hb dL_law_33 (by decide) (by decide) rfl (by decide) (tqL_c17 C hX hbl hbz hi hL (sim_ship hR hc) hN hW hS hl kk)
  · exact lv_tableIn (off := 829) (tgt := 862) hx hb dL_law_33 (by decide) (by decide) rfl (by decide) (tqL_c18 C hX hbl hbz hi hL (sim_take hR hc) hN hW hS hl kk)
  · exact lv_tableIn (off := 842) (tgt := 875) hx hb dL_law_33 (by decide) (by decide) rfl (by decide) (tqL_c19 C hX hbl hbz hi hL (sim_load hR hc) hN hW hS hl kk)
  · exact lv_tableIn (off := 875) (tgt := 908) hx hb dL_law_33 (by decide) (by decide) rfl (by decide) (tqL_c20 C hX hbl hbz hi hL (sim_stow hR hc) hN hW hS hl kk)
  · exact lv_tableIn (off := 918) (tgt := 951) hx hb dL_law_33 (by decide) (by decide) rfl (by decide) (tqL_c21 C hX hbl hbz hi hL (sim_sail hR hc) hN hW hS hl kk)
  · exact lv_tableIn (off := 951) (tgt := 984) hx hb dL_law_33 (by decide) (by decide) rfl (by decide) (tqL_c22 C hX hbl hbz hi hL (sim_lose hR hc) hN hW hS hl kk)
  · exact lv_tableIn (off := 974) (tgt := 1007) hx hb dL_law_33 (by decide) (by decide) rfl (by decide) (tqL_c23 C hX hbl hbz hi hL (sim_shipOf hR hc) hN hW hS hl kk)
  · exact lv_tableIn (off := 1007) (tgt := 1040) hx hb dL_law_33 (by decide) (by decide) rfl (by decide) (tqL_c24 C hX hbl hbz hi hL (sim_voyage hR hc) hN hW hS hl kk)
  · exact lv_tableIn (off := 1040) (tgt := 1073) hx hb dL_law_33 (by decide) (by decide) rfl (by decide) (tqL_c25 C hX hbl hbz hi hL (sim_recount hR hc) hN hW hS hl kk)
  · exact lv_tableIn (off := 1083) (tgt := 1116) hx hb dL_law_33 (by decide) (by decide) rfl (by decide) (tqL_c26 C hX hbl hbz hi hL (sim_days hR hc) hN hW hS hl kk)
  · exact lv_tableIn (off := 1106) (tgt := 1139) hx hb dL_law_33 (by decide) (by decide) rfl (by decide) (tqL_c27 C hX hbl hbz hi hL (sim_entry hR hc) hN hW hS hl kk)
  · exact lv_tableIn (off := 1139) (tgt := 1172) hx hb dL_law_33 (by decide) (by decide) rfl (by decide) (tqL_c28 C hX hbl hbz hi hL (sim_open hR hc) hN hW hS hl kk)
  · exact lv_tableIn (off := 1172) (tgt := 1205) hx hb dL_law_33 (by decide) (by decide) rfl (by decide) (tqL_c29 C hX hbl hbz hi hL (sim_accept hR hc) hN hW hS hl kk)
  · exact lv_tableIn (off := 1195) (tgt := 1228) hx hb dL_law_33 (by decide) (by decide) rfl (by decide) (tqL_c30 C hX hbl hbz hi hL (sim_bill hR hc) hN hW hS hl kk)
  · exact lv_tableIn (off := 1228) (tgt := 1261) hx hb dL_law_33 (by decide) (by decide) rfl (by decide) (tqL_c31 C hX hbl hbz hi hL (sim_refuse hR hc) hN hW hS hl kk)
  · exact lv_tableIn (off := 1251) (tgt := 1284) hx hb dL_law_33 (by decide) (by decide) rfl (by decide) (tqL_c32 C hX hbl hbz hi hL (sim_council hR hc) hN hW hS hl kk)
  · exact lv_tableIn (off := 1314) (tgt := 1347) hx hb dL_law_33 (by decide) (by decide) rfl (by decide) (tqL_c33 C hX hbl hbz hi hL (sim_wants hR hc) hN hW hS hl kk)
  · exact lv_tableIn (off := 1367) (tgt := 1400) hx hb dL_law_33 (by decide) (by decide) rfl (by decide) (tqL_c34 C hX hbl hbz hi hL (sim_sale hR hc) hN hW hS hl kk)
  · exact lv_tableIn (off := 1400) (tgt := 1433) hx hb dL_law_33 (by decide) (by decide) rfl (by decide) (tqL_c35 C hX hbl hbz hi hL (sim_bought hR hc) hN hW hS hl kk)
  · exact lv_tableIn (off := 1433) (tgt := 1466) hx hb dL_law_33 (by decide) (by decide) rfl (by decide) (tqL_c36 C hX hbl hbz hi hL (sim_shares hR hc) hN hW hS hl kk)
  · exact lv_tableIn (off := 1476) (tgt := 1509) hx hb dL_law_33 (by decide) (by decide) rfl (by decide) (tqL_c37 C hX hbl hbz hi hL (sim_gain hR hc) hN hW hS hl kk)
  · exact lv_tableIn (off := 1489) (tgt := 1522) hx hb dL_law_33 (by decide) (by decide) rfl (by decide) (tqL_c38 C hX hbl hbz hi hL (sim_divide hR hc) hN hW hS hl kk)
  · exact lv_tableIn (off := 1512) (tgt := 1545) hx hb dL_law_33 (by decide) (by decide) rfl (by decide) (tqL_c39 C hX hbl hbz hi hL (sim_holder hR hc) hN hW hS hl kk)
  · exact lv_tableIn (off := 1545) (tgt := 1578) hx hb dL_law_33 (by decide) (by decide) rfl (by decide) (tqL_c40 C hX hbl hbz hi hL (sim_heard hR hc) hN hW hS hl kk)
  · exact lv_tableIn (off := 1588) (tgt := 1621) hx hb dL_law_33 (by decide) (by decide) rfl (by decide) (tqL_c41 C hX hbl hbz hi hL (sim_year hR hc) hN hW hS hl kk)
  · exact lv_tableIn (off := 1631) (tgt := 1664) hx hb dL_law_33 (by decide) (by decide) rfl (by decide) (tqL_c42 C hX hbl hbz hi hL (sim_plan hR hc) hN hW hS hl kk)
  · exact lv_tableIn (off := 1684) (tgt := 1717) hx hb dL_law_33 (by decide) (by decide) rfl (by decide) (tqL_c43 C hX hbl hbz hi hL (sim_act hR hc) hN hW hS hl kk)
  · exact lv_tableIn (off := 1727) (tgt := 1760) hx hb dL_law_33 (by decide) (by decide) rfl (by decide) (tqL_c44 C hX hbl hbz hi hL (sim_trace hR hc) hN hW hS hl kk)
  · exact lv_tableIn (off := 1750) (tgt := 1783) hx hb dL_law_33 (by decide) (by decide) rfl (by decide) (tqL_c45 C hX hbl hbz hi hL (sim_taken hR hc) hN hW hS hl kk)
  · exact lv_tableIn (off := 1783) (tgt := 1816) hx hb dL_law_33 (by decide) (by decide) rfl (by decide) (tqL_c46 C hX hbl hbz hi hL (sim_count hR hc) hN hW hS hl kk)
  · exact lv_tableIn (off := 1806) (tgt := 1839) hx hb dL_law_33 (by decide) (by decide) rfl (by decide) (tqL_c47 C hX hbl hbz hi hL (sim_sheet hR hc) hN hW hS hl kk)
  · exact lv_tableIn (off := 1849) (tgt := 1882) hx hb dL_law_33 (by decide) (by decide) rfl (by decide) (tqL_c48 C hX hbl hbz hi hL (sim_cell hR hc) hN hW hS hl kk)
  · exact lv_tableIn (off := 1892) (tgt := 1925) hx hb dL_law_33 (by decide) (by decide) rfl (by decide) (tqL_c49 C hX hbl hbz hi hL (sim_carry hR hc) hN hW hS hl kk)
  · have e : (nI t).toInt = (t : Int) := tp_ti (by omega)
    exact lv_tableOut (tgt := 1988) hx hb dL_law_33 (Or.inr (by rw [e]; omega)) (by decide) (kk N S M H locs (hR.tick hc) hN hW hS)
theorem tqL_loop (C : tq_At p s m meth c #[Value.ref b] cL_law 4 (some .boolean) tqL_T RL D cy z ad) (hX : va_X b L xs s s.heap) (hbl : b < s.heap.size) (hz : z = s.heap.size) (hA0 : A0 = tq_all s.heap) (hL : L ≤ 3072) : ∀ (k cn : Nat) (N : tq_Nn) (S M : tq_St) (H : Heap) (locs : List Loc) (ls : Array Slot), cn + k = 513 → tp_R cn N S M → tq_nb z A0 s N → tq_wd D cy z H0 ad N (tq_mix S M) H → va_S (fun q => z ≤ q) s.heap H locs → lv_has ls 4 [(0, .ref b), (1, .ref (ad 1 0)), (2, .ref (ad 64 0)), (3, .int (Int32.ofNat (6 * cn)))] → tq_Wb p l e 2048 84000 s m #[Value.ref b] below meth c z A0 N H locs (lw_Z below #[Value.ref b] s) (F0 m 18 ls [])
  | 0, cn, N, S, M, H, locs, ls, hk, hR, hN, hW, hS, hl => by
    exfalso
    obtain ⟨d, pn, P, Sh, V, E, A, t, r, G, C, OL, h0⟩ := hR
    have := h0.1.2.2.2.2.2.2.2.2.2.2.2.2.2.2.2.2.2.2.2
    omega
  | k + 1, cn, N, S, M, H, locs, ls, hk, hR, hN, hW, hS, hl => by
    obtain ⟨hx, hb, hr, hml, hown, hts, hlocks, hK, hG⟩ := id C
    have hbz : ¬ z ≤ b := by omega
    refine lv_iload_n hx hb dL_law_18 rfl (lv_at hl 3 rfl) ?_
    refine lv_aload_n hx hb dL_law_19 rfl (lv_at hl 0 rfl) ?_
    refine va_slen hx hb hX hbl hbz hS dL_law_20 ?_
    refine lv_bipush (v := 6) hx hb dL_law_21 (by decide) ?_
    refine lv_isub hx hb dL_law_23 ?_
    have e1 : (nI (6 * cn)).toInt = ((6 * cn : Nat) : Int) := tp_ti (by omega)
    have e2 : (nI L).toInt = (L : Int) := tp_ti (by omega)
    have t6 : (6 : Int32).toInt = 6 := by decide
    have e3 : (nI L - 6).toInt = (L : Int) - 6 := by rw [tp_sub (by omega) (by omega), e2, t6]
    refine lv_icmp_gt (tgt := 1994) hx hb dL_law_24 (by decide) (fun hgt => ?_) (fun hgt => ?_)
    · refine lv_iconst (v := 1) hx hb dL_law_1994 (by decide) ?_
      have hfo : ∀ q ∈ locs, s.heap.size ≤ q.base := fun q hq => hz ▸ hS.2.2 q hq
      refine va_forget hfo ?_
      refine W.widen (k := 600000) (n := 7302250) ?_ ?_ (lw_retR hx hb hr hlocks dL_law_1995)
      · have := hN.2.2.1
        have hx1 : tq_CX = 590000 := rfl
        omega
      · have := hN.2.2.2
        have hx2 : tq_CY = 7200000 := rfl
        omega
    · have hgt2 : ¬ ((nI L - 6).toInt < (nI (6 * cn)).toInt) := fun q => hgt ((tp_lt _ _).mpr q)
      rw [e1, e3] at hgt2
      have hi : 6 * cn + 6 ≤ L := by omega
      have hc : cn < 512 := by omega
      refine lv_aload_n hx hb dL_law_27 rfl (lv_at hl 0 rfl) ?_
      refine lv_iload_n hx hb dL_law_28 rfl (lv_at hl 3 rfl) ?_
      refine va_sld hx hb hX hbl hbz hS (tqL_in (by omega) hL) dL_law_29 ?_
      refine lv_bipush (v := 63) hx hb dL_law_30 (by decide) ?_
      refine lv_iand hx hb dL_law_32 ?_
      obtain ⟨t, ht, et⟩ := pk_andE (xs (Int32.ofNat (6 * cn)).toNatClampNeg) (m := 63) 6 (by decide)
      rw [et]
      refine tqL_sw C hX hbl hbz hi hL hR hc hN hW hS hl ht (fun N1 S1 M1 H1 locs1 hR1 hN1 hW1 hS1 => ?_)
      refine lv_iinc (k := 3) (v := Int32.ofNat (6 * (cn + 1))) (lv' := [(3, .int (Int32.ofNat (6 * (cn + 1)))), (0, .ref b), (1, .ref (ad 1 0)), (2, .ref (ad 64 0))]) hx hb dL_law_1988 hl rfl ?_ (by decide) rfl (fun ls1 hl1 => ?_)
      · show nI (6 * cn) + nI 6 = nI (6 * (cn + 1))
        rw [nI_add]
        rfl
      · refine lv_goto (tgt := 18) hx hb dL_law_1991 (by decide) ?_
        exact tqL_loop C hX hbl hz hA0 hL k (cn + 1) N1 S1 M1 H1 locs1 ls1 (by omega) hR1 hN1 hW1 hS1 (lv_sub hl1 [1, 2, 3, 0] rfl)
end TQLOOP
