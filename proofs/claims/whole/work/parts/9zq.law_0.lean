/-! the law's body: its cases -/
abbrev tqL_T : List Cond := tq_ws yX11_price cX11_price 3 (some .int)
section TQLAW
variable {p : Program} {l : Launch} {e : Env} {s : State} {m : MethodId} {args : Array Value} {below : List Frame} {meth : Method} {c : Code} {H : Heap} {locs : List Loc} {Q : State → Prop}
variable {ls : Array Slot} {D : va_G} {cy : Nat → ClassId} {z A0 : Nat} {H0 : Heap} {ad : Nat → Nat → Nat} {N : tq_Nn} {S M : tq_St} {b L i : Nat} {xs : Nat → Int32} {I : tq_Nn → tq_St → tq_St → Prop}
theorem tqL_add {i k : Nat} (h : i + k < 2 ^ 31) : Int32.ofNat i + Int32.ofNat k = Int32.ofNat (i + k) := by
  rw [← Int32.ofNat_add]
theorem tqL_in {j L : Nat} (h : j < L) (hL : L ≤ 3072) : vp_in (Int32.ofNat j) L := by
  have e1 : (Int32.ofNat j).toNatClampNeg = j := by rw [Int32.toNatClampNeg_ofNat_of_lt (by omega)]
  have e2 : (Int32.ofNat j).toInt = (j : Int) := Int32.toInt_ofNat_of_lt (by omega)
  intro q
  rcases q with q | q
  · have := Int32.lt_iff_toInt_lt.mp q
    rw [e2] at this
    simp at this
    omega
  · omega
theorem tqL_nn {j : Nat} (h : j < 3072) : (Int32.ofNat j).toNatClampNeg = j := Int32.toNatClampNeg_ofNat_of_lt (by omega)
theorem tqL_arg {R : Room} {cells slots pc k : Nat} {v : Int} {rest : List Value} (hx : p.tables.exec = Jvm.exec) (hb : c.code = cL_law) (hX : va_X b L xs s s.heap) (hbl : b < s.heap.size) (hbz : ¬ z ≤ b) (hS : va_S (fun q => z ≤ q) s.heap H locs) (hl : lv_has ls 4 [(0, .ref b), (1, .ref (ad 1 0)), (2, .ref (ad 64 0)), (3, .int (Int32.ofNat i))]) (hi : i + 6 ≤ L) (hL : L ≤ 3072) (hk : k < 6) (hv : Int32.ofInt v = Int32.ofNat k) (d0 : decode cL_law pc = .ok (.aload_n 0, 1)) (d1 : decode cL_law (pc + 1) = .ok (.iload_n 3, 1)) (d2 : decode cL_law (pc + 2) = .ok (.iconst v, 1)) (d3 : decode cL_law (pc + 3) = .ok (.iadd, 1)) (d4 : decode cL_law (pc + 4) = .ok (.iaload, 1))
    (kk : W p l e R s m args below meth c H locs cells slots Q (F0 m (pc + 5) ls (.int (xs (i + k)) :: rest))) : W p l e R s m args below meth c H locs cells slots Q (F0 m pc ls rest) := by
  refine lv_aload_n hx hb d0 rfl (lv_at hl 0 rfl) ?_
  refine lv_iload_n hx hb d1 rfl (lv_at hl 3 rfl) ?_
  refine lv_iconst (v := Int32.ofNat k) hx hb d2 hv ?_
  refine lv_iadd hx hb d3 ?_
  rw [tqL_add (by omega)]
  refine va_sld hx hb hX hbl hbz hS (tqL_in (by omega) hL) d4 ?_
  rw [tqL_nn (by omega)]
  exact kk
set_option maxHeartbeats 4000000 in
set_option maxRecDepth 100000 in
theorem tqL_c0 (C : tq_At p s m meth c args cL_law 4 (some .boolean) tqL_T RL D cy z ad) (hX : va_X b L xs s s.heap) (hbl : b < s.heap.size) (hbz : ¬ z ≤ b) (hi : i + 6 ≤ L) (hL : L ≤ 3072) (h : wpX11_factory N (fun S1 r => wpX12_factory (fun M1 r1 => r = r1 ∧ I N S1 M1) M (xs (i + 1)) (xs (i + 2)) (xs (i + 3))) S (xs (i + 1)) (xs (i + 2)) (xs (i + 3))) (hN : tq_nb z A0 s N) (hW : tq_wd D cy z H0 ad N (tq_mix S M) H) (hS : va_S (fun q => z ≤ q) s.heap H locs) (hl : lv_has ls 4 [(0, .ref b), (1, .ref (ad 1 0)), (2, .ref (ad 64 0)), (3, .int (Int32.ofNat i))])
    (kk : ∀ (N1 : tq_Nn) (S1 M1 : tq_St) (H1 : Heap) (locs1 : List Loc), I N1 S1 M1 → tq_nb z A0 s N1 → tq_wd D cy z H0 ad N1 (tq_mix S1 M1) H1 → va_S (fun q => z ≤ q) s.heap H1 locs1 → tq_Wb p l e 2048 84000 s m args below meth c z A0 N1 H1 locs1 Q (F0 m 1988 ls [])) : tq_Wb p l e 2048 84000 s m args below meth c z A0 N H locs Q (F0 m 248 ls []) := by
  obtain ⟨hx, hb, hr, hml, hown, hts, hlocks, hK, hG⟩ := C
  refine lv_aload_n hx hb dL_law_248 rfl (lv_at hl 1 rfl) ?_
  refine tqL_arg (k := 1) hx hb hX hbl hbz hS hl hi hL (by decide) (by decide) dL_law_249 dL_law_250 dL_law_251 dL_law_252 dL_law_253 ?_
  refine tqL_arg (k := 2) hx hb hX hbl hbz hS hl hi hL (by decide) (by decide) dL_law_254 dL_law_255 dL_law_256 dL_law_257 dL_law_258 ?_
  refine tqL_arg (k := 3) hx hb hX hbl hbz hS hl hi hL (by decide) (by decide) dL_law_259 dL_law_260 dL_law_261 dL_law_262 dL_law_263 ?_
  refine tqc_callVi (C := "TwoSeas") (As := [.int (xs (i + 1)), .int (xs (i + 2)), .int (xs (i + 3))]) (rest := []) (kX11_factory h) ⟨hx, hb, hml, hown, hts⟩ (cwV 3 hts (tq_goodV tw_398 tw_399 tw_400 tw_115 tw_401) rfl rfl rfl (by decide +kernel) ⟨(Nat.le_of_ble_eq_true rfl), (Nat.le_of_ble_eq_true rfl)⟩) (tq_recvC hK hW (by decide) (tq_mk_1 (by decide)) rfl) hK hG hW hS rfl hl.1 rfl (Nat.le_of_ble_eq_true rfl) dL_law_264 hN.f (fun r S1 H locs h hW hS => ?_)
  refine lv_aload_n hx hb dL_law_267 rfl (lv_at hl 2 rfl) ?_
  refine tqL_arg (k := 1) hx hb hX hbl hbz hS hl hi hL (by decide) (by decide) dL_law_268 dL_law_269 dL_law_270 dL_law_271 dL_law_272 ?_
  refine tqL_arg (k := 2) hx hb hX hbl hbz hS hl hi hL (by decide) (by decide) dL_law_273 dL_law_274 dL_law_275 dL_law_276 dL_law_277 ?_
  refine tqL_arg (k := 3) hx hb hX hbl hbz hS hl hi hL (by decide) (by decide) dL_law_278 dL_law_279 dL_law_280 dL_law_281 dL_law_282 ?_
  refine tq_callVi (As := [.int (xs (i + 1)), .int (xs (i + 2)), .int (xs (i + 3))]) (rest := [.int r]) (kX12_factory h) ⟨hx, hb, hml, hown, hts⟩ (cwV 3 hts (tq_goodV tw_1641 tw_1642 tw_1643 tw_125 tw_1644) rfl rfl rfl (by decide +kernel) ⟨(Nat.le_of_ble_eq_true rfl), (Nat.le_of_ble_eq_true rfl)⟩) hK hG hW hS rfl hl.1 rfl (Nat.le_of_ble_eq_true rfl) dL_law_283 hN.f (fun r1 M1 H locs h hW hS => ?_)
  exact lv_icmp_eq (tgt := 1988) hx hb dL_law_286 (by decide) (fun _ => kk _ _ _ _ _ h.2 hN hW hS) (fun q => absurd h.1 q)
set_option maxHeartbeats 4000000 in
set_option maxRecDepth 100000 in
theorem tqL_c1 (C : tq_At p s m meth c args cL_law 4 (some .boolean) tqL_T RL D cy z ad) (hX : va_X b L xs s s.heap) (hbl : b < s.heap.size) (hbz : ¬ z ≤ b) (hi : i + 6 ≤ L) (hL : L ≤ 3072) (h : wpX11_base N (fun S1 r => wpX12_base (fun M1 r1 => r = r1 ∧ I N S1 M1) M (xs (i + 1)) (xs (i + 2)) (xs (i + 3))) S (xs (i + 1)) (xs (i + 2)) (xs (i + 3))) (hN : tq_nb z A0 s N) (hW : tq_wd D cy z H0 ad N (tq_mix S M) H) (hS : va_S (fun q => z ≤ q) s.heap H locs) (hl : lv_has ls 4 [(0, .ref b), (1, .ref (ad 1 0)), (2, .ref (ad 64 0)), (3, .int (Int32.ofNat i))])
    (kk : ∀ (N1 : tq_Nn) (S1 M1 : tq_St) (H1 : Heap) (locs1 : List Loc), I N1 S1 M1 → tq_nb z A0 s N1 → tq_wd D cy z H0 ad N1 (tq_mix S1 M1) H1 → va_S (fun q => z ≤ q) s.heap H1 locs1 → tq_Wb p l e 2048 84000 s m args below meth c z A0 N1 H1 locs1 Q (F0 m 1988 ls [])) : tq_Wb p l e 2048 84000 s m args below meth c z A0 N H locs Q (F0 m 291 ls []) := by
  obtain ⟨hx, hb, hr, hml, hown, hts, hlocks, hK, hG⟩ := C
  refine lv_aload_n hx hb dL_law_291 rfl (lv_at hl 1 rfl) ?_
  refine tqL_arg (k := 1) hx hb hX hbl hbz hS hl hi hL (by decide) (by decide) dL_law_292 dL_law_293 dL_law_294 dL_law_295 dL_law_296 ?_
  refine tqL_arg (k := 2) hx hb hX hbl hbz hS hl hi hL (by decide) (by decide) dL_law_297 dL_law_298 dL_law_299 dL_law_300 dL_law_301 ?_
  refine tqL_arg (k := 3) hx hb hX hbl hbz hS hl hi hL (by decide) (by decide) dL_law_302 dL_law_303 dL_law_304 dL_law_305 dL_law_306 ?_
  refine tqc_callVi (C := "TwoSeas") (As := [.int (xs (i + 1)), .int (xs (i + 2)), .int (xs (i + 3))]) (rest := []) (kX11_base h) ⟨hx, hb, hml, hown, hts⟩ (cwV 3 hts (tq_goodV tw_408 tw_409 tw_410 tw_115 tw_411) rfl rfl rfl (by decide +kernel) ⟨(Nat.le_of_ble_eq_true rfl), (Nat.le_of_ble_eq_true rfl)⟩) (tq_recvC hK hW (by decide) (tq_mk_1 (by decide)) rfl) hK hG hW hS rfl hl.1 rfl (Nat.le_of_ble_eq_true rfl) dL_law_307 hN.f (fun r S1 H locs h hW hS => ?_)
  refine lv_aload_n hx hb dL_law_310 rfl (lv_at hl 2 rfl) ?_
  refine tqL_arg (k := 1) hx hb hX hbl hbz hS hl hi hL (by decide) (by decide) dL_law_311 dL_law_312 dL_law_313 dL_law_314 dL_law_315 ?_
  refine tqL_arg (k := 2) hx hb hX hbl hbz hS hl hi hL (by decide) (by decide) dL_law_316 dL_law_317 dL_law_318 dL_law_319 dL_law_320 ?_
  refine tqL_arg (k := 3) hx hb hX hbl hbz hS hl hi hL (by decide) (by decide) dL_law_321 dL_law_322 dL_law_323 dL_law_324 dL_law_325 ?_
  refine tq_callVi (As := [.int (xs (i + 1)), .int (xs (i + 2)), .int (xs (i + 3))]) (rest := [.int r]) (kX12_base h) ⟨hx, hb, hml, hown, hts⟩ (cwV 3 hts (tq_goodV tw_1651 tw_1652 tw_1653 tw_125 tw_1654) rfl rfl rfl (by decide +kernel) ⟨(Nat.le_of_ble_eq_true rfl), (Nat.le_of_ble_eq_true rfl)⟩) hK hG hW hS rfl hl.1 rfl (Nat.le_of_ble_eq_true rfl) dL_law_326 hN.f (fun r1 M1 H locs h hW hS => ?_)
  exact lv_icmp_eq (tgt := 1988) hx hb dL_law_329 (by decide) (fun _ => kk _ _ _ _ _ h.2 hN hW hS) (fun q => absurd h.1 q)
set_option maxHeartbeats 4000000 in
set_option maxRecDepth 100000 in
theorem tqL_c2 (C : tq_At p s m meth c args cL_law 4 (some .boolean) tqL_T RL D cy z ad) (hX : va_X b L xs s s.heap) (hbl : b < s.heap.size) (hbz : ¬ z ≤ b) (hi : i + 6 ≤ L) (hL : L ≤ 3072) (h : wpX11_price N (fun S1 r => wpX12_price (fun M1 r1 => r = r1 ∧ I N S1 M1) M (xs (i + 1)) (xs (i + 2))) S (xs (i + 1)) (xs (i + 2))) (hN : tq_nb z A0 s N) (hW : tq_wd D cy z H0 ad N (tq_mix S M) H) (hS : va_S (fun q => z ≤ q) s.heap H locs) (hl : lv_has ls 4 [(0, .ref b), (1, .ref (ad 1 0)), (2, .ref (ad 64 0)), (3, .int (Int32.ofNat i))])
    (kk : ∀ (N1 : tq_Nn) (S1 M1 : tq_St) (H1 : Heap) (locs1 : List Loc), I N1 S1 M1 → tq_nb z A0 s N1 → tq_wd D cy z H0 ad N1 (tq_mix S1 M1) H1 → va_S (fun q => z ≤ q) s.heap H1 locs1 → tq_Wb p l e 2048 84000 s m args below meth c z A0 N1 H1 locs1 Q (F0 m 1988 ls [])) : tq_Wb p l e 2048 84000 s m args below meth c z A0 N H locs Q (F0 m 334 ls []) := by
  obtain ⟨hx, hb, hr, hml, hown, hts, hlocks, hK, hG⟩ := C
  refine lv_aload_n hx hb dL_law_334 rfl (lv_at hl 1 rfl) ?_
  refine tqL_arg (k := 1) hx hb hX hbl hbz hS hl hi hL (by decide) (by decide) dL_law_335 dL_law_336 dL_law_337 dL_law_338 dL_law_339 ?_
  refine tqL_arg (k := 2) hx hb hX hbl hbz hS hl hi hL (by decide) (by decide) dL_law_340 dL_law_341 dL_law_342 dL_law_343 dL_law_344 ?_
  refine tqc_callVi (C := "TwoSeas") (As := [.int (xs (i + 1)), .int (xs (i + 2))]) (rest := []) (kX11_price h) ⟨hx, hb, hml, hown, hts⟩ (cwV 2 hts (tq_goodV tw_415 tw_416 tw_417 tw_115 tw_418) rfl rfl rfl (by decide +kernel) ⟨(Nat.le_of_ble_eq_true rfl), (Nat.le_of_ble_eq_true rfl)⟩) (tq_recvC hK hW (by decide) (tq_mk_1 (by decide)) rfl) hK hG hW hS rfl hl.1 rfl (Nat.le_of_ble_eq_true rfl) dL_law_345 hN.f (fun r S1 H locs h hW hS => ?_)
  refine lv_aload_n hx hb dL_law_348 rfl (lv_at hl 2 rfl) ?_
  refine tqL_arg (k := 1) hx hb hX hbl hbz hS hl hi hL (by decide) (by decide) dL_law_349 dL_law_350 dL_law_351 dL_law_352 dL_law_353 ?_
  refine tqL_arg (k := 2) hx hb hX hbl hbz hS hl hi hL (by decide) (by decide) dL_law_354 dL_law_355 dL_law_356 dL_law_357 dL_law_358 ?_
  refine tq_callVi (As := [.int (xs (i + 1)), .int (xs (i + 2))]) (rest := [.int r]) (kX12_price h) ⟨hx, hb, hml, hown, hts⟩ (cwV 2 hts (tq_goodV tw_1658 tw_1659 tw_1660 tw_125 tw_1661) rfl rfl rfl (by decide +kernel) ⟨(Nat.le_of_ble_eq_true rfl), (Nat.le_of_ble_eq_true rfl)⟩) hK hG hW hS rfl hl.1 rfl (Nat.le_of_ble_eq_true rfl) dL_law_359 hN.f (fun r1 M1 H locs h hW hS => ?_)
  exact lv_icmp_eq (tgt := 1988) hx hb dL_law_362 (by decide) (fun _ => kk _ _ _ _ _ h.2 hN hW hS) (fun q => absurd h.1 q)
set_option maxHeartbeats 4000000 in
set_option maxRecDepth 100000 in
theorem tqL_c3 (C : tq_At p s m meth c args cL_law 4 (some .boolean) tqL_T RL D cy z ad) (hX : va_X b L xs s s.heap) (hbl : b < s.heap.size) (hbz : ¬ z ≤ b) (hi : i + 6 ≤ L) (hL : L ≤ 3072) (h : wpX11_bullion N (fun S1 r => wpX12_bullion (fun M1 r1 => r = r1 ∧ I N S1 M1) M (xs (i + 1)) (xs (i + 2))) S (xs (i + 1)) (xs (i + 2))) (hN : tq_nb z A0 s N) (hW : tq_wd D cy z H0 ad N (tq_mix S M) H) (hS : va_S (fun q => z ≤ q) s.heap H locs) (hl : lv_has ls 4 [(0, .ref b), (1, .ref (ad 1 0)), (2, .ref (ad 64 0)), (3, .int (Int32.ofNat i))])
    (kk : ∀ (N1 : tq_Nn) (S1 M1 : tq_St) (H1 : Heap) (locs1 : List Loc), I N1 S1 M1 → tq_nb z A0 s N1 → tq_wd D cy z H0 ad N1 (tq_mix S1 M1) H1 → va_S (fun q => z ≤ q) s.heap H1 locs1 → tq_Wb p l e 2048 84000 s m args below meth c z A0 N1 H1 locs1 Q (F0 m 1988 ls [])) : tq_Wb p l e 2048 84000 s m args below meth c z A0 N H locs Q (F0 m 367 ls []) := by
  obtain ⟨hx, hb, hr, hml, hown, hts, hlocks, hK, hG⟩ := C
  refine lv_aload_n hx hb dL_law_367 rfl (lv_at hl 1 rfl) ?_
  refine tqL_arg (k := 1) hx hb hX hbl hbz hS hl hi hL (by decide) (by decide) dL_law_368 dL_law_369 dL_law_370 dL_law_371 dL_law_372 ?_
  refine tqL_arg (k := 2) hx hb hX hbl hbz hS hl hi hL (by decide) (by decide) dL_law_373 dL_law_374 dL_law_375 dL_law_376 dL_law_377 ?_
  refine tqc_callVi (C := "TwoSeas") (As := [.int (xs (i + 1)), .int (xs (i + 2))]) (rest := []) (kX11_bullion h) ⟨hx, hb, hml, hown, hts⟩ (cwV 2 hts (tq_goodV tw_423 tw_424 tw_425 tw_115 tw_426) rfl rfl rfl (by decide +kernel) ⟨(Nat.le_of_ble_eq_true rfl), (Nat.le_of_ble_eq_true rfl)⟩) (tq_recvC hK hW (by decide) (tq_mk_1 (by decide)) rfl) hK hG hW hS rfl hl.1 rfl (Nat.le_of_ble_eq_true rfl) dL_law_378 hN.f (fun r S1 H locs h hW hS => ?_)
  refine lv_aload_n hx hb dL_law_381 rfl (lv_at hl 2 rfl) ?_
  refine tqL_arg (k := 1) hx hb hX hbl hbz hS hl hi hL (by decide) (by decide) dL_law_382 dL_law_383 dL_law_384 dL_law_385 dL_law_386 ?_
  refine tqL_arg (k := 2) hx hb hX hbl hbz hS hl hi hL (by decide) (by decide) dL_law_387 dL_law_388 dL_law_389 dL_law_390 dL_law_391 ?_
  refine tq_callVi (As := [.int (xs (i + 1)), .int (xs (i + 2))]) (rest := [.int r]) (kX12_bullion h) ⟨hx, hb, hml, hown, hts⟩ (cwV 2 hts (tq_goodV tw_1666 tw_1667 tw_1668 tw_125 tw_1669) rfl rfl rfl (by decide +kernel) ⟨(Nat.le_of_ble_eq_true rfl), (Nat.le_of_ble_eq_true rfl)⟩) hK hG hW hS rfl hl.1 rfl (Nat.le_of_ble_eq_true rfl) dL_law_392 hN.f (fun r1 M1 H locs h hW hS => ?_)
  exact lv_icmp_eq (tgt := 1988) hx hb dL_law_395 (by decide) (fun _ => kk _ _ _ _ _ h.2 hN hW hS) (fun q => absurd h.1 q)
set_option maxHeartbeats 4000000 in
set_option maxRecDepth 100000 in
theorem tqL_c4 (C : tq_At p s m meth c args cL_law 4 (some .boolean) tqL_T RL D cy z ad) (hX : va_X b L xs s s.heap) (hbl : b < s.heap.size) (hbz : ¬ z ≤ b) (hi : i + 6 ≤ L) (hL : L ≤ 3072) (h : wpX11_stock N (fun S1 r => wpX12_stock (fun M1 r1 => r = r1 ∧ I N S1 M1) M (xs (i + 1)) (xs (i + 2))) S (xs (i + 1)) (xs (i + 2))) (hN : tq_nb z A0 s N) (hW : tq_wd D cy z H0 ad N (tq_mix S M) H) (hS : va_S (fun q => z ≤ q) s.heap H locs) (hl : lv_has ls 4 [(0, .ref b), (1, .ref (ad 1 0)), (2, .ref (ad 64 0)), (3, .int (Int32.ofNat i))])
    (kk : ∀ (N1 : tq_Nn) (S1 M1 : tq_St) (H1 : Heap) (locs1 : List Loc), I N1 S1 M1 → tq_nb z A0 s N1 → tq_wd D cy z H0 ad N1 (tq_mix S1 M1) H1 → va_S (fun q => z ≤ q) s.heap H1 locs1 → tq_Wb p l e 2048 84000 s m args below meth c z A0 N1 H1 locs1 Q (F0 m 1988 ls [])) : tq_Wb p l e 2048 84000 s m args below meth c z A0 N H locs Q (F0 m 400 ls []) := by
  obtain ⟨hx, hb, hr, hml, hown, hts, hlocks, hK, hG⟩ := C
  refine lv_aload_n hx hb dL_law_400 rfl (lv_at hl 1 rfl) ?_
  refine tqL_arg (k := 1) hx hb hX hbl hbz hS hl hi hL (by decide) (by decide) dL_law_401 dL_law_402 dL_law_403 dL_law_404 dL_law_405 ?_
  refine tqL_arg (k := 2) hx hb hX hbl hbz hS hl hi hL (by decide) (by decide) dL_law_406 dL_law_407 dL_law_408 dL_law_409 dL_law_410 ?_
  refine tqc_callVi (C := "TwoSeas") (As := [.int (xs (i + 1)), .int (xs (i + 2))]) (rest := []) (kX11_stock h) ⟨hx, hb, hml, hown, hts⟩ (cwV 2 hts (tq_goodV tw_433 tw_434 tw_435 tw_115 tw_436) rfl rfl rfl (by decide +kernel) ⟨(Nat.le_of_ble_eq_true rfl), (Nat.le_of_ble_eq_true rfl)⟩) (tq_recvC hK hW (by decide) (tq_mk_1 (by decide)) rfl) hK hG hW hS rfl hl.1 rfl (Nat.le_of_ble_eq_true rfl) dL_law_411 hN.f (fun r S1 H locs h hW hS => ?_)
  refine lv_aload_n hx hb dL_law_414 rfl (lv_at hl 2 rfl) ?_
  refine tqL_arg (k := 1) hx hb hX hbl hbz hS hl hi hL (by decide) (by decide) dL_law_415 dL_law_416 dL_law_417 dL_law_418 dL_law_419 ?_
  refine tqL_arg (k := 2) hx hb hX hbl hbz hS hl hi hL (by decide) (by decide) dL_law_420 dL_law_421 dL_law_422 dL_law_423 dL_law_424 ?_
  refine tq_callVi (As := [.int (xs (i + 1)), .int (xs (i + 2))]) (rest := [.int r]) (kX12_stock h) ⟨hx, hb, hml, hown, hts⟩ (cwV 2 hts (tq_goodV tw_1676 tw_1677 tw_1678 tw_125 tw_1679) rfl rfl rfl (by decide +kernel) ⟨(Nat.le_of_ble_eq_true rfl), (Nat.le_of_ble_eq_true rfl)⟩) hK hG hW hS rfl hl.1 rfl (Nat.le_of_ble_eq_true rfl) dL_law_425 hN.f (fun r1 M1 H locs h hW hS => ?_)
  exact lv_icmp_eq (tgt := 1988) hx hb dL_law_428 (by decide) (fun _ => kk _ _ _ _ _ h.2 hN hW hS) (fun q => absurd h.1 q)
set_option maxHeartbeats 4000000 in
set_option maxRecDepth 100000 in
theorem tqL_c5 (C : tq_At p s m meth c args cL_law 4 (some .boolean) tqL_T RL D cy z ad) (hX : va_X b L xs s s.heap) (hbl : b < s.heap.size) (hbz : ¬ z ≤ b) (hi : i + 6 ≤ L) (hL : L ≤ 3072) (h : wpX11_person N (fun S1 r => wpX12_person (fun M1 r1 => r = r1 ∧ I N S1 M1) M (xs (i + 1)) (xs (i + 2))) S (xs (i + 1)) (xs (i + 2))) (hN : tq_nb z A0 s N) (hW : tq_wd D cy z H0 ad N (tq_mix S M) H) (hS : va_S (fun q => z ≤ q) s.heap H locs) (hl : lv_has ls 4 [(0, .ref b), (1, .ref (ad 1 0)), (2, .ref (ad 64 0)), (3, .int (Int32.ofNat i))])
    (kk : ∀ (N1 : tq_Nn) (S1 M1 : tq_St) (H1 : Heap) (locs1 : List Loc), I N1 S1 M1 → tq_nb z A0 s N1 → tq_wd D cy z H0 ad N1 (tq_mix S1 M1) H1 → va_S (fun q => z ≤ q) s.heap H1 locs1 → tq_Wb p l e 2048 84000 s m args below meth c z A0 N1 H1 locs1 Q (F0 m 1988 ls [])) : tq_Wb p l e 2048 84000 s m args below meth c z A0 N H locs Q (F0 m 433 ls []) := by
  obtain ⟨hx, hb, hr, hml, hown, hts, hlocks, hK, hG⟩ := C
  refine lv_aload_n hx hb dL_law_433 rfl (lv_at hl 1 rfl) ?_
  refine tqL_arg (k := 1) hx hb hX hbl hbz hS hl hi hL (by decide) (by decide) dL_law_434 dL_law_435 dL_law_436 dL_law_437 dL_law_438 ?_
  refine tqL_arg (k := 2) hx hb hX hbl hbz hS hl hi hL (by decide) (by decide) dL_law_439 dL_law_440 dL_law_441 dL_law_442 dL_law_443 ?_
  refine tqc_callVi (C := "TwoSeas") (As := [.int (xs (i + 1)), .int (xs (i + 2))]) (rest := []) (kX11_person h) ⟨hx, hb, hml, hown, hts⟩ (cwV 2 hts (tq_goodV tw_437 tw_438 tw_439 tw_115 tw_440) rfl rfl rfl (by decide +kernel) ⟨(Nat.le_of_ble_eq_true rfl), (Nat.le_of_ble_eq_true rfl)⟩) (tq_recvC hK hW (by decide) (tq_mk_1 (by decide)) rfl) hK hG hW hS rfl hl.1 rfl (Nat.le_of_ble_eq_true rfl) dL_law_444 hN.f (fun r S1 H locs h hW hS => ?_)
  refine lv_aload_n hx hb dL_law_447 rfl (lv_at hl 2 rfl) ?_
  refine tqL_arg (k := 1) hx hb hX hbl hbz hS hl hi hL (by decide) (by decide) dL_law_448 dL_law_449 dL_law_450 dL_law_451 dL_law_452 ?_
  refine tqL_arg (k := 2) hx hb hX hbl hbz hS hl hi hL (by decide) (by decide) dL_law_453 dL_law_454 dL_law_455 dL_law_456 dL_law_457 ?_
  refine tq_callVi (As := [.int (xs (i + 1)), .int (xs (i + 2))]) (rest := [.int r]) (kX12_person h) ⟨hx, hb, hml, hown, hts⟩ (cwV 2 hts (tq_goodV tw_1680 tw_1681 tw_1682 tw_125 tw_1683) rfl rfl rfl (by decide +kernel) ⟨(Nat.le_of_ble_eq_true rfl), (Nat.le_of_ble_eq_true rfl)⟩) hK hG hW hS rfl hl.1 rfl (Nat.le_of_ble_eq_true rfl) dL_law_458 hN.f (fun r1 M1 H locs h hW hS => ?_)
  exact lv_icmp_eq (tgt := 1988) hx hb dL_law_461 (by decide) (fun _ => kk _ _ _ _ _ h.2 hN hW hS) (fun q => absurd h.1 q)
set_option maxHeartbeats 4000000 in
set_option maxRecDepth 100000 in
theorem tqL_c6 (C : tq_At p s m meth c args cL_law 4 (some .boolean) tqL_T RL D cy z ad) (hX : va_X b L xs s s.heap) (hbl : b < s.heap.size) (hbz : ¬ z ≤ b) (hi : i + 6 ≤ L) (hL : L ≤ 3072) (h : wpX11_goes N (fun S1 r => wpX12_goes (fun M1 r1 => r = r1 ∧ I N S1 M1) M (xs (i + 1)) (xs (i + 2))) S (xs (i + 1)) (xs (i + 2))) (hN : tq_nb z A0 s N) (hW : tq_wd D cy z H0 ad N (tq_mix S M) H) (hS : va_S (fun q => z ≤ q) s.heap H locs) (hl : lv_has ls 4 [(0, .ref b), (1, .ref (ad 1 0)), (2, .ref (ad 64 0)), (3, .int (Int32.ofNat i))])
    (kk : ∀ (N1 : tq_Nn) (S1 M1 : tq_St) (H1 : Heap) (locs1 : List Loc), I N1 S1 M1 → tq_nb z A0 s N1 → tq_wd D cy z H0 ad N1 (tq_mix S1 M1) H1 → va_S (fun q => z ≤ q) s.heap H1 locs1 → tq_Wb p l e 2048 84000 s m args below meth c z A0 N1 H1 locs1 Q (F0 m 1988 ls [])) : tq_Wb p l e 2048 84000 s m args below meth c z A0 N H locs Q (F0 m 466 ls []) := by
  obtain ⟨hx, hb, hr, hml, hown, hts, hlocks, hK, hG⟩ := C
  refine lv_aload_n hx hb dL_law_466 rfl (lv_at hl 1 rfl) ?_
  refine tqL_arg (k := 1) hx hb hX hbl hbz hS hl hi hL (by decide) (by decide) dL_law_467 dL_law_468 dL_law_469 dL_law_470 dL_law_471 ?_
  refine tqL_arg (k := 2) hx hb hX hbl hbz hS hl hi hL (by decide) (by decide) dL_law_472 dL_law_473 dL_law_474 dL_law_475 dL_law_476 ?_
  refine tqc_callVi (C := "TwoSeas") (As := [.int (xs (i + 1)), .int (xs (i + 2))]) (rest := []) (kX11_goes h) ⟨hx, hb, hml, hown, hts⟩ (cwV 2 hts (tq_goodV tw_441 tw_442 tw_443 tw_115 tw_444) rfl rfl rfl (by decide +kernel) ⟨(Nat.le_of_ble_eq_true rfl), (Nat.le_of_ble_eq_true rfl)⟩) (tq_recvC hK hW (by decide) (tq_mk_1 (by decide)) rfl) hK hG hW hS rfl hl.1 rfl (Nat.le_of_ble_eq_true rfl) dL_law_477 hN.f (fun r S1 H locs h hW hS => ?_)
  refine lv_aload_n hx hb dL_law_480 rfl (lv_at hl 2 rfl) ?_
  refine tqL_arg (k := 1) hx hb hX hbl hbz hS hl hi hL (by decide) (by decide) dL_law_481 dL_law_482 dL_law_483 dL_law_484 dL_law_485 ?_
  refine tqL_arg (k := 2) hx hb hX hbl hbz hS hl hi hL (by decide) (by decide) dL_law_486 dL_law_487 dL_law_488 dL_law_489 dL_law_490 ?_
  refine tq_callVi (As := [.int (xs (i + 1)), .int (xs (i + 2))]) (rest := [.int r]) (kX12_goes h) ⟨hx, hb, hml, hown, hts⟩ (cwV 2 hts (tq_goodV tw_1684 tw_1685 tw_1686 tw_125 tw_1687) rfl rfl rfl (by decide +kernel) ⟨(Nat.le_of_ble_eq_true rfl), (Nat.le_of_ble_eq_true rfl)⟩) hK hG hW hS rfl hl.1 rfl (Nat.le_of_ble_eq_true rfl) dL_law_491 hN.f (fun r1 M1 H locs h hW hS => ?_)
  exact lv_icmp_eq (tgt := 1988) hx hb dL_law_494 (by decide) (fun _ => kk _ _ _ _ _ h.2 hN hW hS) (fun q => absurd h.1 q)
set_option maxHeartbeats 4000000 in
set_option maxRecDepth 100000 in
theorem tqL_c7 (C : tq_At p s m meth c args cL_law 4 (some .boolean) tqL_T RL D cy z ad) (hX : va_X b L xs s s.heap) (hbl : b < s.heap.size) (hbz : ¬ z ≤ b) (hi : i + 6 ≤ L) (hL : L ≤ 3072) (h : wpX11_feed N (fun S1 r => wpX12_feed (fun M1 r1 => r = r1 ∧ I N S1 M1) M (xs (i + 1)) (xs (i + 2))) S (xs (i + 1)) (xs (i + 2))) (hN : tq_nb z A0 s N) (hW : tq_wd D cy z H0 ad N (tq_mix S M) H) (hS : va_S (fun q => z ≤ q) s.heap H locs) (hl : lv_has ls 4 [(0, .ref b), (1, .ref (ad 1 0)), (2, .ref (ad 64 0)), (3, .int (Int32.ofNat i))])
    (kk : ∀ (N1 : tq_Nn) (S1 M1 : tq_St) (H1 : Heap) (locs1 : List Loc), I N1 S1 M1 → tq_nb z A0 s N1 → tq_wd D cy z H0 ad N1 (tq_mix S1 M1) H1 → va_S (fun q => z ≤ q) s.heap H1 locs1 → tq_Wb p l e 2048 84000 s m args below meth c z A0 N1 H1 locs1 Q (F0 m 1988 ls [])) : tq_Wb p l e 2048 84000 s m args below meth c z A0 N H locs Q (F0 m 499 ls []) := by
  obtain ⟨hx, hb, hr, hml, hown, hts, hlocks, hK, hG⟩ := C
  refine lv_aload_n hx hb dL_law_499 rfl (lv_at hl 1 rfl) ?_
  refine tqL_arg (k := 1) hx hb hX hbl hbz hS hl hi hL (by decide) (by decide) dL_law_500 dL_law_501 dL_law_502 dL_law_503 dL_law_504 ?_
  refine tqL_arg (k := 2) hx hb hX hbl hbz hS hl hi hL (by decide) (by decide) dL_law_505 dL_law_506 dL_law_507 dL_law_508 dL_law_509 ?_
  refine tqc_callVi (C := "TwoSeas") (As := [.int (xs (i + 1)), .int (xs (i + 2))]) (rest := []) (kX11_feed h) ⟨hx, hb, hml, hown, hts⟩ (cwV 2 hts (tq_goodV tw_449 tw_450 tw_451 tw_115 tw_452) rfl rfl rfl (by decide +kernel) ⟨(Nat.le_of_ble_eq_true rfl), (Nat.le_of_ble_eq_true rfl)⟩) (tq_recvC hK hW (by decide) (tq_mk_1 (by decide)) rfl) hK hG hW hS rfl hl.1 rfl (Nat.le_of_ble_eq_true rfl) dL_law_510 hN.f (fun r S1 H locs h hW hS => ?_)
  refine lv_aload_n hx hb dL_law_513 rfl (lv_at hl 2 rfl) ?_
  refine tqL_arg (k := 1) hx hb hX hbl hbz hS hl hi hL (by decide) (by decide) dL_law_514 dL_law_515 dL_law_516 dL_law_517 dL_law_518 ?_
  refine tqL_arg (k := 2) hx hb hX hbl hbz hS hl hi hL (by decide) (by decide) dL_law_519 dL_law_520 dL_law_521 dL_law_522 dL_law_523 ?_
  refine tq_callVi (As := [.int (xs (i + 1)), .int (xs (i + 2))]) (rest := [.int r]) (kX12_feed h) ⟨hx, hb, hml, hown, hts⟩ (cwV 2 hts (tq_goodV tw_1692 tw_1693 tw_1694 tw_125 tw_1695) rfl rfl rfl (by decide +kernel) ⟨(Nat.le_of_ble_eq_true rfl), (Nat.le_of_ble_eq_true rfl)⟩) hK hG hW hS rfl hl.1 rfl (Nat.le_of_ble_eq_true rfl) dL_law_524 hN.f (fun r1 M1 H locs h hW hS => ?_)
  exact lv_icmp_eq (tgt := 1988) hx hb dL_law_527 (by decide) (fun _ => kk _ _ _ _ _ h.2 hN hW hS) (fun q => absurd h.1 q)
set_option maxHeartbeats 4000000 in
set_option maxRecDepth 100000 in
theorem tqL_c8 (C : tq_At p s m meth c args cL_law 4 (some .boolean) tqL_T RL D cy z ad) (hX : va_X b L xs s s.heap) (hbl : b < s.heap.size) (hbz : ¬ z ≤ b) (hi : i + 6 ≤ L) (hL : L ≤ 3072) (h : wpX11_mail N (fun S1 r => wpX12_mail (fun M1 r1 => r = r1 ∧ I N S1 M1) M (xs (i + 1)) (xs (i + 2)) (xs (i + 3)) (xs (i + 4))) S (xs (i + 1)) (xs (i + 2)) (xs (i + 3)) (xs (i + 4))) (hN : tq_nb z A0 s N) (hW : tq_wd D cy z H0 ad N (tq_mix S M) H) (hS : va_S (fun q => z ≤ q) s.heap H locs) (hl : lv_has ls 4 [(0, .ref b), (1, .ref (ad 1 0)), (2, .ref (ad 64 0)), (3, .int (Int32.ofNat i))])
    (kk : ∀ (N1 : tq_Nn) (S1 M1 : tq_St) (H1 : Heap) (locs1 : List Loc), I N1 S1 M1 → tq_nb z A0 s N1 → tq_wd D cy z H0 ad N1 (tq_mix S1 M1) H1 → va_S (fun q => z ≤ q) s.heap H1 locs1 → tq_Wb p l e 2048 84000 s m args below meth c z A0 N1 H1 locs1 Q (F0 m 1988 ls [])) : tq_Wb p l e 2048 84000 s m args below meth c z A0 N H locs Q (F0 m 532 ls []) := by
  obtain ⟨hx, hb, hr, hml, hown, hts, hlocks, hK, hG⟩ := C
  refine lv_aload_n hx hb dL_law_532 rfl (lv_at hl 1 rfl) ?_
  refine tqL_arg (k := 1) hx hb hX hbl hbz hS hl hi hL (by decide) (by decide) dL_law_533 dL_law_534 dL_law_535 dL_law_536 dL_law_537 ?_
  refine tqL_arg (k := 2) hx hb hX hbl hbz hS hl hi hL (by decide) (by decide) dL_law_538 dL_law_539 dL_law_540 dL_law_541 dL_law_542 ?_
  refine tqL_arg (k := 3) hx hb hX hbl hbz hS hl hi hL (by decide) (by decide) dL_law_543 dL_law_544 dL_law_545 dL_law_546 dL_law_547 ?_
  refine tqL_arg (k := 4) hx hb hX hbl hbz hS hl hi hL (by decide) (by decide) dL_law_548 dL_law_549 dL_law_550 dL_law_551 dL_law_552 ?_
  refine tqc_callVi (C := "TwoSeas") (As := [.int (xs (i + 1)), .int (xs (i + 2)), .int (xs (i + 3)), .int (xs (i + 4))]) (rest := []) (kX11_mail h) ⟨hx, hb, hml, hown, hts⟩ (cwV 4 hts (tq_goodV tw_461 tw_462 tw_463 tw_115 tw_464) rfl rfl rfl (by decide +kernel) ⟨(Nat.le_of_ble_eq_true rfl), (Nat.le_of_ble_eq_true rfl)⟩) (tq_recvC hK hW (by decide) (tq_mk_1 (by decide)) rfl) hK hG hW hS rfl hl.1 rfl (Nat.le_of_ble_eq_true rfl) dL_law_553 hN.f (fun r S1 H locs h hW hS => ?_)
  refine lv_aload_n hx hb dL_law_556 rfl (lv_at hl 2 rfl) ?_
  refine tqL_arg (k := 1) hx hb hX hbl hbz hS hl hi hL (by decide) (by decide) dL_law_557 dL_law_558 dL_law_559 dL_law_560 dL_law_561 ?_
  refine tqL_arg (k := 2) hx hb hX hbl hbz hS hl hi hL (by decide) (by decide) dL_law_562 dL_law_563 dL_law_564 dL_law_565 dL_law_566 ?_
  refine tqL_arg (k := 3) hx hb hX hbl hbz hS hl hi hL (by decide) (by decide) dL_law_567 dL_law_568 dL_law_569 dL_law_570 dL_law_571 ?_
  refine tqL_arg (k := 4) hx hb hX hbl hbz hS hl hi hL (by decide) (by decide) dL_law_572 dL_law_573 dL_law_574 dL_law_575 dL_law_576 ?_
  refine tq_callVi (As := [.int (xs (i + 1)), .int (xs (i + 2)), .int (xs (i + 3)), .int (xs (i + 4))]) (rest := [.int r]) (kX12_mail h) ⟨hx, hb, hml, hown, hts⟩ (cwV 4 hts (tq_goodV tw_1696 tw_1697 tw_1698 tw_125 tw_1699) rfl rfl rfl (by decide +kernel) ⟨(Nat.le_of_ble_eq_true rfl), (Nat.le_of_ble_eq_true rfl)⟩) hK hG hW hS rfl hl.1 rfl (Nat.le_of_ble_eq_true rfl) dL_law_577 hN.f (fun r1 M1 H locs h hW hS => ?_)
  exact lv_icmp_eq (tgt := 1988) hx hb dL_law_580 (by decide) (fun _ => kk _ _ _ _ _ h.2 hN hW hS) (fun q => absurd h.1 q)
set_option maxHeartbeats 4000000 in
set_option maxRecDepth 100000 in
theorem tqL_c9 (C : tq_At p s m meth c args cL_law 4 (some .boolean) tqL_T RL D cy z ad) (hX : va_X b L xs s s.heap) (hbl : b < s.heap.size) (hbz : ¬ z ≤ b) (hi : i + 6 ≤ L) (hL : L ≤ 3072) (h : wpX11_order (fun N1 S1 r => wpX12_order (fun M1 r1 => r = r1 ∧ I N1 S1 M1) M (xs (i + 1))) N S (xs (i + 1))) (hN : tq_nb z A0 s N) (hW : tq_wd D cy z H0 ad N (tq_mix S M) H) (hS : va_S (fun q => z ≤ q) s.heap H locs) (hl : lv_has ls 4 [(0, .ref b), (1, .ref (ad 1 0)), (2, .ref (ad 64 0)), (3, .int (Int32.ofNat i))])
    (kk : ∀ (N1 : tq_Nn) (S1 M1 : tq_St) (H1 : Heap) (locs1 : List Loc), I N1 S1 M1 → tq_nb z A0 s N1 → tq_wd D cy z H0 ad N1 (tq_mix S1 M1) H1 → va_S (fun q => z ≤ q) s.heap H1 locs1 → tq_Wb p l e 2048 84000 s m args below meth c z A0 N1 H1 locs1 Q (F0 m 1988 ls [])) : tq_Wb p l e 2048 84000 s m args below meth c z A0 N H locs Q (F0 m 585 ls []) := by
  obtain ⟨hx, hb, hr, hml, hown, hts, hlocks, hK, hG⟩ := C
  refine lv_aload_n hx hb dL_law_585 rfl (lv_at hl 1 rfl) ?_
  refine tqL_arg (k := 1) hx hb hX hbl hbz hS hl hi hL (by decide) (by decide) dL_law_586 dL_law_587 dL_law_588 dL_law_589 dL_law_590 ?_
  refine tqb_callVi (C := "TwoSeas") (As := [.int (xs (i + 1))]) (rest := []) (kX11_order h) ⟨hx, hb, hml, hown, hts⟩ (cwV 1 hts (tq_goodV tw_476 tw_477 tw_478 tw_115 tw_479) rfl rfl rfl (by decide +kernel) ⟨(Nat.le_of_ble_eq_true rfl), (Nat.le_of_ble_eq_true rfl)⟩) (tq_recvC hK hW (by decide) (tq_mk_1 (by decide)) rfl) hK hG hW hS rfl hl.1 rfl (Nat.le_of_ble_eq_true rfl) dL_law_591 hN (fun r N1 S1 H locs h hN hW hS => ?_)
  refine lv_aload_n hx hb dL_law_594 rfl (lv_at hl 2 rfl) ?_
  refine tqL_arg (k := 1) hx hb hX hbl hbz hS hl hi hL (by decide) (by decide) dL_law_595 dL_law_596 dL_law_597 dL_law_598 dL_law_599 ?_
  refine tq_callVi (As := [.int (xs (i + 1))]) (rest := [.int r]) (kX12_order h) ⟨hx, hb, hml, hown, hts⟩ (cwV 1 hts (tq_goodV tw_1700 tw_1701 tw_1702 tw_125 tw_1703) rfl rfl rfl (by decide +kernel) ⟨(Nat.le_of_ble_eq_true rfl), (Nat.le_of_ble_eq_true rfl)⟩) hK hG hW hS rfl hl.1 rfl (Nat.le_of_ble_eq_true rfl) dL_law_600 hN.f (fun r1 M1 H locs h hW hS => ?_)
  exact lv_icmp_eq (tgt := 1988) hx hb dL_law_603 (by decide) (fun _ => kk _ _ _ _ _ h.2 hN hW hS) (fun q => absurd h.1 q)
end TQLAW
