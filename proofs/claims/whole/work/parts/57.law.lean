/-! the law's body: its cases -/
abbrev tqL_T : List Cond := tq_ws yX11_price cX11_price 3 (some .int)
section TQLAW
variable {p : Program} {l : Launch} {e : Env} {s : State} {m : MethodId} {args : Array Value} {below : List Frame} {meth : Method} {c : Code} {H : Heap} {locs : List Loc} {Q : State → Prop}
variable {ls : Array Slot} {D : va_G} {cy : Nat → ClassId} {z A0 : Nat} {H0 : Heap} {ad : Nat → Nat → Nat} {N : tq_Nn} {S M : tq_St} {b L i : Nat} {xs : Nat → Int32} {I : tq_Nn → tq_St → tq_St → Prop}
theorem tqL_add {i k : Nat} (h : i + k < 2 ^ 31) : Int32.ofNat i + Int32.ofNat k = Int32.ofNat (i + k) := by
  rw [← Int32.ofNat_add]
theorem tqL_in {j L : Nat} (h : j < L) (hL : L ≤ 3072) : vp_in (Int32.ofNat j) L := by
  have e1 : (Int32.ofNat j).toNatClampNeg = j := by rw [Int32.toNatClampNeg_ofNat_of_lt (by omega)]
  have e2 : (Int32.ofNat j).toInt = (j : Int) := Int32.toInt_ofNat_of_lt (by omega)
  intro q
  rcases q with q | q
  · have := Int32.lt_iff_toInt_lt.mp q
    rw [e2] at this
    simp at this
    omega
  · omega
theorem tqL_nn {j : Nat} (h : j < 3072) : (Int32.ofNat j).toNatClampNeg = j := Int32.toNatClampNeg_ofNat_of_lt (by omega)
theorem tqL_arg {R : Room} {cells slots pc k : Nat} {v : Int} {rest : List Value} (hx : p.tables.exec = Jvm.exec) (hb : c.code = cL_law) (hX : va_X b L xs s s.heap) (hbl : b < s.heap.size) (hbz : ¬ z ≤ b) (hS : va_S (fun q => z ≤ q) s.heap H locs) (hl : lv_has ls 4 [(0, .ref b), (1, .ref (ad 1 0)), (2, .ref (ad 64 0)), (3, .int (Int32.ofNat i))]) (hi : i + 6 ≤ L) (hL : L ≤ 3072) (hk : k < 6) (hv : Int32.ofInt v = Int32.ofNat k) (d0 : decode cL_law pc = .ok (.aload_n 0, 1)) (d1 : decode cL_law (pc + 1) = .ok (.iload_n 3, 1)) (d2 : decode cL_law (pc + 2) = .ok (.iconst v, 1)) (d3 : decode cL_law (pc + 3) = .ok (.iadd, 1)) (d4 : decode cL_law (pc + 4) = .ok (.iaload, 1))
    (kk : W p l e R s m args below meth c H locs cells slots Q (F0 m (pc + 5) ls (.int (xs (i + k)) :: rest))) : W p l e R s m args below meth c H locs cells slots Q (F0 m pc ls rest) := by
  refine lv_aload_n hx hb d0 rfl (lv_at hl 0 rfl) ?_
  refine lv_iload_n hx hb d1 rfl (lv_at hl 3 rfl) ?_
  refine lv_iconst (v := Int32.ofNat k) hx hb d2 hv ?_
  refine lv_iadd hx hb d3 ?_
  rw [tqL_add (by omega)]
  refine va_sld hx hb hX hbl hbz hS (tqL_in (by omega) hL) d4 ?_
  rw [tqL_nn (by omega)]
  exact kk
set_option maxHeartbeats 4000000 in
set_option maxRecDepth 100000 in
theorem tqL_c0 (C : tq_At p s m meth c args cL_law 4 (some .boolean) tqL_T RL D cy z ad) (hX : va_X b L xs s s.heap) (hbl : b < s.heap.size) (hbz : ¬ z ≤ b) (hi : i + 6 ≤ L) (hL : L ≤ 3072) (h : wpX11_factory N (fun S1 r => wpX12_factory (fun M1 r1 => r = r1 ∧ I N S1 M1) M (xs (i + 1)) (xs (i + 2)) (xs (i + 3))) S (xs (i + 1)) (xs (i + 2)) (xs (i + 3))) (hN : tq_nb z A0 s N) (hW : tq_wd D cy z H0 ad N (tq_mix S M) H) (hS : va_S (fun q => z ≤ q) s.heap H locs) (hl : lv_has ls 4 [(0, .ref b), (1, .ref (ad 1 0)), (2, .ref (ad 64 0)), (3, .int (Int32.ofNat i))])
    (kk : ∀ (N1 : tq_Nn) (S1 M1 : tq_St) (H1 : Heap) (locs1 : List Loc), I N1 S1 M1 → tq_nb z A0 s N1 → tq_wd D cy z H0 ad N1 (tq_mix S1 M1) H1 → va_S (fun q => z ≤ q) s.heap H1 locs1 → tq_Wb p l e 2048 84000 s m args below meth c z A0 N1 H1 locs1 Q (F0 m 1988 ls [])) : tq_Wb p l e 2048 84000 s m args below meth c z A0 N H locs Q (F0 m 248 ls []) := by
  obtain ⟨hx, hb, hr, hml, hown, hts, hlocks, hK, hG⟩ := C
  refine lv_aload_n hx hb dL_law_248 rfl (lv_at hl 1 rfl) ?_
  refine tqL_arg (k := 1) hx hb hX hbl hbz hS hl hi hL (by decide) (by decide) dL_law_249 dL_law_250 dL_law_251 dL_law_252 dL_law_253 ?_
  refine tqL_arg (k := 2) hx hb hX hbl hbz hS hl hi hL (by decide) (by decide) dL_law_254 dL_law_255 dL_law_256 dL_law_257 dL_law_258 ?_
  refine tqL_arg (k := 3) hx hb hX hbl hbz hS hl hi hL (by decide) (by decide) dL_law_259 dL_law_260 dL_law_261 dL_law_262 dL_law_263 ?_
  refine tqc_callVi (C := "TwoSeas") (As := [.int (xs (i + 1)), .int (xs (i + 2)), .int (xs (i + 3))]) (rest := []) (kX11_factory h) ⟨hx, hb, hml, hown, hts⟩ (cwV 3 hts (tq_goodV tw_398 tw_399 tw_400 tw_115 tw_401) rfl rfl rfl (by decide +kernel) ⟨(Nat.le_of_ble_eq_true rfl), (Nat.le_of_ble_eq_true rfl)⟩) (tq_recvC hK hW (by decide) (tq_mk_1 (by decide)) rfl) hK hG hW hS rfl hl.1 rfl (Nat.le_of_ble_eq_true rfl) dL_law_264 hN.f (fun r S1 H locs h hW hS => ?_)
  refine lv_aload_n hx hb dL_law_267 rfl (lv_at hl 2 rfl) ?_
  refine tqL_arg (k := 1) hx hb hX hbl hbz hS hl hi hL (by decide) (by decide) dL_law_268 dL_law_269 dL_law_270 dL_law_271 dL_law_272 ?_
  refine tqL_arg (k := 2) hx hb hX hbl hbz hS hl hi hL (by decide) (by decide) dL_law_273 dL_law_274 dL_law_275 dL_law_276 dL_law_277 ?_
  refine tqL_arg (k := 3) hx hb hX hbl hbz hS hl hi hL (by decide) (by decide) dL_law_278 dL_law_279 dL_law_280 dL_law_281 dL_law_282 ?_
  refine tq_callVi (As := [.int (xs (i + 1)), .int (xs (i + 2)), .int (xs (i + 3))]) (rest := [.int r]) (kX12_factory h) ⟨hx, hb, hml, hown, hts⟩ (cwV 3 hts (tq_goodV tw_1642 tw_1643 tw_1644 tw_125 tw_1645) rfl rfl rfl (by decide +kernel) ⟨(Nat.le_of_ble_eq_true rfl), (Nat.le_of_ble_eq_true rfl)⟩) hK hG hW hS rfl hl.1 rfl (Nat.le_of_ble_eq_true rfl) dL_law_283 hN.f (fun r1 M1 H locs h hW hS => ?_)
  exact lv_icmp_eq (tgt := 1988) hx hb dL_law_286 (by decide) (fun _ => kk _ _ _ _ _ h.2 hN hW hS) (fun q => absurd h.1 q)
set_option maxHeartbeats 4000000 in
set_option maxRecDepth 100000 in
theorem tqL_c1 (C : tq_At p s m meth c args cL_law 4 (some .boolean) tqL_T RL D cy z ad) (hX : va_X b L xs s s.heap) (hbl : b < s.heap.size) (hbz : ¬ z ≤ b) (hi : i + 6 ≤ L) (hL : L ≤ 3072) (h : wpX11_base N (fun S1 r => wpX12_base (fun M1 r1 => r = r1 ∧ I N S1 M1) M (xs (i + 1)) (xs (i + 2)) (xs (i + 3))) S (xs (i + 1)) (xs (i + 2)) (xs (i + 3))) (hN : tq_nb z A0 s N) (hW : tq_wd D cy z H0 ad N (tq_mix S M) H) (hS : va_S (fun q => z ≤ q) s.heap H locs) (hl : lv_has ls 4 [(0, .ref b), (1, .ref (ad 1 0)), (2, .ref (ad 64 0)), (3, .int (Int32.ofNat i))])
    (kk : ∀ (N1 : tq_Nn) (S1 M1 : tq_St) (H1 : Heap) (locs1 : List Loc), I N1 S1 M1 → tq_nb z A0 s N1 → tq_wd D cy z H0 ad N1 (tq_mix S1 M1) H1 → va_S (fun q => z ≤ q) s.heap H1 locs1 → tq_Wb p l e 2048 84000 s m args below meth c z A0 N1 H1 locs1 Q (F0 m 1988 ls [])) : tq_Wb p l e 2048 84000 s m args below meth c z A0 N H locs Q (F0 m 291 ls []) := by
  obtain ⟨hx, hb, hr, hml, hown, hts, hlocks, hK, hG⟩ := C
  refine lv_aload_n hx hb dL_law_291 rfl (lv_at hl 1 rfl) ?_
  refine tqL_arg (k := 1) hx hb hX hbl hbz hS hl hi hL (by decide) (by decide) dL_law_292 dL_law_293 dL_law_294 dL_law_295 dL_law_296 ?_
  refine tqL_arg (k := 2) hx hb hX hbl hbz hS hl hi hL (by decide) (by decide) dL_law_297 dL_law_298 dL_law_299 dL_law_300 dL_law_301 ?_
  refine tqL_arg (k := 3) hx hb hX hbl hbz hS hl hi hL (by decide) (by decide) dL_law_302 dL_law_303 dL_law_304 dL_law_305 dL_law_306 ?_
  refine tqc_callVi (C := "TwoSeas") (As := [.int (xs (i + 1)), .int (xs (i + 2)), .int (xs (i + 3))]) (rest := []) (kX11_base h) ⟨hx, hb, hml, hown, hts⟩ (cwV 3 hts (tq_goodV tw_408 tw_409 tw_410 tw_115 tw_411) rfl rfl rfl (by decide +kernel) ⟨(Nat.le_of_ble_eq_true rfl), (Nat.le_of_ble_eq_true rfl)⟩) (tq_recvC hK hW (by decide) (tq_mk_1 (by decide)) rfl) hK hG hW hS rfl hl.1 rfl (Nat.le_of_ble_eq_true rfl) dL_law_307 hN.f (fun r S1 H locs h hW hS => ?_)
  refine lv_aload_n hx hb dL_law_310 rfl (lv_at hl 2 rfl) ?_
  refine tqL_arg (k := 1) hx hb hX hbl hbz hS hl hi hL (by decide) (by decide) dL_law_311 dL_law_312 dL_law_313 dL_law_314 dL_law_315 ?_
  refine tqL_arg (k := 2) hx hb hX hbl hbz hS hl hi hL (by decide) (by decide) dL_law_316 dL_law_317 dL_law_318 dL_law_319 dL_law_320 ?_
  refine tqL_arg (k := 3) hx hb hX hbl hbz hS hl hi hL (by decide) (by decide) dL_law_321 dL_law_322 dL_law_323 dL_law_324 dL_law_325 ?_
  refine tq_callVi (As := [.int (xs (i + 1)), .int (xs (i + 2)), .int (xs (i + 3))]) (rest := [.int r]) (kX12_base h) ⟨hx, hb, hml, hown, hts⟩ (cwV 3 hts (tq_goodV tw_1652 tw_1653 tw_1654 tw_125 tw_1655) rfl rfl rfl (by decide +kernel) ⟨(Nat.le_of_ble_eq_true rfl), (Nat.le_of_ble_eq_true rfl)⟩) hK hG hW hS rfl hl.1 rfl (Nat.le_of_ble_eq_true rfl) dL_law_326 hN.f (fun r1 M1 H locs h hW hS => ?_)
  exact lv_icmp_eq (tgt := 1988) hx hb dL_law_329 (by decide) (fun _ => kk _ _ _ _ _ h.2 hN hW hS) (fun q => absurd h.1 q)
set_option maxHeartbeats 4000000 in
set_option maxRecDepth 100000 in
theorem tqL_c2 (C : tq_At p s m meth c args cL_law 4 (some .boolean) tqL_T RL D cy z ad) (hX : va_X b L xs s s.heap) (hbl : b < s.heap.size) (hbz : ¬ z ≤ b) (hi : i + 6 ≤ L) (hL : L ≤ 3072) (h : wpX11_price N (fun S1 r => wpX12_price (fun M1 r1 => r = r1 ∧ I N S1 M1) M (xs (i + 1)) (xs (i + 2))) S (xs (i + 1)) (xs (i + 2))) (hN : tq_nb z A0 s N) (hW : tq_wd D cy z H0 ad N (tq_mix S M) H) (hS : va_S (fun q => z ≤ q) s.heap H locs) (hl : lv_has ls 4 [(0, .ref b), (1, .ref (ad 1 0)), (2, .ref (ad 64 0)), (3, .int (Int32.ofNat i))])
    (kk : ∀ (N1 : tq_Nn) (S1 M1 : tq_St) (H1 : Heap) (locs1 : List Loc), I N1 S1 M1 → tq_nb z A0 s N1 → tq_wd D cy z H0 ad N1 (tq_mix S1 M1) H1 → va_S (fun q => z ≤ q) s.heap H1 locs1 → tq_Wb p l e 2048 84000 s m args below meth c z A0 N1 H1 locs1 Q (F0 m 1988 ls [])) : tq_Wb p l e 2048 84000 s m args below meth c z A0 N H locs Q (F0 m 334 ls []) := by
  obtain ⟨hx, hb, hr, hml, hown, hts, hlocks, hK, hG⟩ := C
  refine lv_aload_n hx hb dL_law_334 rfl (lv_at hl 1 rfl) ?_
  refine tqL_arg (k := 1) hx hb hX hbl hbz hS hl hi hL (by decide) (by decide) dL_law_335 dL_law_336 dL_law_337 dL_law_338 dL_law_339 ?_
  refine tqL_arg (k := 2) hx hb hX hbl hbz hS hl hi hL (by decide) (by decide) dL_law_340 dL_law_341 dL_law_342 dL_law_343 dL_law_344 ?_
  refine tqc_callVi (C := "TwoSeas") (As := [.int (xs (i + 1)), .int (xs (i + 2))]) (rest := []) (kX11_price h) ⟨hx, hb, hml, hown, hts⟩ (cwV 2 hts (tq_goodV tw_415 tw_416 tw_417 tw_115 tw_418) rfl rfl rfl (by decide +kernel) ⟨(Nat.le_of_ble_eq_true rfl), (Nat.le_of_ble_eq_true rfl)⟩) (tq_recvC hK hW (by decide) (tq_mk_1 (by decide)) rfl) hK hG hW hS rfl hl.1 rfl (Nat.le_of_ble_eq_true rfl) dL_law_345 hN.f (fun r S1 H locs h hW hS => ?_)
  refine lv_aload_n hx hb dL_law_348 rfl (lv_at hl 2 rfl) ?_
  refine tqL_arg (k := 1) hx hb hX hbl hbz hS hl hi hL (by decide) (by decide) dL_law_349 dL_law_350 dL_law_351 dL_law_352 dL_law_353 ?_
  refine tqL_arg (k := 2) hx hb hX hbl hbz hS hl hi hL (by decide) (by decide) dL_law_354 dL_law_355 dL_law_356 dL_law_357 dL_law_358 ?_
  refine tq_callVi (As := [.int (xs (i + 1)), .int (xs (i + 2))]) (rest := [.int r]) (kX12_price h) ⟨hx, hb, hml, hown, hts⟩ (cwV 2 hts (tq_goodV tw_1659 tw_1660 tw_1661 tw_125 tw_1662) rfl rfl rfl (by decide +kernel) ⟨(Nat.le_of_ble_eq_true rfl), (Nat.le_of_ble_eq_true rfl)⟩) hK hG hW hS rfl hl.1 rfl (Nat.le_of_ble_eq_true rfl) dL_law_359 hN.f (fun r1 M1 H locs h hW hS => ?_)
  exact lv_icmp_eq (tgt := 1988) hx hb dL_law_362 (by decide) (fun _ => kk _ _ _ _ _ h.2 hN hW hS) (fun q => absurd h.1 q)
set_option maxHeartbeats 4000000 in
set_option maxRecDepth 100000 in
theorem tqL_c3 (C : tq_At p s m meth c args cL_law 4 (some .boolean) tqL_T RL D cy z ad) (hX : va_X b L xs s s.heap) (hbl : b < s.heap.size) (hbz : ¬ z ≤ b) (hi : i + 6 ≤ L) (hL : L ≤ 3072) (h : wpX11_bullion N (fun S1 r => wpX12_bullion (fun M1 r1 => r = r1 ∧ I N S1 M1) M (xs (i + 1)) (xs (i + 2))) S (xs (i + 1)) (xs (i + 2))) (hN : tq_nb z A0 s N) (hW : tq_wd D cy z H0 ad N (tq_mix S M) H) (hS : va_S (fun q => z ≤ q) s.heap H locs) (hl : lv_has ls 4 [(0, .ref b), (1, .ref (ad 1 0)), (2, .ref (ad 64 0)), (3, .int (Int32.ofNat i))])
    (kk : ∀ (N1 : tq_Nn) (S1 M1 : tq_St) (H1 : Heap) (locs1 : List Loc), I N1 S1 M1 → tq_nb z A0 s N1 → tq_wd D cy z H0 ad N1 (tq_mix S1 M1) H1 → va_S (fun q => z ≤ q) s.heap H1 locs1 → tq_Wb p l e 2048 84000 s m args below meth c z A0 N1 H1 locs1 Q (F0 m 1988 ls [])) : tq_Wb p l e 2048 84000 s m args below meth c z A0 N H locs Q (F0 m 367 ls []) := by
  obtain ⟨hx, hb, hr, hml, hown, hts, hlocks, hK, hG⟩ := C
  refine lv_aload_n hx hb dL_law_367 rfl (lv_at hl 1 rfl) ?_
  refine tqL_arg (k := 1) hx hb hX hbl hbz hS hl hi hL (by decide) (by decide) dL_law_368 dL_law_369 dL_law_370 dL_law_371 dL_law_372 ?_
  refine tqL_arg (k := 2) hx hb hX hbl hbz hS hl hi hL (by decide) (by decide) dL_law_373 dL_law_374 dL_law_375 dL_law_376 dL_law_377 ?_
  refine tqc_callVi (C := "TwoSeas") (As := [.int (xs (i + 1)), .int (xs (i + 2))]) (rest := []) (kX11_bullion h) ⟨hx, hb, hml, hown, hts⟩ (cwV 2 hts (tq_goodV tw_423 tw_424 tw_425 tw_115 tw_426) rfl rfl rfl (by decide +kernel) ⟨(Nat.le_of_ble_eq_true rfl), (Nat.le_of_ble_eq_true rfl)⟩) (tq_recvC hK hW (by decide) (tq_mk_1 (by decide)) rfl) hK hG hW hS rfl hl.1 rfl (Nat.le_of_ble_eq_true rfl) dL_law_378 hN.f (fun r S1 H locs h hW hS => ?_)
  refine lv_aload_n hx hb dL_law_381 rfl (lv_at hl 2 rfl) ?_
  refine tqL_arg (k := 1) hx hb hX hbl hbz hS hl hi hL (by decide) (by decide) dL_law_382 dL_law_383 dL_law_384 dL_law_385 dL_law_386 ?_
  refine tqL_arg (k := 2) hx hb hX hbl hbz hS hl hi hL (by decide) (by decide) dL_law_387 dL_law_388 dL_law_389 dL_law_390 dL_law_391 ?_
  refine tq_callVi (As := [.int (xs (i + 1)), .int (xs (i + 2))]) (rest := [.int r]) (kX12_bullion h) ⟨hx, hb, hml, hown, hts⟩ (cwV 2 hts (tq_goodV tw_1667 tw_1668 tw_1669 tw_125 tw_1670) rfl rfl rfl (by decide +kernel) ⟨(Nat.le_of_ble_eq_true rfl), (Nat.le_of_ble_eq_true rfl)⟩) hK hG hW hS rfl hl.1 rfl (Nat.le_of_ble_eq_true rfl) dL_law_392 hN.f (fun r1 M1 H locs h hW hS => ?_)
  exact lv_icmp_eq (tgt := 1988) hx hb dL_law_395 (by decide) (fun _ => kk _ _ _ _ _ h.2 hN hW hS) (fun q => absurd h.1 q)
set_option maxHeartbeats 4000000 in
set_option maxRecDepth 100000 in
theorem tqL_c4 (C : tq_At p s m meth c args cL_law 4 (some .boolean) tqL_T RL D cy z ad) (hX : va_X b L xs s s.heap) (hbl : b < s.heap.size) (hbz : ¬ z ≤ b) (hi : i + 6 ≤ L) (hL : L ≤ 3072) (h : wpX11_stock N (fun S1 r => wpX12_stock (fun M1 r1 => r = r1 ∧ I N S1 M1) M (xs (i + 1)) (xs (i + 2))) S (xs (i + 1)) (xs (i + 2))) (hN : tq_nb z A0 s N) (hW : tq_wd D cy z H0 ad N (tq_mix S M) H) (hS : va_S (fun q => z ≤ q) s.heap H locs) (hl : lv_has ls 4 [(0, .ref b), (1, .ref (ad 1 0)), (2, .ref (ad 64 0)), (3, .int (Int32.ofNat i))])
    (kk : ∀ (N1 : tq_Nn) (S1 M1 : tq_St) (H1 : Heap) (locs1 : List Loc), I N1 S1 M1 → tq_nb z A0 s N1 → tq_wd D cy z H0 ad N1 (tq_mix S1 M1) H1 → va_S (fun q => z ≤ q) s.heap H1 locs1 → tq_Wb p l e 2048 84000 s m args below meth c z A0 N1 H1 locs1 Q (F0 m 1988 ls [])) : tq_Wb p l e 2048 84000 s m args below meth c z A0 N H locs Q (F0 m 400 ls []) := by
  obtain ⟨hx, hb, hr, hml, hown, hts, hlocks, hK, hG⟩ := C
  refine lv_aload_n hx hb dL_law_400 rfl (lv_at hl 1 rfl) ?_
  refine tqL_arg (k := 1) hx hb hX hbl hbz hS hl hi hL (by decide) (by decide) dL_law_401 dL_law_402 dL_law_403 dL_law_404 dL_law_405 ?_
  refine tqL_arg (k := 2) hx hb hX hbl hbz hS hl hi hL (by decide) (by decide) dL_law_406 dL_law_407 dL_law_408 dL_law_409 dL_law_410 ?_
  refine tqc_callVi (C := "TwoSeas") (As := [.int (xs (i + 1)), .int (xs (i + 2))]) (rest := []) (kX11_stock h) ⟨hx, hb, hml, hown, hts⟩ (cwV 2 hts (tq_goodV tw_433 tw_434 tw_435 tw_115 tw_436) rfl rfl rfl (by decide +kernel) ⟨(Nat.le_of_ble_eq_true rfl), (Nat.le_of_ble_eq_true rfl)⟩) (tq_recvC hK hW (by decide) (tq_mk_1 (by decide)) rfl) hK hG hW hS rfl hl.1 rfl (Nat.le_of_ble_eq_true rfl) dL_law_411 hN.f (fun r S1 H locs h hW hS => ?_)
  refine lv_aload_n hx hb dL_law_414 rfl (lv_at hl 2 rfl) ?_
  refine tqL_arg (k := 1) hx hb hX hbl hbz hS hl hi hL (by decide) (by decide) dL_law_415 dL_law_416 dL_law_417 dL_law_418 dL_law_419 ?_
  refine tqL_arg (k := 2) hx hb hX hbl hbz hS hl hi hL (by decide) (by decide) dL_law_420 dL_law_421 dL_law_422 dL_law_423 dL_law_424 ?_
  refine tq_callVi (As := [.int (xs (i + 1)), .int (xs (i + 2))]) (rest := [.int r]) (kX12_stock h) ⟨hx, hb, hml, hown, hts⟩ (cwV 2 hts (tq_goodV tw_1677 tw_1678 tw_1679 tw_125 tw_1680) rfl rfl rfl (by decide +kernel) ⟨(Nat.le_of_ble_eq_true rfl), (Nat.le_of_ble_eq_true rfl)⟩) hK hG hW hS rfl hl.1 rfl (Nat.le_of_ble_eq_true rfl) dL_law_425 hN.f (fun r1 M1 H locs h hW hS => ?_)
  exact lv_icmp_eq (tgt := 1988) hx hb dL_law_428 (by decide) (fun _ => kk _ _ _ _ _ h.2 hN hW hS) (fun q => absurd h.1 q)
set_option maxHeartbeats 4000000 in
set_option maxRecDepth 100000 in
theorem tqL_c5 (C : tq_At p s m meth c args cL_law 4 (some .boolean) tqL_T RL D cy z ad) (hX : va_X b L xs s s.heap) (hbl : b < s.heap.size) (hbz : ¬ z ≤ b) (hi : i + 6 ≤ L) (hL : L ≤ 3072) (h : wpX11_person N (fun S1 r => wpX12_person (fun M1 r1 => r = r1 ∧ I N S1 M1) M (xs (i + 1)) (xs (i + 2))) S (xs (i + 1)) (xs (i + 2))) (hN : tq_nb z A0 s N) (hW : tq_wd D cy z H0 ad N (tq_mix S M) H) (hS : va_S (fun q => z ≤ q) s.heap H locs) (hl : lv_has ls 4 [(0, .ref b), (1, .ref (ad 1 0)), (2, .ref (ad 64 0)), (3, .int (Int32.ofNat i))])
    (kk : ∀ (N1 : tq_Nn) (S1 M1 : tq_St) (H1 : Heap) (locs1 : List Loc), I N1 S1 M1 → tq_nb z A0 s N1 → tq_wd D cy z H0 ad N1 (tq_mix S1 M1) H1 → va_S (fun q => z ≤ q) s.heap H1 locs1 → tq_Wb p l e 2048 84000 s m args below meth c z A0 N1 H1 locs1 Q (F0 m 1988 ls [])) : tq_Wb p l e 2048 84000 s m args below meth c z A0 N H locs Q (F0 m 433 ls []) := by
  obtain ⟨hx, hb, hr, hml, hown, hts, hlocks, hK, hG⟩ := C
  refine lv_aload_n hx hb dL_law_433 rfl (lv_at hl 1 rfl) ?_
  refine tqL_arg (k := 1) hx hb hX hbl hbz hS hl hi hL (by decide) (by decide) dL_law_434 dL_law_435 dL_law_436 dL_law_437 dL_law_438 ?_
  refine tqL_arg (k := 2) hx hb hX hbl hbz hS hl hi hL (by decide) (by decide) dL_law_439 dL_law_440 dL_law_441 dL_law_442 dL_law_443 ?_
  refine tqc_callVi (C := "TwoSeas") (As := [.int (xs (i + 1)), .int (xs (i + 2))]) (rest := []) (kX11_person h) ⟨hx, hb, hml, hown, hts⟩ (cwV 2 hts (tq_goodV tw_437 tw_438 tw_439 tw_115 tw_440) rfl rfl rfl (by decide +kernel) ⟨(Nat.le_of_ble_eq_true rfl), (Nat.le_of_ble_eq_true rfl)⟩) (tq_recvC hK hW (by decide) (tq_mk_1 (by decide)) rfl) hK hG hW hS rfl hl.1 rfl (Nat.le_of_ble_eq_true rfl) dL_law_444 hN.f (fun r S1 H locs h hW hS => ?_)
  refine lv_aload_n hx hb dL_law_447 rfl (lv_at hl 2 rfl) ?_
  refine tqL_arg (k := 1) hx hb hX hbl hbz hS hl hi hL (by decide) (by decide) dL_law_448 dL_law_449 dL_law_450 dL_law_451 dL_law_452 ?_
  refine tqL_arg (k := 2) hx hb hX hbl hbz hS hl hi hL (by decide) (by decide) dL_law_453 dL_law_454 dL_law_455 dL_law_456 dL_law_457 ?_
  refine tq_callVi (As := [.int (xs (i + 1)), .int (xs (i + 2))]) (rest := [.int r]) (kX12_person h) ⟨hx, hb, hml, hown, hts⟩ (cwV 2 hts (tq_goodV tw_1681 tw_1682 tw_1683 tw_125 tw_1684) rfl rfl rfl (by decide +kernel) ⟨(Nat.le_of_ble_eq_true rfl), (Nat.le_of_ble_eq_true rfl)⟩) hK hG hW hS rfl hl.1 rfl (Nat.le_of_ble_eq_true rfl) dL_law_458 hN.f (fun r1 M1 H locs h hW hS => ?_)
  exact lv_icmp_eq (tgt := 1988) hx hb dL_law_461 (by decide) (fun _ => kk _ _ _ _ _ h.2 hN hW hS) (fun q => absurd h.1 q)
set_option maxHeartbeats 4000000 in
set_option maxRecDepth 100000 in
theorem tqL_c6 (C : tq_At p s m meth c args cL_law 4 (some .boolean) tqL_T RL D cy z ad) (hX : va_X b L xs s s.heap) (hbl : b < s.heap.size) (hbz : ¬ z ≤ b) (hi : i + 6 ≤ L) (hL : L ≤ 3072) (h : wpX11_goes N (fun S1 r => wpX12_goes (fun M1 r1 => r = r1 ∧ I N S1 M1) M (xs (i + 1)) (xs (i + 2))) S (xs (i + 1)) (xs (i + 2))) (hN : tq_nb z A0 s N) (hW : tq_wd D cy z H0 ad N (tq_mix S M) H) (hS : va_S (fun q => z ≤ q) s.heap H locs) (hl : lv_has ls 4 [(0, .ref b), (1, .ref (ad 1 0)), (2, .ref (ad 64 0)), (3, .int (Int32.ofNat i))])
    (kk : ∀ (N1 : tq_Nn) (S1 M1 : tq_St) (H1 : Heap) (locs1 : List Loc), I N1 S1 M1 → tq_nb z A0 s N1 → tq_wd D cy z H0 ad N1 (tq_mix S1 M1) H1 → va_S (fun q => z ≤ q) s.heap H1 locs1 → tq_Wb p l e 2048 84000 s m args below meth c z A0 N1 H1 locs1 Q (F0 m 1988 ls [])) : tq_Wb p l e 2048 84000 s m args below meth c z A0 N H locs Q (F0 m 466 ls []) := by
  obtain ⟨hx, hb, hr, hml, hown, hts, hlocks, hK, hG⟩ := C
  refine lv_aload_n hx hb dL_law_466 rfl (lv_at hl 1 rfl) ?_
  refine tqL_arg (k := 1) hx hb hX hbl hbz hS hl hi hL (by decide) (by decide) dL_law_467 dL_law_468 dL_law_469 dL_law_470 dL_law_471 ?_
  refine tqL_arg (k := 2) hx hb hX hbl hbz hS hl hi hL (by decide) (by decide) dL_law_472 dL_law_473 dL_law_474 dL_law_475 dL_law_476 ?_
  refine tqc_callVi (C := "TwoSeas") (As := [.int (xs (i + 1)), .int (xs (i + 2))]) (rest := []) (kX11_goes h) ⟨hx, hb, hml, hown, hts⟩ (cwV 2 hts (tq_goodV tw_441 tw_442 tw_443 tw_115 tw_444) rfl rfl rfl (by decide +kernel) ⟨(Nat.le_of_ble_eq_true rfl), (Nat.le_of_ble_eq_true rfl)⟩) (tq_recvC hK hW (by decide) (tq_mk_1 (by decide)) rfl) hK hG hW hS rfl hl.1 rfl (Nat.le_of_ble_eq_true rfl) dL_law_477 hN.f (fun r S1 H locs h hW hS => ?_)
  refine lv_aload_n hx hb dL_law_480 rfl (lv_at hl 2 rfl) ?_
  refine tqL_arg (k := 1) hx hb hX hbl hbz hS hl hi hL (by decide) (by decide) dL_law_481 dL_law_482 dL_law_483 dL_law_484 dL_law_485 ?_
  refine tqL_arg (k := 2) hx hb hX hbl hbz hS hl hi hL (by decide) (by decide) dL_law_486 dL_law_487 dL_law_488 dL_law_489 dL_law_490 ?_
  refine tq_callVi (As := [.int (xs (i + 1)), .int (xs (i + 2))]) (rest := [.int r]) (kX12_goes h) ⟨hx, hb, hml, hown, hts⟩ (cwV 2 hts (tq_goodV tw_1685 tw_1686 tw_1687 tw_125 tw_1688) rfl rfl rfl (by decide +kernel) ⟨(Nat.le_of_ble_eq_true rfl), (Nat.le_of_ble_eq_true rfl)⟩) hK hG hW hS rfl hl.1 rfl (Nat.le_of_ble_eq_true rfl) dL_law_491 hN.f (fun r1 M1 H locs h hW hS => ?_)
  exact lv_icmp_eq (tgt := 1988) hx hb dL_law_494 (by decide) (fun _ => kk _ _ _ _ _ h.2 hN hW hS) (fun q => absurd h.1 q)
set_option maxHeartbeats 4000000 in
set_option maxRecDepth 100000 in
theorem tqL_c7 (C : tq_At p s m meth c args cL_law 4 (some .boolean) tqL_T RL D cy z ad) (hX : va_X b L xs s s.heap) (hbl : b < s.heap.size) (hbz : ¬ z ≤ b) (hi : i + 6 ≤ L) (hL : L ≤ 3072) (h : wpX11_feed N (fun S1 r => wpX12_feed (fun M1 r1 => r = r1 ∧ I N S1 M1) M (xs (i + 1)) (xs (i + 2))) S (xs (i + 1)) (xs (i + 2))) (hN : tq_nb z A0 s N) (hW : tq_wd D cy z H0 ad N (tq_mix S M) H) (hS : va_S (fun q => z ≤ q) s.heap H locs) (hl : lv_has ls 4 [(0, .ref b), (1, .ref (ad 1 0)), (2, .ref (ad 64 0)), (3, .int (Int32.ofNat i))])
    (kk : ∀ (N1 : tq_Nn) (S1 M1 : tq_St) (H1 : Heap) (locs1 : List Loc), I N1 S1 M1 → tq_nb z A0 s N1 → tq_wd D cy z H0 ad N1 (tq_mix S1 M1) H1 → va_S (fun q => z ≤ q) s.heap H1 locs1 → tq_Wb p l e 2048 84000 s m args below meth c z A0 N1 H1 locs1 Q (F0 m 1988 ls [])) : tq_Wb p l e 2048 84000 s m args below meth c z A0 N H locs Q (F0 m 499 ls []) := by
  obtain ⟨hx, hb, hr, hml, hown, hts, hlocks, hK, hG⟩ := C
  refine lv_aload_n hx hb dL_law_499 rfl (lv_at hl 1 rfl) ?_
  refine tqL_arg (k := 1) hx hb hX hbl hbz hS hl hi hL (by decide) (by decide) dL_law_500 dL_law_501 dL_law_502 dL_law_503 dL_law_504 ?_
  refine tqL_arg (k := 2) hx hb hX hbl hbz hS hl hi hL (by decide) (by decide) dL_law_505 dL_law_506 dL_law_507 dL_law_508 dL_law_509 ?_
  refine tqc_callVi (C := "TwoSeas") (As := [.int (xs (i + 1)), .int (xs (i + 2))]) (rest := []) (kX11_feed h) ⟨hx, hb, hml, hown, hts⟩ (cwV 2 hts (tq_goodV tw_449 tw_450 tw_451 tw_115 tw_452) rfl rfl rfl (by decide +kernel) ⟨(Nat.le_of_ble_eq_true rfl), (Nat.le_of_ble_eq_true rfl)⟩) (tq_recvC hK hW (by decide) (tq_mk_1 (by decide)) rfl) hK hG hW hS rfl hl.1 rfl (Nat.le_of_ble_eq_true rfl) dL_law_510 hN.f (fun r S1 H locs h hW hS => ?_)
  refine lv_aload_n hx hb dL_law_513 rfl (lv_at hl 2 rfl) ?_
  refine tqL_arg (k := 1) hx hb hX hbl hbz hS hl hi hL (by decide) (by decide) dL_law_514 dL_law_515 dL_law_516 dL_law_517 dL_law_518 ?_
  refine tqL_arg (k := 2) hx hb hX hbl hbz hS hl hi hL (by decide) (by decide) dL_law_519 dL_law_520 dL_law_521 dL_law_522 dL_law_523 ?_
  refine tq_callVi (As := [.int (xs (i + 1)), .int (xs (i + 2))]) (rest := [.int r]) (kX12_feed h) ⟨hx, hb, hml, hown, hts⟩ (cwV 2 hts (tq_goodV tw_1693 tw_1694 tw_1695 tw_125 tw_1696) rfl rfl rfl (by decide +kernel) ⟨(Nat.le_of_ble_eq_true rfl), (Nat.le_of_ble_eq_true rfl)⟩) hK hG hW hS rfl hl.1 rfl (Nat.le_of_ble_eq_true rfl) dL_law_524 hN.f (fun r1 M1 H locs h hW hS => ?_)
  exact lv_icmp_eq (tgt := 1988) hx hb dL_law_527 (by decide) (fun _ => kk _ _ _ _ _ h.2 hN hW hS) (fun q => absurd h.1 q)
set_option maxHeartbeats 4000000 in
set_option maxRecDepth 100000 in
theorem tqL_c8 (C : tq_At p s m meth c args cL_law 4 (some .boolean) tqL_T RL D cy z ad) (hX : va_X b L xs s s.heap) (hbl : b < s.heap.size) (hbz : ¬ z ≤ b) (hi : i + 6 ≤ L) (hL : L ≤ 3072) (h : wpX11_mail N (fun S1 r => wpX12_mail (fun M1 r1 => r = r1 ∧ I N S1 M1) M (xs (i + 1)) (xs (i + 2)) (xs (i + 3)) (xs (i + 4))) S (xs (i + 1)) (xs (i + 2)) (xs (i + 3)) (xs (i + 4))) (hN : tq_nb z A0 s N) (hW : tq_wd D cy z H0 ad N (tq_mix S M) H) (hS : va_S (fun q => z ≤ q) s.heap H locs) (hl : lv_has ls 4 [(0, .ref b), (1, .ref (ad 1 0)), (2, .ref (ad 64 0)), (3, .int (Int32.ofNat i))])
    (kk : ∀ (N1 : tq_Nn) (S1 M1 : tq_St) (H1 : Heap) (locs1 : List Loc), I N1 S1 M1 → tq_nb z A0 s N1 → tq_wd D cy z H0 ad N1 (tq_mix S1 M1) H1 → va_S (fun q => z ≤ q) s.heap H1 locs1 → tq_Wb p l e 2048 84000 s m args below meth c z A0 N1 H1 locs1 Q (F0 m 1988 ls [])) : tq_Wb p l e 2048 84000 s m args below meth c z A0 N H locs Q (F0 m 532 ls []) := by
  obtain ⟨hx, hb, hr, hml, hown, hts, hlocks, hK, hG⟩ := C
  refine lv_aload_n hx hb dL_law_532 rfl (lv_at hl 1 rfl) ?_
  refine tqL_arg (k := 1) hx hb hX hbl hbz hS hl hi hL (by decide) (by decide) dL_law_533 dL_law_534 dL_law_535 dL_law_536 dL_law_537 ?_
  refine tqL_arg (k := 2) hx hb hX hbl hbz hS hl hi hL (by decide) (by decide) dL_law_538 dL_law_539 dL_law_540 dL_law_541 dL_law_542 ?_
  refine tqL_arg (k := 3) hx hb hX hbl hbz hS hl hi hL (by decide) (by decide) dL_law_543 dL_law_544 dL_law_545 dL_law_546 dL_law_547 ?_
  refine tqL_arg (k := 4) hx hb hX hbl hbz hS hl hi hL (by decide) (by decide) dL_law_548 dL_law_549 dL_law_550 dL_law_551 dL_law_552 ?_
  refine tqc_callVi (C := "TwoSeas") (As := [.int (xs (i + 1)), .int (xs (i + 2)), .int (xs (i + 3)), .int (xs (i + 4))]) (rest := []) (kX11_mail h) ⟨hx, hb, hml, hown, hts⟩ (cwV 4 hts (tq_goodV tw_461 tw_462 tw_463 tw_115 tw_464) rfl rfl rfl (by decide +kernel) ⟨(Nat.le_of_ble_eq_true rfl), (Nat.le_of_ble_eq_true rfl)⟩) (tq_recvC hK hW (by decide) (tq_mk_1 (by decide)) rfl) hK hG hW hS rfl hl.1 rfl (Nat.le_of_ble_eq_true rfl) dL_law_553 hN.f (fun r S1 H locs h hW hS => ?_)
  refine lv_aload_n hx hb dL_law_556 rfl (lv_at hl 2 rfl) ?_
  refine tqL_arg (k := 1) hx hb hX hbl hbz hS hl hi hL (by decide) (by decide) dL_law_557 dL_law_558 dL_law_559 dL_law_560 dL_law_561 ?_
  refine tqL_arg (k := 2) hx hb hX hbl hbz hS hl hi hL (by decide) (by decide) dL_law_562 dL_law_563 dL_law_564 dL_law_565 dL_law_566 ?_
  refine tqL_arg (k := 3) hx hb hX hbl hbz hS hl hi hL (by decide) (by decide) dL_law_567 dL_law_568 dL_law_569 dL_law_570 dL_law_571 ?_
  refine tqL_arg (k := 4) hx hb hX hbl hbz hS hl hi hL (by decide) (by decide) dL_law_572 dL_law_573 dL_law_574 dL_law_575 dL_law_576 ?_
  refine tq_callVi (As := [.int (xs (i + 1)), .int (xs (i + 2)), .int (xs (i + 3)), .int (xs (i + 4))]) (rest := [.int r]) (kX12_mail h) ⟨hx, hb, hml, hown, hts⟩ (cwV 4 hts (tq_goodV tw_1697 tw_1698 tw_1699 tw_125 tw_1700) rfl rfl rfl (by decide +kernel) ⟨(Nat.le_of_ble_eq_true rfl), (Nat.le_of_ble_eq_true rfl)⟩) hK hG hW hS rfl hl.1 rfl (Nat.le_of_ble_eq_true rfl) dL_law_577 hN.f (fun r1 M1 H locs h hW hS => ?_)
  exact lv_icmp_eq (tgt := 1988) hx hb dL_law_580 (by decide) (fun _ => kk _ _ _ _ _ h.2 hN hW hS) (fun q => absurd h.1 q)
set_option maxHeartbeats 4000000 in
set_option maxRecDepth 100000 in
theorem tqL_c9 (C : tq_At p s m meth c args cL_law 4 (some .boolean) tqL_T RL D cy z ad) (hX : va_X b L xs s s.heap) (hbl : b < s.heap.size) (hbz : ¬ z ≤ b) (hi : i + 6 ≤ L) (hL : L ≤ 3072) (h : wpX11_order (fun N1 S1 r => wpX12_order (fun M1 r1 => r = r1 ∧ I N1 S1 M1) M (xs (i + 1))) N S (xs (i + 1))) (hN : tq_nb z A0 s N) (hW : tq_wd D cy z H0 ad N (tq_mix S M) H) (hS : va_S (fun q => z ≤ q) s.heap H locs) (hl : lv_has ls 4 [(0, .ref b), (1, .ref (ad 1 0)), (2, .ref (ad 64 0)), (3, .int (Int32.ofNat i))])
    (kk : ∀ (N1 : tq_Nn) (S1 M1 : tq_St) (H1 : Heap) (locs1 : List Loc), I N1 S1 M1 → tq_nb z A0 s N1 → tq_wd D cy z H0 ad N1 (tq_mix S1 M1) H1 → va_S (fun q => z ≤ q) s.heap H1 locs1 → tq_Wb p l e 2048 84000 s m args below meth c z A0 N1 H1 locs1 Q (F0 m 1988 ls [])) : tq_Wb p l e 2048 84000 s m args below meth c z A0 N H locs Q (F0 m 585 ls []) := by
  obtain ⟨hx, hb, hr, hml, hown, hts, hlocks, hK, hG⟩ := C
  refine lv_aload_n hx hb dL_law_585 rfl (lv_at hl 1 rfl) ?_
  refine tqL_arg (k := 1) hx hb hX hbl hbz hS hl hi hL (by decide) (by decide) dL_law_586 dL_law_587 dL_law_588 dL_law_589 dL_law_590 ?_
  refine tqb_callVi (C := "TwoSeas") (As := [.int (xs (i + 1))]) (rest := []) (kX11_order h) ⟨hx, hb, hml, hown, hts⟩ (cwV 1 hts (tq_goodV tw_476 tw_477 tw_478 tw_115 tw_479) rfl rfl rfl (by decide +kernel) ⟨(Nat.le_of_ble_eq_true rfl), (Nat.le_of_ble_eq_true rfl)⟩) (tq_recvC hK hW (by decide) (tq_mk_1 (by decide)) rfl) hK hG hW hS rfl hl.1 rfl (Nat.le_of_ble_eq_true rfl) dL_law_591 hN (fun r N1 S1 H locs h hN hW hS => ?_)
  refine lv_aload_n hx hb dL_law_594 rfl (lv_at hl 2 rfl) ?_
  refine tqL_arg (k := 1) hx hb hX hbl hbz hS hl hi hL (by decide) (by decide) dL_law_595 dL_law_596 dL_law_597 dL_law_598 dL_law_599 ?_
  refine tq_callVi (As := [.int (xs (i + 1))]) (rest := [.int r]) (kX12_order h) ⟨hx, hb, hml, hown, hts⟩ (cwV 1 hts (tq_goodV tw_1701 tw_1702 tw_1703 tw_125 tw_1704) rfl rfl rfl (by decide +kernel) ⟨(Nat.le_of_ble_eq_true rfl), (Nat.le_of_ble_eq_true rfl)⟩) hK hG hW hS rfl hl.1 rfl (Nat.le_of_ble_eq_true rfl) dL_law_600 hN.f (fun r1 M1 H locs h hW hS => ?_)
  exact lv_icmp_eq (tgt := 1988) hx hb dL_law_603 (by decide) (fun _ => kk _ _ _ _ _ h.2 hN hW hS) (fun q => absurd h.1 q)
set_option maxHeartbeats 4000000 in
set_option maxRecDepth 100000 in
theorem tqL_c10 (C : tq_At p s m meth c args cL_law 4 (some .boolean) tqL_T RL D cy z ad) (hX : va_X b L xs s s.heap) (hbl : b < s.heap.size) (hbz : ¬ z ≤ b) (hi : i + 6 ≤ L) (hL : L ≤ 3072) (h : wpX11_letter (fun N1 S1 r => wpX12_letter (fun M1 r1 => r = r1 ∧ I N1 S1 M1) M (xs (i + 1)) (xs (i + 2))) N S (xs (i + 1)) (xs (i + 2))) (hN : tq_nb z A0 s N) (hW : tq_wd D cy z H0 ad N (tq_mix S M) H) (hS : va_S (fun q => z ≤ q) s.heap H locs) (hl : lv_has ls 4 [(0, .ref b), (1, .ref (ad 1 0)), (2, .ref (ad 64 0)), (3, .int (Int32.ofNat i))])
    (kk : ∀ (N1 : tq_Nn) (S1 M1 : tq_St) (H1 : Heap) (locs1 : List Loc), I N1 S1 M1 → tq_nb z A0 s N1 → tq_wd D cy z H0 ad N1 (tq_mix S1 M1) H1 → va_S (fun q => z ≤ q) s.heap H1 locs1 → tq_Wb p l e 2048 84000 s m args below meth c z A0 N1 H1 locs1 Q (F0 m 1988 ls [])) : tq_Wb p l e 2048 84000 s m args below meth c z A0 N H locs Q (F0 m 608 ls []) := by
  obtain ⟨hx, hb, hr, hml, hown, hts, hlocks, hK, hG⟩ := C
  refine lv_aload_n hx hb dL_law_608 rfl (lv_at hl 1 rfl) ?_
  refine tqL_arg (k := 1) hx hb hX hbl hbz hS hl hi hL (by decide) (by decide) dL_law_609 dL_law_610 dL_law_611 dL_law_612 dL_law_613 ?_
  refine tqL_arg (k := 2) hx hb hX hbl hbz hS hl hi hL (by decide) (by decide) dL_law_614 dL_law_615 dL_law_616 dL_law_617 dL_law_618 ?_
  refine tqb_callVi (C := "TwoSeas") (As := [.int (xs (i + 1)), .int (xs (i + 2))]) (rest := []) (kX11_letter h) ⟨hx, hb, hml, hown, hts⟩ (cwV 2 hts (tq_goodV tw_807 tw_808 tw_809 tw_115 tw_810) rfl rfl rfl (by decide +kernel) ⟨(Nat.le_of_ble_eq_true rfl), (Nat.le_of_ble_eq_true rfl)⟩) (tq_recvC hK hW (by decide) (tq_mk_1 (by decide)) rfl) hK hG hW hS rfl hl.1 rfl (Nat.le_of_ble_eq_true rfl) dL_law_619 hN (fun r N1 S1 H locs h hN hW hS => ?_)
  refine lv_aload_n hx hb dL_law_622 rfl (lv_at hl 2 rfl) ?_
  refine tqL_arg (k := 1) hx hb hX hbl hbz hS hl hi hL (by decide) (by decide) dL_law_623 dL_law_624 dL_law_625 dL_law_626 dL_law_627 ?_
  refine tqL_arg (k := 2) hx hb hX hbl hbz hS hl hi hL (by decide) (by decide) dL_law_628 dL_law_629 dL_law_630 dL_law_631 dL_law_632 ?_
  refine tq_callVi (As := [.int (xs (i + 1)), .int (xs (i + 2))]) (rest := [.int r]) (kX12_letter h) ⟨hx, hb, hml, hown, hts⟩ (cwV 2 hts (tq_goodV tw_1764 tw_1765 tw_1766 tw_125 tw_1767) rfl rfl rfl (by decide +kernel) ⟨(Nat.le_of_ble_eq_true rfl), (Nat.le_of_ble_eq_true rfl)⟩) hK hG hW hS rfl hl.1 rfl (Nat.le_of_ble_eq_true rfl) dL_law_633 hN.f (fun r1 M1 H locs h hW hS => ?_)
  exact lv_icmp_eq (tgt := 1988) hx hb dL_law_636 (by decide) (fun _ => kk _ _ _ _ _ h.2 hN hW hS) (fun q => absurd h.1 q)
set_option maxHeartbeats 4000000 in
set_option maxRecDepth 100000 in
theorem tqL_c11 (C : tq_At p s m meth c args cL_law 4 (some .boolean) tqL_T RL D cy z ad) (hX : va_X b L xs s s.heap) (hbl : b < s.heap.size) (hbz : ¬ z ≤ b) (hi : i + 6 ≤ L) (hL : L ≤ 3072) (h : wpX11_copy N (fun S1 r => wpX12_copy (fun M1 r1 => r = r1 ∧ I N S1 M1) M (xs (i + 1)) (xs (i + 2))) S (xs (i + 1)) (xs (i + 2))) (hN : tq_nb z A0 s N) (hW : tq_wd D cy z H0 ad N (tq_mix S M) H) (hS : va_S (fun q => z ≤ q) s.heap H locs) (hl : lv_has ls 4 [(0, .ref b), (1, .ref (ad 1 0)), (2, .ref (ad 64 0)), (3, .int (Int32.ofNat i))])
    (kk : ∀ (N1 : tq_Nn) (S1 M1 : tq_St) (H1 : Heap) (locs1 : List Loc), I N1 S1 M1 → tq_nb z A0 s N1 → tq_wd D cy z H0 ad N1 (tq_mix S1 M1) H1 → va_S (fun q => z ≤ q) s.heap H1 locs1 → tq_Wb p l e 2048 84000 s m args below meth c z A0 N1 H1 locs1 Q (F0 m 1988 ls [])) : tq_Wb p l e 2048 84000 s m args below meth c z A0 N H locs Q (F0 m 641 ls []) := by
  obtain ⟨hx, hb, hr, hml, hown, hts, hlocks, hK, hG⟩ := C
  refine lv_aload_n hx hb dL_law_641 rfl (lv_at hl 1 rfl) ?_
  refine tqL_arg (k := 1) hx hb hX hbl hbz hS hl hi hL (by decide) (by decide) dL_law_642 dL_law_643 dL_law_644 dL_law_645 dL_law_646 ?_
  refine tqL_arg (k := 2) hx hb hX hbl hbz hS hl hi hL (by decide) (by decide) dL_law_647 dL_law_648 dL_law_649 dL_law_650 dL_law_651 ?_
  refine tqc_callVi (C := "TwoSeas") (As := [.int (xs (i + 1)), .int (xs (i + 2))]) (rest := []) (kX11_copy h) ⟨hx, hb, hml, hown, hts⟩ (cwV 2 hts (tq_goodV tw_815 tw_816 tw_817 tw_115 tw_818) rfl rfl rfl (by decide +kernel) ⟨(Nat.le_of_ble_eq_true rfl), (Nat.le_of_ble_eq_true rfl)⟩) (tq_recvC hK hW (by decide) (tq_mk_1 (by decide)) rfl) hK hG hW hS rfl hl.1 rfl (Nat.le_of_ble_eq_true rfl) dL_law_652 hN.f (fun r S1 H locs h hW hS => ?_)
  refine lv_aload_n hx hb dL_law_655 rfl (lv_at hl 2 rfl) ?_
  refine tqL_arg (k := 1) hx hb hX hbl hbz hS hl hi hL (by decide) (by decide) dL_law_656 dL_law_657 dL_law_658 dL_law_659 dL_law_660 ?_
  refine tqL_arg (k := 2) hx hb hX hbl hbz hS hl hi hL (by decide) (by decide) dL_law_661 dL_law_662 dL_law_663 dL_law_664 dL_law_665 ?_
  refine tq_callVi (As := [.int (xs (i + 1)), .int (xs (i + 2))]) (rest := [.int r]) (kX12_copy h) ⟨hx, hb, hml, hown, hts⟩ (cwV 2 hts (tq_goodV tw_1768 tw_1769 tw_1770 tw_125 tw_1771) rfl rfl rfl (by decide +kernel) ⟨(Nat.le_of_ble_eq_true rfl), (Nat.le_of_ble_eq_true rfl)⟩) hK hG hW hS rfl hl.1 rfl (Nat.le_of_ble_eq_true rfl) dL_law_666 hN.f (fun r1 M1 H locs h hW hS => ?_)
  exact lv_icmp_eq (tgt := 1988) hx hb dL_law_669 (by decide) (fun _ => kk _ _ _ _ _ h.2 hN hW hS) (fun q => absurd h.1 q)
set_option maxHeartbeats 4000000 in
set_option maxRecDepth 100000 in
theorem tqL_c12 (C : tq_At p s m meth c args cL_law 4 (some .boolean) tqL_T RL D cy z ad) (hX : va_X b L xs s s.heap) (hbl : b < s.heap.size) (hbz : ¬ z ≤ b) (hi : i + 6 ≤ L) (hL : L ≤ 3072) (h : wpX11_known N (fun S1 r => wpX12_known (fun M1 r1 => r = r1 ∧ I N S1 M1) M (xs (i + 1)) (xs (i + 2))) S (xs (i + 1)) (xs (i + 2))) (hN : tq_nb z A0 s N) (hW : tq_wd D cy z H0 ad N (tq_mix S M) H) (hS : va_S (fun q => z ≤ q) s.heap H locs) (hl : lv_has ls 4 [(0, .ref b), (1, .ref (ad 1 0)), (2, .ref (ad 64 0)), (3, .int (Int32.ofNat i))])
    (kk : ∀ (N1 : tq_Nn) (S1 M1 : tq_St) (H1 : Heap) (locs1 : List Loc), I N1 S1 M1 → tq_nb z A0 s N1 → tq_wd D cy z H0 ad N1 (tq_mix S1 M1) H1 → va_S (fun q => z ≤ q) s.heap H1 locs1 → tq_Wb p l e 2048 84000 s m args below meth c z A0 N1 H1 locs1 Q (F0 m 1988 ls [])) : tq_Wb p l e 2048 84000 s m args below meth c z A0 N H locs Q (F0 m 674 ls []) := by
  obtain ⟨hx, hb, hr, hml, hown, hts, hlocks, hK, hG⟩ := C
  refine lv_aload_n hx hb dL_law_674 rfl (lv_at hl 1 rfl) ?_
  refine tqL_arg (k := 1) hx hb hX hbl hbz hS hl hi hL (by decide) (by decide) dL_law_675 dL_law_676 dL_law_677 dL_law_678 dL_law_679 ?_
  refine tqL_arg (k := 2) hx hb hX hbl hbz hS hl hi hL (by decide) (by decide) dL_law_680 dL_law_681 dL_law_682 dL_law_683 dL_law_684 ?_
  refine tqc_callVi (C := "TwoSeas") (As := [.int (xs (i + 1)), .int (xs (i + 2))]) (rest := []) (kX11_known h) ⟨hx, hb, hml, hown, hts⟩ (cwV 2 hts (tq_goodV tw_846 tw_847 tw_848 tw_115 tw_849) rfl rfl rfl (by decide +kernel) ⟨(Nat.le_of_ble_eq_true rfl), (Nat.le_of_ble_eq_true rfl)⟩) (tq_recvC hK hW (by decide) (tq_mk_1 (by decide)) rfl) hK hG hW hS rfl hl.1 rfl (Nat.le_of_ble_eq_true rfl) dL_law_685 hN.f (fun r S1 H locs h hW hS => ?_)
  refine lv_aload_n hx hb dL_law_688 rfl (lv_at hl 2 rfl) ?_
  refine tqL_arg (k := 1) hx hb hX hbl hbz hS hl hi hL (by decide) (by decide) dL_law_689 dL_law_690 dL_law_691 dL_law_692 dL_law_693 ?_
  refine tqL_arg (k := 2) hx hb hX hbl hbz hS hl hi hL (by decide) (by decide) dL_law_694 dL_law_695 dL_law_696 dL_law_697 dL_law_698 ?_
  refine tq_callVi (As := [.int (xs (i + 1)), .int (xs (i + 2))]) (rest := [.int r]) (kX12_known h) ⟨hx, hb, hml, hown, hts⟩ (cwV 2 hts (tq_goodV tw_1780 tw_1781 tw_1782 tw_125 tw_1783) rfl rfl rfl (by decide +kernel) ⟨(Nat.le_of_ble_eq_true rfl), (Nat.le_of_ble_eq_true rfl)⟩) hK hG hW hS rfl hl.1 rfl (Nat.le_of_ble_eq_true rfl) dL_law_699 hN.f (fun r1 M1 H locs h hW hS => ?_)
  exact lv_icmp_eq (tgt := 1988) hx hb dL_law_702 (by decide) (fun _ => kk _ _ _ _ _ h.2 hN hW hS) (fun q => absurd h.1 q)
set_option maxHeartbeats 4000000 in
set_option maxRecDepth 100000 in
theorem tqL_c13 (C : tq_At p s m meth c args cL_law 4 (some .boolean) tqL_T RL D cy z ad) (hX : va_X b L xs s s.heap) (hbl : b < s.heap.size) (hbz : ¬ z ≤ b) (hi : i + 6 ≤ L) (hL : L ≤ 3072) (h : wpX11_paper N (fun S1 r => wpX12_paper (fun M1 r1 => r = r1 ∧ I N S1 M1) M (xs (i + 1)) (xs (i + 2))) S (xs (i + 1)) (xs (i + 2))) (hN : tq_nb z A0 s N) (hW : tq_wd D cy z H0 ad N (tq_mix S M) H) (hS : va_S (fun q => z ≤ q) s.heap H locs) (hl : lv_has ls 4 [(0, .ref b), (1, .ref (ad 1 0)), (2, .ref (ad 64 0)), (3, .int (Int32.ofNat i))])
    (kk : ∀ (N1 : tq_Nn) (S1 M1 : tq_St) (H1 : Heap) (locs1 : List Loc), I N1 S1 M1 → tq_nb z A0 s N1 → tq_wd D cy z H0 ad N1 (tq_mix S1 M1) H1 → va_S (fun q => z ≤ q) s.heap H1 locs1 → tq_Wb p l e 2048 84000 s m args below meth c z A0 N1 H1 locs1 Q (F0 m 1988 ls [])) : tq_Wb p l e 2048 84000 s m args below meth c z A0 N H locs Q (F0 m 707 ls []) := by
  obtain ⟨hx, hb, hr, hml, hown, hts, hlocks, hK, hG⟩ := C
  refine lv_aload_n hx hb dL_law_707 rfl (lv_at hl 1 rfl) ?_
  refine tqL_arg (k := 1) hx hb hX hbl hbz hS hl hi hL (by decide) (by decide) dL_law_708 dL_law_709 dL_law_710 dL_law_711 dL_law_712 ?_
  refine tqL_arg (k := 2) hx hb hX hbl hbz hS hl hi hL (by decide) (by decide) dL_law_713 dL_law_714 dL_law_715 dL_law_716 dL_law_717 ?_
  refine tqc_callVi (C := "TwoSeas") (As := [.int (xs (i + 1)), .int (xs (i + 2))]) (rest := []) (kX11_paper h) ⟨hx, hb, hml, hown, hts⟩ (cwV 2 hts (tq_goodV tw_850 tw_851 tw_852 tw_115 tw_853) rfl rfl rfl (by decide +kernel) ⟨(Nat.le_of_ble_eq_true rfl), (Nat.le_of_ble_eq_true rfl)⟩) (tq_recvC hK hW (by decide) (tq_mk_1 (by decide)) rfl) hK hG hW hS rfl hl.1 rfl (Nat.le_of_ble_eq_true rfl) dL_law_718 hN.f (fun r S1 H locs h hW hS => ?_)
  refine lv_aload_n hx hb dL_law_721 rfl (lv_at hl 2 rfl) ?_
  refine tqL_arg (k := 1) hx hb hX hbl hbz hS hl hi hL (by decide) (by decide) dL_law_722 dL_law_723 dL_law_724 dL_law_725 dL_law_726 ?_
  refine tqL_arg (k := 2) hx hb hX hbl hbz hS hl hi hL (by decide) (by decide) dL_law_727 dL_law_728 dL_law_729 dL_law_730 dL_law_731 ?_
  refine tq_callVi (As := [.int (xs (i + 1)), .int (xs (i + 2))]) (rest := [.int r]) (kX12_paper h) ⟨hx, hb, hml, hown, hts⟩ (cwV 2 hts (tq_goodV tw_1784 tw_1785 tw_1786 tw_125 tw_1787) rfl rfl rfl (by decide +kernel) ⟨(Nat.le_of_ble_eq_true rfl), (Nat.le_of_ble_eq_true rfl)⟩) hK hG hW hS rfl hl.1 rfl (Nat.le_of_ble_eq_true rfl) dL_law_732 hN.f (fun r1 M1 H locs h hW hS => ?_)
  exact lv_icmp_eq (tgt := 1988) hx hb dL_law_735 (by decide) (fun _ => kk _ _ _ _ _ h.2 hN hW hS) (fun q => absurd h.1 q)
set_option maxHeartbeats 4000000 in
set_option maxRecDepth 100000 in
theorem tqL_c14 (C : tq_At p s m meth c args cL_law 4 (some .boolean) tqL_T RL D cy z ad) (hX : va_X b L xs s s.heap) (hbl : b < s.heap.size) (hbz : ¬ z ≤ b) (hi : i + 6 ≤ L) (hL : L ≤ 3072) (h : wpX11_force N (fun S1 r => wpX12_force (fun M1 r1 => r = r1 ∧ I N S1 M1) M (xs (i + 1))) S (xs (i + 1))) (hN : tq_nb z A0 s N) (hW : tq_wd D cy z H0 ad N (tq_mix S M) H) (hS : va_S (fun q => z ≤ q) s.heap H locs) (hl : lv_has ls 4 [(0, .ref b), (1, .ref (ad 1 0)), (2, .ref (ad 64 0)), (3, .int (Int32.ofNat i))])
    (kk : ∀ (N1 : tq_Nn) (S1 M1 : tq_St) (H1 : Heap) (locs1 : List Loc), I N1 S1 M1 → tq_nb z A0 s N1 → tq_wd D cy z H0 ad N1 (tq_mix S1 M1) H1 → va_S (fun q => z ≤ q) s.heap H1 locs1 → tq_Wb p l e 2048 84000 s m args below meth c z A0 N1 H1 locs1 Q (F0 m 1988 ls [])) : tq_Wb p l e 2048 84000 s m args below meth c z A0 N H locs Q (F0 m 740 ls []) := by
  obtain ⟨hx, hb, hr, hml, hown, hts, hlocks, hK, hG⟩ := C
  refine lv_aload_n hx hb dL_law_740 rfl (lv_at hl 1 rfl) ?_
  refine tqL_arg (k := 1) hx hb hX hbl hbz hS hl hi hL (by decide) (by decide) dL_law_741 dL_law_742 dL_law_743 dL_law_744 dL_law_745 ?_
  refine tqc_callVi (C := "TwoSeas") (As := [.int (xs (i + 1))]) (rest := []) (kX11_force h) ⟨hx, hb, hml, hown, hts⟩ (cwV 1 hts (tq_goodV tw_854 tw_855 tw_856 tw_115 tw_857) rfl rfl rfl (by decide +kernel) ⟨(Nat.le_of_ble_eq_true rfl), (Nat.le_of_ble_eq_true rfl)⟩) (tq_recvC hK hW (by decide) (tq_mk_1 (by decide)) rfl) hK hG hW hS rfl hl.1 rfl (Nat.le_of_ble_eq_true rfl) dL_law_746 hN.f (fun r S1 H locs h hW hS => ?_)
  refine lv_aload_n hx hb dL_law_749 rfl (lv_at hl 2 rfl) ?_
  refine tqL_arg (k := 1) hx hb hX hbl hbz hS hl hi hL (by decide) (by decide) dL_law_750 dL_law_751 dL_law_752 dL_law_753 dL_law_754 ?_
  refine tq_callVi (As := [.int (xs (i + 1))]) (rest := [.int r]) (kX12_force h) ⟨hx, hb, hml, hown, hts⟩ (cwV 1 hts (tq_goodV tw_1788 tw_1789 tw_1790 tw_125 tw_1791) rfl rfl rfl (by decide +kernel) ⟨(Nat.le_of_ble_eq_true rfl), (Nat.le_of_ble_eq_true rfl)⟩) hK hG hW hS rfl hl.1 rfl (Nat.le_of_ble_eq_true rfl) dL_law_755 hN.f (fun r1 M1 H locs h hW hS => ?_)
  exact lv_icmp_eq (tgt := 1988) hx hb dL_law_758 (by decide) (fun _ => kk _ _ _ _ _ h.2 hN hW hS) (fun q => absurd h.1 q)
set_option maxHeartbeats 4000000 in
set_option maxRecDepth 100000 in
theorem tqL_c15 (C : tq_At p s m meth c args cL_law 4 (some .boolean) tqL_T RL D cy z ad) (hX : va_X b L xs s s.heap) (hbl : b < s.heap.size) (hbz : ¬ z ≤ b) (hi : i + 6 ≤ L) (hL : L ≤ 3072) (h : wpX11_forced N (fun S1 r => wpX12_forced (fun M1 r1 => r = r1 ∧ I N S1 M1) M (xs (i + 1)) (xs (i + 2))) S (xs (i + 1)) (xs (i + 2))) (hN : tq_nb z A0 s N) (hW : tq_wd D cy z H0 ad N (tq_mix S M) H) (hS : va_S (fun q => z ≤ q) s.heap H locs) (hl : lv_has ls 4 [(0, .ref b), (1, .ref (ad 1 0)), (2, .ref (ad 64 0)), (3, .int (Int32.ofNat i))])
    (kk : ∀ (N1 : tq_Nn) (S1 M1 : tq_St) (H1 : Heap) (locs1 : List Loc), I N1 S1 M1 → tq_nb z A0 s N1 → tq_wd D cy z H0 ad N1 (tq_mix S1 M1) H1 → va_S (fun q => z ≤ q) s.heap H1 locs1 → tq_Wb p l e 2048 84000 s m args below meth c z A0 N1 H1 locs1 Q (F0 m 1988 ls [])) : tq_Wb p l e 2048 84000 s m args below meth c z A0 N H locs Q (F0 m 763 ls []) := by
  obtain ⟨hx, hb, hr, hml, hown, hts, hlocks, hK, hG⟩ := C
  refine lv_aload_n hx hb dL_law_763 rfl (lv_at hl 1 rfl) ?_
  refine tqL_arg (k := 1) hx hb hX hbl hbz hS hl hi hL (by decide) (by decide) dL_law_764 dL_law_765 dL_law_766 dL_law_767 dL_law_768 ?_
  refine tqL_arg (k := 2) hx hb hX hbl hbz hS hl hi hL (by decide) (by decide) dL_law_769 dL_law_770 dL_law_771 dL_law_772 dL_law_773 ?_
  refine tqc_callVi (C := "TwoSeas") (As := [.int (xs (i + 1)), .int (xs (i + 2))]) (rest := []) (kX11_forced h) ⟨hx, hb, hml, hown, hts⟩ (cwV 2 hts (tq_goodV tw_858 tw_859 tw_860 tw_115 tw_861) rfl rfl rfl (by decide +kernel) ⟨(Nat.le_of_ble_eq_true rfl), (Nat.le_of_ble_eq_true rfl)⟩) (tq_recvC hK hW (by decide) (tq_mk_1 (by decide)) rfl) hK hG hW hS rfl hl.1 rfl (Nat.le_of_ble_eq_true rfl) dL_law_774 hN.f (fun r S1 H locs h hW hS => ?_)
  refine lv_aload_n hx hb dL_law_777 rfl (lv_at hl 2 rfl) ?_
  refine tqL_arg (k := 1) hx hb hX hbl hbz hS hl hi hL (by decide) (by decide) dL_law_778 dL_law_779 dL_law_780 dL_law_781 dL_law_782 ?_
  refine tqL_arg (k := 2) hx hb hX hbl hbz hS hl hi hL (by decide) (by decide) dL_law_783 dL_law_784 dL_law_785 dL_law_786 dL_law_787 ?_
  refine tq_callVi (As := [.int (xs (i + 1)), .int (xs (i + 2))]) (rest := [.int r]) (kX12_forced h) ⟨hx, hb, hml, hown, hts⟩ (cwV 2 hts (tq_goodV tw_1820 tw_1821 tw_1822 tw_125 tw_1823) rfl rfl rfl (by decide +kernel) ⟨(Nat.le_of_ble_eq_true rfl), (Nat.le_of_ble_eq_true rfl)⟩) hK hG hW hS rfl hl.1 rfl (Nat.le_of_ble_eq_true rfl) dL_law_788 hN.f (fun r1 M1 H locs h hW hS => ?_)
  exact lv_icmp_eq (tgt := 1988) hx hb dL_law_791 (by decide) (fun _ => kk _ _ _ _ _ h.2 hN hW hS) (fun q => absurd h.1 q)
set_option maxHeartbeats 4000000 in
set_option maxRecDepth 100000 in
theorem tqL_c16 (C : tq_At p s m meth c args cL_law 4 (some .boolean) tqL_T RL D cy z ad) (hX : va_X b L xs s s.heap) (hbl : b < s.heap.size) (hbz : ¬ z ≤ b) (hi : i + 6 ≤ L) (hL : L ≤ 3072) (h : wpX11_holds N (fun S1 r => wpX12_holds (fun M1 r1 => r = r1 ∧ I N S1 M1) M (xs (i + 1)) (xs (i + 2))) S (xs (i + 1)) (xs (i + 2))) (hN : tq_nb z A0 s N) (hW : tq_wd D cy z H0 ad N (tq_mix S M) H) (hS : va_S (fun q => z ≤ q) s.heap H locs) (hl : lv_has ls 4 [(0, .ref b), (1, .ref (ad 1 0)), (2, .ref (ad 64 0)), (3, .int (Int32.ofNat i))])
    (kk : ∀ (N1 : tq_Nn) (S1 M1 : tq_St) (H1 : Heap) (locs1 : List Loc), I N1 S1 M1 → tq_nb z A0 s N1 → tq_wd D cy z H0 ad N1 (tq_mix S1 M1) H1 → va_S (fun q => z ≤ q) s.heap H1 locs1 → tq_Wb p l e 2048 84000 s m args below meth c z A0 N1 H1 locs1 Q (F0 m 1988 ls [])) : tq_Wb p l e 2048 84000 s m args below meth c z A0 N H locs Q (F0 m 796 ls []) := by
  obtain ⟨hx, hb, hr, hml, hown, hts, hlocks, hK, hG⟩ := C
  refine lv_aload_n hx hb dL_law_796 rfl (lv_at hl 1 rfl) ?_
  refine tqL_arg (k := 1) hx hb hX hbl hbz hS hl hi hL (by decide) (by decide) dL_law_797 dL_law_798 dL_law_799 dL_law_800 dL_law_801 ?_
  refine tqL_arg (k := 2) hx hb hX hbl hbz hS hl hi hL (by decide) (by decide) dL_law_802 dL_law_803 dL_law_804 dL_law_805 dL_law_806 ?_
  refine tqc_callVi (C := "TwoSeas") (As := [.int (xs (i + 1)), .int (xs (i + 2))]) (rest := []) (kX11_holds h) ⟨hx, hb, hml, hown, hts⟩ (cwV 2 hts (tq_goodV tw_867 tw_868 tw_869 tw_115 tw_870) rfl rfl rfl (by decide +kernel) ⟨(Nat.le_of_ble_eq_true rfl), (Nat.le_of_ble_eq_true rfl)⟩) (tq_recvC hK hW (by decide) (tq_mk_1 (by decide)) rfl) hK hG hW hS rfl hl.1 rfl (Nat.le_of_ble_eq_true rfl) dL_law_807 hN.f (fun r S1 H locs h hW hS => ?_)
  refine lv_aload_n hx hb dL_law_810 rfl (lv_at hl 2 rfl) ?_
  refine tqL_arg (k := 1) hx hb hX hbl hbz hS hl hi hL (by decide) (by decide) dL_law_811 dL_law_812 dL_law_813 dL_law_814 dL_law_815 ?_
  refine tqL_arg (k := 2) hx hb hX hbl hbz hS hl hi hL (by decide) (by decide) dL_law_816 dL_law_817 dL_law_818 dL_law_819 dL_law_820 ?_
  refine tq_callVi (As := [.int (xs (i + 1)), .int (xs (i + 2))]) (rest := [.int r]) (kX12_holds h) ⟨hx, hb, hml, hown, hts⟩ (cwV 2 hts (tq_goodV tw_1824 tw_1825 tw_1826 tw_125 tw_1827) rfl rfl rfl (by decide +kernel) ⟨(Nat.le_of_ble_eq_true rfl), (Nat.le_of_ble_eq_true rfl)⟩) hK hG hW hS rfl hl.1 rfl (Nat.le_of_ble_eq_true rfl) dL_law_821 hN.f (fun r1 M1 H locs h hW hS => ?_)
  exact lv_icmp_eq (tgt := 1988) hx hb dL_law_824 (by decide) (fun _ => kk _ _ _ _ _ h.2 hN hW hS) (fun q => absurd h.1 q)
set_option maxHeartbeats 4000000 in
set_option maxRecDepth 100000 in
theorem tqL_c17 (C : tq_At p s m meth c args cL_law 4 (some .boolean) tqL_T RL D cy z ad) (hX : va_X b L xs s s.heap) (hbl : b < s.heap.size) (hbz : ¬ z ≤ b) (hi : i + 6 ≤ L) (hL : L ≤ 3072) (h : wpX11_ship (fun N1 S1 r => wpX12_ship (fun M1 r1 => r = r1 ∧ I N1 S1 M1) M (xs (i + 1)) (xs (i + 2))) N S (xs (i + 1)) (xs (i + 2))) (hN : tq_nb z A0 s N) (hW : tq_wd D cy z H0 ad N (tq_mix S M) H) (hS : va_S (fun q => z ≤ q) s.heap H locs) (hl : lv_has ls 4 [(0, .ref b), (1, .ref (ad 1 0)), (2, .ref (ad 64 0)), (3, .int (Int32.ofNat i))])
    (kk : ∀ (N1 : tq_Nn) (S1 M1 : tq_St) (H1 : Heap) (locs1 : List Loc), I N1 S1 M1 → tq_nb z A0 s N1 → tq_wd D cy z H0 ad N1 (tq_mix S1 M1) H1 → va_S (fun q => z ≤ q) s.heap H1 locs1 → tq_Wb p l e 2048 84000 s m args below meth c z A0 N1 H1 locs1 Q (F0 m 1988 ls [])) : tq_Wb p l e 2048 84000 s m args below meth c z A0 N H locs Q (F0 m 829 ls []) := by
  obtain ⟨hx, hb, hr, hml, hown, hts, hlocks, hK, hG⟩ := C
  refine lv_aload_n hx hb dL_law_829 rfl (lv_at hl 1 rfl) ?_
  refine tqL_arg (k := 1) hx hb hX hbl hbz hS hl hi hL (by decide) (by decide) dL_law_830 dL_law_831 dL_law_832 dL_law_833 dL_law_834 ?_
  refine tqL_arg (k := 2) hx hb hX hbl hbz hS hl hi hL (by decide) (by decide) dL_law_835 dL_law_836 dL_law_837 dL_law_838 dL_law_839 ?_
  refine tqb_callVi (C := "TwoSeas") (As := [.int (xs (i + 1)), .int (xs (i + 2))]) (rest := []) (kX11_ship h) ⟨hx, hb, hml, hown, hts⟩ (cwV 2 hts (tq_goodV tw_891 tw_892 tw_893 tw_115 tw_894) rfl rfl rfl (by decide +kernel) ⟨(Nat.le_of_ble_eq_true rfl), (Nat.le_of_ble_eq_true rfl)⟩) (tq_recvC hK hW (by decide) (tq_mk_1 (by decide)) rfl) hK hG hW hS rfl hl.1 rfl (Nat.le_of_ble_eq_true rfl) dL_law_840 hN (fun r N1 S1 H locs h hN hW hS => ?_)
  refine lv_aload_n hx hb dL_law_843 rfl (lv_at hl 2 rfl) ?_
  refine tqL_arg (k := 1) hx hb hX hbl hbz hS hl hi hL (by decide) (by decide) dL_law_844 dL_law_845 dL_law_846 dL_law_847 dL_law_848 ?_
  refine tqL_arg (k := 2) hx hb hX hbl hbz hS hl hi hL (by decide) (by decide) dL_law_849 dL_law_850 dL_law_851 dL_law_852 dL_law_853 ?_
  refine tq_callVi (As := [.int (xs (i + 1)), .int (xs (i + 2))]) (rest := [.int r]) (kX12_ship h) ⟨hx, hb, hml, hown, hts⟩ (cwV 2 hts (tq_goodV tw_1841 tw_1842 tw_1843 tw_125 tw_1844) rfl rfl rfl (by decide +kernel) ⟨(Nat.le_of_ble_eq_true rfl), (Nat.le_of_ble_eq_true rfl)⟩) hK hG hW hS rfl hl.1 rfl (Nat.le_of_ble_eq_true rfl) dL_law_854 hN.f (fun r1 M1 H locs h hW hS => ?_)
  exact lv_icmp_eq (tgt := 1988) hx hb dL_law_857 (by decide) (fun _ => kk _ _ _ _ _ h.2 hN hW hS) (fun q => absurd h.1 q)
set_option maxHeartbeats 4000000 in
set_option maxRecDepth 100000 in
theorem tqL_c18 (C : tq_At p s m meth c args cL_law 4 (some .boolean) tqL_T RL D cy z ad) (hX : va_X b L xs s s.heap) (hbl : b < s.heap.size) (hbz : ¬ z ≤ b) (hi : i + 6 ≤ L) (hL : L ≤ 3072) (h : wpX11_take N (fun S1 r => wpX12_take (fun M1 r1 => r = r1 ∧ I N S1 M1) M ) S) (hN : tq_nb z A0 s N) (hW : tq_wd D cy z H0 ad N (tq_mix S M) H) (hS : va_S (fun q => z ≤ q) s.heap H locs) (hl : lv_has ls 4 [(0, .ref b), (1, .ref (ad 1 0)), (2, .ref (ad 64 0)), (3, .int (Int32.ofNat i))])
    (kk : ∀ (N1 : tq_Nn) (S1 M1 : tq_St) (H1 : Heap) (locs1 : List Loc), I N1 S1 M1 → tq_nb z A0 s N1 → tq_wd D cy z H0 ad N1 (tq_mix S1 M1) H1 → va_S (fun q => z ≤ q) s.heap H1 locs1 → tq_Wb p l e 2048 84000 s m args below meth c z A0 N1 H1 locs1 Q (F0 m 1988 ls [])) : tq_Wb p l e 2048 84000 s m args below meth c z A0 N H locs Q (F0 m 862 ls []) := by
  obtain ⟨hx, hb, hr, hml, hown, hts, hlocks, hK, hG⟩ := C
  refine lv_aload_n hx hb dL_law_862 rfl (lv_at hl 1 rfl) ?_
  refine tqc_callVi (C := "TwoSeas") (As := []) (rest := []) (kX11_take h) ⟨hx, hb, hml, hown, hts⟩ (cwV 0 hts (tq_goodV tw_946 tw_947 tw_948 tw_115 tw_949) rfl rfl rfl (by decide +kernel) ⟨(Nat.le_of_ble_eq_true rfl), (Nat.le_of_ble_eq_true rfl)⟩) (tq_recvC hK hW (by decide) (tq_mk_1 (by decide)) rfl) hK hG hW hS rfl hl.1 rfl (Nat.le_of_ble_eq_true rfl) dL_law_863 hN.f (fun r S1 H locs h hW hS => ?_)
  refine lv_aload_n hx hb dL_law_866 rfl (lv_at hl 2 rfl) ?_
  refine tq_callVi (As := []) (rest := [.int r]) (kX12_take h) ⟨hx, hb, hml, hown, hts⟩ (cwV 0 hts (tq_goodV tw_1845 tw_1846 tw_1847 tw_125 tw_1848) rfl rfl rfl (by decide +kernel) ⟨(Nat.le_of_ble_eq_true rfl), (Nat.le_of_ble_eq_true rfl)⟩) hK hG hW hS rfl hl.1 rfl (Nat.le_of_ble_eq_true rfl) dL_law_867 hN.f (fun r1 M1 H locs h hW hS => ?_)
  exact lv_icmp_eq (tgt := 1988) hx hb dL_law_870 (by decide) (fun _ => kk _ _ _ _ _ h.2 hN hW hS) (fun q => absurd h.1 q)
set_option maxHeartbeats 4000000 in
set_option maxRecDepth 100000 in
theorem tqL_c19 (C : tq_At p s m meth c args cL_law 4 (some .boolean) tqL_T RL D cy z ad) (hX : va_X b L xs s s.heap) (hbl : b < s.heap.size) (hbz : ¬ z ≤ b) (hi : i + 6 ≤ L) (hL : L ≤ 3072) (h : wpX11_load N (fun S1 r => wpX12_load (fun M1 r1 => r = r1 ∧ I N S1 M1) M (xs (i + 1)) (xs (i + 2))) S (xs (i + 1)) (xs (i + 2))) (hN : tq_nb z A0 s N) (hW : tq_wd D cy z H0 ad N (tq_mix S M) H) (hS : va_S (fun q => z ≤ q) s.heap H locs) (hl : lv_has ls 4 [(0, .ref b), (1, .ref (ad 1 0)), (2, .ref (ad 64 0)), (3, .int (Int32.ofNat i))])
    (kk : ∀ (N1 : tq_Nn) (S1 M1 : tq_St) (H1 : Heap) (locs1 : List Loc), I N1 S1 M1 → tq_nb z A0 s N1 → tq_wd D cy z H0 ad N1 (tq_mix S1 M1) H1 → va_S (fun q => z ≤ q) s.heap H1 locs1 → tq_Wb p l e 2048 84000 s m args below meth c z A0 N1 H1 locs1 Q (F0 m 1988 ls [])) : tq_Wb p l e 2048 84000 s m args below meth c z A0 N H locs Q (F0 m 875 ls []) := by
  obtain ⟨hx, hb, hr, hml, hown, hts, hlocks, hK, hG⟩ := C
  refine lv_aload_n hx hb dL_law_875 rfl (lv_at hl 1 rfl) ?_
  refine tqL_arg (k := 1) hx hb hX hbl hbz hS hl hi hL (by decide) (by decide) dL_law_876 dL_law_877 dL_law_878 dL_law_879 dL_law_880 ?_
  refine tqL_arg (k := 2) hx hb hX hbl hbz hS hl hi hL (by decide) (by decide) dL_law_881 dL_law_882 dL_law_883 dL_law_884 dL_law_885 ?_
  refine tqc_callVi (C := "TwoSeas") (As := [.int (xs (i + 1)), .int (xs (i + 2))]) (rest := []) (kX11_load h) ⟨hx, hb, hml, hown, hts⟩ (cwV 2 hts (tq_goodV tw_954 tw_955 tw_956 tw_115 tw_957) rfl rfl rfl (by decide +kernel) ⟨(Nat.le_of_ble_eq_true rfl), (Nat.le_of_ble_eq_true rfl)⟩) (tq_recvC hK hW (by decide) (tq_mk_1 (by decide)) rfl) hK hG hW hS rfl hl.1 rfl (Nat.le_of_ble_eq_true rfl) dL_law_886 hN.f (fun r S1 H locs h hW hS => ?_)
  refine lv_aload_n hx hb dL_law_889 rfl (lv_at hl 2 rfl) ?_
  refine tqL_arg (k := 1) hx hb hX hbl hbz hS hl hi hL (by decide) (by decide) dL_law_890 dL_law_891 dL_law_892 dL_law_893 dL_law_894 ?_
  refine tqL_arg (k := 2) hx hb hX hbl hbz hS hl hi hL (by decide) (by decide) dL_law_895 dL_law_896 dL_law_897 dL_law_898 dL_law_899 ?_
  refine tq_callVi (As := [.int (xs (i + 1)), .int (xs (i + 2))]) (rest := [.int r]) (kX12_load h) ⟨hx, hb, hml, hown, hts⟩ (cwV 2 hts (tq_goodV tw_1849 tw_1850 tw_1851 tw_125 tw_1852) rfl rfl rfl (by decide +kernel) ⟨(Nat.le_of_ble_eq_true rfl), (Nat.le_of_ble_eq_true rfl)⟩) hK hG hW hS rfl hl.1 rfl (Nat.le_of_ble_eq_true rfl) dL_law_900 hN.f (fun r1 M1 H locs h hW hS => ?_)
  exact lv_icmp_eq (tgt := 1988) hx hb dL_law_903 (by decide) (fun _ => kk _ _ _ _ _ h.2 hN hW hS) (fun q => absurd h.1 q)
set_option maxHeartbeats 4000000 in
set_option maxRecDepth 100000 in
theorem tqL_c20 (C : tq_At p s m meth c args cL_law 4 (some .boolean) tqL_T RL D cy z ad) (hX : va_X b L xs s s.heap) (hbl : b < s.heap.size) (hbz : ¬ z ≤ b) (hi : i + 6 ≤ L) (hL : L ≤ 3072) (h : wpX11_stow N (fun S1 r => wpX12_stow (fun M1 r1 => r = r1 ∧ I N S1 M1) M (xs (i + 1)) (xs (i + 2)) (xs (i + 3))) S (xs (i + 1)) (xs (i + 2)) (xs (i + 3))) (hN : tq_nb z A0 s N) (hW : tq_wd D cy z H0 ad N (tq_mix S M) H) (hS : va_S (fun q => z ≤ q) s.heap H locs) (hl : lv_has ls 4 [(0, .ref b), (1, .ref (ad 1 0)), (2, .ref (ad 64 0)), (3, .int (Int32.ofNat i))])
    (kk : ∀ (N1 : tq_Nn) (S1 M1 : tq_St) (H1 : Heap) (locs1 : List Loc), I N1 S1 M1 → tq_nb z A0 s N1 → tq_wd D cy z H0 ad N1 (tq_mix S1 M1) H1 → va_S (fun q => z ≤ q) s.heap H1 locs1 → tq_Wb p l e 2048 84000 s m args below meth c z A0 N1 H1 locs1 Q (F0 m 1988 ls [])) : tq_Wb p l e 2048 84000 s m args below meth c z A0 N H locs Q (F0 m 908 ls []) := by
  obtain ⟨hx, hb, hr, hml, hown, hts, hlocks, hK, hG⟩ := C
  refine lv_aload_n hx hb dL_law_908 rfl (lv_at hl 1 rfl) ?_
  refine tqL_arg (k := 1) hx hb hX hbl hbz hS hl hi hL (by decide) (by decide) dL_law_909 dL_law_910 dL_law_911 dL_law_912 dL_law_913 ?_
  refine tqL_arg (k := 2) hx hb hX hbl hbz hS hl hi hL (by decide) (by decide) dL_law_914 dL_law_915 dL_law_916 dL_law_917 dL_law_918 ?_
  refine tqL_arg (k := 3) hx hb hX hbl hbz hS hl hi hL (by decide) (by decide) dL_law_919 dL_law_920 dL_law_921 dL_law_922 dL_law_923 ?_
  refine tqc_callVi (C := "TwoSeas") (As := [.int (xs (i + 1)), .int (xs (i + 2)), .int (xs (i + 3))]) (rest := []) (kX11_stow h) ⟨hx, hb, hml, hown, hts⟩ (cwV 3 hts (tq_goodV tw_962 tw_963 tw_964 tw_115 tw_965) rfl rfl rfl (by decide +kernel) ⟨(Nat.le_of_ble_eq_true rfl), (Nat.le_of_ble_eq_true rfl)⟩) (tq_recvC hK hW (by decide) (tq_mk_1 (by decide)) rfl) hK hG hW hS rfl hl.1 rfl (Nat.le_of_ble_eq_true rfl) dL_law_924 hN.f (fun r S1 H locs h hW hS => ?_)
  refine lv_aload_n hx hb dL_law_927 rfl (lv_at hl 2 rfl) ?_
  refine tqL_arg (k := 1) hx hb hX hbl hbz hS hl hi hL (by decide) (by decide) dL_law_928 dL_law_929 dL_law_930 dL_law_931 dL_law_932 ?_
  refine tqL_arg (k := 2) hx hb hX hbl hbz hS hl hi hL (by decide) (by decide) dL_law_933 dL_law_934 dL_law_935 dL_law_936 dL_law_937 ?_
  refine tqL_arg (k := 3) hx hb hX hbl hbz hS hl hi hL (by decide) (by decide) dL_law_938 dL_law_939 dL_law_940 dL_law_941 dL_law_942 ?_
  refine tq_callVi (As := [.int (xs (i + 1)), .int (xs (i + 2)), .int (xs (i + 3))]) (rest := [.int r]) (kX12_stow h) ⟨hx, hb, hml, hown, hts⟩ (cwV 3 hts (tq_goodV tw_1854 tw_1855 tw_1856 tw_125 tw_1857) rfl rfl rfl (by decide +kernel) ⟨(Nat.le_of_ble_eq_true rfl), (Nat.le_of_ble_eq_true rfl)⟩) hK hG hW hS rfl hl.1 rfl (Nat.le_of_ble_eq_true rfl) dL_law_943 hN.f (fun r1 M1 H locs h hW hS => ?_)
  exact lv_icmp_eq (tgt := 1988) hx hb dL_law_946 (by decide) (fun _ => kk _ _ _ _ _ h.2 hN hW hS) (fun q => absurd h.1 q)
set_option maxHeartbeats 4000000 in
set_option maxRecDepth 100000 in
theorem tqL_c21 (C : tq_At p s m meth c args cL_law 4 (some .boolean) tqL_T RL D cy z ad) (hX : va_X b L xs s s.heap) (hbl : b < s.heap.size) (hbz : ¬ z ≤ b) (hi : i + 6 ≤ L) (hL : L ≤ 3072) (h : wpX11_sail (fun N1 S1 r => wpX12_sail (fun M1 r1 => r = r1 ∧ I N1 S1 M1) M (xs (i + 1)) (xs (i + 2))) N S (xs (i + 1)) (xs (i + 2))) (hN : tq_nb z A0 s N) (hW : tq_wd D cy z H0 ad N (tq_mix S M) H) (hS : va_S (fun q => z ≤ q) s.heap H locs) (hl : lv_has ls 4 [(0, .ref b), (1, .ref (ad 1 0)), (2, .ref (ad 64 0)), (3, .int (Int32.ofNat i))])
    (kk : ∀ (N1 : tq_Nn) (S1 M1 : tq_St) (H1 : Heap) (locs1 : List Loc), I N1 S1 M1 → tq_nb z A0 s N1 → tq_wd D cy z H0 ad N1 (tq_mix S1 M1) H1 → va_S (fun q => z ≤ q) s.heap H1 locs1 → tq_Wb p l e 2048 84000 s m args below meth c z A0 N1 H1 locs1 Q (F0 m 1988 ls [])) : tq_Wb p l e 2048 84000 s m args below meth c z A0 N H locs Q (F0 m 951 ls []) := by
  obtain ⟨hx, hb, hr, hml, hown, hts, hlocks, hK, hG⟩ := C
  refine lv_aload_n hx hb dL_law_951 rfl (lv_at hl 1 rfl) ?_
  refine tqL_arg (k := 1) hx hb hX hbl hbz hS hl hi hL (by decide) (by decide) dL_law_952 dL_law_953 dL_law_954 dL_law_955 dL_law_956 ?_
  refine tqL_arg (k := 2) hx hb hX hbl hbz hS hl hi hL (by decide) (by decide) dL_law_957 dL_law_958 dL_law_959 dL_law_960 dL_law_961 ?_
  refine tqb_callVi (C := "TwoSeas") (As := [.int (xs (i + 1)), .int (xs (i + 2))]) (rest := []) (kX11_sail h) ⟨hx, hb, hml, hown, hts⟩ (cwV 2 hts (tq_goodV tw_973 tw_974 tw_975 tw_115 tw_976) rfl rfl rfl (by decide +kernel) ⟨(Nat.le_of_ble_eq_true rfl), (Nat.le_of_ble_eq_true rfl)⟩) (tq_recvC hK hW (by decide) (tq_mk_1 (by decide)) rfl) hK hG hW hS rfl hl.1 rfl (Nat.le_of_ble_eq_true rfl) dL_law_962 hN (fun r N1 S1 H locs h hN hW hS => ?_)
  refine lv_aload_n hx hb dL_law_965 rfl (lv_at hl 2 rfl) ?_
  refine tqL_arg (k := 1) hx hb hX hbl hbz hS hl hi hL (by decide) (by decide) dL_law_966 dL_law_967 dL_law_968 dL_law_969 dL_law_970 ?_
  refine tqL_arg (k := 2) hx hb hX hbl hbz hS hl hi hL (by decide) (by decide) dL_law_971 dL_law_972 dL_law_973 dL_law_974 dL_law_975 ?_
  refine tq_callVi (As := [.int (xs (i + 1)), .int (xs (i + 2))]) (rest := [.int r]) (kX12_sail h) ⟨hx, hb, hml, hown, hts⟩ (cwV 2 hts (tq_goodV tw_1870 tw_1871 tw_1872 tw_125 tw_1873) rfl rfl rfl (by decide +kernel) ⟨(Nat.le_of_ble_eq_true rfl), (Nat.le_of_ble_eq_true rfl)⟩) hK hG hW hS rfl hl.1 rfl (Nat.le_of_ble_eq_true rfl) dL_law_976 hN.f (fun r1 M1 H locs h hW hS => ?_)
  exact lv_icmp_eq (tgt := 1988) hx hb dL_law_979 (by decide) (fun _ => kk _ _ _ _ _ h.2 hN hW hS) (fun q => absurd h.1 q)
set_option maxHeartbeats 4000000 in
set_option maxRecDepth 100000 in
theorem tqL_c22 (C : tq_At p s m meth c args cL_law 4 (some .boolean) tqL_T RL D cy z ad) (hX : va_X b L xs s s.heap) (hbl : b < s.heap.size) (hbz : ¬ z ≤ b) (hi : i + 6 ≤ L) (hL : L ≤ 3072) (h : wpX11_lose N (fun S1 r => wpX12_lose (fun M1 r1 => r = r1 ∧ I N S1 M1) M (xs (i + 1))) S (xs (i + 1))) (hN : tq_nb z A0 s N) (hW : tq_wd D cy z H0 ad N (tq_mix S M) H) (hS : va_S (fun q => z ≤ q) s.heap H locs) (hl : lv_has ls 4 [(0, .ref b), (1, .ref (ad 1 0)), (2, .ref (ad 64 0)), (3, .int (Int32.ofNat i))])
    (kk : ∀ (N1 : tq_Nn) (S1 M1 : tq_St) (H1 : Heap) (locs1 : List Loc), I N1 S1 M1 → tq_nb z A0 s N1 → tq_wd D cy z H0 ad N1 (tq_mix S1 M1) H1 → va_S (fun q => z ≤ q) s.heap H1 locs1 → tq_Wb p l e 2048 84000 s m args below meth c z A0 N1 H1 locs1 Q (F0 m 1988 ls [])) : tq_Wb p l e 2048 84000 s m args below meth c z A0 N H locs Q (F0 m 984 ls []) := by
  obtain ⟨hx, hb, hr, hml, hown, hts, hlocks, hK, hG⟩ := C
  refine lv_aload_n hx hb dL_law_984 rfl (lv_at hl 1 rfl) ?_
  refine tqL_arg (k := 1) hx hb hX hbl hbz hS hl hi hL (by decide) (by decide) dL_law_985 dL_law_986 dL_law_987 dL_law_988 dL_law_989 ?_
  refine tqc_callVi (C := "TwoSeas") (As := [.int (xs (i + 1))]) (rest := []) (kX11_lose h) ⟨hx, hb, hml, hown, hts⟩ (cwV 1 hts (tq_goodV tw_1036 tw_1037 tw_1038 tw_115 tw_1039) rfl rfl rfl (by decide +kernel) ⟨(Nat.le_of_ble_eq_true rfl), (Nat.le_of_ble_eq_true rfl)⟩) (tq_recvC hK hW (by decide) (tq_mk_1 (by decide)) rfl) hK hG hW hS rfl hl.1 rfl (Nat.le_of_ble_eq_true rfl) dL_law_990 hN.f (fun r S1 H locs h hW hS => ?_)
  refine lv_aload_n hx hb dL_law_993 rfl (lv_at hl 2 rfl) ?_
  refine tqL_arg (k := 1) hx hb hX hbl hbz hS hl hi hL (by decide) (by decide) dL_law_994 dL_law_995 dL_law_996 dL_law_997 dL_law_998 ?_
  refine tq_callVi (As := [.int (xs (i + 1))]) (rest := [.int r]) (kX12_lose h) ⟨hx, hb, hml, hown, hts⟩ (cwV 1 hts (tq_goodV tw_1878 tw_1879 tw_1880 tw_125 tw_1881) rfl rfl rfl (by decide +kernel) ⟨(Nat.le_of_ble_eq_true rfl), (Nat.le_of_ble_eq_true rfl)⟩) hK hG hW hS rfl hl.1 rfl (Nat.le_of_ble_eq_true rfl) dL_law_999 hN.f (fun r1 M1 H locs h hW hS => ?_)
  exact lv_icmp_eq (tgt := 1988) hx hb dL_law_1002 (by decide) (fun _ => kk _ _ _ _ _ h.2 hN hW hS) (fun q => absurd h.1 q)
set_option maxHeartbeats 4000000 in
set_option maxRecDepth 100000 in
theorem tqL_c23 (C : tq_At p s m meth c args cL_law 4 (some .boolean) tqL_T RL D cy z ad) (hX : va_X b L xs s s.heap) (hbl : b < s.heap.size) (hbz : ¬ z ≤ b) (hi : i + 6 ≤ L) (hL : L ≤ 3072) (h : wpX11_shipOf N (fun S1 r => wpX12_shipOf (fun M1 r1 => r = r1 ∧ I N S1 M1) M (xs (i + 1)) (xs (i + 2))) S (xs (i + 1)) (xs (i + 2))) (hN : tq_nb z A0 s N) (hW : tq_wd D cy z H0 ad N (tq_mix S M) H) (hS : va_S (fun q => z ≤ q) s.heap H locs) (hl : lv_has ls 4 [(0, .ref b), (1, .ref (ad 1 0)), (2, .ref (ad 64 0)), (3, .int (Int32.ofNat i))])
    (kk : ∀ (N1 : tq_Nn) (S1 M1 : tq_St) (H1 : Heap) (locs1 : List Loc), I N1 S1 M1 → tq_nb z A0 s N1 → tq_wd D cy z H0 ad N1 (tq_mix S1 M1) H1 → va_S (fun q => z ≤ q) s.heap H1 locs1 → tq_Wb p l e 2048 84000 s m args below meth c z A0 N1 H1 locs1 Q (F0 m 1988 ls [])) : tq_Wb p l e 2048 84000 s m args below meth c z A0 N H locs Q (F0 m 1007 ls []) := by
  obtain ⟨hx, hb, hr, hml, hown, hts, hlocks, hK, hG⟩ := C
  refine lv_aload_n hx hb dL_law_1007 rfl (lv_at hl 1 rfl) ?_
  refine tqL_arg (k := 1) hx hb hX hbl hbz hS hl hi hL (by decide) (by decide) dL_law_1008 dL_law_1009 dL_law_1010 dL_law_1011 dL_law_1012 ?_
  refine tqL_arg (k := 2) hx hb hX hbl hbz hS hl hi hL (by decide) (by decide) dL_law_1013 dL_law_1014 dL_law_1015 dL_law_1016 dL_law_1017 ?_
  refine tqc_callVi (C := "TwoSeas") (As := [.int (xs (i + 1)), .int (xs (i + 2))]) (rest := []) (kX11_shipOf h) ⟨hx, hb, hml, hown, hts⟩ (cwV 2 hts (tq_goodV tw_1044 tw_1045 tw_1046 tw_115 tw_1047) rfl rfl rfl (by decide +kernel) ⟨(Nat.le_of_ble_eq_true rfl), (Nat.le_of_ble_eq_true rfl)⟩) (tq_recvC hK hW (by decide) (tq_mk_1 (by decide)) rfl) hK hG hW hS rfl hl.1 rfl (Nat.le_of_ble_eq_true rfl) dL_law_1018 hN.f (fun r S1 H locs h hW hS => ?_)
  refine lv_aload_n hx hb dL_law_1021 rfl (lv_at hl 2 rfl) ?_
  refine tqL_arg (k := 1) hx hb hX hbl hbz hS hl hi hL (by decide) (by decide) dL_law_1022 dL_law_1023 dL_law_1024 dL_law_1025 dL_law_1026 ?_
  refine tqL_arg (k := 2) hx hb hX hbl hbz hS hl hi hL (by decide) (by decide) dL_law_1027 dL_law_1028 dL_law_1029 dL_law_1030 dL_law_1031 ?_
  refine tq_callVi (As := [.int (xs (i + 1)), .int (xs (i + 2))]) (rest := [.int r]) (kX12_shipOf h) ⟨hx, hb, hml, hown, hts⟩ (cwV 2 hts (tq_goodV tw_1886 tw_1887 tw_1888 tw_125 tw_1889) rfl rfl rfl (by decide +kernel) ⟨(Nat.le_of_ble_eq_true rfl), (Nat.le_of_ble_eq_true rfl)⟩) hK hG hW hS rfl hl.1 rfl (Nat.le_of_ble_eq_true rfl) dL_law_1032 hN.f (fun r1 M1 H locs h hW hS => ?_)
  exact lv_icmp_eq (tgt := 1988) hx hb dL_law_1035 (by decide) (fun _ => kk _ _ _ _ _ h.2 hN hW hS) (fun q => absurd h.1 q)
set_option maxHeartbeats 4000000 in
set_option maxRecDepth 100000 in
theorem tqL_c24 (C : tq_At p s m meth c args cL_law 4 (some .boolean) tqL_T RL D cy z ad) (hX : va_X b L xs s s.heap) (hbl : b < s.heap.size) (hbz : ¬ z ≤ b) (hi : i + 6 ≤ L) (hL : L ≤ 3072) (h : wpX11_voyage N (fun S1 r => wpX12_voyage (fun M1 r1 => r = r1 ∧ I N S1 M1) M (xs (i + 1)) (xs (i + 2))) S (xs (i + 1)) (xs (i + 2))) (hN : tq_nb z A0 s N) (hW : tq_wd D cy z H0 ad N (tq_mix S M) H) (hS : va_S (fun q => z ≤ q) s.heap H locs) (hl : lv_has ls 4 [(0, .ref b), (1, .ref (ad 1 0)), (2, .ref (ad 64 0)), (3, .int (Int32.ofNat i))])
    (kk : ∀ (N1 : tq_Nn) (S1 M1 : tq_St) (H1 : Heap) (locs1 : List Loc), I N1 S1 M1 → tq_nb z A0 s N1 → tq_wd D cy z H0 ad N1 (tq_mix S1 M1) H1 → va_S (fun q => z ≤ q) s.heap H1 locs1 → tq_Wb p l e 2048 84000 s m args below meth c z A0 N1 H1 locs1 Q (F0 m 1988 ls [])) : tq_Wb p l e 2048 84000 s m args below meth c z A0 N H locs Q (F0 m 1040 ls []) := by
  obtain ⟨hx, hb, hr, hml, hown, hts, hlocks, hK, hG⟩ := C
  refine lv_aload_n hx hb dL_law_1040 rfl (lv_at hl 1 rfl) ?_
  refine tqL_arg (k := 1) hx hb hX hbl hbz hS hl hi hL (by decide) (by decide) dL_law_1041 dL_law_1042 dL_law_1043 dL_law_1044 dL_law_1045 ?_
  refine tqL_arg (k := 2) hx hb hX hbl hbz hS hl hi hL (by decide) (by decide) dL_law_1046 dL_law_1047 dL_law_1048 dL_law_1049 dL_law_1050 ?_
  refine tqc_callVi (C := "TwoSeas") (As := [.int (xs (i + 1)), .int (xs (i + 2))]) (rest := []) (kX11_voyage h) ⟨hx, hb, hml, hown, hts⟩ (cwV 2 hts (tq_goodV tw_1049 tw_1050 tw_1051 tw_115 tw_1052) rfl rfl rfl (by decide +kernel) ⟨(Nat.le_of_ble_eq_true rfl), (Nat.le_of_ble_eq_true rfl)⟩) (tq_recvC hK hW (by decide) (tq_mk_1 (by decide)) rfl) hK hG hW hS rfl hl.1 rfl (Nat.le_of_ble_eq_true rfl) dL_law_1051 hN.f (fun r S1 H locs h hW hS => ?_)
  refine lv_aload_n hx hb dL_law_1054 rfl (lv_at hl 2 rfl) ?_
  refine tqL_arg (k := 1) hx hb hX hbl hbz hS hl hi hL (by decide) (by decide) dL_law_1055 dL_law_1056 dL_law_1057 dL_law_1058 dL_law_1059 ?_
  refine tqL_arg (k := 2) hx hb hX hbl hbz hS hl hi hL (by decide) (by decide) dL_law_1060 dL_law_1061 dL_law_1062 dL_law_1063 dL_law_1064 ?_
  refine tq_callVi (As := [.int (xs (i + 1)), .int (xs (i + 2))]) (rest := [.int r]) (kX12_voyage h) ⟨hx, hb, hml, hown, hts⟩ (cwV 2 hts (tq_goodV tw_1890 tw_1891 tw_1892 tw_125 tw_1893) rfl rfl rfl (by decide +kernel) ⟨(Nat.le_of_ble_eq_true rfl), (Nat.le_of_ble_eq_true rfl)⟩) hK hG hW hS rfl hl.1 rfl (Nat.le_of_ble_eq_true rfl) dL_law_1065 hN.f (fun r1 M1 H locs h hW hS => ?_)
  exact lv_icmp_eq (tgt := 1988) hx hb dL_law_1068 (by decide) (fun _ => kk _ _ _ _ _ h.2 hN hW hS) (fun q => absurd h.1 q)
set_option maxHeartbeats 4000000 in
set_option maxRecDepth 100000 in
theorem tqL_c25 (C : tq_At p s m meth c args cL_law 4 (some .boolean) tqL_T RL D cy z ad) (hX : va_X b L xs s s.heap) (hbl : b < s.heap.size) (hbz : ¬ z ≤ b) (hi : i + 6 ≤ L) (hL : L ≤ 3072) (h : wpX11_recount N (fun S1 r => wpX12_recount (fun M1 r1 => r = r1 ∧ I N S1 M1) M (xs (i + 1)) (xs (i + 2)) (xs (i + 3))) S (xs (i + 1)) (xs (i + 2)) (xs (i + 3))) (hN : tq_nb z A0 s N) (hW : tq_wd D cy z H0 ad N (tq_mix S M) H) (hS : va_S (fun q => z ≤ q) s.heap H locs) (hl : lv_has ls 4 [(0, .ref b), (1, .ref (ad 1 0)), (2, .ref (ad 64 0)), (3, .int (Int32.ofNat i))])
    (kk : ∀ (N1 : tq_Nn) (S1 M1 : tq_St) (H1 : Heap) (locs1 : List Loc), I N1 S1 M1 → tq_nb z A0 s N1 → tq_wd D cy z H0 ad N1 (tq_mix S1 M1) H1 → va_S (fun q => z ≤ q) s.heap H1 locs1 → tq_Wb p l e 2048 84000 s m args below meth c z A0 N1 H1 locs1 Q (F0 m 1988 ls [])) : tq_Wb p l e 2048 84000 s m args below meth c z A0 N H locs Q (F0 m 1073 ls []) := by
  obtain ⟨hx, hb, hr, hml, hown, hts, hlocks, hK, hG⟩ := C
  refine lv_aload_n hx hb dL_law_1073 rfl (lv_at hl 1 rfl) ?_
  refine tqL_arg (k := 1) hx hb hX hbl hbz hS hl hi hL (by decide) (by decide) dL_law_1074 dL_law_1075 dL_law_1076 dL_law_1077 dL_law_1078 ?_
  refine tqL_arg (k := 2) hx hb hX hbl hbz hS hl hi hL (by decide) (by decide) dL_law_1079 dL_law_1080 dL_law_1081 dL_law_1082 dL_law_1083 ?_
  refine tqL_arg (k := 3) hx hb hX hbl hbz hS hl hi hL (by decide) (by decide) dL_law_1084 dL_law_1085 dL_law_1086 dL_law_1087 dL_law_1088 ?_
  refine tqc_callVi (C := "TwoSeas") (As := [.int (xs (i + 1)), .int (xs (i + 2)), .int (xs (i + 3))]) (rest := []) (kX11_recount h) ⟨hx, hb, hml, hown, hts⟩ (cwV 3 hts (tq_goodV tw_1057 tw_1058 tw_1059 tw_115 tw_1060) rfl rfl rfl (by decide +kernel) ⟨(Nat.le_of_ble_eq_true rfl), (Nat.le_of_ble_eq_true rfl)⟩) (tq_recvC hK hW (by decide) (tq_mk_1 (by decide)) rfl) hK hG hW hS rfl hl.1 rfl (Nat.le_of_ble_eq_true rfl) dL_law_1089 hN.f (fun r S1 H locs h hW hS => ?_)
  refine lv_aload_n hx hb dL_law_1092 rfl (lv_at hl 2 rfl) ?_
  refine tqL_arg (k := 1) hx hb hX hbl hbz hS hl hi hL (by decide) (by decide) dL_law_1093 dL_law_1094 dL_law_1095 dL_law_1096 dL_law_1097 ?_
  refine tqL_arg (k := 2) hx hb hX hbl hbz hS hl hi hL (by decide) (by decide) dL_law_1098 dL_law_1099 dL_law_1100 dL_law_1101 dL_law_1102 ?_
  refine tqL_arg (k := 3) hx hb hX hbl hbz hS hl hi hL (by decide) (by decide) dL_law_1103 dL_law_1104 dL_law_1105 dL_law_1106 dL_law_1107 ?_
  refine tq_callVi (As := [.int (xs (i + 1)), .int (xs (i + 2)), .int (xs (i + 3))]) (rest := [.int r]) (kX12_recount h) ⟨hx, hb, hml, hown, hts⟩ (cwV 3 hts (tq_goodV tw_1898 tw_1899 tw_1900 tw_125 tw_1901) rfl rfl rfl (by decide +kernel) ⟨(Nat.le_of_ble_eq_true rfl), (Nat.le_of_ble_eq_true rfl)⟩) hK hG hW hS rfl hl.1 rfl (Nat.le_of_ble_eq_true rfl) dL_law_1108 hN.f (fun r1 M1 H locs h hW hS => ?_)
  exact lv_icmp_eq (tgt := 1988) hx hb dL_law_1111 (by decide) (fun _ => kk _ _ _ _ _ h.2 hN hW hS) (fun q => absurd h.1 q)
set_option maxHeartbeats 4000000 in
set_option maxRecDepth 100000 in
theorem tqL_c26 (C : tq_At p s m meth c args cL_law 4 (some .boolean) tqL_T RL D cy z ad) (hX : va_X b L xs s s.heap) (hbl : b < s.heap.size) (hbz : ¬ z ≤ b) (hi : i + 6 ≤ L) (hL : L ≤ 3072) (h : wpX11_days (fun N1 S1 r => wpX12_days (fun M1 r1 => r = r1 ∧ I N1 S1 M1) M (xs (i + 1))) N S (xs (i + 1))) (hN : tq_nb z A0 s N) (hW : tq_wd D cy z H0 ad N (tq_mix S M) H) (hS : va_S (fun q => z ≤ q) s.heap H locs) (hl : lv_has ls 4 [(0, .ref b), (1, .ref (ad 1 0)), (2, .ref (ad 64 0)), (3, .int (Int32.ofNat i))])
    (kk : ∀ (N1 : tq_Nn) (S1 M1 : tq_St) (H1 : Heap) (locs1 : List Loc), I N1 S1 M1 → tq_nb z A0 s N1 → tq_wd D cy z H0 ad N1 (tq_mix S1 M1) H1 → va_S (fun q => z ≤ q) s.heap H1 locs1 → tq_Wb p l e 2048 84000 s m args below meth c z A0 N1 H1 locs1 Q (F0 m 1988 ls [])) : tq_Wb p l e 2048 84000 s m args below meth c z A0 N H locs Q (F0 m 1116 ls []) := by
  obtain ⟨hx, hb, hr, hml, hown, hts, hlocks, hK, hG⟩ := C
  refine lv_aload_n hx hb dL_law_1116 rfl (lv_at hl 1 rfl) ?_
  refine tqL_arg (k := 1) hx hb hX hbl hbz hS hl hi hL (by decide) (by decide) dL_law_1117 dL_law_1118 dL_law_1119 dL_law_1120 dL_law_1121 ?_
  refine tqb_callVi (C := "TwoSeas") (As := [.int (xs (i + 1))]) (rest := []) (kX11_days h) ⟨hx, hb, hml, hown, hts⟩ (cwV 1 hts (tq_goodV tw_1061 tw_1062 tw_1063 tw_115 tw_1064) rfl rfl rfl (by decide +kernel) ⟨(Nat.le_of_ble_eq_true rfl), (Nat.le_of_ble_eq_true rfl)⟩) (tq_recvC hK hW (by decide) (tq_mk_1 (by decide)) rfl) hK hG hW hS rfl hl.1 rfl (Nat.le_of_ble_eq_true rfl) dL_law_1122 hN (fun r N1 S1 H locs h hN hW hS => ?_)
  refine lv_aload_n hx hb dL_law_1125 rfl (lv_at hl 2 rfl) ?_
  refine tqL_arg (k := 1) hx hb hX hbl hbz hS hl hi hL (by decide) (by decide) dL_law_1126 dL_law_1127 dL_law_1128 dL_law_1129 dL_law_1130 ?_
  refine tq_callVi (As := [.int (xs (i + 1))]) (rest := [.int r]) (kX12_days h) ⟨hx, hb, hml, hown, hts⟩ (cwV 1 hts (tq_goodV tw_1914 tw_1915 tw_1916 tw_125 tw_1917) rfl rfl rfl (by decide +kernel) ⟨(Nat.le_of_ble_eq_true rfl), (Nat.le_of_ble_eq_true rfl)⟩) hK hG hW hS rfl hl.1 rfl (Nat.le_of_ble_eq_true rfl) dL_law_1131 hN.f (fun r1 M1 H locs h hW hS => ?_)
  exact lv_icmp_eq (tgt := 1988) hx hb dL_law_1134 (by decide) (fun _ => kk _ _ _ _ _ h.2 hN hW hS) (fun q => absurd h.1 q)
set_option maxHeartbeats 4000000 in
set_option maxRecDepth 100000 in
theorem tqL_c27 (C : tq_At p s m meth c args cL_law 4 (some .boolean) tqL_T RL D cy z ad) (hX : va_X b L xs s s.heap) (hbl : b < s.heap.size) (hbz : ¬ z ≤ b) (hi : i + 6 ≤ L) (hL : L ≤ 3072) (h : wpX11_entry N (fun S1 r => wpX12_entry (fun M1 r1 => r = r1 ∧ I N S1 M1) M (xs (i + 1)) (xs (i + 2))) S (xs (i + 1)) (xs (i + 2))) (hN : tq_nb z A0 s N) (hW : tq_wd D cy z H0 ad N (tq_mix S M) H) (hS : va_S (fun q => z ≤ q) s.heap H locs) (hl : lv_has ls 4 [(0, .ref b), (1, .ref (ad 1 0)), (2, .ref (ad 64 0)), (3, .int (Int32.ofNat i))])
    (kk : ∀ (N1 : tq_Nn) (S1 M1 : tq_St) (H1 : Heap) (locs1 : List Loc), I N1 S1 M1 → tq_nb z A0 s N1 → tq_wd D cy z H0 ad N1 (tq_mix S1 M1) H1 → va_S (fun q => z ≤ q) s.heap H1 locs1 → tq_Wb p l e 2048 84000 s m args below meth c z A0 N1 H1 locs1 Q (F0 m 1988 ls [])) : tq_Wb p l e 2048 84000 s m args below meth c z A0 N H locs Q (F0 m 1139 ls []) := by
  obtain ⟨hx, hb, hr, hml, hown, hts, hlocks, hK, hG⟩ := C
  refine lv_aload_n hx hb dL_law_1139 rfl (lv_at hl 1 rfl) ?_
  refine tqL_arg (k := 1) hx hb hX hbl hbz hS hl hi hL (by decide) (by decide) dL_law_1140 dL_law_1141 dL_law_1142 dL_law_1143 dL_law_1144 ?_
  refine tqL_arg (k := 2) hx hb hX hbl hbz hS hl hi hL (by decide) (by decide) dL_law_1145 dL_law_1146 dL_law_1147 dL_law_1148 dL_law_1149 ?_
  refine tqc_callVi (C := "TwoSeas") (As := [.int (xs (i + 1)), .int (xs (i + 2))]) (rest := []) (kX11_entry h) ⟨hx, hb, hml, hown, hts⟩ (cwV 2 hts (tq_goodV tw_1219 tw_1220 tw_1221 tw_115 tw_1222) rfl rfl rfl (by decide +kernel) ⟨(Nat.le_of_ble_eq_true rfl), (Nat.le_of_ble_eq_true rfl)⟩) (tq_recvC hK hW (by decide) (tq_mk_1 (by decide)) rfl) hK hG hW hS rfl hl.1 rfl (Nat.le_of_ble_eq_true rfl) dL_law_1150 hN.f (fun r S1 H locs h hW hS => ?_)
  refine lv_aload_n hx hb dL_law_1153 rfl (lv_at hl 2 rfl) ?_
  refine tqL_arg (k := 1) hx hb hX hbl hbz hS hl hi hL (by decide) (by decide) dL_law_1154 dL_law_1155 dL_law_1156 dL_law_1157 dL_law_1158 ?_
  refine tqL_arg (k := 2) hx hb hX hbl hbz hS hl hi hL (by decide) (by decide) dL_law_1159 dL_law_1160 dL_law_1161 dL_law_1162 dL_law_1163 ?_
  refine tq_callVi (As := [.int (xs (i + 1)), .int (xs (i + 2))]) (rest := [.int r]) (kX12_entry h) ⟨hx, hb, hml, hown, hts⟩ (cwV 2 hts (tq_goodV tw_1991 tw_1992 tw_1993 tw_125 tw_1994) rfl rfl rfl (by decide +kernel) ⟨(Nat.le_of_ble_eq_true rfl), (Nat.le_of_ble_eq_true rfl)⟩) hK hG hW hS rfl hl.1 rfl (Nat.le_of_ble_eq_true rfl) dL_law_1164 hN.f (fun r1 M1 H locs h hW hS => ?_)
  exact lv_icmp_eq (tgt := 1988) hx hb dL_law_1167 (by decide) (fun _ => kk _ _ _ _ _ h.2 hN hW hS) (fun q => absurd h.1 q)
set_option maxHeartbeats 4000000 in
set_option maxRecDepth 100000 in
theorem tqL_c28 (C : tq_At p s m meth c args cL_law 4 (some .boolean) tqL_T RL D cy z ad) (hX : va_X b L xs s s.heap) (hbl : b < s.heap.size) (hbz : ¬ z ≤ b) (hi : i + 6 ≤ L) (hL : L ≤ 3072) (h : wpX11_open N (fun S1 r => wpX12_open (fun M1 r1 => r = r1 ∧ I N S1 M1) M (xs (i + 1)) (xs (i + 2))) S (xs (i + 1)) (xs (i + 2))) (hN : tq_nb z A0 s N) (hW : tq_wd D cy z H0 ad N (tq_mix S M) H) (hS : va_S (fun q => z ≤ q) s.heap H locs) (hl : lv_has ls 4 [(0, .ref b), (1, .ref (ad 1 0)), (2, .ref (ad 64 0)), (3, .int (Int32.ofNat i))])
    (kk : ∀ (N1 : tq_Nn) (S1 M1 : tq_St) (H1 : Heap) (locs1 : List Loc), I N1 S1 M1 → tq_nb z A0 s N1 → tq_wd D cy z H0 ad N1 (tq_mix S1 M1) H1 → va_S (fun q => z ≤ q) s.heap H1 locs1 → tq_Wb p l e 2048 84000 s m args below meth c z A0 N1 H1 locs1 Q (F0 m 1988 ls [])) : tq_Wb p l e 2048 84000 s m args below meth c z A0 N H locs Q (F0 m 1172 ls []) := by
  obtain ⟨hx, hb, hr, hml, hown, hts, hlocks, hK, hG⟩ := C
  refine lv_aload_n hx hb dL_law_1172 rfl (lv_at hl 1 rfl) ?_
  refine tqL_arg (k := 1) hx hb hX hbl hbz hS hl hi hL (by decide) (by decide) dL_law_1173 dL_law_1174 dL_law_1175 dL_law_1176 dL_law_1177 ?_
  refine tqL_arg (k := 2) hx hb hX hbl hbz hS hl hi hL (by decide) (by decide) dL_law_1178 dL_law_1179 dL_law_1180 dL_law_1181 dL_law_1182 ?_
  refine tqc_callVi (C := "TwoSeas") (As := [.int (xs (i + 1)), .int (xs (i + 2))]) (rest := []) (kX11_open h) ⟨hx, hb, hml, hown, hts⟩ (cwV 2 hts (tq_goodV tw_1227 tw_1228 tw_1229 tw_115 tw_1230) rfl rfl rfl (by decide +kernel) ⟨(Nat.le_of_ble_eq_true rfl), (Nat.le_of_ble_eq_true rfl)⟩) (tq_recvC hK hW (by decide) (tq_mk_1 (by decide)) rfl) hK hG hW hS rfl hl.1 rfl (Nat.le_of_ble_eq_true rfl) dL_law_1183 hN.f (fun r S1 H locs h hW hS => ?_)
  refine lv_aload_n hx hb dL_law_1186 rfl (lv_at hl 2 rfl) ?_
  refine tqL_arg (k := 1) hx hb hX hbl hbz hS hl hi hL (by decide) (by decide) dL_law_1187 dL_law_1188 dL_law_1189 dL_law_1190 dL_law_1191 ?_
  refine tqL_arg (k := 2) hx hb hX hbl hbz hS hl hi hL (by decide) (by decide) dL_law_1192 dL_law_1193 dL_law_1194 dL_law_1195 dL_law_1196 ?_
  refine tq_callVi (As := [.int (xs (i + 1)), .int (xs (i + 2))]) (rest := [.int r]) (kX12_open h) ⟨hx, hb, hml, hown, hts⟩ (cwV 2 hts (tq_goodV tw_1902 tw_1903 tw_1904 tw_125 tw_1905) rfl rfl rfl (by decide +kernel) ⟨(Nat.le_of_ble_eq_true rfl), (Nat.le_of_ble_eq_true rfl)⟩) hK hG hW hS rfl hl.1 rfl (Nat.le_of_ble_eq_true rfl) dL_law_1197 hN.f (fun r1 M1 H locs h hW hS => ?_)
  exact lv_icmp_eq (tgt := 1988) hx hb dL_law_1200 (by decide) (fun _ => kk _ _ _ _ _ h.2 hN hW hS) (fun q => absurd h.1 q)
set_option maxHeartbeats 4000000 in
set_option maxRecDepth 100000 in
theorem tqL_c29 (C : tq_At p s m meth c args cL_law 4 (some .boolean) tqL_T RL D cy z ad) (hX : va_X b L xs s s.heap) (hbl : b < s.heap.size) (hbz : ¬ z ≤ b) (hi : i + 6 ≤ L) (hL : L ≤ 3072) (h : wpX11_accept N (fun S1 r => wpX12_accept (fun M1 r1 => r = r1 ∧ I N S1 M1) M (xs (i + 1))) S (xs (i + 1))) (hN : tq_nb z A0 s N) (hW : tq_wd D cy z H0 ad N (tq_mix S M) H) (hS : va_S (fun q => z ≤ q) s.heap H locs) (hl : lv_has ls 4 [(0, .ref b), (1, .ref (ad 1 0)), (2, .ref (ad 64 0)), (3, .int (Int32.ofNat i))])
    (kk : ∀ (N1 : tq_Nn) (S1 M1 : tq_St) (H1 : Heap) (locs1 : List Loc), I N1 S1 M1 → tq_nb z A0 s N1 → tq_wd D cy z H0 ad N1 (tq_mix S1 M1) H1 → va_S (fun q => z ≤ q) s.heap H1 locs1 → tq_Wb p l e 2048 84000 s m args below meth c z A0 N1 H1 locs1 Q (F0 m 1988 ls [])) : tq_Wb p l e 2048 84000 s m args below meth c z A0 N H locs Q (F0 m 1205 ls []) := by
  obtain ⟨hx, hb, hr, hml, hown, hts, hlocks, hK, hG⟩ := C
  refine lv_aload_n hx hb dL_law_1205 rfl (lv_at hl 1 rfl) ?_
  refine tqL_arg (k := 1) hx hb hX hbl hbz hS hl hi hL (by decide) (by decide) dL_law_1206 dL_law_1207 dL_law_1208 dL_law_1209 dL_law_1210 ?_
  refine tqc_callVi (C := "TwoSeas") (As := [.int (xs (i + 1))]) (rest := []) (kX11_accept h) ⟨hx, hb, hml, hown, hts⟩ (cwV 1 hts (tq_goodV tw_1231 tw_1232 tw_1233 tw_115 tw_1234) rfl rfl rfl (by decide +kernel) ⟨(Nat.le_of_ble_eq_true rfl), (Nat.le_of_ble_eq_true rfl)⟩) (tq_recvC hK hW (by decide) (tq_mk_1 (by decide)) rfl) hK hG hW hS rfl hl.1 rfl (Nat.le_of_ble_eq_true rfl) dL_law_1211 hN.f (fun r S1 H locs h hW hS => ?_)
  refine lv_aload_n hx hb dL_law_1214 rfl (lv_at hl 2 rfl) ?_
  refine tqL_arg (k := 1) hx hb hX hbl hbz hS hl hi hL (by decide) (by decide) dL_law_1215 dL_law_1216 dL_law_1217 dL_law_1218 dL_law_1219 ?_
  refine tq_callVi (As := [.int (xs (i + 1))]) (rest := [.int r]) (kX12_accept h) ⟨hx, hb, hml, hown, hts⟩ (cwV 1 hts (tq_goodV tw_1995 tw_1996 tw_1997 tw_125 tw_1998) rfl rfl rfl (by decide +kernel) ⟨(Nat.le_of_ble_eq_true rfl), (Nat.le_of_ble_eq_true rfl)⟩) hK hG hW hS rfl hl.1 rfl (Nat.le_of_ble_eq_true rfl) dL_law_1220 hN.f (fun r1 M1 H locs h hW hS => ?_)
  exact lv_icmp_eq (tgt := 1988) hx hb dL_law_1223 (by decide) (fun _ => kk _ _ _ _ _ h.2 hN hW hS) (fun q => absurd h.1 q)
set_option maxHeartbeats 4000000 in
set_option maxRecDepth 100000 in
theorem tqL_c30 (C : tq_At p s m meth c args cL_law 4 (some .boolean) tqL_T RL D cy z ad) (hX : va_X b L xs s s.heap) (hbl : b < s.heap.size) (hbz : ¬ z ≤ b) (hi : i + 6 ≤ L) (hL : L ≤ 3072) (h : wpX11_bill N (fun S1 r => wpX12_bill (fun M1 r1 => r = r1 ∧ I N S1 M1) M (xs (i + 1)) (xs (i + 2))) S (xs (i + 1)) (xs (i + 2))) (hN : tq_nb z A0 s N) (hW : tq_wd D cy z H0 ad N (tq_mix S M) H) (hS : va_S (fun q => z ≤ q) s.heap H locs) (hl : lv_has ls 4 [(0, .ref b), (1, .ref (ad 1 0)), (2, .ref (ad 64 0)), (3, .int (Int32.ofNat i))])
    (kk : ∀ (N1 : tq_Nn) (S1 M1 : tq_St) (H1 : Heap) (locs1 : List Loc), I N1 S1 M1 → tq_nb z A0 s N1 → tq_wd D cy z H0 ad N1 (tq_mix S1 M1) H1 → va_S (fun q => z ≤ q) s.heap H1 locs1 → tq_Wb p l e 2048 84000 s m args below meth c z A0 N1 H1 locs1 Q (F0 m 1988 ls [])) : tq_Wb p l e 2048 84000 s m args below meth c z A0 N H locs Q (F0 m 1228 ls []) := by
  obtain ⟨hx, hb, hr, hml, hown, hts, hlocks, hK, hG⟩ := C
  refine lv_aload_n hx hb dL_law_1228 rfl (lv_at hl 1 rfl) ?_
  refine tqL_arg (k := 1) hx hb hX hbl hbz hS hl hi hL (by decide) (by decide) dL_law_1229 dL_law_1230 dL_law_1231 dL_law_1232 dL_law_1233 ?_
  refine tqL_arg (k := 2) hx hb hX hbl hbz hS hl hi hL (by decide) (by decide) dL_law_1234 dL_law_1235 dL_law_1236 dL_law_1237 dL_law_1238 ?_
  refine tqc_callVi (C := "TwoSeas") (As := [.int (xs (i + 1)), .int (xs (i + 2))]) (rest := []) (kX11_bill h) ⟨hx, hb, hml, hown, hts⟩ (cwV 2 hts (tq_goodV tw_1239 tw_1240 tw_1241 tw_115 tw_1242) rfl rfl rfl (by decide +kernel) ⟨(Nat.le_of_ble_eq_true rfl), (Nat.le_of_ble_eq_true rfl)⟩) (tq_recvC hK hW (by decide) (tq_mk_1 (by decide)) rfl) hK hG hW hS rfl hl.1 rfl (Nat.le_of_ble_eq_true rfl) dL_law_1239 hN.f (fun r S1 H locs h hW hS => ?_)
  refine lv_aload_n hx hb dL_law_1242 rfl (lv_at hl 2 rfl) ?_
  refine tqL_arg (k := 1) hx hb hX hbl hbz hS hl hi hL (by decide) (by decide) dL_law_1243 dL_law_1244 dL_law_1245 dL_law_1246 dL_law_1247 ?_
  refine tqL_arg (k := 2) hx hb hX hbl hbz hS hl hi hL (by decide) (by decide) dL_law_1248 dL_law_1249 dL_law_1250 dL_law_1251 dL_law_1252 ?_
  refine tq_callVi (As := [.int (xs (i + 1)), .int (xs (i + 2))]) (rest := [.int r]) (kX12_bill h) ⟨hx, hb, hml, hown, hts⟩ (cwV 2 hts (tq_goodV tw_2003 tw_2004 tw_2005 tw_125 tw_2006) rfl rfl rfl (by decide +kernel) ⟨(Nat.le_of_ble_eq_true rfl), (Nat.le_of_ble_eq_true rfl)⟩) hK hG hW hS rfl hl.1 rfl (Nat.le_of_ble_eq_true rfl) dL_law_1253 hN.f (fun r1 M1 H locs h hW hS => ?_)
  exact lv_icmp_eq (tgt := 1988) hx hb dL_law_1256 (by decide) (fun _ => kk _ _ _ _ _ h.2 hN hW hS) (fun q => absurd h.1 q)
set_option maxHeartbeats 4000000 in
set_option maxRecDepth 100000 in
theorem tqL_c31 (C : tq_At p s m meth c args cL_law 4 (some .boolean) tqL_T RL D cy z ad) (hX : va_X b L xs s s.heap) (hbl : b < s.heap.size) (hbz : ¬ z ≤ b) (hi : i + 6 ≤ L) (hL : L ≤ 3072) (h : wpX11_refuse N (fun S1 r => wpX12_refuse (fun M1 r1 => r = r1 ∧ I N S1 M1) M (xs (i + 1))) S (xs (i + 1))) (hN : tq_nb z A0 s N) (hW : tq_wd D cy z H0 ad N (tq_mix S M) H) (hS : va_S (fun q => z ≤ q) s.heap H locs) (hl : lv_has ls 4 [(0, .ref b), (1, .ref (ad 1 0)), (2, .ref (ad 64 0)), (3, .int (Int32.ofNat i))])
    (kk : ∀ (N1 : tq_Nn) (S1 M1 : tq_St) (H1 : Heap) (locs1 : List Loc), I N1 S1 M1 → tq_nb z A0 s N1 → tq_wd D cy z H0 ad N1 (tq_mix S1 M1) H1 → va_S (fun q => z ≤ q) s.heap H1 locs1 → tq_Wb p l e 2048 84000 s m args below meth c z A0 N1 H1 locs1 Q (F0 m 1988 ls [])) : tq_Wb p l e 2048 84000 s m args below meth c z A0 N H locs Q (F0 m 1261 ls []) := by
  obtain ⟨hx, hb, hr, hml, hown, hts, hlocks, hK, hG⟩ := C
  refine lv_aload_n hx hb dL_law_1261 rfl (lv_at hl 1 rfl) ?_
  refine tqL_arg (k := 1) hx hb hX hbl hbz hS hl hi hL (by decide) (by decide) dL_law_1262 dL_law_1263 dL_law_1264 dL_law_1265 dL_law_1266 ?_
  refine tqc_callVi (C := "TwoSeas") (As := [.int (xs (i + 1))]) (rest := []) (kX11_refuse h) ⟨hx, hb, hml, hown, hts⟩ (cwV 1 hts (tq_goodV tw_1243 tw_1244 tw_1245 tw_115 tw_1246) rfl rfl rfl (by decide +kernel) ⟨(Nat.le_of_ble_eq_true rfl), (Nat.le_of_ble_eq_true rfl)⟩) (tq_recvC hK hW (by decide) (tq_mk_1 (by decide)) rfl) hK hG hW hS rfl hl.1 rfl (Nat.le_of_ble_eq_true rfl) dL_law_1267 hN.f (fun r S1 H locs h hW hS => ?_)
  refine lv_aload_n hx hb dL_law_1270 rfl (lv_at hl 2 rfl) ?_
  refine tqL_arg (k := 1) hx hb hX hbl hbz hS hl hi hL (by decide) (by decide) dL_law_1271 dL_law_1272 dL_law_1273 dL_law_1274 dL_law_1275 ?_
  refine tq_callVi (As := [.int (xs (i + 1))]) (rest := [.int r]) (kX12_refuse h) ⟨hx, hb, hml, hown, hts⟩ (cwV 1 hts (tq_goodV tw_2007 tw_2008 tw_2009 tw_125 tw_2010) rfl rfl rfl (by decide +kernel) ⟨(Nat.le_of_ble_eq_true rfl), (Nat.le_of_ble_eq_true rfl)⟩) hK hG hW hS rfl hl.1 rfl (Nat.le_of_ble_eq_true rfl) dL_law_1276 hN.f (fun r1 M1 H locs h hW hS => ?_)
  exact lv_icmp_eq (tgt := 1988) hx hb dL_law_1279 (by decide) (fun _ => kk _ _ _ _ _ h.2 hN hW hS) (fun q => absurd h.1 q)
set_option maxHeartbeats 4000000 in
set_option maxRecDepth 100000 in
theorem tqL_c32 (C : tq_At p s m meth c args cL_law 4 (some .boolean) tqL_T RL D cy z ad) (hX : va_X b L xs s s.heap) (hbl : b < s.heap.size) (hbz : ¬ z ≤ b) (hi : i + 6 ≤ L) (hL : L ≤ 3072) (h : wpX11_council (fun N1 S1 r => wpX12_council (fun M1 r1 => r = r1 ∧ I N1 S1 M1) M (xs (i + 1)) (xs (i + 2)) (xs (i + 3)) (xs (i + 4)) (xs (i + 5))) N S (xs (i + 1)) (xs (i + 2)) (xs (i + 3)) (xs (i + 4)) (xs (i + 5))) (hN : tq_nb z A0 s N) (hW : tq_wd D cy z H0 ad N (tq_mix S M) H) (hS : va_S (fun q => z ≤ q) s.heap H locs) (hl : lv_has ls 4 [(0, .ref b), (1, .ref (ad 1 0)), (2, .ref (ad 64 0)), (3, .int (Int32.ofNat i))])
    (kk : ∀ (N1 : tq_Nn) (S1 M1 : tq_St) (H1 : Heap) (locs1 : List Loc), I N1 S1 M1 → tq_nb z A0 s N1 → tq_wd D cy z H0 ad N1 (tq_mix S1 M1) H1 → va_S (fun q => z ≤ q) s.heap H1 locs1 → tq_Wb p l e 2048 84000 s m args below meth c z A0 N1 H1 locs1 Q (F0 m 1988 ls [])) : tq_Wb p l e 2048 84000 s m args below meth c z A0 N H locs Q (F0 m 1284 ls []) := by
  obtain ⟨hx, hb, hr, hml, hown, hts, hlocks, hK, hG⟩ := C
  refine lv_aload_n hx hb dL_law_1284 rfl (lv_at hl 1 rfl) ?_
  refine tqL_arg (k := 1) hx hb hX hbl hbz hS hl hi hL (by decide) (by decide) dL_law_1285 dL_law_1286 dL_law_1287 dL_law_1288 dL_law_1289 ?_
  refine tqL_arg (k := 2) hx hb hX hbl hbz hS hl hi hL (by decide) (by decide) dL_law_1290 dL_law_1291 dL_law_1292 dL_law_1293 dL_law_1294 ?_
  refine tqL_arg (k := 3) hx hb hX hbl hbz hS hl hi hL (by decide) (by decide) dL_law_1295 dL_law_1296 dL_law_1297 dL_law_1298 dL_law_1299 ?_
  refine tqL_arg (k := 4) hx hb hX hbl hbz hS hl hi hL (by decide) (by decide) dL_law_1300 dL_law_1301 dL_law_1302 dL_law_1303 dL_law_1304 ?_
  refine tqL_arg (k := 5) hx hb hX hbl hbz hS hl hi hL (by decide) (by decide) dL_law_1305 dL_law_1306 dL_law_1307 dL_law_1308 dL_law_1309 ?_
  refine tqb_callVi (C := "TwoSeas") (As := [.int (xs (i + 1)), .int (xs (i + 2)), .int (xs (i + 3)), .int (xs (i + 4)), .int (xs (i + 5))]) (rest := []) (kX11_council h) ⟨hx, hb, hml, hown, hts⟩ (cwV 5 hts (tq_goodV tw_1247 tw_1248 tw_1249 tw_115 tw_1250) rfl rfl rfl (by decide +kernel) ⟨(Nat.le_of_ble_eq_true rfl), (Nat.le_of_ble_eq_true rfl)⟩) (tq_recvC hK hW (by decide) (tq_mk_1 (by decide)) rfl) hK hG hW hS rfl hl.1 rfl (Nat.le_of_ble_eq_true rfl) dL_law_1310 hN (fun r N1 S1 H locs h hN hW hS => ?_)
  refine lv_aload_n hx hb dL_law_1313 rfl (lv_at hl 2 rfl) ?_
  refine tqL_arg (k := 1) hx hb hX hbl hbz hS hl hi hL (by decide) (by decide) dL_law_1314 dL_law_1315 dL_law_1316 dL_law_1317 dL_law_1318 ?_
  refine tqL_arg (k := 2) hx hb hX hbl hbz hS hl hi hL (by decide) (by decide) dL_law_1319 dL_law_1320 dL_law_1321 dL_law_1322 dL_law_1323 ?_
  refine tqL_arg (k := 3) hx hb hX hbl hbz hS hl hi hL (by decide) (by decide) dL_law_1324 dL_law_1325 dL_law_1326 dL_law_1327 dL_law_1328 ?_
  refine tqL_arg (k := 4) hx hb hX hbl hbz hS hl hi hL (by decide) (by decide) dL_law_1329 dL_law_1330 dL_law_1331 dL_law_1332 dL_law_1333 ?_
  refine tqL_arg (k := 5) hx hb hX hbl hbz hS hl hi hL (by decide) (by decide) dL_law_1334 dL_law_1335 dL_law_1336 dL_law_1337 dL_law_1338 ?_
  refine tq_callVi (As := [.int (xs (i + 1)), .int (xs (i + 2)), .int (xs (i + 3)), .int (xs (i + 4)), .int (xs (i + 5))]) (rest := [.int r]) (kX12_council h) ⟨hx, hb, hml, hown, hts⟩ (cwV 5 hts (tq_goodV tw_2011 tw_2012 tw_2013 tw_125 tw_2014) rfl rfl rfl (by decide +kernel) ⟨(Nat.le_of_ble_eq_true rfl), (Nat.le_of_ble_eq_true rfl)⟩) hK hG hW hS rfl hl.1 rfl (Nat.le_of_ble_eq_true rfl) dL_law_1339 hN.f (fun r1 M1 H locs h hW hS => ?_)
  exact lv_icmp_eq (tgt := 1988) hx hb dL_law_1342 (by decide) (fun _ => kk _ _ _ _ _ h.2 hN hW hS) (fun q => absurd h.1 q)
set_option maxHeartbeats 4000000 in
set_option maxRecDepth 100000 in
theorem tqL_c33 (C : tq_At p s m meth c args cL_law 4 (some .boolean) tqL_T RL D cy z ad) (hX : va_X b L xs s s.heap) (hbl : b < s.heap.size) (hbz : ¬ z ≤ b) (hi : i + 6 ≤ L) (hL : L ≤ 3072) (h : wpX11_wants N (fun S1 r => wpX12_wants (fun M1 r1 => r = r1 ∧ I N S1 M1) M (xs (i + 1)) (xs (i + 2)) (xs (i + 3)) (xs (i + 4))) S (xs (i + 1)) (xs (i + 2)) (xs (i + 3)) (xs (i + 4))) (hN : tq_nb z A0 s N) (hW : tq_wd D cy z H0 ad N (tq_mix S M) H) (hS : va_S (fun q => z ≤ q) s.heap H locs) (hl : lv_has ls 4 [(0, .ref b), (1, .ref (ad 1 0)), (2, .ref (ad 64 0)), (3, .int (Int32.ofNat i))])
    (kk : ∀ (N1 : tq_Nn) (S1 M1 : tq_St) (H1 : Heap) (locs1 : List Loc), I N1 S1 M1 → tq_nb z A0 s N1 → tq_wd D cy z H0 ad N1 (tq_mix S1 M1) H1 → va_S (fun q => z ≤ q) s.heap H1 locs1 → tq_Wb p l e 2048 84000 s m args below meth c z A0 N1 H1 locs1 Q (F0 m 1988 ls [])) : tq_Wb p l e 2048 84000 s m args below meth c z A0 N H locs Q (F0 m 1347 ls []) := by
  obtain ⟨hx, hb, hr, hml, hown, hts, hlocks, hK, hG⟩ := C
  refine lv_aload_n hx hb dL_law_1347 rfl (lv_at hl 1 rfl) ?_
  refine tqL_arg (k := 1) hx hb hX hbl hbz hS hl hi hL (by decide) (by decide) dL_law_1348 dL_law_1349 dL_law_1350 dL_law_1351 dL_law_1352 ?_
  refine tqL_arg (k := 2) hx hb hX hbl hbz hS hl hi hL (by decide) (by decide) dL_law_1353 dL_law_1354 dL_law_1355 dL_law_1356 dL_law_1357 ?_
  refine tqL_arg (k := 3) hx hb hX hbl hbz hS hl hi hL (by decide) (by decide) dL_law_1358 dL_law_1359 dL_law_1360 dL_law_1361 dL_law_1362 ?_
  refine tqL_arg (k := 4) hx hb hX hbl hbz hS hl hi hL (by decide) (by decide) dL_law_1363 dL_law_1364 dL_law_1365 dL_law_1366 dL_law_1367 ?_
  refine tqc_callVi (C := "TwoSeas") (As := [.int (xs (i + 1)), .int (xs (i + 2)), .int (xs (i + 3)), .int (xs (i + 4))]) (rest := []) (kX11_wants h) ⟨hx, hb, hml, hown, hts⟩ (cwV 4 hts (tq_goodV tw_1273 tw_1274 tw_1275 tw_115 tw_1276) rfl rfl rfl (by decide +kernel) ⟨(Nat.le_of_ble_eq_true rfl), (Nat.le_of_ble_eq_true rfl)⟩) (tq_recvC hK hW (by decide) (tq_mk_1 (by decide)) rfl) hK hG hW hS rfl hl.1 rfl (Nat.le_of_ble_eq_true rfl) dL_law_1368 hN.f (fun r S1 H locs h hW hS => ?_)
  refine lv_aload_n hx hb dL_law_1371 rfl (lv_at hl 2 rfl) ?_
  refine tqL_arg (k := 1) hx hb hX hbl hbz hS hl hi hL (by decide) (by decide) dL_law_1372 dL_law_1373 dL_law_1374 dL_law_1375 dL_law_1376 ?_
  refine tqL_arg (k := 2) hx hb hX hbl hbz hS hl hi hL (by decide) (by decide) dL_law_1377 dL_law_1378 dL_law_1379 dL_law_1380 dL_law_1381 ?_
  refine tqL_arg (k := 3) hx hb hX hbl hbz hS hl hi hL (by decide) (by decide) dL_law_1382 dL_law_1383 dL_law_1384 dL_law_1385 dL_law_1386 ?_
  refine tqL_arg (k := 4) hx hb hX hbl hbz hS hl hi hL (by decide) (by decide) dL_law_1387 dL_law_1388 dL_law_1389 dL_law_1390 dL_law_1391 ?_
  refine tq_callVi (As := [.int (xs (i + 1)), .int (xs (i + 2)), .int (xs (i + 3)), .int (xs (i + 4))]) (rest := [.int r]) (kX12_wants h) ⟨hx, hb, hml, hown, hts⟩ (cwV 4 hts (tq_goodV tw_2032 tw_2033 tw_2034 tw_125 tw_2035) rfl rfl rfl (by decide +kernel) ⟨(Nat.le_of_ble_eq_true rfl), (Nat.le_of_ble_eq_true rfl)⟩) hK hG hW hS rfl hl.1 rfl (Nat.le_of_ble_eq_true rfl) dL_law_1392 hN.f (fun r1 M1 H locs h hW hS => ?_)
  exact lv_icmp_eq (tgt := 1988) hx hb dL_law_1395 (by decide) (fun _ => kk _ _ _ _ _ h.2 hN hW hS) (fun q => absurd h.1 q)
set_option maxHeartbeats 4000000 in
set_option maxRecDepth 100000 in
theorem tqL_c34 (C : tq_At p s m meth c args cL_law 4 (some .boolean) tqL_T RL D cy z ad) (hX : va_X b L xs s s.heap) (hbl : b < s.heap.size) (hbz : ¬ z ≤ b) (hi : i + 6 ≤ L) (hL : L ≤ 3072) (h : wpX11_sale N (fun S1 r => wpX12_sale (fun M1 r1 => r = r1 ∧ I N S1 M1) M (xs (i + 1)) (xs (i + 2))) S (xs (i + 1)) (xs (i + 2))) (hN : tq_nb z A0 s N) (hW : tq_wd D cy z H0 ad N (tq_mix S M) H) (hS : va_S (fun q => z ≤ q) s.heap H locs) (hl : lv_has ls 4 [(0, .ref b), (1, .ref (ad 1 0)), (2, .ref (ad 64 0)), (3, .int (Int32.ofNat i))])
    (kk : ∀ (N1 : tq_Nn) (S1 M1 : tq_St) (H1 : Heap) (locs1 : List Loc), I N1 S1 M1 → tq_nb z A0 s N1 → tq_wd D cy z H0 ad N1 (tq_mix S1 M1) H1 → va_S (fun q => z ≤ q) s.heap H1 locs1 → tq_Wb p l e 2048 84000 s m args below meth c z A0 N1 H1 locs1 Q (F0 m 1988 ls [])) : tq_Wb p l e 2048 84000 s m args below meth c z A0 N H locs Q (F0 m 1400 ls []) := by
  obtain ⟨hx, hb, hr, hml, hown, hts, hlocks, hK, hG⟩ := C
  refine lv_aload_n hx hb dL_law_1400 rfl (lv_at hl 1 rfl) ?_
  refine tqL_arg (k := 1) hx hb hX hbl hbz hS hl hi hL (by decide) (by decide) dL_law_1401 dL_law_1402 dL_law_1403 dL_law_1404 dL_law_1405 ?_
  refine tqL_arg (k := 2) hx hb hX hbl hbz hS hl hi hL (by decide) (by decide) dL_law_1406 dL_law_1407 dL_law_1408 dL_law_1409 dL_law_1410 ?_
  refine tqc_callVi (C := "TwoSeas") (As := [.int (xs (i + 1)), .int (xs (i + 2))]) (rest := []) (kX11_sale h) ⟨hx, hb, hml, hown, hts⟩ (cwV 2 hts (tq_goodV tw_1277 tw_1278 tw_1279 tw_115 tw_1280) rfl rfl rfl (by decide +kernel) ⟨(Nat.le_of_ble_eq_true rfl), (Nat.le_of_ble_eq_true rfl)⟩) (tq_recvC hK hW (by decide) (tq_mk_1 (by decide)) rfl) hK hG hW hS rfl hl.1 rfl (Nat.le_of_ble_eq_true rfl) dL_law_1411 hN.f (fun r S1 H locs h hW hS => ?_)
  refine lv_aload_n hx hb dL_law_1414 rfl (lv_at hl 2 rfl) ?_
  refine tqL_arg (k := 1) hx hb hX hbl hbz hS hl hi hL (by decide) (by decide) dL_law_1415 dL_law_1416 dL_law_1417 dL_law_1418 dL_law_1419 ?_
  refine tqL_arg (k := 2) hx hb hX hbl hbz hS hl hi hL (by decide) (by decide) dL_law_1420 dL_law_1421 dL_law_1422 dL_law_1423 dL_law_1424 ?_
  refine tq_callVi (As := [.int (xs (i + 1)), .int (xs (i + 2))]) (rest := [.int r]) (kX12_sale h) ⟨hx, hb, hml, hown, hts⟩ (cwV 2 hts (tq_goodV tw_2039 tw_2040 tw_2041 tw_125 tw_2042) rfl rfl rfl (by decide +kernel) ⟨(Nat.le_of_ble_eq_true rfl), (Nat.le_of_ble_eq_true rfl)⟩) hK hG hW hS rfl hl.1 rfl (Nat.le_of_ble_eq_true rfl) dL_law_1425 hN.f (fun r1 M1 H locs h hW hS => ?_)
  exact lv_icmp_eq (tgt := 1988) hx hb dL_law_1428 (by decide) (fun _ => kk _ _ _ _ _ h.2 hN hW hS) (fun q => absurd h.1 q)
set_option maxHeartbeats 4000000 in
set_option maxRecDepth 100000 in
theorem tqL_c35 (C : tq_At p s m meth c args cL_law 4 (some .boolean) tqL_T RL D cy z ad) (hX : va_X b L xs s s.heap) (hbl : b < s.heap.size) (hbz : ¬ z ≤ b) (hi : i + 6 ≤ L) (hL : L ≤ 3072) (h : wpX11_bought N (fun S1 r => wpX12_bought (fun M1 r1 => r = r1 ∧ I N S1 M1) M (xs (i + 1)) (xs (i + 2))) S (xs (i + 1)) (xs (i + 2))) (hN : tq_nb z A0 s N) (hW : tq_wd D cy z H0 ad N (tq_mix S M) H) (hS : va_S (fun q => z ≤ q) s.heap H locs) (hl : lv_has ls 4 [(0, .ref b), (1, .ref (ad 1 0)), (2, .ref (ad 64 0)), (3, .int (Int32.ofNat i))])
    (kk : ∀ (N1 : tq_Nn) (S1 M1 : tq_St) (H1 : Heap) (locs1 : List Loc), I N1 S1 M1 → tq_nb z A0 s N1 → tq_wd D cy z H0 ad N1 (tq_mix S1 M1) H1 → va_S (fun q => z ≤ q) s.heap H1 locs1 → tq_Wb p l e 2048 84000 s m args below meth c z A0 N1 H1 locs1 Q (F0 m 1988 ls [])) : tq_Wb p l e 2048 84000 s m args below meth c z A0 N H locs Q (F0 m 1433 ls []) := by
  obtain ⟨hx, hb, hr, hml, hown, hts, hlocks, hK, hG⟩ := C
  refine lv_aload_n hx hb dL_law_1433 rfl (lv_at hl 1 rfl) ?_
  refine tqL_arg (k := 1) hx hb hX hbl hbz hS hl hi hL (by decide) (by decide) dL_law_1434 dL_law_1435 dL_law_1436 dL_law_1437 dL_law_1438 ?_
  refine tqL_arg (k := 2) hx hb hX hbl hbz hS hl hi hL (by decide) (by decide) dL_law_1439 dL_law_1440 dL_law_1441 dL_law_1442 dL_law_1443 ?_
  refine tqc_callVi (C := "TwoSeas") (As := [.int (xs (i + 1)), .int (xs (i + 2))]) (rest := []) (kX11_bought h) ⟨hx, hb, hml, hown, hts⟩ (cwV 2 hts (tq_goodV tw_1290 tw_1291 tw_1292 tw_115 tw_1293) rfl rfl rfl (by decide +kernel) ⟨(Nat.le_of_ble_eq_true rfl), (Nat.le_of_ble_eq_true rfl)⟩) (tq_recvC hK hW (by decide) (tq_mk_1 (by decide)) rfl) hK hG hW hS rfl hl.1 rfl (Nat.le_of_ble_eq_true rfl) dL_law_1444 hN.f (fun r S1 H locs h hW hS => ?_)
  refine lv_aload_n hx hb dL_law_1447 rfl (lv_at hl 2 rfl) ?_
  refine tqL_arg (k := 1) hx hb hX hbl hbz hS hl hi hL (by decide) (by decide) dL_law_1448 dL_law_1449 dL_law_1450 dL_law_1451 dL_law_1452 ?_
  refine tqL_arg (k := 2) hx hb hX hbl hbz hS hl hi hL (by decide) (by decide) dL_law_1453 dL_law_1454 dL_law_1455 dL_law_1456 dL_law_1457 ?_
  refine tq_callVi (As := [.int (xs (i + 1)), .int (xs (i + 2))]) (rest := [.int r]) (kX12_bought h) ⟨hx, hb, hml, hown, hts⟩ (cwV 2 hts (tq_goodV tw_2047 tw_2048 tw_2049 tw_125 tw_2050) rfl rfl rfl (by decide +kernel) ⟨(Nat.le_of_ble_eq_true rfl), (Nat.le_of_ble_eq_true rfl)⟩) hK hG hW hS rfl hl.1 rfl (Nat.le_of_ble_eq_true rfl) dL_law_1458 hN.f (fun r1 M1 H locs h hW hS => ?_)
  exact lv_icmp_eq (tgt := 1988) hx hb dL_law_1461 (by decide) (fun _ => kk _ _ _ _ _ h.2 hN hW hS) (fun q => absurd h.1 q)
set_option maxHeartbeats 4000000 in
set_option maxRecDepth 100000 in
theorem tqL_c36 (C : tq_At p s m meth c args cL_law 4 (some .boolean) tqL_T RL D cy z ad) (hX : va_X b L xs s s.heap) (hbl : b < s.heap.size) (hbz : ¬ z ≤ b) (hi : i + 6 ≤ L) (hL : L ≤ 3072) (h : wpX11_shares N (fun S1 r => wpX12_shares (fun M1 r1 => r = r1 ∧ I N S1 M1) M (xs (i + 1)) (xs (i + 2)) (xs (i + 3))) S (xs (i + 1)) (xs (i + 2)) (xs (i + 3))) (hN : tq_nb z A0 s N) (hW : tq_wd D cy z H0 ad N (tq_mix S M) H) (hS : va_S (fun q => z ≤ q) s.heap H locs) (hl : lv_has ls 4 [(0, .ref b), (1, .ref (ad 1 0)), (2, .ref (ad 64 0)), (3, .int (Int32.ofNat i))])
    (kk : ∀ (N1 : tq_Nn) (S1 M1 : tq_St) (H1 : Heap) (locs1 : List Loc), I N1 S1 M1 → tq_nb z A0 s N1 → tq_wd D cy z H0 ad N1 (tq_mix S1 M1) H1 → va_S (fun q => z ≤ q) s.heap H1 locs1 → tq_Wb p l e 2048 84000 s m args below meth c z A0 N1 H1 locs1 Q (F0 m 1988 ls [])) : tq_Wb p l e 2048 84000 s m args below meth c z A0 N H locs Q (F0 m 1466 ls []) := by
  obtain ⟨hx, hb, hr, hml, hown, hts, hlocks, hK, hG⟩ := C
  refine lv_aload_n hx hb dL_law_1466 rfl (lv_at hl 1 rfl) ?_
  refine tqL_arg (k := 1) hx hb hX hbl hbz hS hl hi hL (by decide) (by decide) dL_law_1467 dL_law_1468 dL_law_1469 dL_law_1470 dL_law_1471 ?_
  refine tqL_arg (k := 2) hx hb hX hbl hbz hS hl hi hL (by decide) (by decide) dL_law_1472 dL_law_1473 dL_law_1474 dL_law_1475 dL_law_1476 ?_
  refine tqL_arg (k := 3) hx hb hX hbl hbz hS hl hi hL (by decide) (by decide) dL_law_1477 dL_law_1478 dL_law_1479 dL_law_1480 dL_law_1481 ?_
  refine tqc_callVi (C := "TwoSeas") (As := [.int (xs (i + 1)), .int (xs (i + 2)), .int (xs (i + 3))]) (rest := []) (kX11_shares h) ⟨hx, hb, hml, hown, hts⟩ (cwV 3 hts (tq_goodV tw_1294 tw_1295 tw_1296 tw_115 tw_1297) rfl rfl rfl (by decide +kernel) ⟨(Nat.le_of_ble_eq_true rfl), (Nat.le_of_ble_eq_true rfl)⟩) (tq_recvC hK hW (by decide) (tq_mk_1 (by decide)) rfl) hK hG hW hS rfl hl.1 rfl (Nat.le_of_ble_eq_true rfl) dL_law_1482 hN.f (fun r S1 H locs h hW hS => ?_)
  refine lv_aload_n hx hb dL_law_1485 rfl (lv_at hl 2 rfl) ?_
  refine tqL_arg (k := 1) hx hb hX hbl hbz hS hl hi hL (by decide) (by decide) dL_law_1486 dL_law_1487 dL_law_1488 dL_law_1489 dL_law_1490 ?_
  refine tqL_arg (k := 2) hx hb hX hbl hbz hS hl hi hL (by decide) (by decide) dL_law_1491 dL_law_1492 dL_law_1493 dL_law_1494 dL_law_1495 ?_
  refine tqL_arg (k := 3) hx hb hX hbl hbz hS hl hi hL (by decide) (by decide) dL_law_1496 dL_law_1497 dL_law_1498 dL_law_1499 dL_law_1500 ?_
  refine tq_callVi (As := [.int (xs (i + 1)), .int (xs (i + 2)), .int (xs (i + 3))]) (rest := [.int r]) (kX12_shares h) ⟨hx, hb, hml, hown, hts⟩ (cwV 3 hts (tq_goodV tw_2051 tw_2052 tw_2053 tw_125 tw_2054) rfl rfl rfl (by decide +kernel) ⟨(Nat.le_of_ble_eq_true rfl), (Nat.le_of_ble_eq_true rfl)⟩) hK hG hW hS rfl hl.1 rfl (Nat.le_of_ble_eq_true rfl) dL_law_1501 hN.f (fun r1 M1 H locs h hW hS => ?_)
  exact lv_icmp_eq (tgt := 1988) hx hb dL_law_1504 (by decide) (fun _ => kk _ _ _ _ _ h.2 hN hW hS) (fun q => absurd h.1 q)
set_option maxHeartbeats 4000000 in
set_option maxRecDepth 100000 in
theorem tqL_c37 (C : tq_At p s m meth c args cL_law 4 (some .boolean) tqL_T RL D cy z ad) (hX : va_X b L xs s s.heap) (hbl : b < s.heap.size) (hbz : ¬ z ≤ b) (hi : i + 6 ≤ L) (hL : L ≤ 3072) (h : wpX11_gain N (fun S1 r => wpX12_gain (fun M1 r1 => r = r1 ∧ I N S1 M1) M ) S) (hN : tq_nb z A0 s N) (hW : tq_wd D cy z H0 ad N (tq_mix S M) H) (hS : va_S (fun q => z ≤ q) s.heap H locs) (hl : lv_has ls 4 [(0, .ref b), (1, .ref (ad 1 0)), (2, .ref (ad 64 0)), (3, .int (Int32.ofNat i))])
    (kk : ∀ (N1 : tq_Nn) (S1 M1 : tq_St) (H1 : Heap) (locs1 : List Loc), I N1 S1 M1 → tq_nb z A0 s N1 → tq_wd D cy z H0 ad N1 (tq_mix S1 M1) H1 → va_S (fun q => z ≤ q) s.heap H1 locs1 → tq_Wb p l e 2048 84000 s m args below meth c z A0 N1 H1 locs1 Q (F0 m 1988 ls [])) : tq_Wb p l e 2048 84000 s m args below meth c z A0 N H locs Q (F0 m 1509 ls []) := by
  obtain ⟨hx, hb, hr, hml, hown, hts, hlocks, hK, hG⟩ := C
  refine lv_aload_n hx hb dL_law_1509 rfl (lv_at hl 1 rfl) ?_
  refine tqc_callVi (C := "TwoSeas") (As := []) (rest := []) (kX11_gain h) ⟨hx, hb, hml, hown, hts⟩ (cwV 0 hts (tq_goodV tw_1301 tw_1302 tw_1303 tw_115 tw_1304) rfl rfl rfl (by decide +kernel) ⟨(Nat.le_of_ble_eq_true rfl), (Nat.le_of_ble_eq_true rfl)⟩) (tq_recvC hK hW (by decide) (tq_mk_1 (by decide)) rfl) hK hG hW hS rfl hl.1 rfl (Nat.le_of_ble_eq_true rfl) dL_law_1510 hN.f (fun r S1 H locs h hW hS => ?_)
  refine lv_aload_n hx hb dL_law_1513 rfl (lv_at hl 2 rfl) ?_
  refine tq_callVi (As := []) (rest := [.int r]) (kX12_gain h) ⟨hx, hb, hml, hown, hts⟩ (cwV 0 hts (tq_goodV tw_2055 tw_2056 tw_2057 tw_125 tw_2058) rfl rfl rfl (by decide +kernel) ⟨(Nat.le_of_ble_eq_true rfl), (Nat.le_of_ble_eq_true rfl)⟩) hK hG hW hS rfl hl.1 rfl (Nat.le_of_ble_eq_true rfl) dL_law_1514 hN.f (fun r1 M1 H locs h hW hS => ?_)
  exact lv_icmp_eq (tgt := 1988) hx hb dL_law_1517 (by decide) (fun _ => kk _ _ _ _ _ h.2 hN hW hS) (fun q => absurd h.1 q)
set_option maxHeartbeats 4000000 in
set_option maxRecDepth 100000 in
theorem tqL_c38 (C : tq_At p s m meth c args cL_law 4 (some .boolean) tqL_T RL D cy z ad) (hX : va_X b L xs s s.heap) (hbl : b < s.heap.size) (hbz : ¬ z ≤ b) (hi : i + 6 ≤ L) (hL : L ≤ 3072) (h : wpX11_divide N (fun S1 r => wpX12_divide (fun M1 r1 => r = r1 ∧ I N S1 M1) M (xs (i + 1))) S (xs (i + 1))) (hN : tq_nb z A0 s N) (hW : tq_wd D cy z H0 ad N (tq_mix S M) H) (hS : va_S (fun q => z ≤ q) s.heap H locs) (hl : lv_has ls 4 [(0, .ref b), (1, .ref (ad 1 0)), (2, .ref (ad 64 0)), (3, .int (Int32.ofNat i))])
    (kk : ∀ (N1 : tq_Nn) (S1 M1 : tq_St) (H1 : Heap) (locs1 : List Loc), I N1 S1 M1 → tq_nb z A0 s N1 → tq_wd D cy z H0 ad N1 (tq_mix S1 M1) H1 → va_S (fun q => z ≤ q) s.heap H1 locs1 → tq_Wb p l e 2048 84000 s m args below meth c z A0 N1 H1 locs1 Q (F0 m 1988 ls [])) : tq_Wb p l e 2048 84000 s m args below meth c z A0 N H locs Q (F0 m 1522 ls []) := by
  obtain ⟨hx, hb, hr, hml, hown, hts, hlocks, hK, hG⟩ := C
  refine lv_aload_n hx hb dL_law_1522 rfl (lv_at hl 1 rfl) ?_
  refine tqL_arg (k := 1) hx hb hX hbl hbz hS hl hi hL (by decide) (by decide) dL_law_1523 dL_law_1524 dL_law_1525 dL_law_1526 dL_law_1527 ?_
  refine tqc_callVi (C := "TwoSeas") (As := [.int (xs (i + 1))]) (rest := []) (kX11_divide h) ⟨hx, hb, hml, hown, hts⟩ (cwV 1 hts (tq_goodV tw_1309 tw_1310 tw_1311 tw_115 tw_1312) rfl rfl rfl (by decide +kernel) ⟨(Nat.le_of_ble_eq_true rfl), (Nat.le_of_ble_eq_true rfl)⟩) (tq_recvC hK hW (by decide) (tq_mk_1 (by decide)) rfl) hK hG hW hS rfl hl.1 rfl (Nat.le_of_ble_eq_true rfl) dL_law_1528 hN.f (fun r S1 H locs h hW hS => ?_)
  refine lv_aload_n hx hb dL_law_1531 rfl (lv_at hl 2 rfl) ?_
  refine tqL_arg (k := 1) hx hb hX hbl hbz hS hl hi hL (by decide) (by decide) dL_law_1532 dL_law_1533 dL_law_1534 dL_law_1535 dL_law_1536 ?_
  refine tq_callVi (As := [.int (xs (i + 1))]) (rest := [.int r]) (kX12_divide h) ⟨hx, hb, hml, hown, hts⟩ (cwV 1 hts (tq_goodV tw_2063 tw_2064 tw_2065 tw_125 tw_2066) rfl rfl rfl (by decide +kernel) ⟨(Nat.le_of_ble_eq_true rfl), (Nat.le_of_ble_eq_true rfl)⟩) hK hG hW hS rfl hl.1 rfl (Nat.le_of_ble_eq_true rfl) dL_law_1537 hN.f (fun r1 M1 H locs h hW hS => ?_)
  exact lv_icmp_eq (tgt := 1988) hx hb dL_law_1540 (by decide) (fun _ => kk _ _ _ _ _ h.2 hN hW hS) (fun q => absurd h.1 q)
set_option maxHeartbeats 4000000 in
set_option maxRecDepth 100000 in
theorem tqL_c39 (C : tq_At p s m meth c args cL_law 4 (some .boolean) tqL_T RL D cy z ad) (hX : va_X b L xs s s.heap) (hbl : b < s.heap.size) (hbz : ¬ z ≤ b) (hi : i + 6 ≤ L) (hL : L ≤ 3072) (h : wpX11_holder N (fun S1 r => wpX12_holder (fun M1 r1 => r = r1 ∧ I N S1 M1) M (xs (i + 1)) (xs (i + 2))) S (xs (i + 1)) (xs (i + 2))) (hN : tq_nb z A0 s N) (hW : tq_wd D cy z H0 ad N (tq_mix S M) H) (hS : va_S (fun q => z ≤ q) s.heap H locs) (hl : lv_has ls 4 [(0, .ref b), (1, .ref (ad 1 0)), (2, .ref (ad 64 0)), (3, .int (Int32.ofNat i))])
    (kk : ∀ (N1 : tq_Nn) (S1 M1 : tq_St) (H1 : Heap) (locs1 : List Loc), I N1 S1 M1 → tq_nb z A0 s N1 → tq_wd D cy z H0 ad N1 (tq_mix S1 M1) H1 → va_S (fun q => z ≤ q) s.heap H1 locs1 → tq_Wb p l e 2048 84000 s m args below meth c z A0 N1 H1 locs1 Q (F0 m 1988 ls [])) : tq_Wb p l e 2048 84000 s m args below meth c z A0 N H locs Q (F0 m 1545 ls []) := by
  obtain ⟨hx, hb, hr, hml, hown, hts, hlocks, hK, hG⟩ := C
  refine lv_aload_n hx hb dL_law_1545 rfl (lv_at hl 1 rfl) ?_
  refine tqL_arg (k := 1) hx hb hX hbl hbz hS hl hi hL (by decide) (by decide) dL_law_1546 dL_law_1547 dL_law_1548 dL_law_1549 dL_law_1550 ?_
  refine tqL_arg (k := 2) hx hb hX hbl hbz hS hl hi hL (by decide) (by decide) dL_law_1551 dL_law_1552 dL_law_1553 dL_law_1554 dL_law_1555 ?_
  refine tqc_callVi (C := "TwoSeas") (As := [.int (xs (i + 1)), .int (xs (i + 2))]) (rest := []) (kX11_holder h) ⟨hx, hb, hml, hown, hts⟩ (cwV 2 hts (tq_goodV tw_1315 tw_1316 tw_1317 tw_115 tw_1318) rfl rfl rfl (by decide +kernel) ⟨(Nat.le_of_ble_eq_true rfl), (Nat.le_of_ble_eq_true rfl)⟩) (tq_recvC hK hW (by decide) (tq_mk_1 (by decide)) rfl) hK hG hW hS rfl hl.1 rfl (Nat.le_of_ble_eq_true rfl) dL_law_1556 hN.f (fun r S1 H locs h hW hS => ?_)
  refine lv_aload_n hx hb dL_law_1559 rfl (lv_at hl 2 rfl) ?_
  refine tqL_arg (k := 1) hx hb hX hbl hbz hS hl hi hL (by decide) (by decide) dL_law_1560 dL_law_1561 dL_law_1562 dL_law_1563 dL_law_1564 ?_
  refine tqL_arg (k := 2) hx hb hX hbl hbz hS hl hi hL (by decide) (by decide) dL_law_1565 dL_law_1566 dL_law_1567 dL_law_1568 dL_law_1569 ?_
  refine tq_callVi (As := [.int (xs (i + 1)), .int (xs (i + 2))]) (rest := [.int r]) (kX12_holder h) ⟨hx, hb, hml, hown, hts⟩ (cwV 2 hts (tq_goodV tw_2069 tw_2070 tw_2071 tw_125 tw_2072) rfl rfl rfl (by decide +kernel) ⟨(Nat.le_of_ble_eq_true rfl), (Nat.le_of_ble_eq_true rfl)⟩) hK hG hW hS rfl hl.1 rfl (Nat.le_of_ble_eq_true rfl) dL_law_1570 hN.f (fun r1 M1 H locs h hW hS => ?_)
  exact lv_icmp_eq (tgt := 1988) hx hb dL_law_1573 (by decide) (fun _ => kk _ _ _ _ _ h.2 hN hW hS) (fun q => absurd h.1 q)
set_option maxHeartbeats 4000000 in
set_option maxRecDepth 100000 in
theorem tqL_c40 (C : tq_At p s m meth c args cL_law 4 (some .boolean) tqL_T RL D cy z ad) (hX : va_X b L xs s s.heap) (hbl : b < s.heap.size) (hbz : ¬ z ≤ b) (hi : i + 6 ≤ L) (hL : L ≤ 3072) (h : wpX11_heard N (fun S1 r => wpX12_heard (fun M1 r1 => r = r1 ∧ I N S1 M1) M (xs (i + 1)) (xs (i + 2)) (xs (i + 3))) S (xs (i + 1)) (xs (i + 2)) (xs (i + 3))) (hN : tq_nb z A0 s N) (hW : tq_wd D cy z H0 ad N (tq_mix S M) H) (hS : va_S (fun q => z ≤ q) s.heap H locs) (hl : lv_has ls 4 [(0, .ref b), (1, .ref (ad 1 0)), (2, .ref (ad 64 0)), (3, .int (Int32.ofNat i))])
    (kk : ∀ (N1 : tq_Nn) (S1 M1 : tq_St) (H1 : Heap) (locs1 : List Loc), I N1 S1 M1 → tq_nb z A0 s N1 → tq_wd D cy z H0 ad N1 (tq_mix S1 M1) H1 → va_S (fun q => z ≤ q) s.heap H1 locs1 → tq_Wb p l e 2048 84000 s m args below meth c z A0 N1 H1 locs1 Q (F0 m 1988 ls [])) : tq_Wb p l e 2048 84000 s m args below meth c z A0 N H locs Q (F0 m 1578 ls []) := by
  obtain ⟨hx, hb, hr, hml, hown, hts, hlocks, hK, hG⟩ := C
  refine lv_aload_n hx hb dL_law_1578 rfl (lv_at hl 1 rfl) ?_
  refine tqL_arg (k := 1) hx hb hX hbl hbz hS hl hi hL (by decide) (by decide) dL_law_1579 dL_law_1580 dL_law_1581 dL_law_1582 dL_law_1583 ?_
  refine tqL_arg (k := 2) hx hb hX hbl hbz hS hl hi hL (by decide) (by decide) dL_law_1584 dL_law_1585 dL_law_1586 dL_law_1587 dL_law_1588 ?_
  refine tqL_arg (k := 3) hx hb hX hbl hbz hS hl hi hL (by decide) (by decide) dL_law_1589 dL_law_1590 dL_law_1591 dL_law_1592 dL_law_1593 ?_
  refine tqc_callVi (C := "TwoSeas") (As := [.int (xs (i + 1)), .int (xs (i + 2)), .int (xs (i + 3))]) (rest := []) (kX11_heard h) ⟨hx, hb, hml, hown, hts⟩ (cwV 3 hts (tq_goodV tw_1319 tw_1320 tw_1321 tw_115 tw_1322) rfl rfl rfl (by decide +kernel) ⟨(Nat.le_of_ble_eq_true rfl), (Nat.le_of_ble_eq_true rfl)⟩) (tq_recvC hK hW (by decide) (tq_mk_1 (by decide)) rfl) hK hG hW hS rfl hl.1 rfl (Nat.le_of_ble_eq_true rfl) dL_law_1594 hN.f (fun r S1 H locs h hW hS => ?_)
  refine lv_aload_n hx hb dL_law_1597 rfl (lv_at hl 2 rfl) ?_
  refine tqL_arg (k := 1) hx hb hX hbl hbz hS hl hi hL (by decide) (by decide) dL_law_1598 dL_law_1599 dL_law_1600 dL_law_1601 dL_law_1602 ?_
  refine tqL_arg (k := 2) hx hb hX hbl hbz hS hl hi hL (by decide) (by decide) dL_law_1603 dL_law_1604 dL_law_1605 dL_law_1606 dL_law_1607 ?_
  refine tqL_arg (k := 3) hx hb hX hbl hbz hS hl hi hL (by decide) (by decide) dL_law_1608 dL_law_1609 dL_law_1610 dL_law_1611 dL_law_1612 ?_
  refine tq_callVi (As := [.int (xs (i + 1)), .int (xs (i + 2)), .int (xs (i + 3))]) (rest := [.int r]) (kX12_heard h) ⟨hx, hb, hml, hown, hts⟩ (cwV 3 hts (tq_goodV tw_2073 tw_2074 tw_2075 tw_125 tw_2076) rfl rfl rfl (by decide +kernel) ⟨(Nat.le_of_ble_eq_true rfl), (Nat.le_of_ble_eq_true rfl)⟩) hK hG hW hS rfl hl.1 rfl (Nat.le_of_ble_eq_true rfl) dL_law_1613 hN.f (fun r1 M1 H locs h hW hS => ?_)
  exact lv_icmp_eq (tgt := 1988) hx hb dL_law_1616 (by decide) (fun _ => kk _ _ _ _ _ h.2 hN hW hS) (fun q => absurd h.1 q)
set_option maxHeartbeats 4000000 in
set_option maxRecDepth 100000 in
theorem tqL_c41 (C : tq_At p s m meth c args cL_law 4 (some .boolean) tqL_T RL D cy z ad) (hX : va_X b L xs s s.heap) (hbl : b < s.heap.size) (hbz : ¬ z ≤ b) (hi : i + 6 ≤ L) (hL : L ≤ 3072) (h : wpX11_year N (fun S1 r => wpX12_year (fun M1 r1 => r = r1 ∧ I N S1 M1) M (xs (i + 1)) (xs (i + 2)) (xs (i + 3))) S (xs (i + 1)) (xs (i + 2)) (xs (i + 3))) (hN : tq_nb z A0 s N) (hW : tq_wd D cy z H0 ad N (tq_mix S M) H) (hS : va_S (fun q => z ≤ q) s.heap H locs) (hl : lv_has ls 4 [(0, .ref b), (1, .ref (ad 1 0)), (2, .ref (ad 64 0)), (3, .int (Int32.ofNat i))])
    (kk : ∀ (N1 : tq_Nn) (S1 M1 : tq_St) (H1 : Heap) (locs1 : List Loc), I N1 S1 M1 → tq_nb z A0 s N1 → tq_wd D cy z H0 ad N1 (tq_mix S1 M1) H1 → va_S (fun q => z ≤ q) s.heap H1 locs1 → tq_Wb p l e 2048 84000 s m args below meth c z A0 N1 H1 locs1 Q (F0 m 1988 ls [])) : tq_Wb p l e 2048 84000 s m args below meth c z A0 N H locs Q (F0 m 1621 ls []) := by
  obtain ⟨hx, hb, hr, hml, hown, hts, hlocks, hK, hG⟩ := C
  refine lv_aload_n hx hb dL_law_1621 rfl (lv_at hl 1 rfl) ?_
  refine tqL_arg (k := 1) hx hb hX hbl hbz hS hl hi hL (by decide) (by decide) dL_law_1622 dL_law_1623 dL_law_1624 dL_law_1625 dL_law_1626 ?_
  refine tqL_arg (k := 2) hx hb hX hbl hbz hS hl hi hL (by decide) (by decide) dL_law_1627 dL_law_1628 dL_law_1629 dL_law_1630 dL_law_1631 ?_
  refine tqL_arg (k := 3) hx hb hX hbl hbz hS hl hi hL (by decide) (by decide) dL_law_1632 dL_law_1633 dL_law_1634 dL_law_1635 dL_law_1636 ?_
  refine tqc_callVi (C := "TwoSeas") (As := [.int (xs (i + 1)), .int (xs (i + 2)), .int (xs (i + 3))]) (rest := []) (kX11_year h) ⟨hx, hb, hml, hown, hts⟩ (cwV 3 hts (tq_goodV tw_1323 tw_1324 tw_1325 tw_115 tw_1326) rfl rfl rfl (by decide +kernel) ⟨(Nat.le_of_ble_eq_true rfl), (Nat.le_of_ble_eq_true rfl)⟩) (tq_recvC hK hW (by decide) (tq_mk_1 (by decide)) rfl) hK hG hW hS rfl hl.1 rfl (Nat.le_of_ble_eq_true rfl) dL_law_1637 hN.f (fun r S1 H locs h hW hS => ?_)
  refine lv_aload_n hx hb dL_law_1640 rfl (lv_at hl 2 rfl) ?_
  refine tqL_arg (k := 1) hx hb hX hbl hbz hS hl hi hL (by decide) (by decide) dL_law_1641 dL_law_1642 dL_law_1643 dL_law_1644 dL_law_1645 ?_
  refine tqL_arg (k := 2) hx hb hX hbl hbz hS hl hi hL (by decide) (by decide) dL_law_1646 dL_law_1647 dL_law_1648 dL_law_1649 dL_law_1650 ?_
  refine tqL_arg (k := 3) hx hb hX hbl hbz hS hl hi hL (by decide) (by decide) dL_law_1651 dL_law_1652 dL_law_1653 dL_law_1654 dL_law_1655 ?_
  refine tq_callVi (As := [.int (xs (i + 1)), .int (xs (i + 2)), .int (xs (i + 3))]) (rest := [.int r]) (kX12_year h) ⟨hx, hb, hml, hown, hts⟩ (cwV 3 hts (tq_goodV tw_2077 tw_2078 tw_2079 tw_125 tw_2080) rfl rfl rfl (by decide +kernel) ⟨(Nat.le_of_ble_eq_true rfl), (Nat.le_of_ble_eq_true rfl)⟩) hK hG hW hS rfl hl.1 rfl (Nat.le_of_ble_eq_true rfl) dL_law_1656 hN.f (fun r1 M1 H locs h hW hS => ?_)
  exact lv_icmp_eq (tgt := 1988) hx hb dL_law_1659 (by decide) (fun _ => kk _ _ _ _ _ h.2 hN hW hS) (fun q => absurd h.1 q)
set_option maxHeartbeats 4000000 in
set_option maxRecDepth 100000 in
theorem tqL_c42 (C : tq_At p s m meth c args cL_law 4 (some .boolean) tqL_T RL D cy z ad) (hX : va_X b L xs s s.heap) (hbl : b < s.heap.size) (hbz : ¬ z ≤ b) (hi : i + 6 ≤ L) (hL : L ≤ 3072) (h : wpX11_plan (fun N1 S1 r => wpX12_plan (fun M1 r1 => r = r1 ∧ I N1 S1 M1) M (xs (i + 1)) (xs (i + 2)) (xs (i + 3)) (xs (i + 4))) N S (xs (i + 1)) (xs (i + 2)) (xs (i + 3)) (xs (i + 4))) (hN : tq_nb z A0 s N) (hW : tq_wd D cy z H0 ad N (tq_mix S M) H) (hS : va_S (fun q => z ≤ q) s.heap H locs) (hl : lv_has ls 4 [(0, .ref b), (1, .ref (ad 1 0)), (2, .ref (ad 64 0)), (3, .int (Int32.ofNat i))])
    (kk : ∀ (N1 : tq_Nn) (S1 M1 : tq_St) (H1 : Heap) (locs1 : List Loc), I N1 S1 M1 → tq_nb z A0 s N1 → tq_wd D cy z H0 ad N1 (tq_mix S1 M1) H1 → va_S (fun q => z ≤ q) s.heap H1 locs1 → tq_Wb p l e 2048 84000 s m args below meth c z A0 N1 H1 locs1 Q (F0 m 1988 ls [])) : tq_Wb p l e 2048 84000 s m args below meth c z A0 N H locs Q (F0 m 1664 ls []) := by
  obtain ⟨hx, hb, hr, hml, hown, hts, hlocks, hK, hG⟩ := C
  refine lv_aload_n hx hb dL_law_1664 rfl (lv_at hl 1 rfl) ?_
  refine tqL_arg (k := 1) hx hb hX hbl hbz hS hl hi hL (by decide) (by decide) dL_law_1665 dL_law_1666 dL_law_1667 dL_law_1668 dL_law_1669 ?_
  refine tqL_arg (k := 2) hx hb hX hbl hbz hS hl hi hL (by decide) (by decide) dL_law_1670 dL_law_1671 dL_law_1672 dL_law_1673 dL_law_1674 ?_
  refine tqL_arg (k := 3) hx hb hX hbl hbz hS hl hi hL (by decide) (by decide) dL_law_1675 dL_law_1676 dL_law_1677 dL_law_1678 dL_law_1679 ?_
  refine tqL_arg (k := 4) hx hb hX hbl hbz hS hl hi hL (by decide) (by decide) dL_law_1680 dL_law_1681 dL_law_1682 dL_law_1683 dL_law_1684 ?_
  refine tqb_callVi (C := "TwoSeas") (As := [.int (xs (i + 1)), .int (xs (i + 2)), .int (xs (i + 3)), .int (xs (i + 4))]) (rest := []) (kX11_plan h) ⟨hx, hb, hml, hown, hts⟩ (cwV 4 hts (tq_goodV tw_1327 tw_1328 tw_1329 tw_115 tw_1330) rfl rfl rfl (by decide +kernel) ⟨(Nat.le_of_ble_eq_true rfl), (Nat.le_of_ble_eq_true rfl)⟩) (tq_recvC hK hW (by decide) (tq_mk_1 (by decide)) rfl) hK hG hW hS rfl hl.1 rfl (Nat.le_of_ble_eq_true rfl) dL_law_1685 hN (fun r N1 S1 H locs h hN hW hS => ?_)
  refine lv_aload_n hx hb dL_law_1688 rfl (lv_at hl 2 rfl) ?_
  refine tqL_arg (k := 1) hx hb hX hbl hbz hS hl hi hL (by decide) (by decide) dL_law_1689 dL_law_1690 dL_law_1691 dL_law_1692 dL_law_1693 ?_
  refine tqL_arg (k := 2) hx hb hX hbl hbz hS hl hi hL (by decide) (by decide) dL_law_1694 dL_law_1695 dL_law_1696 dL_law_1697 dL_law_1698 ?_
  refine tqL_arg (k := 3) hx hb hX hbl hbz hS hl hi hL (by decide) (by decide) dL_law_1699 dL_law_1700 dL_law_1701 dL_law_1702 dL_law_1703 ?_
  refine tqL_arg (k := 4) hx hb hX hbl hbz hS hl hi hL (by decide) (by decide) dL_law_1704 dL_law_1705 dL_law_1706 dL_law_1707 dL_law_1708 ?_
  refine tq_callVi (As := [.int (xs (i + 1)), .int (xs (i + 2)), .int (xs (i + 3)), .int (xs (i + 4))]) (rest := [.int r]) (kX12_plan h) ⟨hx, hb, hml, hown, hts⟩ (cwV 4 hts (tq_goodV tw_2081 tw_2082 tw_2083 tw_125 tw_2084) rfl rfl rfl (by decide +kernel) ⟨(Nat.le_of_ble_eq_true rfl), (Nat.le_of_ble_eq_true rfl)⟩) hK hG hW hS rfl hl.1 rfl (Nat.le_of_ble_eq_true rfl) dL_law_1709 hN.f (fun r1 M1 H locs h hW hS => ?_)
  exact lv_icmp_eq (tgt := 1988) hx hb dL_law_1712 (by decide) (fun _ => kk _ _ _ _ _ h.2 hN hW hS) (fun q => absurd h.1 q)
set_option maxHeartbeats 4000000 in
set_option maxRecDepth 100000 in
theorem tqL_c43 (C : tq_At p s m meth c args cL_law 4 (some .boolean) tqL_T RL D cy z ad) (hX : va_X b L xs s s.heap) (hbl : b < s.heap.size) (hbz : ¬ z ≤ b) (hi : i + 6 ≤ L) (hL : L ≤ 3072) (h : wpX11_act N (fun S1 r => wpX12_act (fun M1 r1 => r = r1 ∧ I N S1 M1) M (xs (i + 1)) (xs (i + 2)) (xs (i + 3))) S (xs (i + 1)) (xs (i + 2)) (xs (i + 3))) (hN : tq_nb z A0 s N) (hW : tq_wd D cy z H0 ad N (tq_mix S M) H) (hS : va_S (fun q => z ≤ q) s.heap H locs) (hl : lv_has ls 4 [(0, .ref b), (1, .ref (ad 1 0)), (2, .ref (ad 64 0)), (3, .int (Int32.ofNat i))])
    (kk : ∀ (N1 : tq_Nn) (S1 M1 : tq_St) (H1 : Heap) (locs1 : List Loc), I N1 S1 M1 → tq_nb z A0 s N1 → tq_wd D cy z H0 ad N1 (tq_mix S1 M1) H1 → va_S (fun q => z ≤ q) s.heap H1 locs1 → tq_Wb p l e 2048 84000 s m args below meth c z A0 N1 H1 locs1 Q (F0 m 1988 ls [])) : tq_Wb p l e 2048 84000 s m args below meth c z A0 N H locs Q (F0 m 1717 ls []) := by
  obtain ⟨hx, hb, hr, hml, hown, hts, hlocks, hK, hG⟩ := C
  refine lv_aload_n hx hb dL_law_1717 rfl (lv_at hl 1 rfl) ?_
  refine tqL_arg (k := 1) hx hb hX hbl hbz hS hl hi hL (by decide) (by decide) dL_law_1718 dL_law_1719 dL_law_1720 dL_law_1721 dL_law_1722 ?_
  refine tqL_arg (k := 2) hx hb hX hbl hbz hS hl hi hL (by decide) (by decide) dL_law_1723 dL_law_1724 dL_law_1725 dL_law_1726 dL_law_1727 ?_
  refine tqL_arg (k := 3) hx hb hX hbl hbz hS hl hi hL (by decide) (by decide) dL_law_1728 dL_law_1729 dL_law_1730 dL_law_1731 dL_law_1732 ?_
  refine tqc_callVi (C := "TwoSeas") (As := [.int (xs (i + 1)), .int (xs (i + 2)), .int (xs (i + 3))]) (rest := []) (kX11_act h) ⟨hx, hb, hml, hown, hts⟩ (cwV 3 hts (tq_goodV tw_1340 tw_1341 tw_1342 tw_115 tw_1343) rfl rfl rfl (by decide +kernel) ⟨(Nat.le_of_ble_eq_true rfl), (Nat.le_of_ble_eq_true rfl)⟩) (tq_recvC hK hW (by decide) (tq_mk_1 (by decide)) rfl) hK hG hW hS rfl hl.1 rfl (Nat.le_of_ble_eq_true rfl) dL_law_1733 hN.f (fun r S1 H locs h hW hS => ?_)
  refine lv_aload_n hx hb dL_law_1736 rfl (lv_at hl 2 rfl) ?_
  refine tqL_arg (k := 1) hx hb hX hbl hbz hS hl hi hL (by decide) (by decide) dL_law_1737 dL_law_1738 dL_law_1739 dL_law_1740 dL_law_1741 ?_
  refine tqL_arg (k := 2) hx hb hX hbl hbz hS hl hi hL (by decide) (by decide) dL_law_1742 dL_law_1743 dL_law_1744 dL_law_1745 dL_law_1746 ?_
  refine tqL_arg (k := 3) hx hb hX hbl hbz hS hl hi hL (by decide) (by decide) dL_law_1747 dL_law_1748 dL_law_1749 dL_law_1750 dL_law_1751 ?_
  refine tq_callVi (As := [.int (xs (i + 1)), .int (xs (i + 2)), .int (xs (i + 3))]) (rest := [.int r]) (kX12_act h) ⟨hx, hb, hml, hown, hts⟩ (cwV 3 hts (tq_goodV tw_2092 tw_2093 tw_2094 tw_125 tw_2095) rfl rfl rfl (by decide +kernel) ⟨(Nat.le_of_ble_eq_true rfl), (Nat.le_of_ble_eq_true rfl)⟩) hK hG hW hS rfl hl.1 rfl (Nat.le_of_ble_eq_true rfl) dL_law_1752 hN.f (fun r1 M1 H locs h hW hS => ?_)
  exact lv_icmp_eq (tgt := 1988) hx hb dL_law_1755 (by decide) (fun _ => kk _ _ _ _ _ h.2 hN hW hS) (fun q => absurd h.1 q)
set_option maxHeartbeats 4000000 in
set_option maxRecDepth 100000 in
theorem tqL_c44 (C : tq_At p s m meth c args cL_law 4 (some .boolean) tqL_T RL D cy z ad) (hX : va_X b L xs s s.heap) (hbl : b < s.heap.size) (hbz : ¬ z ≤ b) (hi : i + 6 ≤ L) (hL : L ≤ 3072) (h : wpX11_trace N (fun S1 r => wpX12_trace (fun M1 r1 => r = r1 ∧ I N S1 M1) M (xs (i + 1))) S (xs (i + 1))) (hN : tq_nb z A0 s N) (hW : tq_wd D cy z H0 ad N (tq_mix S M) H) (hS : va_S (fun q => z ≤ q) s.heap H locs) (hl : lv_has ls 4 [(0, .ref b), (1, .ref (ad 1 0)), (2, .ref (ad 64 0)), (3, .int (Int32.ofNat i))])
    (kk : ∀ (N1 : tq_Nn) (S1 M1 : tq_St) (H1 : Heap) (locs1 : List Loc), I N1 S1 M1 → tq_nb z A0 s N1 → tq_wd D cy z H0 ad N1 (tq_mix S1 M1) H1 → va_S (fun q => z ≤ q) s.heap H1 locs1 → tq_Wb p l e 2048 84000 s m args below meth c z A0 N1 H1 locs1 Q (F0 m 1988 ls [])) : tq_Wb p l e 2048 84000 s m args below meth c z A0 N H locs Q (F0 m 1760 ls []) := by
  obtain ⟨hx, hb, hr, hml, hown, hts, hlocks, hK, hG⟩ := C
  refine lv_aload_n hx hb dL_law_1760 rfl (lv_at hl 1 rfl) ?_
  refine tqL_arg (k := 1) hx hb hX hbl hbz hS hl hi hL (by decide) (by decide) dL_law_1761 dL_law_1762 dL_law_1763 dL_law_1764 dL_law_1765 ?_
  refine tqc_callVi (C := "TwoSeas") (As := [.int (xs (i + 1))]) (rest := []) (kX11_trace h) ⟨hx, hb, hml, hown, hts⟩ (cwV 1 hts (tq_goodV tw_1364 tw_1365 tw_1366 tw_115 tw_1367) rfl rfl rfl (by decide +kernel) ⟨(Nat.le_of_ble_eq_true rfl), (Nat.le_of_ble_eq_true rfl)⟩) (tq_recvC hK hW (by decide) (tq_mk_1 (by decide)) rfl) hK hG hW hS rfl hl.1 rfl (Nat.le_of_ble_eq_true rfl) dL_law_1766 hN.f (fun r S1 H locs h hW hS => ?_)
  refine lv_aload_n hx hb dL_law_1769 rfl (lv_at hl 2 rfl) ?_
  refine tqL_arg (k := 1) hx hb hX hbl hbz hS hl hi hL (by decide) (by decide) dL_law_1770 dL_law_1771 dL_law_1772 dL_law_1773 dL_law_1774 ?_
  refine tq_callVi (As := [.int (xs (i + 1))]) (rest := [.int r]) (kX12_trace h) ⟨hx, hb, hml, hown, hts⟩ (cwV 1 hts (tq_goodV tw_2106 tw_2107 tw_2108 tw_125 tw_2109) rfl rfl rfl (by decide +kernel) ⟨(Nat.le_of_ble_eq_true rfl), (Nat.le_of_ble_eq_true rfl)⟩) hK hG hW hS rfl hl.1 rfl (Nat.le_of_ble_eq_true rfl) dL_law_1775 hN.f (fun r1 M1 H locs h hW hS => ?_)
  exact lv_icmp_eq (tgt := 1988) hx hb dL_law_1778 (by decide) (fun _ => kk _ _ _ _ _ h.2 hN hW hS) (fun q => absurd h.1 q)
set_option maxHeartbeats 4000000 in
set_option maxRecDepth 100000 in
theorem tqL_c45 (C : tq_At p s m meth c args cL_law 4 (some .boolean) tqL_T RL D cy z ad) (hX : va_X b L xs s s.heap) (hbl : b < s.heap.size) (hbz : ¬ z ≤ b) (hi : i + 6 ≤ L) (hL : L ≤ 3072) (h : wpX11_taken N (fun S1 r => wpX12_taken (fun M1 r1 => r = r1 ∧ I N S1 M1) M (xs (i + 1)) (xs (i + 2))) S (xs (i + 1)) (xs (i + 2))) (hN : tq_nb z A0 s N) (hW : tq_wd D cy z H0 ad N (tq_mix S M) H) (hS : va_S (fun q => z ≤ q) s.heap H locs) (hl : lv_has ls 4 [(0, .ref b), (1, .ref (ad 1 0)), (2, .ref (ad 64 0)), (3, .int (Int32.ofNat i))])
    (kk : ∀ (N1 : tq_Nn) (S1 M1 : tq_St) (H1 : Heap) (locs1 : List Loc), I N1 S1 M1 → tq_nb z A0 s N1 → tq_wd D cy z H0 ad N1 (tq_mix S1 M1) H1 → va_S (fun q => z ≤ q) s.heap H1 locs1 → tq_Wb p l e 2048 84000 s m args below meth c z A0 N1 H1 locs1 Q (F0 m 1988 ls [])) : tq_Wb p l e 2048 84000 s m args below meth c z A0 N H locs Q (F0 m 1783 ls []) := by
  obtain ⟨hx, hb, hr, hml, hown, hts, hlocks, hK, hG⟩ := C
  refine lv_aload_n hx hb dL_law_1783 rfl (lv_at hl 1 rfl) ?_
  refine tqL_arg (k := 1) hx hb hX hbl hbz hS hl hi hL (by decide) (by decide) dL_law_1784 dL_law_1785 dL_law_1786 dL_law_1787 dL_law_1788 ?_
  refine tqL_arg (k := 2) hx hb hX hbl hbz hS hl hi hL (by decide) (by decide) dL_law_1789 dL_law_1790 dL_law_1791 dL_law_1792 dL_law_1793 ?_
  refine tqc_callVi (C := "TwoSeas") (As := [.int (xs (i + 1)), .int (xs (i + 2))]) (rest := []) (kX11_taken h) ⟨hx, hb, hml, hown, hts⟩ (cwV 2 hts (tq_goodV tw_1368 tw_1369 tw_1370 tw_115 tw_1371) rfl rfl rfl (by decide +kernel) ⟨(Nat.le_of_ble_eq_true rfl), (Nat.le_of_ble_eq_true rfl)⟩) (tq_recvC hK hW (by decide) (tq_mk_1 (by decide)) rfl) hK hG hW hS rfl hl.1 rfl (Nat.le_of_ble_eq_true rfl) dL_law_1794 hN.f (fun r S1 H locs h hW hS => ?_)
  refine lv_aload_n hx hb dL_law_1797 rfl (lv_at hl 2 rfl) ?_
  refine tqL_arg (k := 1) hx hb hX hbl hbz hS hl hi hL (by decide) (by decide) dL_law_1798 dL_law_1799 dL_law_1800 dL_law_1801 dL_law_1802 ?_
  refine tqL_arg (k := 2) hx hb hX hbl hbz hS hl hi hL (by decide) (by decide) dL_law_1803 dL_law_1804 dL_law_1805 dL_law_1806 dL_law_1807 ?_
  refine tq_callVi (As := [.int (xs (i + 1)), .int (xs (i + 2))]) (rest := [.int r]) (kX12_taken h) ⟨hx, hb, hml, hown, hts⟩ (cwV 2 hts (tq_goodV tw_2110 tw_2111 tw_2112 tw_125 tw_2113) rfl rfl rfl (by decide +kernel) ⟨(Nat.le_of_ble_eq_true rfl), (Nat.le_of_ble_eq_true rfl)⟩) hK hG hW hS rfl hl.1 rfl (Nat.le_of_ble_eq_true rfl) dL_law_1808 hN.f (fun r1 M1 H locs h hW hS => ?_)
  exact lv_icmp_eq (tgt := 1988) hx hb dL_law_1811 (by decide) (fun _ => kk _ _ _ _ _ h.2 hN hW hS) (fun q => absurd h.1 q)
set_option maxHeartbeats 4000000 in
set_option maxRecDepth 100000 in
theorem tqL_c46 (C : tq_At p s m meth c args cL_law 4 (some .boolean) tqL_T RL D cy z ad) (hX : va_X b L xs s s.heap) (hbl : b < s.heap.size) (hbz : ¬ z ≤ b) (hi : i + 6 ≤ L) (hL : L ≤ 3072) (h : wpX11_count N (fun S1 r => wpX12_count (fun M1 r1 => r = r1 ∧ I N S1 M1) M (xs (i + 1))) S (xs (i + 1))) (hN : tq_nb z A0 s N) (hW : tq_wd D cy z H0 ad N (tq_mix S M) H) (hS : va_S (fun q => z ≤ q) s.heap H locs) (hl : lv_has ls 4 [(0, .ref b), (1, .ref (ad 1 0)), (2, .ref (ad 64 0)), (3, .int (Int32.ofNat i))])
    (kk : ∀ (N1 : tq_Nn) (S1 M1 : tq_St) (H1 : Heap) (locs1 : List Loc), I N1 S1 M1 → tq_nb z A0 s N1 → tq_wd D cy z H0 ad N1 (tq_mix S1 M1) H1 → va_S (fun q => z ≤ q) s.heap H1 locs1 → tq_Wb p l e 2048 84000 s m args below meth c z A0 N1 H1 locs1 Q (F0 m 1988 ls [])) : tq_Wb p l e 2048 84000 s m args below meth c z A0 N H locs Q (F0 m 1816 ls []) := by
  obtain ⟨hx, hb, hr, hml, hown, hts, hlocks, hK, hG⟩ := C
  refine lv_aload_n hx hb dL_law_1816 rfl (lv_at hl 1 rfl) ?_
  refine tqL_arg (k := 1) hx hb hX hbl hbz hS hl hi hL (by decide) (by decide) dL_law_1817 dL_law_1818 dL_law_1819 dL_law_1820 dL_law_1821 ?_
  refine tqc_callVi (C := "TwoSeas") (As := [.int (xs (i + 1))]) (rest := []) (kX11_count h) ⟨hx, hb, hml, hown, hts⟩ (cwV 1 hts (tq_goodV tw_1376 tw_1377 tw_1378 tw_115 tw_1379) rfl rfl rfl (by decide +kernel) ⟨(Nat.le_of_ble_eq_true rfl), (Nat.le_of_ble_eq_true rfl)⟩) (tq_recvC hK hW (by decide) (tq_mk_1 (by decide)) rfl) hK hG hW hS rfl hl.1 rfl (Nat.le_of_ble_eq_true rfl) dL_law_1822 hN.f (fun r S1 H locs h hW hS => ?_)
  refine lv_aload_n hx hb dL_law_1825 rfl (lv_at hl 2 rfl) ?_
  refine tqL_arg (k := 1) hx hb hX hbl hbz hS hl hi hL (by decide) (by decide) dL_law_1826 dL_law_1827 dL_law_1828 dL_law_1829 dL_law_1830 ?_
  refine tq_callVi (As := [.int (xs (i + 1))]) (rest := [.int r]) (kX12_count h) ⟨hx, hb, hml, hown, hts⟩ (cwV 1 hts (tq_goodV tw_2114 tw_2115 tw_2116 tw_125 tw_2117) rfl rfl rfl (by decide +kernel) ⟨(Nat.le_of_ble_eq_true rfl), (Nat.le_of_ble_eq_true rfl)⟩) hK hG hW hS rfl hl.1 rfl (Nat.le_of_ble_eq_true rfl) dL_law_1831 hN.f (fun r1 M1 H locs h hW hS => ?_)
  exact lv_icmp_eq (tgt := 1988) hx hb dL_law_1834 (by decide) (fun _ => kk _ _ _ _ _ h.2 hN hW hS) (fun q => absurd h.1 q)
set_option maxHeartbeats 4000000 in
set_option maxRecDepth 100000 in
theorem tqL_c47 (C : tq_At p s m meth c args cL_law 4 (some .boolean) tqL_T RL D cy z ad) (hX : va_X b L xs s s.heap) (hbl : b < s.heap.size) (hbz : ¬ z ≤ b) (hi : i + 6 ≤ L) (hL : L ≤ 3072) (h : wpX11_sheet N (fun S1 r => wpX12_sheet (fun M1 r1 => r = r1 ∧ I N S1 M1) M (xs (i + 1)) (xs (i + 2)) (xs (i + 3))) S (xs (i + 1)) (xs (i + 2)) (xs (i + 3))) (hN : tq_nb z A0 s N) (hW : tq_wd D cy z H0 ad N (tq_mix S M) H) (hS : va_S (fun q => z ≤ q) s.heap H locs) (hl : lv_has ls 4 [(0, .ref b), (1, .ref (ad 1 0)), (2, .ref (ad 64 0)), (3, .int (Int32.ofNat i))])
    (kk : ∀ (N1 : tq_Nn) (S1 M1 : tq_St) (H1 : Heap) (locs1 : List Loc), I N1 S1 M1 → tq_nb z A0 s N1 → tq_wd D cy z H0 ad N1 (tq_mix S1 M1) H1 → va_S (fun q => z ≤ q) s.heap H1 locs1 → tq_Wb p l e 2048 84000 s m args below meth c z A0 N1 H1 locs1 Q (F0 m 1988 ls [])) : tq_Wb p l e 2048 84000 s m args below meth c z A0 N H locs Q (F0 m 1839 ls []) := by
  obtain ⟨hx, hb, hr, hml, hown, hts, hlocks, hK, hG⟩ := C
  refine lv_aload_n hx hb dL_law_1839 rfl (lv_at hl 1 rfl) ?_
  refine tqL_arg (k := 1) hx hb hX hbl hbz hS hl hi hL (by decide) (by decide) dL_law_1840 dL_law_1841 dL_law_1842 dL_law_1843 dL_law_1844 ?_
  refine tqL_arg (k := 2) hx hb hX hbl hbz hS hl hi hL (by decide) (by decide) dL_law_1845 dL_law_1846 dL_law_1847 dL_law_1848 dL_law_1849 ?_
  refine tqL_arg (k := 3) hx hb hX hbl hbz hS hl hi hL (by decide) (by decide) dL_law_1850 dL_law_1851 dL_law_1852 dL_law_1853 dL_law_1854 ?_
  refine tqc_callVi (C := "TwoSeas") (As := [.int (xs (i + 1)), .int (xs (i + 2)), .int (xs (i + 3))]) (rest := []) (kX11_sheet h) ⟨hx, hb, hml, hown, hts⟩ (cwV 3 hts (tq_goodV tw_1380 tw_1381 tw_1382 tw_115 tw_1383) rfl rfl rfl (by decide +kernel) ⟨(Nat.le_of_ble_eq_true rfl), (Nat.le_of_ble_eq_true rfl)⟩) (tq_recvC hK hW (by decide) (tq_mk_1 (by decide)) rfl) hK hG hW hS rfl hl.1 rfl (Nat.le_of_ble_eq_true rfl) dL_law_1855 hN.f (fun r S1 H locs h hW hS => ?_)
  refine lv_aload_n hx hb dL_law_1858 rfl (lv_at hl 2 rfl) ?_
  refine tqL_arg (k := 1) hx hb hX hbl hbz hS hl hi hL (by decide) (by decide) dL_law_1859 dL_law_1860 dL_law_1861 dL_law_1862 dL_law_1863 ?_
  refine tqL_arg (k := 2) hx hb hX hbl hbz hS hl hi hL (by decide) (by decide) dL_law_1864 dL_law_1865 dL_law_1866 dL_law_1867 dL_law_1868 ?_
  refine tqL_arg (k := 3) hx hb hX hbl hbz hS hl hi hL (by decide) (by decide) dL_law_1869 dL_law_1870 dL_law_1871 dL_law_1872 dL_law_1873 ?_
  refine tq_callVi (As := [.int (xs (i + 1)), .int (xs (i + 2)), .int (xs (i + 3))]) (rest := [.int r]) (kX12_sheet h) ⟨hx, hb, hml, hown, hts⟩ (cwV 3 hts (tq_goodV tw_2118 tw_2119 tw_2120 tw_125 tw_2121) rfl rfl rfl (by decide +kernel) ⟨(Nat.le_of_ble_eq_true rfl), (Nat.le_of_ble_eq_true rfl)⟩) hK hG hW hS rfl hl.1 rfl (Nat.le_of_ble_eq_true rfl) dL_law_1874 hN.f (fun r1 M1 H locs h hW hS => ?_)
  exact lv_icmp_eq (tgt := 1988) hx hb dL_law_1877 (by decide) (fun _ => kk _ _ _ _ _ h.2 hN hW hS) (fun q => absurd h.1 q)
set_option maxHeartbeats 4000000 in
set_option maxRecDepth 100000 in
theorem tqL_c48 (C : tq_At p s m meth c args cL_law 4 (some .boolean) tqL_T RL D cy z ad) (hX : va_X b L xs s s.heap) (hbl : b < s.heap.size) (hbz : ¬ z ≤ b) (hi : i + 6 ≤ L) (hL : L ≤ 3072) (h : wpX11_cell N (fun S1 r => wpX12_cell (fun M1 r1 => r = r1 ∧ I N S1 M1) M (xs (i + 1)) (xs (i + 2)) (xs (i + 3))) S (xs (i + 1)) (xs (i + 2)) (xs (i + 3))) (hN : tq_nb z A0 s N) (hW : tq_wd D cy z H0 ad N (tq_mix S M) H) (hS : va_S (fun q => z ≤ q) s.heap H locs) (hl : lv_has ls 4 [(0, .ref b), (1, .ref (ad 1 0)), (2, .ref (ad 64 0)), (3, .int (Int32.ofNat i))])
    (kk : ∀ (N1 : tq_Nn) (S1 M1 : tq_St) (H1 : Heap) (locs1 : List Loc), I N1 S1 M1 → tq_nb z A0 s N1 → tq_wd D cy z H0 ad N1 (tq_mix S1 M1) H1 → va_S (fun q => z ≤ q) s.heap H1 locs1 → tq_Wb p l e 2048 84000 s m args below meth c z A0 N1 H1 locs1 Q (F0 m 1988 ls [])) : tq_Wb p l e 2048 84000 s m args below meth c z A0 N H locs Q (F0 m 1882 ls []) := by
  obtain ⟨hx, hb, hr, hml, hown, hts, hlocks, hK, hG⟩ := C
  refine lv_aload_n hx hb dL_law_1882 rfl (lv_at hl 1 rfl) ?_
  refine tqL_arg (k := 1) hx hb hX hbl hbz hS hl hi hL (by decide) (by decide) dL_law_1883 dL_law_1884 dL_law_1885 dL_law_1886 dL_law_1887 ?_
  refine tqL_arg (k := 2) hx hb hX hbl hbz hS hl hi hL (by decide) (by decide) dL_law_1888 dL_law_1889 dL_law_1890 dL_law_1891 dL_law_1892 ?_
  refine tqL_arg (k := 3) hx hb hX hbl hbz hS hl hi hL (by decide) (by decide) dL_law_1893 dL_law_1894 dL_law_1895 dL_law_1896 dL_law_1897 ?_
  refine tqc_callVi (C := "TwoSeas") (As := [.int (xs (i + 1)), .int (xs (i + 2)), .int (xs (i + 3))]) (rest := []) (kX11_cell h) ⟨hx, hb, hml, hown, hts⟩ (cwV 3 hts (tq_goodV tw_1389 tw_1390 tw_1391 tw_115 tw_1392) rfl rfl rfl (by decide +kernel) ⟨(Nat.le_of_ble_eq_true rfl), (Nat.le_of_ble_eq_true rfl)⟩) (tq_recvC hK hW (by decide) (tq_mk_1 (by decide)) rfl) hK hG hW hS rfl hl.1 rfl (Nat.le_of_ble_eq_true rfl) dL_law_1898 hN.f (fun r S1 H locs h hW hS => ?_)
  refine lv_aload_n hx hb dL_law_1901 rfl (lv_at hl 2 rfl) ?_
  refine tqL_arg (k := 1) hx hb hX hbl hbz hS hl hi hL (by decide) (by decide) dL_law_1902 dL_law_1903 dL_law_1904 dL_law_1905 dL_law_1906 ?_
  refine tqL_arg (k := 2) hx hb hX hbl hbz hS hl hi hL (by decide) (by decide) dL_law_1907 dL_law_1908 dL_law_1909 dL_law_1910 dL_law_1911 ?_
  refine tqL_arg (k := 3) hx hb hX hbl hbz hS hl hi hL (by decide) (by decide) dL_law_1912 dL_law_1913 dL_law_1914 dL_law_1915 dL_law_1916 ?_
  refine tq_callVi (As := [.int (xs (i + 1)), .int (xs (i + 2)), .int (xs (i + 3))]) (rest := [.int r]) (kX12_cell h) ⟨hx, hb, hml, hown, hts⟩ (cwV 3 hts (tq_goodV tw_2122 tw_2123 tw_2124 tw_125 tw_2125) rfl rfl rfl (by decide +kernel) ⟨(Nat.le_of_ble_eq_true rfl), (Nat.le_of_ble_eq_true rfl)⟩) hK hG hW hS rfl hl.1 rfl (Nat.le_of_ble_eq_true rfl) dL_law_1917 hN.f (fun r1 M1 H locs h hW hS => ?_)
  exact lv_icmp_eq (tgt := 1988) hx hb dL_law_1920 (by decide) (fun _ => kk _ _ _ _ _ h.2 hN hW hS) (fun q => absurd h.1 q)
set_option maxHeartbeats 4000000 in
set_option maxRecDepth 100000 in
theorem tqL_c49 (C : tq_At p s m meth c args cL_law 4 (some .boolean) tqL_T RL D cy z ad) (hX : va_X b L xs s s.heap) (hbl : b < s.heap.size) (hbz : ¬ z ≤ b) (hi : i + 6 ≤ L) (hL : L ≤ 3072) (h : wpX11_carry N (fun S1 r => wpX12_carry (fun M1 r1 => r = r1 ∧ I N S1 M1) M (xs (i + 1)) (xs (i + 2)) (xs (i + 3)) (xs (i + 4)) (xs (i + 5))) S (xs (i + 1)) (xs (i + 2)) (xs (i + 3)) (xs (i + 4)) (xs (i + 5))) (hN : tq_nb z A0 s N) (hW : tq_wd D cy z H0 ad N (tq_mix S M) H) (hS : va_S (fun q => z ≤ q) s.heap H locs) (hl : lv_has ls 4 [(0, .ref b), (1, .ref (ad 1 0)), (2, .ref (ad 64 0)), (3, .int (Int32.ofNat i))])
    (kk : ∀ (N1 : tq_Nn) (S1 M1 : tq_St) (H1 : Heap) (locs1 : List Loc), I N1 S1 M1 → tq_nb z A0 s N1 → tq_wd D cy z H0 ad N1 (tq_mix S1 M1) H1 → va_S (fun q => z ≤ q) s.heap H1 locs1 → tq_Wb p l e 2048 84000 s m args below meth c z A0 N1 H1 locs1 Q (F0 m 1988 ls [])) : tq_Wb p l e 2048 84000 s m args below meth c z A0 N H locs Q (F0 m 1925 ls []) := by
  obtain ⟨hx, hb, hr, hml, hown, hts, hlocks, hK, hG⟩ := C
  refine lv_aload_n hx hb dL_law_1925 rfl (lv_at hl 1 rfl) ?_
  refine tqL_arg (k := 1) hx hb hX hbl hbz hS hl hi hL (by decide) (by decide) dL_law_1926 dL_law_1927 dL_law_1928 dL_law_1929 dL_law_1930 ?_
  refine tqL_arg (k := 2) hx hb hX hbl hbz hS hl hi hL (by decide) (by decide) dL_law_1931 dL_law_1932 dL_law_1933 dL_law_1934 dL_law_1935 ?_
  refine tqL_arg (k := 3) hx hb hX hbl hbz hS hl hi hL (by decide) (by decide) dL_law_1936 dL_law_1937 dL_law_1938 dL_law_1939 dL_law_1940 ?_
  refine tqL_arg (k := 4) hx hb hX hbl hbz hS hl hi hL (by decide) (by decide) dL_law_1941 dL_law_1942 dL_law_1943 dL_law_1944 dL_law_1945 ?_
  refine tqL_arg (k := 5) hx hb hX hbl hbz hS hl hi hL (by decide) (by decide) dL_law_1946 dL_law_1947 dL_law_1948 dL_law_1949 dL_law_1950 ?_
  refine tqc_callVi (C := "TwoSeas") (As := [.int (xs (i + 1)), .int (xs (i + 2)), .int (xs (i + 3)), .int (xs (i + 4)), .int (xs (i + 5))]) (rest := []) (kX11_carry h) ⟨hx, hb, hml, hown, hts⟩ (cwV 5 hts (tq_goodV tw_1397 tw_1398 tw_1399 tw_115 tw_1400) rfl rfl rfl (by decide +kernel) ⟨(Nat.le_of_ble_eq_true rfl), (Nat.le_of_ble_eq_true rfl)⟩) (tq_recvC hK hW (by decide) (tq_mk_1 (by decide)) rfl) hK hG hW hS rfl hl.1 rfl (Nat.le_of_ble_eq_true rfl) dL_law_1951 hN.f (fun r S1 H locs h hW hS => ?_)
  refine lv_aload_n hx hb dL_law_1954 rfl (lv_at hl 2 rfl) ?_
  refine tqL_arg (k := 1) hx hb hX hbl hbz hS hl hi hL (by decide) (by decide) dL_law_1955 dL_law_1956 dL_law_1957 dL_law_1958 dL_law_1959 ?_
  refine tqL_arg (k := 2) hx hb hX hbl hbz hS hl hi hL (by decide) (by decide) dL_law_1960 dL_law_1961 dL_law_1962 dL_law_1963 dL_law_1964 ?_
  refine tqL_arg (k := 3) hx hb hX hbl hbz hS hl hi hL (by decide) (by decide) dL_law_1965 dL_law_1966 dL_law_1967 dL_law_1968 dL_law_1969 ?_
  refine tqL_arg (k := 4) hx hb hX hbl hbz hS hl hi hL (by decide) (by decide) dL_law_1970 dL_law_1971 dL_law_1972 dL_law_1973 dL_law_1974 ?_
  refine tqL_arg (k := 5) hx hb hX hbl hbz hS hl hi hL (by decide) (by decide) dL_law_1975 dL_law_1976 dL_law_1977 dL_law_1978 dL_law_1979 ?_
  refine tq_callVi (As := [.int (xs (i + 1)), .int (xs (i + 2)), .int (xs (i + 3)), .int (xs (i + 4)), .int (xs (i + 5))]) (rest := [.int r]) (kX12_carry h) ⟨hx, hb, hml, hown, hts⟩ (cwV 5 hts (tq_goodV tw_2129 tw_2130 tw_2131 tw_125 tw_2132) rfl rfl rfl (by decide +kernel) ⟨(Nat.le_of_ble_eq_true rfl), (Nat.le_of_ble_eq_true rfl)⟩) hK hG hW hS rfl hl.1 rfl (Nat.le_of_ble_eq_true rfl) dL_law_1980 hN.f (fun r1 M1 H locs h hW hS => ?_)
  exact lv_icmp_eq (tgt := 1988) hx hb dL_law_1983 (by decide) (fun _ => kk _ _ _ _ _ h.2 hN hW hS) (fun q => absurd h.1 q)
end TQLAW
