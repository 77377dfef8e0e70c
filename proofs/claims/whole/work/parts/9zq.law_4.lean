/-! the law's body: its cases, on -/
section TQLAW
variable {p : Program} {l : Launch} {e : Env} {s : State} {m : MethodId} {args : Array Value} {below : List Frame} {meth : Method} {c : Code} {H : Heap} {locs : List Loc} {Q : State → Prop}
variable {ls : Array Slot} {D : va_G} {cy : Nat → ClassId} {z A0 : Nat} {H0 : Heap} {ad : Nat → Nat → Nat} {N : tq_Nn} {S M : tq_St} {b L i : Nat} {xs : Nat → Int32} {I : tq_Nn → tq_St → tq_St → Prop}
set_option maxHeartbeats 4000000 in
set_option maxRecDepth 100000 in
theorem tqL_c40 (C : tq_At p s m meth c args cL_law 4 (some .boolean) tqL_T RL D cy z ad) (hX : va_X b L xs s s.heap) (hbl : b < s.heap.size) (hbz : ¬ z ≤ b) (hi : i + 6 ≤ L) (hL : L ≤ 3072) (h : wpX11_heard N (fun S1 r => wpX12_heard (fun M1 r1 => r = r1 ∧ I N S1 M1) M (xs (i + 1)) (xs (i + 2)) (xs (i + 3))) S (xs (i + 1)) (xs (i + 2)) (xs (i + 3))) (hN : tq_nb z A0 s N) (hW : tq_wd D cy z H0 ad N (tq_mix S M) H) (hS : va_S (fun q => z ≤ q) s.heap H locs) (hl : lv_has ls 4 [(0, .ref b), (1, .ref (ad 1 0)), (2, .ref (ad 64 0)), (3, .int (Int32.ofNat i))])
    (kk : ∀ (N1 : tq_Nn) (S1 M1 : tq_St) (H1 : Heap) (locs1 : List Loc), I N1 S1 M1 → tq_nb z A0 s N1 → tq_wd D cy z H0 ad N1 (tq_mix S1 M1) H1 → va_S (fun q => z ≤ q) s.heap H1 locs1 → tq_Wb p l e 2048 84000 s m args below meth c z A0 N1 H1 locs1 Q (F0 m 1988 ls [])) : tq_Wb p l e 2048 84000 s m args below meth c z A0 N H locs Q (F0 m 1578 ls []) := by
  obtain ⟨hx, hb, hr, hml, hown, hts, hlocks, hK, hG⟩ := C
  refine lv_aload_n hx hb dL_law_1578 rfl (lv_at hl 1 rfl) ?_
  refine tqL_arg (k := 1) hx hb hX hbl hbz hS hl hi hL (by decide) (by decide) dL_law_1579 dL_law_1580 dL_law_1581 dL_law_1582 dL_law_1583 ?_
  refine tqL_arg (k := 2) hx hb hX hbl hbz hS hl hi hL (by decide) (by decide) dL_law_1584 dL_law_1585 dL_law_1586 dL_law_1587 dL_law_1588 ?_
  refine tqL_arg (k := 3) hx hb hX hbl hbz hS hl hi hL (by decide) (by decide) dL_law_1589 dL_law_1590 dL_law_1591 dL_law_1592 dL_law_1593 ?_
  refine tqc_callVi (C := "TwoSeas") (As := [.int (xs (i + 1)), .int (xs (i + 2)), .int (xs (i + 3))]) (rest := []) (kX11_heard h) ⟨hx, hb, hml, hown, hts⟩ (cwV 3 hts (tq_goodV tw_1316 tw_1317 tw_1318 tw_115 tw_1319) rfl rfl rfl (by decide +kernel) ⟨(Nat.le_of_ble_eq_true rfl), (Nat.le_of_ble_eq_true rfl)⟩) (tq_recvC hK hW (by decide) (tq_mk_1 (by decide)) rfl) hK hG hW hS rfl hl.1 rfl (Nat.le_of_ble_eq_true rfl) dL_law_1594 hN.f (fun r S1 H locs h hW hS => ?_)
  refine lv_aload_n hx hb dL_law_1597 rfl (lv_at hl 2 rfl) ?_
  refine tqL_arg (k := 1) hx hb hX hbl hbz hS hl hi hL (by decide) (by decide) dL_law_1598 dL_law_1599 dL_law_1600 dL_law_1601 dL_law_1602 ?_
  refine tqL_arg (k := 2) hx hb hX hbl hbz hS hl hi hL (by decide) (by decide) dL_law_1603 dL_law_1604 dL_law_1605 dL_law_1606 dL_law_1607 ?_
  refine tqL_arg (k := 3) hx hb hX hbl hbz hS hl hi hL (by decide) (by decide) dL_law_1608 dL_law_1609 dL_law_1610 dL_law_1611 dL_law_1612 ?_
  refine tq_callVi (As := [.int (xs (i + 1)), .int (xs (i + 2)), .int (xs (i + 3))]) (rest := [.int r]) (kX12_heard h) ⟨hx, hb, hml, hown, hts⟩ (cwV 3 hts (tq_goodV tw_2072 tw_2073 tw_2074 tw_125 tw_2075) rfl rfl rfl (by decide +kernel) ⟨(Nat.le_of_ble_eq_true rfl), (Nat.le_of_ble_eq_true rfl)⟩) hK hG hW hS rfl hl.1 rfl (Nat.le_of_ble_eq_true rfl) dL_law_1613 hN.f (fun r1 M1 H locs h hW hS => ?_)
  exact lv_icmp_eq (tgt := 1988) hx hb dL_law_1616 (by decide) (fun _ => kk _ _ _ _ _ h.2 hN hW hS) (fun q => absurd h.1 q)
set_option maxHeartbeats 4000000 in
set_option maxRecDepth 100000 in
theorem tqL_c41 (C : tq_At p s m meth c args cL_law 4 (some .boolean) tqL_T RL D cy z ad) (hX : va_X b L xs s s.heap) (hbl : b < s.heap.size) (hbz : ¬ z ≤ b) (hi : i + 6 ≤ L) (hL : L ≤ 3072) (h : wpX11_year N (fun S1 r => wpX12_year (fun M1 r1 => r = r1 ∧ I N S1 M1) M (xs (i + 1)) (xs (i + 2)) (xs (i + 3))) S (xs (i + 1)) (xs (i + 2)) (xs (i + 3))) (hN : tq_nb z A0 s N) (hW : tq_wd D cy z H0 ad N (tq_mix S M) H) (hS : va_S (fun q => z ≤ q) s.heap H locs) (hl : lv_has ls 4 [(0, .ref b), (1, .ref (ad 1 0)), (2, .ref (ad 64 0)), (3, .int (Int32.ofNat i))])
    (kk : ∀ (N1 : tq_Nn) (S1 M1 : tq_St) (H1 : Heap) (locs1 : List Loc), I N1 S1 M1 → tq_nb z A0 s N1 → tq_wd D cy z H0 ad N1 (tq_mix S1 M1) H1 → va_S (fun q => z ≤ q) s.heap H1 locs1 → tq_Wb p l e 2048 84000 s m args below meth c z A0 N1 H1 locs1 Q (F0 m 1988 ls [])) : tq_Wb p l e 2048 84000 s m args below meth c z A0 N H locs Q (F0 m 1621 ls []) := by
  obtain ⟨hx, hb, hr, hml, hown, hts, hlocks, hK, hG⟩ := C
  refine lv_aload_n hx hb dL_law_1621 rfl (lv_at hl 1 rfl) ?_
  refine tqL_arg (k := 1) hx hb hX hbl hbz hS hl hi hL (by decide) (by decide) dL_law_1622 dL_law_1623 dL_law_1624 dL_law_1625 dL_law_1626 ?_
  refine tqL_arg (k := 2) hx hb hX hbl hbz hS hl hi hL (by decide) (by decide) dL_law_1627 dL_law_1628 dL_law_1629 dL_law_1630 dL_law_1631 ?_
  refine tqL_arg (k := 3) hx hb hX hbl hbz hS hl hi hL (by decide) (by decide) dL_law_1632 dL_law_1633 dL_law_1634 dL_law_1635 dL_law_1636 ?_
  refine tqc_callVi (C := "TwoSeas") (As := [.int (xs (i + 1)), .int (xs (i + 2)), .int (xs (i + 3))]) (rest := []) (kX11_year h) ⟨hx, hb, hml, hown, hts⟩ (cwV 3 hts (tq_goodV tw_1320 tw_1321 tw_1322 tw_115 tw_1323) rfl rfl rfl (by decide +kernel) ⟨(Nat.le_of_ble_eq_true rfl), (Nat.le_of_ble_eq_true rfl)⟩) (tq_recvC hK hW (by decide) (tq_mk_1 (by decide)) rfl) hK hG hW hS rfl hl.1 rfl (Nat.le_of_ble_eq_true rfl) dL_law_1637 hN.f (fun r S1 H locs h hW hS => ?_)
  refine lv_aload_n hx hb dL_law_1640 rfl (lv_at hl 2 rfl) ?_
  refine tqL_arg (k := 1) hx hb hX hbl hbz hS hl hi hL (by decide) (by decide) dL_law_1641 dL_law_1642 dL_law_1643 dL_law_1644 dL_law_1645 ?_
  refine tqL_arg (k := 2) hx hb hX hbl hbz hS hl hi hL (by decide) (by decide) dL_law_1646 dL_law_1647 dL_law_1648 dL_law_1649 dL_law_1650 ?_
  refine tqL_arg (k := 3) hx hb hX hbl hbz hS hl hi hL (by decide) (by decide) dL_law_1651 dL_law_1652 dL_law_1653 dL_law_1654 dL_law_1655 ?_
  refine tq_callVi (As := [.int (xs (i + 1)), .int (xs (i + 2)), .int (xs (i + 3))]) (rest := [.int r]) (kX12_year h) ⟨hx, hb, hml, hown, hts⟩ (cwV 3 hts (tq_goodV tw_2076 tw_2077 tw_2078 tw_125 tw_2079) rfl rfl rfl (by decide +kernel) ⟨(Nat.le_of_ble_eq_true rfl), (Nat.le_of_ble_eq_true rfl)⟩) hK hG hW hS rfl hl.1 rfl (Nat.le_of_ble_eq_true rfl) dL_law_1656 hN.f (fun r1 M1 H locs h hW hS => ?_)
  exact lv_icmp_eq (tgt := 1988) hx hb dL_law_1659 (by decide) (fun _ => kk _ _ _ _ _ h.2 hN hW hS) (fun q => absurd h.1 q)
set_option maxHeartbeats 4000000 in
set_option maxRecDepth 100000 in
theorem tqL_c42 (C : tq_At p s m meth c args cL_law 4 (some .boolean) tqL_T RL D cy z ad) (hX : va_X b L xs s s.heap) (hbl : b < s.heap.size) (hbz : ¬ z ≤ b) (hi : i + 6 ≤ L) (hL : L ≤ 3072) (h : wpX11_plan (fun N1 S1 r => wpX12_plan (fun M1 r1 => r = r1 ∧ I N1 S1 M1) M (xs (i + 1)) (xs (i + 2)) (xs (i + 3)) (xs (i + 4))) N S (xs (i + 1)) (xs (i + 2)) (xs (i + 3)) (xs (i + 4))) (hN : tq_nb z A0 s N) (hW : tq_wd D cy z H0 ad N (tq_mix S M) H) (hS : va_S (fun q => z ≤ q) s.heap H locs) (hl : lv_has ls 4 [(0, .ref b), (1, .ref (ad 1 0)), (2, .ref (ad 64 0)), (3, .int (Int32.ofNat i))])
    (kk : ∀ (N1 : tq_Nn) (S1 M1 : tq_St) (H1 : Heap) (locs1 : List Loc), I N1 S1 M1 → tq_nb z A0 s N1 → tq_wd D cy z H0 ad N1 (tq_mix S1 M1) H1 → va_S (fun q => z ≤ q) s.heap H1 locs1 → tq_Wb p l e 2048 84000 s m args below meth c z A0 N1 H1 locs1 Q (F0 m 1988 ls [])) : tq_Wb p l e 2048 84000 s m args below meth c z A0 N H locs Q (F0 m 1664 ls []) := by
  obtain ⟨hx, hb, hr, hml, hown, hts, hlocks, hK, hG⟩ := C
  refine lv_aload_n hx hb dL_law_1664 rfl (lv_at hl 1 rfl) ?_
  refine tqL_arg (k := 1) hx hb hX hbl hbz hS hl hi hL (by decide) (by decide) dL_law_1665 dL_law_1666 dL_law_1667 dL_law_1668 dL_law_1669 ?_
  refine tqL_arg (k := 2) hx hb hX hbl hbz hS hl hi hL (by decide) (by decide) dL_law_1670 dL_law_1671 dL_law_1672 dL_law_1673 dL_law_1674 ?_
  refine tqL_arg (k := 3) hx hb hX hbl hbz hS hl hi hL (by decide) (by decide) dL_law_1675 dL_law_1676 dL_law_1677 dL_law_1678 dL_law_1679 ?_
  refine tqL_arg (k := 4) hx hb hX hbl hbz hS hl hi hL (by decide) (by decide) dL_law_1680 dL_law_1681 dL_law_1682 dL_law_1683 dL_law_1684 ?_
  refine tqb_callVi (C := "TwoSeas") (As := [.int (xs (i + 1)), .int (xs (i + 2)), .int (xs (i + 3)), .int (xs (i + 4))]) (rest := []) (kX11_plan h) ⟨hx, hb, hml, hown, hts⟩ (cwV 4 hts (tq_goodV tw_1324 tw_1325 tw_1326 tw_115 tw_1327) rfl rfl rfl (by decide +kernel) ⟨(Nat.le_of_ble_eq_true rfl), (Nat.le_of_ble_eq_true rfl)⟩) (tq_recvC hK hW (by decide) (tq_mk_1 (by decide)) rfl) hK hG hW hS rfl hl.1 rfl (Nat.le_of_ble_eq_true rfl) dL_law_1685 hN (fun r N1 S1 H locs h hN hW hS => ?_)
  refine lv_aload_n hx hb dL_law_1688 rfl (lv_at hl 2 rfl) ?_
  refine tqL_arg (k := 1) hx hb hX hbl hbz hS hl hi hL (by decide) (by decide) dL_law_1689 dL_law_1690 dL_law_1691 dL_law_1692 dL_law_1693 ?_
  refine tqL_arg (k := 2) hx hb hX hbl hbz hS hl hi hL (by decide) (by decide) dL_law_1694 dL_law_1695 dL_law_1696 dL_law_1697 dL_law_1698 ?_
  refine tqL_arg (k := 3) hx hb hX hbl hbz hS hl hi hL (by decide) (by decide) dL_law_1699 dL_law_1700 dL_law_1701 dL_law_1702 dL_law_1703 ?_
  refine tqL_arg (k := 4) hx hb hX hbl hbz hS hl hi hL (by decide) (by decide) dL_law_1704 dL_law_1705 dL_law_1706 dL_law_1707 dL_law_1708 ?_
  refine tq_callVi (As := [.int (xs (i + 1)), .int (xs (i + 2)), .int (xs (i + 3)), .int (xs (i + 4))]) (rest := [.int r]) (kX12_plan h) ⟨hx, hb, hml, hown, hts⟩ (cwV 4 hts (tq_goodV tw_2080 tw_2081 tw_2082 tw_125 tw_2083) rfl rfl rfl (by decide +kernel) ⟨(Nat.le_of_ble_eq_true rfl), (Nat.le_of_ble_eq_true rfl)⟩) hK hG hW hS rfl hl.1 rfl (Nat.le_of_ble_eq_true rfl) dL_law_1709 hN.f (fun r1 M1 H locs h hW hS => ?_)
  exact lv_icmp_eq (tgt := 1988) hx hb dL_law_1712 (by decide) (fun _ => kk _ _ _ _ _ h.2 hN hW hS) (fun q => absurd h.1 q)
set_option maxHeartbeats 4000000 in
set_option maxRecDepth 100000 in
theorem tqL_c43 (C : tq_At p s m meth c args cL_law 4 (some .boolean) tqL_T RL D cy z ad) (hX : va_X b L xs s s.heap) (hbl : b < s.heap.size) (hbz : ¬ z ≤ b) (hi : i + 6 ≤ L) (hL : L ≤ 3072) (h : wpX11_act N (fun S1 r => wpX12_act (fun M1 r1 => r = r1 ∧ I N S1 M1) M (xs (i + 1)) (xs (i + 2)) (xs (i + 3))) S (xs (i + 1)) (xs (i + 2)) (xs (i + 3))) (hN : tq_nb z A0 s N) (hW : tq_wd D cy z H0 ad N (tq_mix S M) H) (hS : va_S (fun q => z ≤ q) s.heap H locs) (hl : lv_has ls 4 [(0, .ref b), (1, .ref (ad 1 0)), (2, .ref (ad 64 0)), (3, .int (Int32.ofNat i))])
    (kk : ∀ (N1 : tq_Nn) (S1 M1 : tq_St) (H1 : Heap) (locs1 : List Loc), I N1 S1 M1 → tq_nb z A0 s N1 → tq_wd D cy z H0 ad N1 (tq_mix S1 M1) H1 → va_S (fun q => z ≤ q) s.heap H1 locs1 → tq_Wb p l e 2048 84000 s m args below meth c z A0 N1 H1 locs1 Q (F0 m 1988 ls [])) : tq_Wb p l e 2048 84000 s m args below meth c z A0 N H locs Q (F0 m 1717 ls []) := by
  obtain ⟨hx, hb, hr, hml, hown, hts, hlocks, hK, hG⟩ := C
  refine lv_aload_n hx hb dL_law_1717 rfl (lv_at hl 1 rfl) ?_
  refine tqL_arg (k := 1) hx hb hX hbl hbz hS hl hi hL (by decide) (by decide) dL_law_1718 dL_law_1719 dL_law_1720 dL_law_1721 dL_law_1722 ?_
  refine tqL_arg (k := 2) hx hb hX hbl hbz hS hl hi hL (by decide) (by decide) dL_law_1723 dL_law_1724 dL_law_1725 dL_law_1726 dL_law_1727 ?_
  refine tqL_arg (k := 3) hx hb hX hbl hbz hS hl hi hL (by decide) (by decide) dL_law_1728 dL_law_1729 dL_law_1730 dL_law_1731 dL_law_1732 ?_
  refine tqc_callVi (C := "TwoSeas") (As := [.int (xs (i + 1)), .int (xs (i + 2)), .int (xs (i + 3))]) (rest := []) (kX11_act h) ⟨hx, hb, hml, hown, hts⟩ (cwV 3 hts (tq_goodV tw_1339 tw_1340 tw_1341 tw_115 tw_1342) rfl rfl rfl (by decide +kernel) ⟨(Nat.le_of_ble_eq_true rfl), (Nat.le_of_ble_eq_true rfl)⟩) (tq_recvC hK hW (by decide) (tq_mk_1 (by decide)) rfl) hK hG hW hS rfl hl.1 rfl (Nat.le_of_ble_eq_true rfl) dL_law_1733 hN.f (fun r S1 H locs h hW hS => ?_)
  refine lv_aload_n hx hb dL_law_1736 rfl (lv_at hl 2 rfl) ?_
  refine tqL_arg (k := 1) hx hb hX hbl hbz hS hl hi hL (by decide) (by decide) dL_law_1737 dL_law_1738 dL_law_1739 dL_law_1740 dL_law_1741 ?_
  refine tqL_arg (k := 2) hx hb hX hbl hbz hS hl hi hL (by decide) (by decide) dL_law_1742 dL_law_1743 dL_law_1744 dL_law_1745 dL_law_1746 ?_
  refine tqL_arg (k := 3) hx hb hX hbl hbz hS hl hi hL (by decide) (by decide) dL_law_1747 dL_law_1748 dL_law_1749 dL_law_1750 dL_law_1751 ?_
  refine tq_callVi (As := [.int (xs (i + 1)), .int (xs (i + 2)), .int (xs (i + 3))]) (rest := [.int r]) (kX12_act h) ⟨hx, hb, hml, hown, hts⟩ (cwV 3 hts (tq_goodV tw_2091 tw_2092 tw_2093 tw_125 tw_2094) rfl rfl rfl (by decide +kernel) ⟨(Nat.le_of_ble_eq_true rfl), (Nat.le_of_ble_eq_true rfl)⟩) hK hG hW hS rfl hl.1 rfl (Nat.le_of_ble_eq_true rfl) dL_law_1752 hN.f (fun r1 M1 H locs h hW hS => ?_)
  exact lv_icmp_eq (tgt := 1988) hx hb dL_law_1755 (by decide) (fun _ => kk _ _ _ _ _ h.2 hN hW hS) (fun q => absurd h.1 q)
set_option maxHeartbeats 4000000 in
set_option maxRecDepth 100000 in
theorem tqL_c44 (C : tq_At p s m meth c args cL_law 4 (some .boolean) tqL_T RL D cy z ad) (hX : va_X b L xs s s.heap) (hbl : b < s.heap.size) (hbz : ¬ z ≤ b) (hi : i + 6 ≤ L) (hL : L ≤ 3072) (h : wpX11_trace N (fun S1 r => wpX12_trace (fun M1 r1 => r = r1 ∧ I N S1 M1) M (xs (i + 1))) S (xs (i + 1))) (hN : tq_nb z A0 s N) (hW : tq_wd D cy z H0 ad N (tq_mix S M) H) (hS : va_S (fun q => z ≤ q) s.heap H locs) (hl : lv_has ls 4 [(0, .ref b), (1, .ref (ad 1 0)), (2, .ref (ad 64 0)), (3, .int (Int32.ofNat i))])
    (kk : ∀ (N1 : tq_Nn) (S1 M1 : tq_St) (H1 : Heap) (locs1 : List Loc), I N1 S1 M1 → tq_nb z A0 s N1 → tq_wd D cy z H0 ad N1 (tq_mix S1 M1) H1 → va_S (fun q => z ≤ q) s.heap H1 locs1 → tq_Wb p l e 2048 84000 s m args below meth c z A0 N1 H1 locs1 Q (F0 m 1988 ls [])) : tq_Wb p l e 2048 84000 s m args below meth c z A0 N H locs Q (F0 m 1760 ls []) := by
  obtain ⟨hx, hb, hr, hml, hown, hts, hlocks, hK, hG⟩ := C
  refine lv_aload_n hx hb dL_law_1760 rfl (lv_at hl 1 rfl) ?_
  refine tqL_arg (k := 1) hx hb hX hbl hbz hS hl hi hL (by decide) (by decide) dL_law_1761 dL_law_1762 dL_law_1763 dL_law_1764 dL_law_1765 ?_
  refine tqc_callVi (C := "TwoSeas") (As := [.int (xs (i + 1))]) (rest := []) (kX11_trace h) ⟨hx, hb, hml, hown, hts⟩ (cwV 1 hts (tq_goodV tw_1363 tw_1364 tw_1365 tw_115 tw_1366) rfl rfl rfl (by decide +kernel) ⟨(Nat.le_of_ble_eq_true rfl), (Nat.le_of_ble_eq_true rfl)⟩) (tq_recvC hK hW (by decide) (tq_mk_1 (by decide)) rfl) hK hG hW hS rfl hl.1 rfl (Nat.le_of_ble_eq_true rfl) dL_law_1766 hN.f (fun r S1 H locs h hW hS => ?_)
  refine lv_aload_n hx hb dL_law_1769 rfl (lv_at hl 2 rfl) ?_
  refine tqL_arg (k := 1) hx hb hX hbl hbz hS hl hi hL (by decide) (by decide) dL_law_1770 dL_law_1771 dL_law_1772 dL_law_1773 dL_law_1774 ?_
  refine tq_callVi (As := [.int (xs (i + 1))]) (rest := [.int r]) (kX12_trace h) ⟨hx, hb, hml, hown, hts⟩ (cwV 1 hts (tq_goodV tw_2105 tw_2106 tw_2107 tw_125 tw_2108) rfl rfl rfl (by decide +kernel) ⟨(Nat.le_of_ble_eq_true rfl), (Nat.le_of_ble_eq_true rfl)⟩) hK hG hW hS rfl hl.1 rfl (Nat.le_of_ble_eq_true rfl) dL_law_1775 hN.f (fun r1 M1 H locs h hW hS => ?_)
  exact lv_icmp_eq (tgt := 1988) hx hb dL_law_1778 (by decide) (fun _ => kk _ _ _ _ _ h.2 hN hW hS) (fun q => absurd h.1 q)
set_option maxHeartbeats 4000000 in
set_option maxRecDepth 100000 in
theorem tqL_c45 (C : tq_At p s m meth c args cL_law 4 (some .boolean) tqL_T RL D cy z ad) (hX : va_X b L xs s s.heap) (hbl : b < s.heap.size) (hbz : ¬ z ≤ b) (hi : i + 6 ≤ L) (hL : L ≤ 3072) (h : wpX11_taken N (fun S1 r => wpX12_taken (fun M1 r1 => r = r1 ∧ I N S1 M1) M (xs (i + 1)) (xs (i + 2))) S (xs (i + 1)) (xs (i + 2))) (hN : tq_nb z A0 s N) (hW : tq_wd D cy z H0 ad N (tq_mix S M) H) (hS : va_S (fun q => z ≤ q) s.heap H locs) (hl : lv_has ls 4 [(0, .ref b), (1, .ref (ad 1 0)), (2, .ref (ad 64 0)), (3, .int (Int32.ofNat i))])
    (kk : ∀ (N1 : tq_Nn) (S1 M1 : tq_St) (H1 : Heap) (locs1 : List Loc), I N1 S1 M1 → tq_nb z A0 s N1 → tq_wd D cy z H0 ad N1 (tq_mix S1 M1) H1 → va_S (fun q => z ≤ q) s.heap H1 locs1 → tq_Wb p l e 2048 84000 s m args below meth c z A0 N1 H1 locs1 Q (F0 m 1988 ls [])) : tq_Wb p l e 2048 84000 s m args below meth c z A0 N H locs Q (F0 m 1783 ls []) := by
  obtain ⟨hx, hb, hr, hml, hown, hts, hlocks, hK, hG⟩ := C
  refine lv_aload_n hx hb dL_law_1783 rfl (lv_at hl 1 rfl) ?_
  refine tqL_arg (k := 1) hx hb hX hbl hbz hS hl hi hL (by decide) (by decide) dL_law_1784 dL_law_1785 dL_law_1786 dL_law_1787 dL_law_1788 ?_
  refine tqL_arg (k := 2) hx hb hX hbl hbz hS hl hi hL (by decide) (by decide) dL_law_1789 dL_law_1790 dL_law_1791 dL_law_1792 dL_law_1793 ?_
  refine tqc_callVi (C := "TwoSeas") (As := [.int (xs (i + 1)), .int (xs (i + 2))]) (rest := []) (kX11_taken h) ⟨hx, hb, hml, hown, hts⟩ (cwV 2 hts (tq_goodV tw_1367 tw_1368 tw_1369 tw_115 tw_1370) rfl rfl rfl (by decide +kernel) ⟨(Nat.le_of_ble_eq_true rfl), (Nat.le_of_ble_eq_true rfl)⟩) (tq_recvC hK hW (by decide) (tq_mk_1 (by decide)) rfl) hK hG hW hS rfl hl.1 rfl (Nat.le_of_ble_eq_true rfl) dL_law_1794 hN.f (fun r S1 H locs h hW hS => ?_)
  refine lv_aload_n hx hb dL_law_1797 rfl (lv_at hl 2 rfl) ?_
  refine tqL_arg (k := 1) hx hb hX hbl hbz hS hl hi hL (by decide) (by decide) dL_law_1798 dL_law_1799 dL_law_1800 dL_law_1801 dL_law_1802 ?_
  refine tqL_arg (k := 2) hx hb hX hbl hbz hS hl hi hL (by decide) (by decide) dL_law_1803 dL_law_1804 dL_law_1805 dL_law_1806 dL_law_1807 ?_
  refine tq_callVi (As := [.int (xs (i + 1)), .int (xs (i + 2))]) (rest := [.int r]) (kX12_taken h) ⟨hx, hb, hml, hown, hts⟩ (cwV 2 hts (tq_goodV tw_2109 tw_2110 tw_2111 tw_125 tw_2112) rfl rfl rfl (by decide +kernel) ⟨(Nat.le_of_ble_eq_true rfl), (Nat.le_of_ble_eq_true rfl)⟩) hK hG hW hS rfl hl.1 rfl (Nat.le_of_ble_eq_true rfl) dL_law_1808 hN.f (fun r1 M1 H locs h hW hS => ?_)
  exact lv_icmp_eq (tgt := 1988) hx hb dL_law_1811 (by decide) (fun _ => kk _ _ _ _ _ h.2 hN hW hS) (fun q => absurd h.1 q)
set_option maxHeartbeats 4000000 in
set_option maxRecDepth 100000 in
theorem tqL_c46 (C : tq_At p s m meth c args cL_law 4 (some .boolean) tqL_T RL D cy z ad) (hX : va_X b L xs s s.heap) (hbl : b < s.heap.size) (hbz : ¬ z ≤ b) (hi : i + 6 ≤ L) (hL : L ≤ 3072) (h : wpX11_count N (fun S1 r => wpX12_count (fun M1 r1 => r = r1 ∧ I N S1 M1) M (xs (i + 1))) S (xs (i + 1))) (hN : tq_nb z A0 s N) (hW : tq_wd D cy z H0 ad N (tq_mix S M) H) (hS : va_S (fun q => z ≤ q) s.heap H locs) (hl : lv_has ls 4 [(0, .ref b), (1, .ref (ad 1 0)), (2, .ref (ad 64 0)), (3, .int (Int32.ofNat i))])
    (kk : ∀ (N1 : tq_Nn) (S1 M1 : tq_St) (H1 : Heap) (locs1 : List Loc), I N1 S1 M1 → tq_nb z A0 s N1 → tq_wd D cy z H0 ad N1 (tq_mix S1 M1) H1 → va_S (fun q => z ≤ q) s.heap H1 locs1 → tq_Wb p l e 2048 84000 s m args below meth c z A0 N1 H1 locs1 Q (F0 m 1988 ls [])) : tq_Wb p l e 2048 84000 s m args below meth c z A0 N H locs Q (F0 m 1816 ls []) := by
  obtain ⟨hx, hb, hr, hml, hown, hts, hlocks, hK, hG⟩ := C
  refine lv_aload_n hx hb dL_law_1816 rfl (lv_at hl 1 rfl) ?_
  refine tqL_arg (k := 1) hx hb hX hbl hbz hS hl hi hL (by decide) (by decide) dL_law_1817 dL_law_1818 dL_law_1819 dL_law_1820 dL_law_1821 ?_
  refine tqc_callVi (C := "TwoSeas") (As := [.int (xs (i + 1))]) (rest := []) (kX11_count h) ⟨hx, hb, hml, hown, hts⟩ (cwV 1 hts (tq_goodV tw_1375 tw_1376 tw_1377 tw_115 tw_1378) rfl rfl rfl (by decide +kernel) ⟨(Nat.le_of_ble_eq_true rfl), (Nat.le_of_ble_eq_true rfl)⟩) (tq_recvC hK hW (by decide) (tq_mk_1 (by decide)) rfl) hK hG hW hS rfl hl.1 rfl (Nat.le_of_ble_eq_true rfl) dL_law_1822 hN.f (fun r S1 H locs h hW hS => ?_)
  refine lv_aload_n hx hb dL_law_1825 rfl (lv_at hl 2 rfl) ?_
  refine tqL_arg (k := 1) hx hb hX hbl hbz hS hl hi hL (by decide) (by decide) dL_law_1826 dL_law_1827 dL_law_1828 dL_law_1829 dL_law_1830 ?_
  refine tq_callVi (As := [.int (xs (i + 1))]) (rest := [.int r]) (kX12_count h) ⟨hx, hb, hml, hown, hts⟩ (cwV 1 hts (tq_goodV tw_2113 tw_2114 tw_2115 tw_125 tw_2116) rfl rfl rfl (by decide +kernel) ⟨(Nat.le_of_ble_eq_true rfl), (Nat.le_of_ble_eq_true rfl)⟩) hK hG hW hS rfl hl.1 rfl (Nat.le_of_ble_eq_true rfl) dL_law_1831 hN.f (fun r1 M1 H locs h hW hS => ?_)
  exact lv_icmp_eq (tgt := 1988) hx hb dL_law_1834 (by decide) (fun _ => kk _ _ _ _ _ h.2 hN hW hS) (fun q => absurd h.1 q)
set_option maxHeartbeats 4000000 in
set_option maxRecDepth 100000 in
theorem tqL_c47 (C : tq_At p s m meth c args cL_law 4 (some .boolean) tqL_T RL D cy z ad) (hX : va_X b L xs s s.heap) (hbl : b < s.heap.size) (hbz : ¬ z ≤ b) (hi : i + 6 ≤ L) (hL : L ≤ 3072) (h : wpX11_sheet N (fun S1 r => wpX12_sheet (fun M1 r1 => r = r1 ∧ I N S1 M1) M (xs (i + 1)) (xs (i + 2)) (xs (i + 3))) S (xs (i + 1)) (xs (i + 2)) (xs (i + 3))) (hN : tq_nb z A0 s N) (hW : tq_wd D cy z H0 ad N (tq_mix S M) H) (hS : va_S (fun q => z ≤ q) s.heap H locs) (hl : lv_has ls 4 [(0, .ref b), (1, .ref (ad 1 0)), (2, .ref (ad 64 0)), (3, .int (Int32.ofNat i))])
    (kk : ∀ (N1 : tq_Nn) (S1 M1 : tq_St) (H1 : Heap) (locs1 : List Loc), I N1 S1 M1 → tq_nb z A0 s N1 → tq_wd D cy z H0 ad N1 (tq_mix S1 M1) H1 → va_S (fun q => z ≤ q) s.heap H1 locs1 → tq_Wb p l e 2048 84000 s m args below meth c z A0 N1 H1 locs1 Q (F0 m 1988 ls [])) : tq_Wb p l e 2048 84000 s m args below meth c z A0 N H locs Q (F0 m 1839 ls []) := by
  obtain ⟨hx, hb, hr, hml, hown, hts, hlocks, hK, hG⟩ := C
  refine lv_aload_n hx hb dL_law_1839 rfl (lv_at hl 1 rfl) ?_
  refine tqL_arg (k := 1) hx hb hX hbl hbz hS hl hi hL (by decide) (by decide) dL_law_1840 dL_law_1841 dL_law_1842 dL_law_1843 dL_law_1844 ?_
  refine tqL_arg (k := 2) hx hb hX hbl hbz hS hl hi hL (by decide) (by decide) dL_law_1845 dL_law_1846 dL_law_1847 dL_law_1848 dL_law_1849 ?_
  refine tqL_arg (k := 3) hx hb hX hbl hbz hS hl hi hL (by decide) (by decide) dL_law_1850 dL_law_1851 dL_law_1852 dL_law_1853 dL_law_1854 ?_
  refine tqc_callVi (C := "TwoSeas") (As := [.int (xs (i + 1)), .int (xs (i + 2)), .int (xs (i + 3))]) (rest := []) (kX11_sheet h) ⟨hx, hb, hml, hown, hts⟩ (cwV 3 hts (tq_goodV tw_1379 tw_1380 tw_1381 tw_115 tw_1382) rfl rfl rfl (by decide +kernel) ⟨(Nat.le_of_ble_eq_true rfl), (Nat.le_of_ble_eq_true rfl)⟩) (tq_recvC hK hW (by decide) (tq_mk_1 (by decide)) rfl) hK hG hW hS rfl hl.1 rfl (Nat.le_of_ble_eq_true rfl) dL_law_1855 hN.f (fun r S1 H locs h hW hS => ?_)
  refine lv_aload_n hx hb dL_law_1858 rfl (lv_at hl 2 rfl) ?_
  refine tqL_arg (k := 1) hx hb hX hbl hbz hS hl hi hL (by decide) (by decide) dL_law_1859 dL_law_1860 dL_law_1861 dL_law_1862 dL_law_1863 ?_
  refine tqL_arg (k := 2) hx hb hX hbl hbz hS hl hi hL (by decide) (by decide) dL_law_1864 dL_law_1865 dL_law_1866 dL_law_1867 dL_law_1868 ?_
  refine tqL_arg (k := 3) hx hb hX hbl hbz hS hl hi hL (by decide) (by decide) dL_law_1869 dL_law_1870 dL_law_1871 dL_law_1872 dL_law_1873 ?_
  refine tq_callVi (As := [.int (xs (i + 1)), .int (xs (i + 2)), .int (xs (i + 3))]) (rest := [.int r]) (kX12_sheet h) ⟨hx, hb, hml, hown, hts⟩ (cwV 3 hts (tq_goodV tw_2117 tw_2118 tw_2119 tw_125 tw_2120) rfl rfl rfl (by decide +kernel) ⟨(Nat.le_of_ble_eq_true rfl), (Nat.le_of_ble_eq_true rfl)⟩) hK hG hW hS rfl hl.1 rfl (Nat.le_of_ble_eq_true rfl) dL_law_1874 hN.f (fun r1 M1 H locs h hW hS => ?_)
  exact lv_icmp_eq (tgt := 1988) hx hb dL_law_1877 (by decide) (fun _ => kk _ _ _ _ _ h.2 hN hW hS) (fun q => absurd h.1 q)
set_option maxHeartbeats 4000000 in
set_option maxRecDepth 100000 in
theorem tqL_c48 (C : tq_At p s m meth c args cL_law 4 (some .boolean) tqL_T RL D cy z ad) (hX : va_X b L xs s s.heap) (hbl : b < s.heap.size) (hbz : ¬ z ≤ b) (hi : i + 6 ≤ L) (hL : L ≤ 3072) (h : wpX11_cell N (fun S1 r => wpX12_cell (fun M1 r1 => r = r1 ∧ I N S1 M1) M (xs (i + 1)) (xs (i + 2)) (xs (i + 3))) S (xs (i + 1)) (xs (i + 2)) (xs (i + 3))) (hN : tq_nb z A0 s N) (hW : tq_wd D cy z H0 ad N (tq_mix S M) H) (hS : va_S (fun q => z ≤ q) s.heap H locs) (hl : lv_has ls 4 [(0, .ref b), (1, .ref (ad 1 0)), (2, .ref (ad 64 0)), (3, .int (Int32.ofNat i))])
    (kk : ∀ (N1 : tq_Nn) (S1 M1 : tq_St) (H1 : Heap) (locs1 : List Loc), I N1 S1 M1 → tq_nb z A0 s N1 → tq_wd D cy z H0 ad N1 (tq_mix S1 M1) H1 → va_S (fun q => z ≤ q) s.heap H1 locs1 → tq_Wb p l e 2048 84000 s m args below meth c z A0 N1 H1 locs1 Q (F0 m 1988 ls [])) : tq_Wb p l e 2048 84000 s m args below meth c z A0 N H locs Q (F0 m 1882 ls []) := by
  obtain ⟨hx, hb, hr, hml, hown, hts, hlocks, hK, hG⟩ := C
  refine lv_aload_n hx hb dL_law_1882 rfl (lv_at hl 1 rfl) ?_
  refine tqL_arg (k := 1) hx hb hX hbl hbz hS hl hi hL (by decide) (by decide) dL_law_1883 dL_law_1884 dL_law_1885 dL_law_1886 dL_law_1887 ?_
  refine tqL_arg (k := 2) hx hb hX hbl hbz hS hl hi hL (by decide) (by decide) dL_law_1888 dL_law_1889 dL_law_1890 dL_law_1891 dL_law_1892 ?_
  refine tqL_arg (k := 3) hx hb hX hbl hbz hS hl hi hL (by decide) (by decide) dL_law_1893 dL_law_1894 dL_law_1895 dL_law_1896 dL_law_1897 ?_
  refine tqc_callVi (C := "TwoSeas") (As := [.int (xs (i + 1)), .int (xs (i + 2)), .int (xs (i + 3))]) (rest := []) (kX11_cell h) ⟨hx, hb, hml, hown, hts⟩ (cwV 3 hts (tq_goodV tw_1388 tw_1389 tw_1390 tw_115 tw_1391) rfl rfl rfl (by decide +kernel) ⟨(Nat.le_of_ble_eq_true rfl), (Nat.le_of_ble_eq_true rfl)⟩) (tq_recvC hK hW (by decide) (tq_mk_1 (by decide)) rfl) hK hG hW hS rfl hl.1 rfl (Nat.le_of_ble_eq_true rfl) dL_law_1898 hN.f (fun r S1 H locs h hW hS => ?_)
  refine lv_aload_n hx hb dL_law_1901 rfl (lv_at hl 2 rfl) ?_
  refine tqL_arg (k := 1) hx hb hX hbl hbz hS hl hi hL (by decide) (by decide) dL_law_1902 dL_law_1903 dL_law_1904 dL_law_1905 dL_law_1906 ?_
  refine tqL_arg (k := 2) hx hb hX hbl hbz hS hl hi hL (by decide) (by decide) dL_law_1907 dL_law_1908 dL_law_1909 dL_law_1910 dL_law_1911 ?_
  refine tqL_arg (k := 3) hx hb hX hbl hbz hS hl hi hL (by decide) (by decide) dL_law_1912 dL_law_1913 dL_law_1914 dL_law_1915 dL_law_1916 ?_
  refine tq_callVi (As := [.int (xs (i + 1)), .int (xs (i + 2)), .int (xs (i + 3))]) (rest := [.int r]) (kX12_cell h) ⟨hx, hb, hml, hown, hts⟩ (cwV 3 hts (tq_goodV tw_2121 tw_2122 tw_2123 tw_125 tw_2124) rfl rfl rfl (by decide +kernel) ⟨(Nat.le_of_ble_eq_true rfl), (Nat.le_of_ble_eq_true rfl)⟩) hK hG hW hS rfl hl.1 rfl (Nat.le_of_ble_eq_true rfl) dL_law_1917 hN.f (fun r1 M1 H locs h hW hS => ?_)
  exact lv_icmp_eq (tgt := 1988) hx hb dL_law_1920 (by decide) (fun _ => kk _ _ _ _ _ h.2 hN hW hS) (fun q => absurd h.1 q)
set_option maxHeartbeats 4000000 in
set_option maxRecDepth 100000 in
theorem tqL_c49 (C : tq_At p s m meth c args cL_law 4 (some .boolean) tqL_T RL D cy z ad) (hX : va_X b L xs s s.heap) (hbl : b < s.heap.size) (hbz : ¬ z ≤ b) (hi : i + 6 ≤ L) (hL : L ≤ 3072) (h : wpX11_carry N (fun S1 r => wpX12_carry (fun M1 r1 => r = r1 ∧ I N S1 M1) M (xs (i + 1)) (xs (i + 2)) (xs (i + 3)) (xs (i + 4)) (xs (i + 5))) S (xs (i + 1)) (xs (i + 2)) (xs (i + 3)) (xs (i + 4)) (xs (i + 5))) (hN : tq_nb z A0 s N) (hW : tq_wd D cy z H0 ad N (tq_mix S M) H) (hS : va_S (fun q => z ≤ q) s.heap H locs) (hl : lv_has ls 4 [(0, .ref b), (1, .ref (ad 1 0)), (2, .ref (ad 64 0)), (3, .int (Int32.ofNat i))])
    (kk : ∀ (N1 : tq_Nn) (S1 M1 : tq_St) (H1 : Heap) (locs1 : List Loc), I N1 S1 M1 → tq_nb z A0 s N1 → tq_wd D cy z H0 ad N1 (tq_mix S1 M1) H1 → va_S (fun q => z ≤ q) s.heap H1 locs1 → tq_Wb p l e 2048 84000 s m args below meth c z A0 N1 H1 locs1 Q (F0 m 1988 ls [])) : tq_Wb p l e 2048 84000 s m args below meth c z A0 N H locs Q (F0 m 1925 ls []) := by
  obtain ⟨hx, hb, hr, hml, hown, hts, hlocks, hK, hG⟩ := C
  refine lv_aload_n hx hb dL_law_1925 rfl (lv_at hl 1 rfl) ?_
  refine tqL_arg (k := 1) hx hb hX hbl hbz hS hl hi hL (by decide) (by decide) dL_law_1926 dL_law_1927 dL_law_1928 dL_law_1929 dL_law_1930 ?_
  refine tqL_arg (k := 2) hx hb hX hbl hbz hS hl hi hL (by decide) (by decide) dL_law_1931 dL_law_1932 dL_law_1933 dL_law_1934 dL_law_1935 ?_
  refine tqL_arg (k := 3) hx hb hX hbl hbz hS hl hi hL (by decide) (by decide) dL_law_1936 dL_law_1937 dL_law_1938 dL_law_1939 dL_law_1940 ?_
  refine tqL_arg (k := 4) hx hb hX hbl hbz hS hl hi hL (by decide) (by decide) dL_law_1941 dL_law_1942 dL_law_1943 dL_law_1944 dL_law_1945 ?_
  refine tqL_arg (k := 5) hx hb hX hbl hbz hS hl hi hL (by decide) (by decide) dL_law_1946 dL_law_1947 dL_law_1948 dL_law_1949 dL_law_1950 ?_
  refine tqc_callVi (C := "TwoSeas") (As := [.int (xs (i + 1)), .int (xs (i + 2)), .int (xs (i + 3)), .int (xs (i + 4)), .int (xs (i + 5))]) (rest := []) (kX11_carry h) ⟨hx, hb, hml, hown, hts⟩ (cwV 5 hts (tq_goodV tw_1396 tw_1397 tw_1398 tw_115 tw_1399) rfl rfl rfl (by decide +kernel) ⟨(Nat.le_of_ble_eq_true rfl), (Nat.le_of_ble_eq_true rfl)⟩) (tq_recvC hK hW (by decide) (tq_mk_1 (by decide)) rfl) hK hG hW hS rfl hl.1 rfl (Nat.le_of_ble_eq_true rfl) dL_law_1951 hN.f (fun r S1 H locs h hW hS => ?_)
  refine lv_aload_n hx hb dL_law_1954 rfl (lv_at hl 2 rfl) ?_
  refine tqL_arg (k := 1) hx hb hX hbl hbz hS hl hi hL (by decide) (by decide) dL_law_1955 dL_law_1956 dL_law_1957 dL_law_1958 dL_law_1959 ?_
  refine tqL_arg (k := 2) hx hb hX hbl hbz hS hl hi hL (by decide) (by decide) dL_law_1960 dL_law_1961 dL_law_1962 dL_law_1963 dL_law_1964 ?_
  refine tqL_arg (k := 3) hx hb hX hbl hbz hS hl hi hL (by decide) (by decide) dL_law_1965 dL_law_1966 dL_law_1967 dL_law_1968 dL_law_1969 ?_
  refine tqL_arg (k := 4) hx hb hX hbl hbz hS hl hi hL (by decide) (by decide) dL_law_1970 dL_law_1971 dL_law_1972 dL_law_1973 dL_law_1974 ?_
  refine tqL_arg (k := 5) hx hb hX hbl hbz hS hl hi hL (by decide) (by decide) dL_law_1975 dL_law_1976 dL_law_1977 dL_law_1978 dL_law_1979 ?_
  refine tq_callVi (As := [.int (xs (i + 1)), .int (xs (i + 2)), .int (xs (i + 3)), .int (xs (i + 4)), .int (xs (i + 5))]) (rest := [.int r]) (kX12_carry h) ⟨hx, hb, hml, hown, hts⟩ (cwV 5 hts (tq_goodV tw_2128 tw_2129 tw_2130 tw_125 tw_2131) rfl rfl rfl (by decide +kernel) ⟨(Nat.le_of_ble_eq_true rfl), (Nat.le_of_ble_eq_true rfl)⟩) hK hG hW hS rfl hl.1 rfl (Nat.le_of_ble_eq_true rfl) dL_law_1980 hN.f (fun r1 M1 H locs h hW hS => ?_)
  exact lv_icmp_eq (tgt := 1988) hx hb dL_law_1983 (by decide) (fun _ => kk _ _ _ _ _ h.2 hN hW hS) (fun q => absurd h.1 q)
end TQLAW
