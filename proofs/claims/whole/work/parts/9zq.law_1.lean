/-! the law's body: its cases, on -/
section TQLAW
variable {p : Program} {l : Launch} {e : Env} {s : State} {m : MethodId} {args : Array Value} {below : List Frame} {meth : Method} {c : Code} {H : Heap} {locs : List Loc} {Q : State → Prop}
variable {ls : Array Slot} {D : va_G} {cy : Nat → ClassId} {z A0 : Nat} {H0 : Heap} {ad : Nat → Nat → Nat} {N : tq_Nn} {S M : tq_St} {b L i : Nat} {xs : Nat → Int32} {I : tq_Nn → tq_St → tq_St → Prop}
set_option maxHeartbeats 4000000 in
set_option maxRecDepth 100000 in
theorem tqL_c10 (C : tq_At p s m meth c args cL_law 4 (some .boolean) tqL_T RL D cy z ad) (hX : va_X b L xs s s.heap) (hbl : b < s.heap.size) (hbz : ¬ z ≤ b) (hi : i + 6 ≤ L) (hL : L ≤ 3072) (h : wpX11_letter (fun N1 S1 r => wpX12_letter (fun M1 r1 => r = r1 ∧ I N1 S1 M1) M (xs (i + 1)) (xs (i + 2))) N S (xs (i + 1)) (xs (i + 2))) (hN : tq_nb z A0 s N) (hW : tq_wd D cy z H0 ad N (tq_mix S M) H) (hS : va_S (fun q => z ≤ q) s.heap H locs) (hl : lv_has ls 4 [(0, .ref b), (1, .ref (ad 1 0)), (2, .ref (ad 64 0)), (3, .int (Int32.ofNat i))])
    (kk : ∀ (N1 : tq_Nn) (S1 M1 : tq_St) (H1 : Heap) (locs1 : List Loc), I N1 S1 M1 → tq_nb z A0 s N1 → tq_wd D cy z H0 ad N1 (tq_mix S1 M1) H1 → va_S (fun q => z ≤ q) s.heap H1 locs1 → tq_Wb p l e 2048 84000 s m args below meth c z A0 N1 H1 locs1 Q (F0 m 1988 ls [])) : tq_Wb p l e 2048 84000 s m args below meth c z A0 N H locs Q (F0 m 608 ls []) := by
  obtain ⟨hx, hb, hr, hml, hown, hts, hlocks, hK, hG⟩ := C
  refine lv_aload_n hx hb dL_law_608 rfl (lv_at hl 1 rfl) ?_
  refine tqL_arg (k := 1) hx hb hX hbl hbz hS hl hi hL (by decide) (by decide) dL_law_609 dL_law_610 dL_law_611 dL_law_612 dL_law_613 ?_
  refine tqL_arg (k := 2) hx hb hX hbl hbz hS hl hi hL (by decide) (by decide) dL_law_614 dL_law_615 dL_law_616 dL_law_617 dL_law_618 ?_
  refine tqb_callVi (C := "TwoSeas") (As := [.int (xs (i + 1)), .int (xs (i + 2))]) (rest := []) (kX11_letter h) ⟨hx, hb, hml, hown, hts⟩ (cwV 2 hts (tq_goodV tw_807 tw_808 tw_809 tw_115 tw_810) rfl rfl rfl (by decide +kernel) ⟨(Nat.le_of_ble_eq_true rfl), (Nat.le_of_ble_eq_true rfl)⟩) (tq_recvC hK hW (by decide) (tq_mk_1 (by decide)) rfl) hK hG hW hS rfl hl.1 rfl (Nat.le_of_ble_eq_true rfl) dL_law_619 hN (fun r N1 S1 H locs h hN hW hS => ?_)
  refine lv_aload_n hx hb dL_law_622 rfl (lv_at hl 2 rfl) ?_
  refine tqL_arg (k := 1) hx hb hX hbl hbz hS hl hi hL (by decide) (by decide) dL_law_623 dL_law_624 dL_law_625 dL_law_626 dL_law_627 ?_
  refine tqL_arg (k := 2) hx hb hX hbl hbz hS hl hi hL (by decide) (by decide) dL_law_628 dL_law_629 dL_law_630 dL_law_631 dL_law_632 ?_
  refine tq_callVi (As := [.int (xs (i + 1)), .int (xs (i + 2))]) (rest := [.int r]) (kX12_letter h) ⟨hx, hb, hml, hown, hts⟩ (cwV 2 hts (tq_goodV tw_1763 tw_1764 tw_1765 tw_125 tw_1766) rfl rfl rfl (by decide +kernel) ⟨(Nat.le_of_ble_eq_true rfl), (Nat.le_of_ble_eq_true rfl)⟩) hK hG hW hS rfl hl.1 rfl (Nat.le_of_ble_eq_true rfl) dL_law_633 hN.f (fun r1 M1 H locs h hW hS => ?_)
  exact lv_icmp_eq (tgt := 1988) hx hb dL_law_636 (by decide) (fun _ => kk _ _ _ _ _ h.2 hN hW hS) (fun q => absurd h.1 q)
set_option maxHeartbeats 4000000 in
set_option maxRecDepth 100000 in
theorem tqL_c11 (C : tq_At p s m meth c args cL_law 4 (some .boolean) tqL_T RL D cy z ad) (hX : va_X b L xs s s.heap) (hbl : b < s.heap.size) (hbz : ¬ z ≤ b) (hi : i + 6 ≤ L) (hL : L ≤ 3072) (h : wpX11_copy N (fun S1 r => wpX12_copy (fun M1 r1 => r = r1 ∧ I N S1 M1) M (xs (i + 1)) (xs (i + 2))) S (xs (i + 1)) (xs (i + 2))) (hN : tq_nb z A0 s N) (hW : tq_wd D cy z H0 ad N (tq_mix S M) H) (hS : va_S (fun q => z ≤ q) s.heap H locs) (hl : lv_has ls 4 [(0, .ref b), (1, .ref (ad 1 0)), (2, .ref (ad 64 0)), (3, .int (Int32.ofNat i))])
    (kk : ∀ (N1 : tq_Nn) (S1 M1 : tq_St) (H1 : Heap) (locs1 : List Loc), I N1 S1 M1 → tq_nb z A0 s N1 → tq_wd D cy z H0 ad N1 (tq_mix S1 M1) H1 → va_S (fun q => z ≤ q) s.heap H1 locs1 → tq_Wb p l e 2048 84000 s m args below meth c z A0 N1 H1 locs1 Q (F0 m 1988 ls [])) : tq_Wb p l e 2048 84000 s m args below meth c z A0 N H locs Q (F0 m 641 ls []) := by
  obtain ⟨hx, hb, hr, hml, hown, hts, hlocks, hK, hG⟩ := C
  refine lv_aload_n hx hb dL_law_641 rfl (lv_at hl 1 rfl) ?_
  refine tqL_arg (k := 1) hx hb hX hbl hbz hS hl hi hL (by decide) (by decide) dL_law_642 dL_law_643 dL_law_644 dL_law_645 dL_law_646 ?_
  refine tqL_arg (k := 2) hx hb hX hbl hbz hS hl hi hL (by decide) (by decide) dL_law_647 dL_law_648 dL_law_649 dL_law_650 dL_law_651 ?_
  refine tqc_callVi (C := "TwoSeas") (As := [.int (xs (i + 1)), .int (xs (i + 2))]) (rest := []) (kX11_copy h) ⟨hx, hb, hml, hown, hts⟩ (cwV 2 hts (tq_goodV tw_815 tw_816 tw_817 tw_115 tw_818) rfl rfl rfl (by decide +kernel) ⟨(Nat.le_of_ble_eq_true rfl), (Nat.le_of_ble_eq_true rfl)⟩) (tq_recvC hK hW (by decide) (tq_mk_1 (by decide)) rfl) hK hG hW hS rfl hl.1 rfl (Nat.le_of_ble_eq_true rfl) dL_law_652 hN.f (fun r S1 H locs h hW hS => ?_)
  refine lv_aload_n hx hb dL_law_655 rfl (lv_at hl 2 rfl) ?_
  refine tqL_arg (k := 1) hx hb hX hbl hbz hS hl hi hL (by decide) (by decide) dL_law_656 dL_law_657 dL_law_658 dL_law_659 dL_law_660 ?_
  refine tqL_arg (k := 2) hx hb hX hbl hbz hS hl hi hL (by decide) (by decide) dL_law_661 dL_law_662 dL_law_663 dL_law_664 dL_law_665 ?_
  refine tq_callVi (As := [.int (xs (i + 1)), .int (xs (i + 2))]) (rest := [.int r]) (kX12_copy h) ⟨hx, hb, hml, hown, hts⟩ (cwV 2 hts (tq_goodV tw_1767 tw_1768 tw_1769 tw_125 tw_1770) rfl rfl rfl (by decide +kernel) ⟨(Nat.le_of_ble_eq_true rfl), (Nat.le_of_ble_eq_true rfl)⟩) hK hG hW hS rfl hl.1 rfl (Nat.le_of_ble_eq_true rfl) dL_law_666 hN.f (fun r1 M1 H locs h hW hS => ?_)
  exact lv_icmp_eq (tgt := 1988) hx hb dL_law_669 (by decide) (fun _ => kk _ _ _ _ _ h.2 hN hW hS) (fun q => absurd h.1 q)
set_option maxHeartbeats 4000000 in
set_option maxRecDepth 100000 in
theorem tqL_c12 (C : tq_At p s m meth c args cL_law 4 (some .boolean) tqL_T RL D cy z ad) (hX : va_X b L xs s s.heap) (hbl : b < s.heap.size) (hbz : ¬ z ≤ b) (hi : i + 6 ≤ L) (hL : L ≤ 3072) (h : wpX11_known N (fun S1 r => wpX12_known (fun M1 r1 => r = r1 ∧ I N S1 M1) M (xs (i + 1)) (xs (i + 2))) S (xs (i + 1)) (xs (i + 2))) (hN : tq_nb z A0 s N) (hW : tq_wd D cy z H0 ad N (tq_mix S M) H) (hS : va_S (fun q => z ≤ q) s.heap H locs) (hl : lv_has ls 4 [(0, .ref b), (1, .ref (ad 1 0)), (2, .ref (ad 64 0)), (3, .int (Int32.ofNat i))])
    (kk : ∀ (N1 : tq_Nn) (S1 M1 : tq_St) (H1 : Heap) (locs1 : List Loc), I N1 S1 M1 → tq_nb z A0 s N1 → tq_wd D cy z H0 ad N1 (tq_mix S1 M1) H1 → va_S (fun q => z ≤ q) s.heap H1 locs1 → tq_Wb p l e 2048 84000 s m args below meth c z A0 N1 H1 locs1 Q (F0 m 1988 ls [])) : tq_Wb p l e 2048 84000 s m args below meth c z A0 N H locs Q (F0 m 674 ls []) := by
  obtain ⟨hx, hb, hr, hml, hown, hts, hlocks, hK, hG⟩ := C
  refine lv_aload_n hx hb dL_law_674 rfl (lv_at hl 1 rfl) ?_
  refine tqL_arg (k := 1) hx hb hX hbl hbz hS hl hi hL (by decide) (by decide) dL_law_675 dL_law_676 dL_law_677 dL_law_678 dL_law_679 ?_
  refine tqL_arg (k := 2) hx hb hX hbl hbz hS hl hi hL (by decide) (by decide) dL_law_680 dL_law_681 dL_law_682 dL_law_683 dL_law_684 ?_
  refine tqc_callVi (C := "TwoSeas") (As := [.int (xs (i + 1)), .int (xs (i + 2))]) (rest := []) (kX11_known h) ⟨hx, hb, hml, hown, hts⟩ (cwV 2 hts (tq_goodV tw_846 tw_847 tw_848 tw_115 tw_849) rfl rfl rfl (by decide +kernel) ⟨(Nat.le_of_ble_eq_true rfl), (Nat.le_of_ble_eq_true rfl)⟩) (tq_recvC hK hW (by decide) (tq_mk_1 (by decide)) rfl) hK hG hW hS rfl hl.1 rfl (Nat.le_of_ble_eq_true rfl) dL_law_685 hN.f (fun r S1 H locs h hW hS => ?_)
  refine lv_aload_n hx hb dL_law_688 rfl (lv_at hl 2 rfl) ?_
  refine tqL_arg (k := 1) hx hb hX hbl hbz hS hl hi hL (by decide) (by decide) dL_law_689 dL_law_690 dL_law_691 dL_law_692 dL_law_693 ?_
  refine tqL_arg (k := 2) hx hb hX hbl hbz hS hl hi hL (by decide) (by decide) dL_law_694 dL_law_695 dL_law_696 dL_law_697 dL_law_698 ?_
  refine tq_callVi (As := [.int (xs (i + 1)), .int (xs (i + 2))]) (rest := [.int r]) (kX12_known h) ⟨hx, hb, hml, hown, hts⟩ (cwV 2 hts (tq_goodV tw_1779 tw_1780 tw_1781 tw_125 tw_1782) rfl rfl rfl (by decide +kernel) ⟨(Nat.le_of_ble_eq_true rfl), (Nat.le_of_ble_eq_true rfl)⟩) hK hG hW hS rfl hl.1 rfl (Nat.le_of_ble_eq_true rfl) dL_law_699 hN.f (fun r1 M1 H locs h hW hS => ?_)
  exact lv_icmp_eq (tgt := 1988) hx hb dL_law_702 (by decide) (fun _ => kk _ _ _ _ _ h.2 hN hW hS) (fun q => absurd h.1 q)
set_option maxHeartbeats 4000000 in
set_option maxRecDepth 100000 in
theorem tqL_c13 (C : tq_At p s m meth c args cL_law 4 (some .boolean) tqL_T RL D cy z ad) (hX : va_X b L xs s s.heap) (hbl : b < s.heap.size) (hbz : ¬ z ≤ b) (hi : i + 6 ≤ L) (hL : L ≤ 3072) (h : wpX11_paper N (fun S1 r => wpX12_paper (fun M1 r1 => r = r1 ∧ I N S1 M1) M (xs (i + 1)) (xs (i + 2))) S (xs (i + 1)) (xs (i + 2))) (hN : tq_nb z A0 s N) (hW : tq_wd D cy z H0 ad N (tq_mix S M) H) (hS : va_S (fun q => z ≤ q) s.heap H locs) (hl : lv_has ls 4 [(0, .ref b), (1, .ref (ad 1 0)), (2, .ref (ad 64 0)), (3, .int (Int32.ofNat i))])
    (kk : ∀ (N1 : tq_Nn) (S1 M1 : tq_St) (H1 : Heap) (locs1 : List Loc), I N1 S1 M1 → tq_nb z A0 s N1 → tq_wd D cy z H0 ad N1 (tq_mix S1 M1) H1 → va_S (fun q => z ≤ q) s.heap H1 locs1 → tq_Wb p l e 2048 84000 s m args below meth c z A0 N1 H1 locs1 Q (F0 m 1988 ls [])) : tq_Wb p l e 2048 84000 s m args below meth c z A0 N H locs Q (F0 m 707 ls []) := by
  obtain ⟨hx, hb, hr, hml, hown, hts, hlocks, hK, hG⟩ := C
  refine lv_aload_n hx hb dL_law_707 rfl (lv_at hl 1 rfl) ?_
  refine tqL_arg (k := 1) hx hb hX hbl hbz hS hl hi hL (by decide) (by decide) dL_law_708 dL_law_709 dL_law_710 dL_law_711 dL_law_712 ?_
  refine tqL_arg (k := 2) hx hb hX hbl hbz hS hl hi hL (by decide) (by decide) dL_law_713 dL_law_714 dL_law_715 dL_law_716 dL_law_717 ?_
  refine tqc_callVi (C := "TwoSeas") (As := [.int (xs (i + 1)), .int (xs (i + 2))]) (rest := []) (kX11_paper h) ⟨hx, hb, hml, hown, hts⟩ (cwV 2 hts (tq_goodV tw_850 tw_851 tw_852 tw_115 tw_853) rfl rfl rfl (by decide +kernel) ⟨(Nat.le_of_ble_eq_true rfl), (Nat.le_of_ble_eq_true rfl)⟩) (tq_recvC hK hW (by decide) (tq_mk_1 (by decide)) rfl) hK hG hW hS rfl hl.1 rfl (Nat.le_of_ble_eq_true rfl) dL_law_718 hN.f (fun r S1 H locs h hW hS => ?_)
  refine lv_aload_n hx hb dL_law_721 rfl (lv_at hl 2 rfl) ?_
  refine tqL_arg (k := 1) hx hb hX hbl hbz hS hl hi hL (by decide) (by decide) dL_law_722 dL_law_723 dL_law_724 dL_law_725 dL_law_726 ?_
  refine tqL_arg (k := 2) hx hb hX hbl hbz hS hl hi hL (by decide) (by decide) dL_law_727 dL_law_728 dL_law_729 dL_law_730 dL_law_731 ?_
  refine tq_callVi (As := [.int (xs (i + 1)), .int (xs (i + 2))]) (rest := [.int r]) (kX12_paper h) ⟨hx, hb, hml, hown, hts⟩ (cwV 2 hts (tq_goodV tw_1783 tw_1784 tw_1785 tw_125 tw_1786) rfl rfl rfl (by decide +kernel) ⟨(Nat.le_of_ble_eq_true rfl), (Nat.le_of_ble_eq_true rfl)⟩) hK hG hW hS rfl hl.1 rfl (Nat.le_of_ble_eq_true rfl) dL_law_732 hN.f (fun r1 M1 H locs h hW hS => ?_)
  exact lv_icmp_eq (tgt := 1988) hx hb dL_law_735 (by decide) (fun _ => kk _ _ _ _ _ h.2 hN hW hS) (fun q => absurd h.1 q)
set_option maxHeartbeats 4000000 in
set_option maxRecDepth 100000 in
theorem tqL_c14 (C : tq_At p s m meth c args cL_law 4 (some .boolean) tqL_T RL D cy z ad) (hX : va_X b L xs s s.heap) (hbl : b < s.heap.size) (hbz : ¬ z ≤ b) (hi : i + 6 ≤ L) (hL : L ≤ 3072) (h : wpX11_force N (fun S1 r => wpX12_force (fun M1 r1 => r = r1 ∧ I N S1 M1) M (xs (i + 1))) S (xs (i + 1))) (hN : tq_nb z A0 s N) (hW : tq_wd D cy z H0 ad N (tq_mix S M) H) (hS : va_S (fun q => z ≤ q) s.heap H locs) (hl : lv_has ls 4 [(0, .ref b), (1, .ref (ad 1 0)), (2, .ref (ad 64 0)), (3, .int (Int32.ofNat i))])
    (kk : ∀ (N1 : tq_Nn) (S1 M1 : tq_St) (H1 : Heap) (locs1 : List Loc), I N1 S1 M1 → tq_nb z A0 s N1 → tq_wd D cy z H0 ad N1 (tq_mix S1 M1) H1 → va_S (fun q => z ≤ q) s.heap H1 locs1 → tq_Wb p l e 2048 84000 s m args below meth c z A0 N1 H1 locs1 Q (F0 m 1988 ls [])) : tq_Wb p l e 2048 84000 s m args below meth c z A0 N H locs Q (F0 m 740 ls []) := by
  obtain ⟨hx, hb, hr, hml, hown, hts, hlocks, hK, hG⟩ := C
  refine lv_aload_n hx hb dL_law_740 rfl (lv_at hl 1 rfl) ?_
  refine tqL_arg (k := 1) hx hb hX hbl hbz hS hl hi hL (by decide) (by decide) dL_law_741 dL_law_742 dL_law_743 dL_law_744 dL_law_745 ?_
  refine tqc_callVi (C := "TwoSeas") (As := [.int (xs (i + 1))]) (rest := []) (kX11_force h) ⟨hx, hb, hml, hown, hts⟩ (cwV 1 hts (tq_goodV tw_854 tw_855 tw_856 tw_115 tw_857) rfl rfl rfl (by decide +kernel) ⟨(Nat.le_of_ble_eq_true rfl), (Nat.le_of_ble_eq_true rfl)⟩) (tq_recvC hK hW (by decide) (tq_mk_1 (by decide)) rfl) hK hG hW hS rfl hl.1 rfl (Nat.le_of_ble_eq_true rfl) dL_law_746 hN.f (fun r S1 H locs h hW hS => ?_)
  refine lv_aload_n hx hb dL_law_749 rfl (lv_at hl 2 rfl) ?_
  refine tqL_arg (k := 1) hx hb hX hbl hbz hS hl hi hL (by decide) (by decide) dL_law_750 dL_law_751 dL_law_752 dL_law_753 dL_law_754 ?_
  refine tq_callVi (As := [.int (xs (i + 1))]) (rest := [.int r]) (kX12_force h) ⟨hx, hb, hml, hown, hts⟩ (cwV 1 hts (tq_goodV tw_1787 tw_1788 tw_1789 tw_125 tw_1790) rfl rfl rfl (by decide +kernel) ⟨(Nat.le_of_ble_eq_true rfl), (Nat.le_of_ble_eq_true rfl)⟩) hK hG hW hS rfl hl.1 rfl (Nat.le_of_ble_eq_true rfl) dL_law_755 hN.f (fun r1 M1 H locs h hW hS => ?_)
  exact lv_icmp_eq (tgt := 1988) hx hb dL_law_758 (by decide) (fun _ => kk _ _ _ _ _ h.2 hN hW hS) (fun q => absurd h.1 q)
set_option maxHeartbeats 4000000 in
set_option maxRecDepth 100000 in
theorem tqL_c15 (C : tq_At p s m meth c args cL_law 4 (some .boolean) tqL_T RL D cy z ad) (hX : va_X b L xs s s.heap) (hbl : b < s.heap.size) (hbz : ¬ z ≤ b) (hi : i + 6 ≤ L) (hL : L ≤ 3072) (h : wpX11_forced N (fun S1 r => wpX12_forced (fun M1 r1 => r = r1 ∧ I N S1 M1) M (xs (i + 1)) (xs (i + 2))) S (xs (i + 1)) (xs (i + 2))) (hN : tq_nb z A0 s N) (hW : tq_wd D cy z H0 ad N (tq_mix S M) H) (hS : va_S (fun q => z ≤ q) s.heap H locs) (hl : lv_has ls 4 [(0, .ref b), (1, .ref (ad 1 0)), (2, .ref (ad 64 0)), (3, .int (Int32.ofNat i))])
    (kk : ∀ (N1 : tq_Nn) (S1 M1 : tq_St) (H1 : Heap) (locs1 : List Loc), I N1 S1 M1 → tq_nb z A0 s N1 → tq_wd D cy z H0 ad N1 (tq_mix S1 M1) H1 → va_S (fun q => z ≤ q) s.heap H1 locs1 → tq_Wb p l e 2048 84000 s m args below meth c z A0 N1 H1 locs1 Q (F0 m 1988 ls [])) : tq_Wb p l e 2048 84000 s m args below meth c z A0 N H locs Q (F0 m 763 ls []) := by
  obtain ⟨hx, hb, hr, hml, hown, hts, hlocks, hK, hG⟩ := C
  refine lv_aload_n hx hb dL_law_763 rfl (lv_at hl 1 rfl) ?_
  refine tqL_arg (k := 1) hx hb hX hbl hbz hS hl hi hL (by decide) (by decide) dL_law_764 dL_law_765 dL_law_766 dL_law_767 dL_law_768 ?_
  refine tqL_arg (k := 2) hx hb hX hbl hbz hS hl hi hL (by decide) (by decide) dL_law_769 dL_law_770 dL_law_771 dL_law_772 dL_law_773 ?_
  refine tqc_callVi (C := "TwoSeas") (As := [.int (xs (i + 1)), .int (xs (i + 2))]) (rest := []) (kX11_forced h) ⟨hx, hb, hml, hown, hts⟩ (cwV 2 hts (tq_goodV tw_858 tw_859 tw_860 tw_115 tw_861) rfl rfl rfl (by decide +kernel) ⟨(Nat.le_of_ble_eq_true rfl), (Nat.le_of_ble_eq_true rfl)⟩) (tq_recvC hK hW (by decide) (tq_mk_1 (by decide)) rfl) hK hG hW hS rfl hl.1 rfl (Nat.le_of_ble_eq_true rfl) dL_law_774 hN.f (fun r S1 H locs h hW hS => ?_)
  refine lv_aload_n hx hb dL_law_777 rfl (lv_at hl 2 rfl) ?_
  refine tqL_arg (k := 1) hx hb hX hbl hbz hS hl hi hL (by decide) (by decide) dL_law_778 dL_law_779 dL_law_780 dL_law_781 dL_law_782 ?_
  refine tqL_arg (k := 2) hx hb hX hbl hbz hS hl hi hL (by decide) (by decide) dL_law_783 dL_law_784 dL_law_785 dL_law_786 dL_law_787 ?_
  refine tq_callVi (As := [.int (xs (i + 1)), .int (xs (i + 2))]) (rest := [.int r]) (kX12_forced h) ⟨hx, hb, hml, hown, hts⟩ (cwV 2 hts (tq_goodV tw_1819 tw_1820 tw_1821 tw_125 tw_1822) rfl rfl rfl (by decide +kernel) ⟨(Nat.le_of_ble_eq_true rfl), (Nat.le_of_ble_eq_true rfl)⟩) hK hG hW hS rfl hl.1 rfl (Nat.le_of_ble_eq_true rfl) dL_law_788 hN.f (fun r1 M1 H locs h hW hS => ?_)
  exact lv_icmp_eq (tgt := 1988) hx hb dL_law_791 (by decide) (fun _ => kk _ _ _ _ _ h.2 hN hW hS) (fun q => absurd h.1 q)
set_option maxHeartbeats 4000000 in
set_option maxRecDepth 100000 in
theorem tqL_c16 (C : tq_At p s m meth c args cL_law 4 (some .boolean) tqL_T RL D cy z ad) (hX : va_X b L xs s s.heap) (hbl : b < s.heap.size) (hbz : ¬ z ≤ b) (hi : i + 6 ≤ L) (hL : L ≤ 3072) (h : wpX11_holds N (fun S1 r => wpX12_holds (fun M1 r1 => r = r1 ∧ I N S1 M1) M (xs (i + 1)) (xs (i + 2))) S (xs (i + 1)) (xs (i + 2))) (hN : tq_nb z A0 s N) (hW : tq_wd D cy z H0 ad N (tq_mix S M) H) (hS : va_S (fun q => z ≤ q) s.heap H locs) (hl : lv_has ls 4 [(0, .ref b), (1, .ref (ad 1 0)), (2, .ref (ad 64 0)), (3, .int (Int32.ofNat i))])
    (kk : ∀ (N1 : tq_Nn) (S1 M1 : tq_St) (H1 : Heap) (locs1 : List Loc), I N1 S1 M1 → tq_nb z A0 s N1 → tq_wd D cy z H0 ad N1 (tq_mix S1 M1) H1 → va_S (fun q => z ≤ q) s.heap H1 locs1 → tq_Wb p l e 2048 84000 s m args below meth c z A0 N1 H1 locs1 Q (F0 m 1988 ls [])) : tq_Wb p l e 2048 84000 s m args below meth c z A0 N H locs Q (F0 m 796 ls []) := by
  obtain ⟨hx, hb, hr, hml, hown, hts, hlocks, hK, hG⟩ := C
  refine lv_aload_n hx hb dL_law_796 rfl (lv_at hl 1 rfl) ?_
  refine tqL_arg (k := 1) hx hb hX hbl hbz hS hl hi hL (by decide) (by decide) dL_law_797 dL_law_798 dL_law_799 dL_law_800 dL_law_801 ?_
  refine tqL_arg (k := 2) hx hb hX hbl hbz hS hl hi hL (by decide) (by decide) dL_law_802 dL_law_803 dL_law_804 dL_law_805 dL_law_806 ?_
  refine tqc_callVi (C := "TwoSeas") (As := [.int (xs (i + 1)), .int (xs (i + 2))]) (rest := []) (kX11_holds h) ⟨hx, hb, hml, hown, hts⟩ (cwV 2 hts (tq_goodV tw_867 tw_868 tw_869 tw_115 tw_870) rfl rfl rfl (by decide +kernel) ⟨(Nat.le_of_ble_eq_true rfl), (Nat.le_of_ble_eq_true rfl)⟩) (tq_recvC hK hW (by decide) (tq_mk_1 (by decide)) rfl) hK hG hW hS rfl hl.1 rfl (Nat.le_of_ble_eq_true rfl) dL_law_807 hN.f (fun r S1 H locs h hW hS => ?_)
  refine lv_aload_n hx hb dL_law_810 rfl (lv_at hl 2 rfl) ?_
  refine tqL_arg (k := 1) hx hb hX hbl hbz hS hl hi hL (by decide) (by decide) dL_law_811 dL_law_812 dL_law_813 dL_law_814 dL_law_815 ?_
  refine tqL_arg (k := 2) hx hb hX hbl hbz hS hl hi hL (by decide) (by decide) dL_law_816 dL_law_817 dL_law_818 dL_law_819 dL_law_820 ?_
  refine tq_callVi (As := [.int (xs (i + 1)), .int (xs (i + 2))]) (rest := [.int r]) (kX12_holds h) ⟨hx, hb, hml, hown, hts⟩ (cwV 2 hts (tq_goodV tw_1823 tw_1824 tw_1825 tw_125 tw_1826) rfl rfl rfl (by decide +kernel) ⟨(Nat.le_of_ble_eq_true rfl), (Nat.le_of_ble_eq_true rfl)⟩) hK hG hW hS rfl hl.1 rfl (Nat.le_of_ble_eq_true rfl) dL_law_821 hN.f (fun r1 M1 H locs h hW hS => ?_)
  exact lv_icmp_eq (tgt := 1988) hx hb dL_law_824 (by decide) (fun _ => kk _ _ _ _ _ h.2 hN hW hS) (fun q => absurd h.1 q)
set_option maxHeartbeats 4000000 in
set_option maxRecDepth 100000 in
theorem tqL_c17 (C : tq_At p s m meth c args cL_law 4 (some .boolean) tqL_T RL D cy z ad) (hX : va_X b L xs s s.heap) (hbl : b < s.heap.size) (hbz : ¬ z ≤ b) (hi : i + 6 ≤ L) (hL : L ≤ 3072) (h : wpX11_ship (fun N1 S1 r => wpX12_ship (fun M1 r1 => r = r1 ∧ I N1 S1 M1) M (xs (i + 1)) (xs (i + 2))) N S (xs (i + 1)) (xs (i + 2))) (hN : tq_nb z A0 s N) (hW : tq_wd D cy z H0 ad N (tq_mix S M) H) (hS : va_S (fun q => z ≤ q) s.heap H locs) (hl : lv_has ls 4 [(0, .ref b), (1, .ref (ad 1 0)), (2, .ref (ad 64 0)), (3, .int (Int32.ofNat i))])
    (kk : ∀ (N1 : tq_Nn) (S1 M1 : tq_St) (H1 : Heap) (locs1 : List Loc), I N1 S1 M1 → tq_nb z A0 s N1 → tq_wd D cy z H0 ad N1 (tq_mix S1 M1) H1 → va_S (fun q => z ≤ q) s.heap H1 locs1 → tq_Wb p l e 2048 84000 s m args below meth c z A0 N1 H1 locs1 Q (F0 m 1988 ls [])) : tq_Wb p l e 2048 84000 s m args below meth c z A0 N H locs Q (F0 m 829 ls []) := by
  obtain ⟨hx, hb, hr, hml, hown, hts, hlocks, hK, hG⟩ := C
  refine lv_aload_n hx hb dL_law_829 rfl (lv_at hl 1 rfl) ?_
  refine tqL_arg (k := 1) hx hb hX hbl hbz hS hl hi hL (by decide) (by decide) dL_law_830 dL_law_831 dL_law_832 dL_law_833 dL_law_834 ?_
  refine tqL_arg (k := 2) hx hb hX hbl hbz hS hl hi hL (by decide) (by decide) dL_law_835 dL_law_836 dL_law_837 dL_law_838 dL_law_839 ?_
  refine tqb_callVi (C := "TwoSeas") (As := [.int (xs (i + 1)), .int (xs (i + 2))]) (rest := []) (kX11_ship h) ⟨hx, hb, hml, hown, hts⟩ (cwV 2 hts (tq_goodV tw_888 tw_889 tw_890 tw_115 tw_891) rfl rfl rfl (by decide +kernel) ⟨(Nat.le_of_ble_eq_true rfl), (Nat.le_of_ble_eq_true rfl)⟩) (tq_recvC hK hW (by decide) (tq_mk_1 (by decide)) rfl) hK hG hW hS rfl hl.1 rfl (Nat.le_of_ble_eq_true rfl) dL_law_840 hN (fun r N1 S1 H locs h hN hW hS => ?_)
  refine lv_aload_n hx hb dL_law_843 rfl (lv_at hl 2 rfl) ?_
  refine tqL_arg (k := 1) hx hb hX hbl hbz hS hl hi hL (by decide) (by decide) dL_law_844 dL_law_845 dL_law_846 dL_law_847 dL_law_848 ?_
  refine tqL_arg (k := 2) hx hb hX hbl hbz hS hl hi hL (by decide) (by decide) dL_law_849 dL_law_850 dL_law_851 dL_law_852 dL_law_853 ?_
  refine tq_callVi (As := [.int (xs (i + 1)), .int (xs (i + 2))]) (rest := [.int r]) (kX12_ship h) ⟨hx, hb, hml, hown, hts⟩ (cwV 2 hts (tq_goodV tw_1840 tw_1841 tw_1842 tw_125 tw_1843) rfl rfl rfl (by decide +kernel) ⟨(Nat.le_of_ble_eq_true rfl), (Nat.le_of_ble_eq_true rfl)⟩) hK hG hW hS rfl hl.1 rfl (Nat.le_of_ble_eq_true rfl) dL_law_854 hN.f (fun r1 M1 H locs h hW hS => ?_)
  exact lv_icmp_eq (tgt := 1988) hx hb dL_law_857 (by decide) (fun _ => kk _ _ _ _ _ h.2 hN hW hS) (fun q => absurd h.1 q)
set_option maxHeartbeats 4000000 in
set_option maxRecDepth 100000 in
theorem tqL_c18 (C : tq_At p s m meth c args cL_law 4 (some .boolean) tqL_T RL D cy z ad) (hX : va_X b L xs s s.heap) (hbl : b < s.heap.size) (hbz : ¬ z ≤ b) (hi : i + 6 ≤ L) (hL : L ≤ 3072) (h : wpX11_take N (fun S1 r => wpX12_take (fun M1 r1 => r = r1 ∧ I N S1 M1) M ) S) (hN : tq_nb z A0 s N) (hW : tq_wd D cy z H0 ad N (tq_mix S M) H) (hS : va_S (fun q => z ≤ q) s.heap H locs) (hl : lv_has ls 4 [(0, .ref b), (1, .ref (ad 1 0)), (2, .ref (ad 64 0)), (3, .int (Int32.ofNat i))])
    (kk : ∀ (N1 : tq_Nn) (S1 M1 : tq_St) (H1 : Heap) (locs1 : List Loc), I N1 S1 M1 → tq_nb z A0 s N1 → tq_wd D cy z H0 ad N1 (tq_mix S1 M1) H1 → va_S (fun q => z ≤ q) s.heap H1 locs1 → tq_Wb p l e 2048 84000 s m args below meth c z A0 N1 H1 locs1 Q (F0 m 1988 ls [])) : tq_Wb p l e 2048 84000 s m args below meth c z A0 N H locs Q (F0 m 862 ls []) := by
  obtain ⟨hx, hb, hr, hml, hown, hts, hlocks, hK, hG⟩ := C
  refine lv_aload_n hx hb dL_law_862 rfl (lv_at hl 1 rfl) ?_
  refine tqc_callVi (C := "TwoSeas") (As := []) (rest := []) (kX11_take h) ⟨hx, hb, hml, hown, hts⟩ (cwV 0 hts (tq_goodV tw_943 tw_944 tw_945 tw_115 tw_946) rfl rfl rfl (by decide +kernel) ⟨(Nat.le_of_ble_eq_true rfl), (Nat.le_of_ble_eq_true rfl)⟩) (tq_recvC hK hW (by decide) (tq_mk_1 (by decide)) rfl) hK hG hW hS rfl hl.1 rfl (Nat.le_of_ble_eq_true rfl) dL_law_863 hN.f (fun r S1 H locs h hW hS => ?_)
  refine lv_aload_n hx hb dL_law_866 rfl (lv_at hl 2 rfl) ?_
  refine tq_callVi (As := []) (rest := [.int r]) (kX12_take h) ⟨hx, hb, hml, hown, hts⟩ (cwV 0 hts (tq_goodV tw_1844 tw_1845 tw_1846 tw_125 tw_1847) rfl rfl rfl (by decide +kernel) ⟨(Nat.le_of_ble_eq_true rfl), (Nat.le_of_ble_eq_true rfl)⟩) hK hG hW hS rfl hl.1 rfl (Nat.le_of_ble_eq_true rfl) dL_law_867 hN.f (fun r1 M1 H locs h hW hS => ?_)
  exact lv_icmp_eq (tgt := 1988) hx hb dL_law_870 (by decide) (fun _ => kk _ _ _ _ _ h.2 hN hW hS) (fun q => absurd h.1 q)
set_option maxHeartbeats 4000000 in
set_option maxRecDepth 100000 in
theorem tqL_c19 (C : tq_At p s m meth c args cL_law 4 (some .boolean) tqL_T RL D cy z ad) (hX : va_X b L xs s s.heap) (hbl : b < s.heap.size) (hbz : ¬ z ≤ b) (hi : i + 6 ≤ L) (hL : L ≤ 3072) (h : wpX11_load N (fun S1 r => wpX12_load (fun M1 r1 => r = r1 ∧ I N S1 M1) M (xs (i + 1)) (xs (i + 2))) S (xs (i + 1)) (xs (i + 2))) (hN : tq_nb z A0 s N) (hW : tq_wd D cy z H0 ad N (tq_mix S M) H) (hS : va_S (fun q => z ≤ q) s.heap H locs) (hl : lv_has ls 4 [(0, .ref b), (1, .ref (ad 1 0)), (2, .ref (ad 64 0)), (3, .int (Int32.ofNat i))])
    (kk : ∀ (N1 : tq_Nn) (S1 M1 : tq_St) (H1 : Heap) (locs1 : List Loc), I N1 S1 M1 → tq_nb z A0 s N1 → tq_wd D cy z H0 ad N1 (tq_mix S1 M1) H1 → va_S (fun q => z ≤ q) s.heap H1 locs1 → tq_Wb p l e 2048 84000 s m args below meth c z A0 N1 H1 locs1 Q (F0 m 1988 ls [])) : tq_Wb p l e 2048 84000 s m args below meth c z A0 N H locs Q (F0 m 875 ls []) := by
  obtain ⟨hx, hb, hr, hml, hown, hts, hlocks, hK, hG⟩ := C
  refine lv_aload_n hx hb dL_law_875 rfl (lv_at hl 1 rfl) ?_
  refine tqL_arg (k := 1) hx hb hX hbl hbz hS hl hi hL (by decide) (by decide) dL_law_876 dL_law_877 dL_law_878 dL_law_879 dL_law_880 ?_
  refine tqL_arg (k := 2) hx hb hX hbl hbz hS hl hi hL (by decide) (by decide) dL_law_881 dL_law_882 dL_law_883 dL_law_884 dL_law_885 ?_
  refine tqc_callVi (C := "TwoSeas") (As := [.int (xs (i + 1)), .int (xs (i + 2))]) (rest := []) (kX11_load h) ⟨hx, hb, hml, hown, hts⟩ (cwV 2 hts (tq_goodV tw_951 tw_952 tw_953 tw_115 tw_954) rfl rfl rfl (by decide +kernel) ⟨(Nat.le_of_ble_eq_true rfl), (Nat.le_of_ble_eq_true rfl)⟩) (tq_recvC hK hW (by decide) (tq_mk_1 (by decide)) rfl) hK hG hW hS rfl hl.1 rfl (Nat.le_of_ble_eq_true rfl) dL_law_886 hN.f (fun r S1 H locs h hW hS => ?_)
  refine lv_aload_n hx hb dL_law_889 rfl (lv_at hl 2 rfl) ?_
  refine tqL_arg (k := 1) hx hb hX hbl hbz hS hl hi hL (by decide) (by decide) dL_law_890 dL_law_891 dL_law_892 dL_law_893 dL_law_894 ?_
  refine tqL_arg (k := 2) hx hb hX hbl hbz hS hl hi hL (by decide) (by decide) dL_law_895 dL_law_896 dL_law_897 dL_law_898 dL_law_899 ?_
  refine tq_callVi (As := [.int (xs (i + 1)), .int (xs (i + 2))]) (rest := [.int r]) (kX12_load h) ⟨hx, hb, hml, hown, hts⟩ (cwV 2 hts (tq_goodV tw_1848 tw_1849 tw_1850 tw_125 tw_1851) rfl rfl rfl (by decide +kernel) ⟨(Nat.le_of_ble_eq_true rfl), (Nat.le_of_ble_eq_true rfl)⟩) hK hG hW hS rfl hl.1 rfl (Nat.le_of_ble_eq_true rfl) dL_law_900 hN.f (fun r1 M1 H locs h hW hS => ?_)
  exact lv_icmp_eq (tgt := 1988) hx hb dL_law_903 (by decide) (fun _ => kk _ _ _ _ _ h.2 hN hW hS) (fun q => absurd h.1 q)
end TQLAW
