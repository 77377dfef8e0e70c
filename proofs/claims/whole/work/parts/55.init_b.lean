def tq_inC : List (Nat × Nat) := [(1, 0), (12, 0), (13, 0), (14, 0), (15, 0), (17, 0), (19, 0), (21, 0), (22, 0), (24, 0), (3, 0), (41, 0), (4, 0), (42, 0), (43, 0), (43, 1), (43, 2), (43, 3), (43, 4), (43, 5), (44, 0), (45, 0), (45, 1), (45, 2), (45, 3), (45, 4), (45, 5), (46, 0), (47, 0), (25, 0), (26, 0), (27, 0), (28, 0), (28, 1), (28, 2), (28, 3), (5, 0), (48, 0), (29, 0), (2, 0), (30, 0), (31, 0), (32, 0), (33, 0), (34, 0), (35, 0), (36, 0), (38, 0), (40, 0), (2, 1), (30, 1), (31, 1), (32, 1), (33, 1), (34, 1), (35, 1), (36, 1), (38, 1), (40, 1), (2, 2), (30, 2), (31, 2), (32, 2), (33, 2), (34, 2), (35, 2), (36, 2), (38, 2), (40, 2), (2, 3), (30, 3), (31, 3), (32, 3), (33, 3), (34, 3), (35, 3), (36, 3), (38, 3), (40, 3), (2, 4), (30, 4), (31, 4), (32, 4), (33, 4), (34, 4), (35, 4), (36, 4), (38, 4), (40, 4), (6, 0), (49, 0), (6, 1), (49, 1), (6, 2), (49, 2)]
def tq_in0 (p : Nat) : Nat × Nat := if p < 96 then (64, p - 95) else if p < 97 then (101, p - 96) else if p < 98 then (202, p - 97) else if p < 103 then (102, p - 98) else if p < 104 then (203, p - 103) else if p < 109 then (103, p - 104) else if p < 110 then (204, p - 109) else if p < 115 then (104, p - 110) else if p < 116 then (205, p - 115) else if p < 121 then (105, p - 116) else if p < 122 then (107, p - 121) else (108, p - 122)
def tq_in1 (p : Nat) : Nat × Nat := if p < 124 then (110, p - 123) else if p < 125 then (111, p - 124) else if p < 126 then (112, p - 125) else if p < 127 then (113, p - 126) else if p < 128 then (114, p - 127) else if p < 129 then (215, p - 128) else if p < 279 then (115, p - 129) else if p < 280 then (216, p - 279) else if p < 430 then (116, p - 280) else if p < 431 then (117, p - 430) else if p < 432 then (218, p - 431) else (118, p - 432)
def tq_in2 (p : Nat) : Nat × Nat := if p < 583 then (219, p - 582) else if p < 733 then (119, p - 583) else if p < 734 then (220, p - 733) else if p < 884 then (120, p - 734) else if p < 885 then (122, p - 884) else if p < 886 then (123, p - 885) else if p < 887 then (124, p - 886) else if p < 888 then (125, p - 887) else if p < 889 then (126, p - 888) else if p < 890 then (227, p - 889) else if p < 898 then (127, p - 890) else (128, p - 898)
def tq_in3 (p : Nat) : Nat × Nat := if p < 900 then (229, p - 899) else if p < 908 then (129, p - 900) else if p < 909 then (130, p - 908) else if p < 910 then (132, p - 909) else if p < 911 then (133, p - 910) else if p < 912 then (134, p - 911) else if p < 913 then (135, p - 912) else if p < 914 then (136, p - 913) else if p < 915 then (137, p - 914) else if p < 916 then (138, p - 915) else if p < 917 then (239, p - 916) else (139, p - 917)
def tq_in4 (p : Nat) : Nat × Nat := if p < 1017 then (240, p - 1016) else if p < 1116 then (140, p - 1017) else if p < 1117 then (141, p - 1116) else if p < 1118 then (142, p - 1117) else if p < 1119 then (244, p - 1118) else if p < 1619 then (144, p - 1119) else if p < 1620 then (146, p - 1619) else if p < 1621 then (147, p - 1620) else if p < 1622 then (148, p - 1621) else if p < 1623 then (149, p - 1622) else if p < 1624 then (150, p - 1623) else (251, p - 1624)
def tq_in5 (p : Nat) : Nat × Nat := if p < 1631 then (151, p - 1625) else if p < 1632 then (252, p - 1631) else if p < 1638 then (152, p - 1632) else if p < 1639 then (153, p - 1638) else if p < 1640 then (154, p - 1639) else if p < 1641 then (156, p - 1640) else if p < 1642 then (157, p - 1641) else if p < 1643 then (259, p - 1642) else if p < 1647 then (159, p - 1643) else if p < 1648 then (160, p - 1647) else if p < 1649 then (162, p - 1648) else (263, p - 1649)
def tq_in6 (p : Nat) : Nat × Nat := if p < 1653 then (163, p - 1650) else if p < 1654 then (164, p - 1653) else if p < 1655 then (165, p - 1654) else if p < 1656 then (170, p - 1655) else if p < 1657 then (171, p - 1656) else if p < 1658 then (172, p - 1657) else if p < 1659 then (175, p - 1658) else (176, p - 1659)
def tq_inv (p : Nat) : Nat × Nat := if p < 95 then tq_inC.getD p (0, 0) else if p < 123 then tq_in0 p else if p < 582 then tq_in1 p else if p < 899 then tq_in2 p else if p < 1016 then tq_in3 p else if p < 1625 then tq_in4 p else if p < 1650 then tq_in5 p else tq_in6 p
theorem tq_nos {P : Prop} {e : va_E} (h : (none : Option va_E) = some e) : P := by cases h
set_option maxRecDepth 100000
theorem tq_loc_1 {D : va_G} {z : Nat} {H0 H : Heap} {cy : Nat → ClassId} {g : Nat → Nat → Nat} (hR : tq_rw D z 1660 H0 (tqE380 z cy (tq_adF z g)) H) {i : Nat} {e : va_E} (hi : i < 1) (h : tq_mk cy (tq_adF z g) tq_N0 1 i (tq_mix tq_S0 tq_M0 1 i) = some e) : va_at D vwCl (tq_adF z g 1 i, e) H ∧ ∃ p : Nat, tq_adF z g 1 i = z + p ∧ tq_inv p = (1, i) := by
  rw [tq_mk_1 hi] at h
  cases h
  obtain rfl : i = 0 := by omega
  exact ⟨hR.at (j := 0) (by decide) ((tq_low (by decide)).trans rfl), 0, rfl, rfl⟩
theorem tq_loc_2 {D : va_G} {z : Nat} {H0 H : Heap} {cy : Nat → ClassId} {g : Nat → Nat → Nat} (hR : tq_rw D z 1660 H0 (tqE380 z cy (tq_adF z g)) H) {i : Nat} {e : va_E} (hi : i < 5) (h : tq_mk cy (tq_adF z g) tq_N0 2 i (tq_mix tq_S0 tq_M0 2 i) = some e) : va_at D vwCl (tq_adF z g 2 i, e) H ∧ ∃ p : Nat, tq_adF z g 2 i = z + p ∧ tq_inv p = (2, i) := by
  rw [tq_mk_2 hi] at h
  cases h
  obtain rfl | rfl | rfl | rfl | rfl : i = 0 ∨ i = 1 ∨ i = 2 ∨ i = 3 ∨ i = 4 := by omega
  · exact ⟨hR.at (j := 39) (by decide) ((tq_low (by decide)).trans rfl), 39, rfl, rfl⟩
  · exact ⟨hR.at (j := 49) (by decide) ((tq_low (by decide)).trans rfl), 49, rfl, rfl⟩
  · exact ⟨hR.at (j := 59) (by decide) ((tq_low (by decide)).trans rfl), 59, rfl, rfl⟩
  · exact ⟨hR.at (j := 69) (by decide) ((tq_low (by decide)).trans rfl), 69, rfl, rfl⟩
  · exact ⟨hR.at (j := 79) (by decide) ((tq_low (by decide)).trans rfl), 79, rfl, rfl⟩
theorem tq_loc_3 {D : va_G} {z : Nat} {H0 H : Heap} {cy : Nat → ClassId} {g : Nat → Nat → Nat} (hR : tq_rw D z 1660 H0 (tqE380 z cy (tq_adF z g)) H) {i : Nat} {e : va_E} (hi : i < 1) (h : tq_mk cy (tq_adF z g) tq_N0 3 i (tq_mix tq_S0 tq_M0 3 i) = some e) : va_at D vwCl (tq_adF z g 3 i, e) H ∧ ∃ p : Nat, tq_adF z g 3 i = z + p ∧ tq_inv p = (3, i) := by
  rw [tq_mk_3 hi] at h
  cases h
  obtain rfl : i = 0 := by omega
  exact ⟨hR.at (j := 10) (by decide) ((tq_low (by decide)).trans rfl), 10, rfl, rfl⟩
theorem tq_loc_4 {D : va_G} {z : Nat} {H0 H : Heap} {cy : Nat → ClassId} {g : Nat → Nat → Nat} (hR : tq_rw D z 1660 H0 (tqE380 z cy (tq_adF z g)) H) {i : Nat} {e : va_E} (hi : i < 1) (h : tq_mk cy (tq_adF z g) tq_N0 4 i (tq_mix tq_S0 tq_M0 4 i) = some e) : va_at D vwCl (tq_adF z g 4 i, e) H ∧ ∃ p : Nat, tq_adF z g 4 i = z + p ∧ tq_inv p = (4, i) := by
  rw [tq_mk_4 hi] at h
  cases h
  obtain rfl : i = 0 := by omega
  exact ⟨hR.at (j := 12) (by decide) ((tq_low (by decide)).trans rfl), 12, rfl, rfl⟩
theorem tq_loc_5 {D : va_G} {z : Nat} {H0 H : Heap} {cy : Nat → ClassId} {g : Nat → Nat → Nat} (hR : tq_rw D z 1660 H0 (tqE380 z cy (tq_adF z g)) H) {i : Nat} {e : va_E} (hi : i < 1) (h : tq_mk cy (tq_adF z g) tq_N0 5 i (tq_mix tq_S0 tq_M0 5 i) = some e) : va_at D vwCl (tq_adF z g 5 i, e) H ∧ ∃ p : Nat, tq_adF z g 5 i = z + p ∧ tq_inv p = (5, i) := by
  rw [tq_mk_5 hi] at h
  cases h
  obtain rfl : i = 0 := by omega
  exact ⟨hR.at (j := 36) (by decide) ((tq_low (by decide)).trans rfl), 36, rfl, rfl⟩
theorem tq_loc_6 {D : va_G} {z : Nat} {H0 H : Heap} {cy : Nat → ClassId} {g : Nat → Nat → Nat} (hR : tq_rw D z 1660 H0 (tqE380 z cy (tq_adF z g)) H) {i : Nat} {e : va_E} (hi : i < 3) (h : tq_mk cy (tq_adF z g) tq_N0 6 i (tq_mix tq_S0 tq_M0 6 i) = some e) : va_at D vwCl (tq_adF z g 6 i, e) H ∧ ∃ p : Nat, tq_adF z g 6 i = z + p ∧ tq_inv p = (6, i) := by
  rw [tq_mk_6 hi] at h
  cases h
  obtain rfl | rfl | rfl : i = 0 ∨ i = 1 ∨ i = 2 := by omega
  · exact ⟨hR.at (j := 89) (by decide) ((tq_low (by decide)).trans rfl), 89, rfl, rfl⟩
  · exact ⟨hR.at (j := 91) (by decide) ((tq_low (by decide)).trans rfl), 91, rfl, rfl⟩
  · exact ⟨hR.at (j := 93) (by decide) ((tq_low (by decide)).trans rfl), 93, rfl, rfl⟩
theorem tq_loc_12 {D : va_G} {z : Nat} {H0 H : Heap} {cy : Nat → ClassId} {g : Nat → Nat → Nat} (hR : tq_rw D z 1660 H0 (tqE380 z cy (tq_adF z g)) H) {i : Nat} {e : va_E} (hi : i < 1) (h : tq_mk cy (tq_adF z g) tq_N0 12 i (tq_mix tq_S0 tq_M0 12 i) = some e) : va_at D vwCl (tq_adF z g 12 i, e) H ∧ ∃ p : Nat, tq_adF z g 12 i = z + p ∧ tq_inv p = (12, i) := by
  rw [tq_mk_12 hi] at h
  cases h
  obtain rfl : i = 0 := by omega
  exact ⟨hR.q (p := 1) (by decide) ((tq_low (by decide)).trans rfl) (fun j hj => by (obtain rfl | rfl | rfl | rfl | rfl : j = 0 ∨ j = 1 ∨ j = 2 ∨ j = 3 ∨ j = 4 := by omega) <;> rfl), 1, rfl, rfl⟩
theorem tq_loc_13 {D : va_G} {z : Nat} {H0 H : Heap} {cy : Nat → ClassId} {g : Nat → Nat → Nat} (hR : tq_rw D z 1660 H0 (tqE380 z cy (tq_adF z g)) H) {i : Nat} {e : va_E} (hi : i < 1) (h : tq_mk cy (tq_adF z g) tq_N0 13 i (tq_mix tq_S0 tq_M0 13 i) = some e) : va_at D vwCl (tq_adF z g 13 i, e) H ∧ ∃ p : Nat, tq_adF z g 13 i = z + p ∧ tq_inv p = (13, i) := by
  rw [tq_mk_13 hi] at h
  cases h
  obtain rfl : i = 0 := by omega
  exact ⟨hR.at (j := 2) (by decide) ((tq_low (by decide)).trans rfl), 2, rfl, rfl⟩
theorem tq_loc_14 {D : va_G} {z : Nat} {H0 H : Heap} {cy : Nat → ClassId} {g : Nat → Nat → Nat} (hR : tq_rw D z 1660 H0 (tqE380 z cy (tq_adF z g)) H) {i : Nat} {e : va_E} (hi : i < 1) (h : tq_mk cy (tq_adF z g) tq_N0 14 i (tq_mix tq_S0 tq_M0 14 i) = some e) : va_at D vwCl (tq_adF z g 14 i, e) H ∧ ∃ p : Nat, tq_adF z g 14 i = z + p ∧ tq_inv p = (14, i) := by
  rw [tq_mk_14 hi] at h
  cases h
  obtain rfl : i = 0 := by omega
  exact ⟨hR.at (j := 3) (by decide) ((tq_low (by decide)).trans rfl), 3, rfl, rfl⟩
theorem tq_loc_15 {D : va_G} {z : Nat} {H0 H : Heap} {cy : Nat → ClassId} {g : Nat → Nat → Nat} (hR : tq_rw D z 1660 H0 (tqE380 z cy (tq_adF z g)) H) {i : Nat} {e : va_E} (hi : i < 1) (h : tq_mk cy (tq_adF z g) tq_N0 15 i (tq_mix tq_S0 tq_M0 15 i) = some e) : va_at D vwCl (tq_adF z g 15 i, e) H ∧ ∃ p : Nat, tq_adF z g 15 i = z + p ∧ tq_inv p = (15, i) := by
  rw [tq_mk_15 hi] at h
  cases h
  obtain rfl : i = 0 := by omega
  exact ⟨hR.at (j := 4) (by decide) ((tq_low (by decide)).trans rfl), 4, rfl, rfl⟩
theorem tq_loc_17 {D : va_G} {z : Nat} {H0 H : Heap} {cy : Nat → ClassId} {g : Nat → Nat → Nat} (hR : tq_rw D z 1660 H0 (tqE380 z cy (tq_adF z g)) H) {i : Nat} {e : va_E} (hi : i < 1) (h : tq_mk cy (tq_adF z g) tq_N0 17 i (tq_mix tq_S0 tq_M0 17 i) = some e) : va_at D vwCl (tq_adF z g 17 i, e) H ∧ ∃ p : Nat, tq_adF z g 17 i = z + p ∧ tq_inv p = (17, i) := by
  rw [tq_mk_17 hi] at h
  cases h
  obtain rfl : i = 0 := by omega
  exact ⟨hR.at (j := 5) (by decide) ((tq_low (by decide)).trans rfl), 5, rfl, rfl⟩
theorem tq_loc_19 {D : va_G} {z : Nat} {H0 H : Heap} {cy : Nat → ClassId} {g : Nat → Nat → Nat} (hR : tq_rw D z 1660 H0 (tqE380 z cy (tq_adF z g)) H) {i : Nat} {e : va_E} (hi : i < 1) (h : tq_mk cy (tq_adF z g) tq_N0 19 i (tq_mix tq_S0 tq_M0 19 i) = some e) : va_at D vwCl (tq_adF z g 19 i, e) H ∧ ∃ p : Nat, tq_adF z g 19 i = z + p ∧ tq_inv p = (19, i) := by
  rw [tq_mk_19 hi] at h
  cases h
  obtain rfl : i = 0 := by omega
  exact ⟨hR.at (j := 6) (by decide) ((tq_low (by decide)).trans rfl), 6, rfl, rfl⟩
theorem tq_loc_21 {D : va_G} {z : Nat} {H0 H : Heap} {cy : Nat → ClassId} {g : Nat → Nat → Nat} (hR : tq_rw D z 1660 H0 (tqE380 z cy (tq_adF z g)) H) {i : Nat} {e : va_E} (hi : i < 1) (h : tq_mk cy (tq_adF z g) tq_N0 21 i (tq_mix tq_S0 tq_M0 21 i) = some e) : va_at D vwCl (tq_adF z g 21 i, e) H ∧ ∃ p : Nat, tq_adF z g 21 i = z + p ∧ tq_inv p = (21, i) := by
  rw [tq_mk_21 hi] at h
  cases h
  obtain rfl : i = 0 := by omega
  exact ⟨hR.at (j := 7) (by decide) ((tq_low (by decide)).trans rfl), 7, rfl, rfl⟩
theorem tq_loc_22 {D : va_G} {z : Nat} {H0 H : Heap} {cy : Nat → ClassId} {g : Nat → Nat → Nat} (hR : tq_rw D z 1660 H0 (tqE380 z cy (tq_adF z g)) H) {i : Nat} {e : va_E} (hi : i < 1) (h : tq_mk cy (tq_adF z g) tq_N0 22 i (tq_mix tq_S0 tq_M0 22 i) = some e) : va_at D vwCl (tq_adF z g 22 i, e) H ∧ ∃ p : Nat, tq_adF z g 22 i = z + p ∧ tq_inv p = (22, i) := by
  rw [tq_mk_22 hi] at h
  cases h
  obtain rfl : i = 0 := by omega
  exact ⟨hR.at (j := 8) (by decide) ((tq_low (by decide)).trans rfl), 8, rfl, rfl⟩
theorem tq_loc_24 {D : va_G} {z : Nat} {H0 H : Heap} {cy : Nat → ClassId} {g : Nat → Nat → Nat} (hR : tq_rw D z 1660 H0 (tqE380 z cy (tq_adF z g)) H) {i : Nat} {e : va_E} (hi : i < 1) (h : tq_mk cy (tq_adF z g) tq_N0 24 i (tq_mix tq_S0 tq_M0 24 i) = some e) : va_at D vwCl (tq_adF z g 24 i, e) H ∧ ∃ p : Nat, tq_adF z g 24 i = z + p ∧ tq_inv p = (24, i) := by
  rw [tq_mk_24 hi] at h
  cases h
  obtain rfl : i = 0 := by omega
  exact ⟨hR.at (j := 9) (by decide) ((tq_low (by decide)).trans rfl), 9, rfl, rfl⟩
theorem tq_loc_25 {D : va_G} {z : Nat} {H0 H : Heap} {cy : Nat → ClassId} {g : Nat → Nat → Nat} (hR : tq_rw D z 1660 H0 (tqE380 z cy (tq_adF z g)) H) {i : Nat} {e : va_E} (hi : i < 1) (h : tq_mk cy (tq_adF z g) tq_N0 25 i (tq_mix tq_S0 tq_M0 25 i) = some e) : va_at D vwCl (tq_adF z g 25 i, e) H ∧ ∃ p : Nat, tq_adF z g 25 i = z + p ∧ tq_inv p = (25, i) := by
  rw [tq_mk_25 hi] at h
  cases h
  obtain rfl : i = 0 := by omega
  exact ⟨hR.at (j := 29) (by decide) ((tq_low (by decide)).trans rfl), 29, rfl, rfl⟩
theorem tq_loc_26 {D : va_G} {z : Nat} {H0 H : Heap} {cy : Nat → ClassId} {g : Nat → Nat → Nat} (hR : tq_rw D z 1660 H0 (tqE380 z cy (tq_adF z g)) H) {i : Nat} {e : va_E} (hi : i < 1) (h : tq_mk cy (tq_adF z g) tq_N0 26 i (tq_mix tq_S0 tq_M0 26 i) = some e) : va_at D vwCl (tq_adF z g 26 i, e) H ∧ ∃ p : Nat, tq_adF z g 26 i = z + p ∧ tq_inv p = (26, i) := by
  rw [tq_mk_26 hi] at h
  cases h
  obtain rfl : i = 0 := by omega
  exact ⟨hR.at (j := 30) (by decide) ((tq_low (by decide)).trans rfl), 30, rfl, rfl⟩
theorem tq_loc_27 {D : va_G} {z : Nat} {H0 H : Heap} {cy : Nat → ClassId} {g : Nat → Nat → Nat} (hR : tq_rw D z 1660 H0 (tqE380 z cy (tq_adF z g)) H) {i : Nat} {e : va_E} (hi : i < 1) (h : tq_mk cy (tq_adF z g) tq_N0 27 i (tq_mix tq_S0 tq_M0 27 i) = some e) : va_at D vwCl (tq_adF z g 27 i, e) H ∧ ∃ p : Nat, tq_adF z g 27 i = z + p ∧ tq_inv p = (27, i) := by
  rw [tq_mk_27 hi] at h
  cases h
  obtain rfl : i = 0 := by omega
  exact ⟨hR.q (p := 31) (by decide) ((tq_low (by decide)).trans rfl) (fun j hj => (if_pos hj).trans (congrArg some (show z + 31 + 1 + j = z + (32 + j) by omega))), 31, rfl, rfl⟩
theorem tq_loc_28 {D : va_G} {z : Nat} {H0 H : Heap} {cy : Nat → ClassId} {g : Nat → Nat → Nat} (hR : tq_rw D z 1660 H0 (tqE380 z cy (tq_adF z g)) H) {i : Nat} {e : va_E} (hi : i < 4) (h : tq_mk cy (tq_adF z g) tq_N0 28 i (tq_mix tq_S0 tq_M0 28 i) = some e) : va_at D vwCl (tq_adF z g 28 i, e) H ∧ ∃ p : Nat, tq_adF z g 28 i = z + p ∧ tq_inv p = (28, i) := by
  rw [tq_mk_28 hi] at h
  cases h
  obtain rfl | rfl | rfl | rfl : i = 0 ∨ i = 1 ∨ i = 2 ∨ i = 3 := by omega
  · exact ⟨hR.at (j := 32) (by decide) ((tq_low (by decide)).trans rfl), 32, rfl, rfl⟩
  · exact ⟨hR.at (j := 33) (by decide) ((tq_low (by decide)).trans rfl), 33, rfl, rfl⟩
  · exact ⟨hR.at (j := 34) (by decide) ((tq_low (by decide)).trans rfl), 34, rfl, rfl⟩
  · exact ⟨hR.at (j := 35) (by decide) ((tq_low (by decide)).trans rfl), 35, rfl, rfl⟩
theorem tq_loc_29 {D : va_G} {z : Nat} {H0 H : Heap} {cy : Nat → ClassId} {g : Nat → Nat → Nat} (hR : tq_rw D z 1660 H0 (tqE380 z cy (tq_adF z g)) H) {i : Nat} {e : va_E} (hi : i < 1) (h : tq_mk cy (tq_adF z g) tq_N0 29 i (tq_mix tq_S0 tq_M0 29 i) = some e) : va_at D vwCl (tq_adF z g 29 i, e) H ∧ ∃ p : Nat, tq_adF z g 29 i = z + p ∧ tq_inv p = (29, i) := by
  rw [tq_mk_29 hi] at h
  cases h
  obtain rfl : i = 0 := by omega
  exact ⟨hR.q (p := 38) (by decide) ((tq_low (by decide)).trans rfl) (fun j hj => by (obtain rfl | rfl | rfl : j = 0 ∨ j = 1 ∨ j = 2 := by omega) <;> rfl), 38, rfl, rfl⟩
theorem tq_loc_30 {D : va_G} {z : Nat} {H0 H : Heap} {cy : Nat → ClassId} {g : Nat → Nat → Nat} (hR : tq_rw D z 1660 H0 (tqE380 z cy (tq_adF z g)) H) {i : Nat} {e : va_E} (hi : i < 5) (h : tq_mk cy (tq_adF z g) tq_N0 30 i (tq_mix tq_S0 tq_M0 30 i) = some e) : va_at D vwCl (tq_adF z g 30 i, e) H ∧ ∃ p : Nat, tq_adF z g 30 i = z + p ∧ tq_inv p = (30, i) := by
  rw [tq_mk_30 hi] at h
  cases h
  obtain rfl | rfl | rfl | rfl | rfl : i = 0 ∨ i = 1 ∨ i = 2 ∨ i = 3 ∨ i = 4 := by omega
  · exact ⟨hR.at (j := 40) (by decide) ((tq_low (by decide)).trans rfl), 40, rfl, rfl⟩
  · exact ⟨hR.at (j := 50) (by decide) ((tq_low (by decide)).trans rfl), 50, rfl, rfl⟩
  · exact ⟨hR.at (j := 60) (by decide) ((tq_low (by decide)).trans rfl), 60, rfl, rfl⟩
  · exact ⟨hR.at (j := 70) (by decide) ((tq_low (by decide)).trans rfl), 70, rfl, rfl⟩
  · exact ⟨hR.at (j := 80) (by decide) ((tq_low (by decide)).trans rfl), 80, rfl, rfl⟩
theorem tq_loc_31 {D : va_G} {z : Nat} {H0 H : Heap} {cy : Nat → ClassId} {g : Nat → Nat → Nat} (hR : tq_rw D z 1660 H0 (tqE380 z cy (tq_adF z g)) H) {i : Nat} {e : va_E} (hi : i < 5) (h : tq_mk cy (tq_adF z g) tq_N0 31 i (tq_mix tq_S0 tq_M0 31 i) = some e) : va_at D vwCl (tq_adF z g 31 i, e) H ∧ ∃ p : Nat, tq_adF z g 31 i = z + p ∧ tq_inv p = (31, i) := by
  rw [tq_mk_31 hi] at h
  cases h
  obtain rfl | rfl | rfl | rfl | rfl : i = 0 ∨ i = 1 ∨ i = 2 ∨ i = 3 ∨ i = 4 := by omega
  · exact ⟨hR.at (j := 41) (by decide) ((tq_low (by decide)).trans rfl), 41, rfl, rfl⟩
  · exact ⟨hR.at (j := 51) (by decide) ((tq_low (by decide)).trans rfl), 51, rfl, rfl⟩
  · exact ⟨hR.at (j := 61) (by decide) ((tq_low (by decide)).trans rfl), 61, rfl, rfl⟩
  · exact ⟨hR.at (j := 71) (by decide) ((tq_low (by decide)).trans rfl), 71, rfl, rfl⟩
  · exact ⟨hR.at (j := 81) (by decide) ((tq_low (by decide)).trans rfl), 81, rfl, rfl⟩
theorem tq_loc_32 {D : va_G} {z : Nat} {H0 H : Heap} {cy : Nat → ClassId} {g : Nat → Nat → Nat} (hR : tq_rw D z 1660 H0 (tqE380 z cy (tq_adF z g)) H) {i : Nat} {e : va_E} (hi : i < 5) (h : tq_mk cy (tq_adF z g) tq_N0 32 i (tq_mix tq_S0 tq_M0 32 i) = some e) : va_at D vwCl (tq_adF z g 32 i, e) H ∧ ∃ p : Nat, tq_adF z g 32 i = z + p ∧ tq_inv p = (32, i) := by
  rw [tq_mk_32 hi] at h
  cases h
  obtain rfl | rfl | rfl | rfl | rfl : i = 0 ∨ i = 1 ∨ i = 2 ∨ i = 3 ∨ i = 4 := by omega
  · exact ⟨hR.at (j := 42) (by decide) ((tq_low (by decide)).trans rfl), 42, rfl, rfl⟩
  · exact ⟨hR.at (j := 52) (by decide) ((tq_low (by decide)).trans rfl), 52, rfl, rfl⟩
  · exact ⟨hR.at (j := 62) (by decide) ((tq_low (by decide)).trans rfl), 62, rfl, rfl⟩
  · exact ⟨hR.at (j := 72) (by decide) ((tq_low (by decide)).trans rfl), 72, rfl, rfl⟩
  · exact ⟨hR.at (j := 82) (by decide) ((tq_low (by decide)).trans rfl), 82, rfl, rfl⟩
theorem tq_loc_33 {D : va_G} {z : Nat} {H0 H : Heap} {cy : Nat → ClassId} {g : Nat → Nat → Nat} (hR : tq_rw D z 1660 H0 (tqE380 z cy (tq_adF z g)) H) {i : Nat} {e : va_E} (hi : i < 5) (h : tq_mk cy (tq_adF z g) tq_N0 33 i (tq_mix tq_S0 tq_M0 33 i) = some e) : va_at D vwCl (tq_adF z g 33 i, e) H ∧ ∃ p : Nat, tq_adF z g 33 i = z + p ∧ tq_inv p = (33, i) := by
  rw [tq_mk_33 hi] at h
  cases h
  obtain rfl | rfl | rfl | rfl | rfl : i = 0 ∨ i = 1 ∨ i = 2 ∨ i = 3 ∨ i = 4 := by omega
  · exact ⟨hR.at (j := 43) (by decide) ((tq_low (by decide)).trans rfl), 43, rfl, rfl⟩
  · exact ⟨hR.at (j := 53) (by decide) ((tq_low (by decide)).trans rfl), 53, rfl, rfl⟩
  · exact ⟨hR.at (j := 63) (by decide) ((tq_low (by decide)).trans rfl), 63, rfl, rfl⟩
  · exact ⟨hR.at (j := 73) (by decide) ((tq_low (by decide)).trans rfl), 73, rfl, rfl⟩
  · exact ⟨hR.at (j := 83) (by decide) ((tq_low (by decide)).trans rfl), 83, rfl, rfl⟩
theorem tq_loc_34 {D : va_G} {z : Nat} {H0 H : Heap} {cy : Nat → ClassId} {g : Nat → Nat → Nat} (hR : tq_rw D z 1660 H0 (tqE380 z cy (tq_adF z g)) H) {i : Nat} {e : va_E} (hi : i < 5) (h : tq_mk cy (tq_adF z g) tq_N0 34 i (tq_mix tq_S0 tq_M0 34 i) = some e) : va_at D vwCl (tq_adF z g 34 i, e) H ∧ ∃ p : Nat, tq_adF z g 34 i = z + p ∧ tq_inv p = (34, i) := by
  rw [tq_mk_34 hi] at h
  cases h
  obtain rfl | rfl | rfl | rfl | rfl : i = 0 ∨ i = 1 ∨ i = 2 ∨ i = 3 ∨ i = 4 := by omega
  · exact ⟨hR.at (j := 44) (by decide) ((tq_low (by decide)).trans rfl), 44, rfl, rfl⟩
  · exact ⟨hR.at (j := 54) (by decide) ((tq_low (by decide)).trans rfl), 54, rfl, rfl⟩
  · exact ⟨hR.at (j := 64) (by decide) ((tq_low (by decide)).trans rfl), 64, rfl, rfl⟩
  · exact ⟨hR.at (j := 74) (by decide) ((tq_low (by decide)).trans rfl), 74, rfl, rfl⟩
  · exact ⟨hR.at (j := 84) (by decide) ((tq_low (by decide)).trans rfl), 84, rfl, rfl⟩
theorem tq_loc_35 {D : va_G} {z : Nat} {H0 H : Heap} {cy : Nat → ClassId} {g : Nat → Nat → Nat} (hR : tq_rw D z 1660 H0 (tqE380 z cy (tq_adF z g)) H) {i : Nat} {e : va_E} (hi : i < 5) (h : tq_mk cy (tq_adF z g) tq_N0 35 i (tq_mix tq_S0 tq_M0 35 i) = some e) : va_at D vwCl (tq_adF z g 35 i, e) H ∧ ∃ p : Nat, tq_adF z g 35 i = z + p ∧ tq_inv p = (35, i) := by
  rw [tq_mk_35 hi] at h
  cases h
  obtain rfl | rfl | rfl | rfl | rfl : i = 0 ∨ i = 1 ∨ i = 2 ∨ i = 3 ∨ i = 4 := by omega
  · exact ⟨hR.at (j := 45) (by decide) ((tq_low (by decide)).trans rfl), 45, rfl, rfl⟩
  · exact ⟨hR.at (j := 55) (by decide) ((tq_low (by decide)).trans rfl), 55, rfl, rfl⟩
  · exact ⟨hR.at (j := 65) (by decide) ((tq_low (by decide)).trans rfl), 65, rfl, rfl⟩
  · exact ⟨hR.at (j := 75) (by decide) ((tq_low (by decide)).trans rfl), 75, rfl, rfl⟩
  · exact ⟨hR.at (j := 85) (by decide) ((tq_low (by decide)).trans rfl), 85, rfl, rfl⟩
theorem tq_loc_36 {D : va_G} {z : Nat} {H0 H : Heap} {cy : Nat → ClassId} {g : Nat → Nat → Nat} (hR : tq_rw D z 1660 H0 (tqE380 z cy (tq_adF z g)) H) {i : Nat} {e : va_E} (hi : i < 5) (h : tq_mk cy (tq_adF z g) tq_N0 36 i (tq_mix tq_S0 tq_M0 36 i) = some e) : va_at D vwCl (tq_adF z g 36 i, e) H ∧ ∃ p : Nat, tq_adF z g 36 i = z + p ∧ tq_inv p = (36, i) := by
  rw [tq_mk_36 hi] at h
  cases h
  obtain rfl | rfl | rfl | rfl | rfl : i = 0 ∨ i = 1 ∨ i = 2 ∨ i = 3 ∨ i = 4 := by omega
  · exact ⟨hR.at (j := 46) (by decide) ((tq_low (by decide)).trans rfl), 46, rfl, rfl⟩
  · exact ⟨hR.at (j := 56) (by decide) ((tq_low (by decide)).trans rfl), 56, rfl, rfl⟩
  · exact ⟨hR.at (j := 66) (by decide) ((tq_low (by decide)).trans rfl), 66, rfl, rfl⟩
  · exact ⟨hR.at (j := 76) (by decide) ((tq_low (by decide)).trans rfl), 76, rfl, rfl⟩
  · exact ⟨hR.at (j := 86) (by decide) ((tq_low (by decide)).trans rfl), 86, rfl, rfl⟩
theorem tq_loc_38 {D : va_G} {z : Nat} {H0 H : Heap} {cy : Nat → ClassId} {g : Nat → Nat → Nat} (hR : tq_rw D z 1660 H0 (tqE380 z cy (tq_adF z g)) H) {i : Nat} {e : va_E} (hi : i < 5) (h : tq_mk cy (tq_adF z g) tq_N0 38 i (tq_mix tq_S0 tq_M0 38 i) = some e) : va_at D vwCl (tq_adF z g 38 i, e) H ∧ ∃ p : Nat, tq_adF z g 38 i = z + p ∧ tq_inv p = (38, i) := by
  rw [tq_mk_38 hi] at h
  cases h
  obtain rfl | rfl | rfl | rfl | rfl : i = 0 ∨ i = 1 ∨ i = 2 ∨ i = 3 ∨ i = 4 := by omega
  · exact ⟨hR.at (j := 47) (by decide) ((tq_low (by decide)).trans rfl), 47, rfl, rfl⟩
  · exact ⟨hR.at (j := 57) (by decide) ((tq_low (by decide)).trans rfl), 57, rfl, rfl⟩
  · exact ⟨hR.at (j := 67) (by decide) ((tq_low (by decide)).trans rfl), 67, rfl, rfl⟩
  · exact ⟨hR.at (j := 77) (by decide) ((tq_low (by decide)).trans rfl), 77, rfl, rfl⟩
  · exact ⟨hR.at (j := 87) (by decide) ((tq_low (by decide)).trans rfl), 87, rfl, rfl⟩
theorem tq_loc_40 {D : va_G} {z : Nat} {H0 H : Heap} {cy : Nat → ClassId} {g : Nat → Nat → Nat} (hR : tq_rw D z 1660 H0 (tqE380 z cy (tq_adF z g)) H) {i : Nat} {e : va_E} (hi : i < 5) (h : tq_mk cy (tq_adF z g) tq_N0 40 i (tq_mix tq_S0 tq_M0 40 i) = some e) : va_at D vwCl (tq_adF z g 40 i, e) H ∧ ∃ p : Nat, tq_adF z g 40 i = z + p ∧ tq_inv p = (40, i) := by
  rw [tq_mk_40 hi] at h
  cases h
  obtain rfl | rfl | rfl | rfl | rfl : i = 0 ∨ i = 1 ∨ i = 2 ∨ i = 3 ∨ i = 4 := by omega
  · exact ⟨hR.at (j := 48) (by decide) ((tq_low (by decide)).trans rfl), 48, rfl, rfl⟩
  · exact ⟨hR.at (j := 58) (by decide) ((tq_low (by decide)).trans rfl), 58, rfl, rfl⟩
  · exact ⟨hR.at (j := 68) (by decide) ((tq_low (by decide)).trans rfl), 68, rfl, rfl⟩
  · exact ⟨hR.at (j := 78) (by decide) ((tq_low (by decide)).trans rfl), 78, rfl, rfl⟩
  · exact ⟨hR.at (j := 88) (by decide) ((tq_low (by decide)).trans rfl), 88, rfl, rfl⟩
theorem tq_loc_41 {D : va_G} {z : Nat} {H0 H : Heap} {cy : Nat → ClassId} {g : Nat → Nat → Nat} (hR : tq_rw D z 1660 H0 (tqE380 z cy (tq_adF z g)) H) {i : Nat} {e : va_E} (hi : i < 1) (h : tq_mk cy (tq_adF z g) tq_N0 41 i (tq_mix tq_S0 tq_M0 41 i) = some e) : va_at D vwCl (tq_adF z g 41 i, e) H ∧ ∃ p : Nat, tq_adF z g 41 i = z + p ∧ tq_inv p = (41, i) := by
  rw [tq_mk_41 hi] at h
  cases h
  obtain rfl : i = 0 := by omega
  exact ⟨hR.at (j := 11) (by decide) ((tq_low (by decide)).trans rfl), 11, rfl, rfl⟩
theorem tq_loc_42 {D : va_G} {z : Nat} {H0 H : Heap} {cy : Nat → ClassId} {g : Nat → Nat → Nat} (hR : tq_rw D z 1660 H0 (tqE380 z cy (tq_adF z g)) H) {i : Nat} {e : va_E} (hi : i < 1) (h : tq_mk cy (tq_adF z g) tq_N0 42 i (tq_mix tq_S0 tq_M0 42 i) = some e) : va_at D vwCl (tq_adF z g 42 i, e) H ∧ ∃ p : Nat, tq_adF z g 42 i = z + p ∧ tq_inv p = (42, i) := by
  rw [tq_mk_42 hi] at h
  cases h
  obtain rfl : i = 0 := by omega
  exact ⟨hR.q (p := 13) (by decide) ((tq_low (by decide)).trans rfl) (fun j hj => (if_pos hj).trans (congrArg some (show z + 13 + 1 + j = z + (14 + j) by omega))), 13, rfl, rfl⟩
theorem tq_loc_43 {D : va_G} {z : Nat} {H0 H : Heap} {cy : Nat → ClassId} {g : Nat → Nat → Nat} (hR : tq_rw D z 1660 H0 (tqE380 z cy (tq_adF z g)) H) {i : Nat} {e : va_E} (hi : i < 6) (h : tq_mk cy (tq_adF z g) tq_N0 43 i (tq_mix tq_S0 tq_M0 43 i) = some e) : va_at D vwCl (tq_adF z g 43 i, e) H ∧ ∃ p : Nat, tq_adF z g 43 i = z + p ∧ tq_inv p = (43, i) := by
  rw [tq_mk_43 hi] at h
  cases h
  obtain rfl | rfl | rfl | rfl | rfl | rfl : i = 0 ∨ i = 1 ∨ i = 2 ∨ i = 3 ∨ i = 4 ∨ i = 5 := by omega
  · exact ⟨hR.at (j := 14) (by decide) ((tq_low (by decide)).trans rfl), 14, rfl, rfl⟩
  · exact ⟨hR.at (j := 15) (by decide) ((tq_low (by decide)).trans rfl), 15, rfl, rfl⟩
  · exact ⟨hR.at (j := 16) (by decide) ((tq_low (by decide)).trans rfl), 16, rfl, rfl⟩
  · exact ⟨hR.at (j := 17) (by decide) ((tq_low (by decide)).trans rfl), 17, rfl, rfl⟩
  · exact ⟨hR.at (j := 18) (by decide) ((tq_low (by decide)).trans rfl), 18, rfl, rfl⟩
  · exact ⟨hR.at (j := 19) (by decide) ((tq_low (by decide)).trans rfl), 19, rfl, rfl⟩
theorem tq_loc_44 {D : va_G} {z : Nat} {H0 H : Heap} {cy : Nat → ClassId} {g : Nat → Nat → Nat} (hR : tq_rw D z 1660 H0 (tqE380 z cy (tq_adF z g)) H) {i : Nat} {e : va_E} (hi : i < 1) (h : tq_mk cy (tq_adF z g) tq_N0 44 i (tq_mix tq_S0 tq_M0 44 i) = some e) : va_at D vwCl (tq_adF z g 44 i, e) H ∧ ∃ p : Nat, tq_adF z g 44 i = z + p ∧ tq_inv p = (44, i) := by
  rw [tq_mk_44 hi] at h
  cases h
  obtain rfl : i = 0 := by omega
  exact ⟨hR.q (p := 20) (by decide) ((tq_low (by decide)).trans rfl) (fun j hj => (if_pos hj).trans (congrArg some (show z + 20 + 1 + j = z + (21 + j) by omega))), 20, rfl, rfl⟩
theorem tq_loc_45 {D : va_G} {z : Nat} {H0 H : Heap} {cy : Nat → ClassId} {g : Nat → Nat → Nat} (hR : tq_rw D z 1660 H0 (tqE380 z cy (tq_adF z g)) H) {i : Nat} {e : va_E} (hi : i < 6) (h : tq_mk cy (tq_adF z g) tq_N0 45 i (tq_mix tq_S0 tq_M0 45 i) = some e) : va_at D vwCl (tq_adF z g 45 i, e) H ∧ ∃ p : Nat, tq_adF z g 45 i = z + p ∧ tq_inv p = (45, i) := by
  rw [tq_mk_45 hi] at h
  cases h
  obtain rfl | rfl | rfl | rfl | rfl | rfl : i = 0 ∨ i = 1 ∨ i = 2 ∨ i = 3 ∨ i = 4 ∨ i = 5 := by omega
  · exact ⟨hR.at (j := 21) (by decide) ((tq_low (by decide)).trans rfl), 21, rfl, rfl⟩
  · exact ⟨hR.at (j := 22) (by decide) ((tq_low (by decide)).trans rfl), 22, rfl, rfl⟩
  · exact ⟨hR.at (j := 23) (by decide) ((tq_low (by decide)).trans rfl), 23, rfl, rfl⟩
  · exact ⟨hR.at (j := 24) (by decide) ((tq_low (by decide)).trans rfl), 24, rfl, rfl⟩
  · exact ⟨hR.at (j := 25) (by decide) ((tq_low (by decide)).trans rfl), 25, rfl, rfl⟩
  · exact ⟨hR.at (j := 26) (by decide) ((tq_low (by decide)).trans rfl), 26, rfl, rfl⟩
theorem tq_loc_46 {D : va_G} {z : Nat} {H0 H : Heap} {cy : Nat → ClassId} {g : Nat → Nat → Nat} (hR : tq_rw D z 1660 H0 (tqE380 z cy (tq_adF z g)) H) {i : Nat} {e : va_E} (hi : i < 1) (h : tq_mk cy (tq_adF z g) tq_N0 46 i (tq_mix tq_S0 tq_M0 46 i) = some e) : va_at D vwCl (tq_adF z g 46 i, e) H ∧ ∃ p : Nat, tq_adF z g 46 i = z + p ∧ tq_inv p = (46, i) := by
  rw [tq_mk_46 hi] at h
  cases h
  obtain rfl : i = 0 := by omega
  exact ⟨hR.at (j := 27) (by decide) ((tq_low (by decide)).trans rfl), 27, rfl, rfl⟩
theorem tq_loc_47 {D : va_G} {z : Nat} {H0 H : Heap} {cy : Nat → ClassId} {g : Nat → Nat → Nat} (hR : tq_rw D z 1660 H0 (tqE380 z cy (tq_adF z g)) H) {i : Nat} {e : va_E} (hi : i < 1) (h : tq_mk cy (tq_adF z g) tq_N0 47 i (tq_mix tq_S0 tq_M0 47 i) = some e) : va_at D vwCl (tq_adF z g 47 i, e) H ∧ ∃ p : Nat, tq_adF z g 47 i = z + p ∧ tq_inv p = (47, i) := by
  rw [tq_mk_47 hi] at h
  cases h
  obtain rfl : i = 0 := by omega
  exact ⟨hR.at (j := 28) (by decide) ((tq_low (by decide)).trans rfl), 28, rfl, rfl⟩
theorem tq_loc_48 {D : va_G} {z : Nat} {H0 H : Heap} {cy : Nat → ClassId} {g : Nat → Nat → Nat} (hR : tq_rw D z 1660 H0 (tqE380 z cy (tq_adF z g)) H) {i : Nat} {e : va_E} (hi : i < 1) (h : tq_mk cy (tq_adF z g) tq_N0 48 i (tq_mix tq_S0 tq_M0 48 i) = some e) : va_at D vwCl (tq_adF z g 48 i, e) H ∧ ∃ p : Nat, tq_adF z g 48 i = z + p ∧ tq_inv p = (48, i) := by
  rw [tq_mk_48 hi] at h
  cases h
  obtain rfl : i = 0 := by omega
  exact ⟨hR.at (j := 37) (by decide) ((tq_low (by decide)).trans rfl), 37, rfl, rfl⟩
theorem tq_loc_49 {D : va_G} {z : Nat} {H0 H : Heap} {cy : Nat → ClassId} {g : Nat → Nat → Nat} (hR : tq_rw D z 1660 H0 (tqE380 z cy (tq_adF z g)) H) {i : Nat} {e : va_E} (hi : i < 3) (h : tq_mk cy (tq_adF z g) tq_N0 49 i (tq_mix tq_S0 tq_M0 49 i) = some e) : va_at D vwCl (tq_adF z g 49 i, e) H ∧ ∃ p : Nat, tq_adF z g 49 i = z + p ∧ tq_inv p = (49, i) := by
  rw [tq_mk_49 hi] at h
  cases h
  obtain rfl | rfl | rfl : i = 0 ∨ i = 1 ∨ i = 2 := by omega
  · exact ⟨hR.at (j := 90) (by decide) ((tq_low (by decide)).trans rfl), 90, rfl, rfl⟩
  · exact ⟨hR.at (j := 92) (by decide) ((tq_low (by decide)).trans rfl), 92, rfl, rfl⟩
  · exact ⟨hR.at (j := 94) (by decide) ((tq_low (by decide)).trans rfl), 94, rfl, rfl⟩
theorem tq_loc_64 {D : va_G} {z : Nat} {H0 H : Heap} {cy : Nat → ClassId} {g : Nat → Nat → Nat} (hR : tq_rw D z 1660 H0 (tqE380 z cy (tq_adF z g)) H) {i : Nat} {e : va_E} (hi : i < 1) (h : tq_mk cy (tq_adF z g) tq_N0 64 i (tq_mix tq_S0 tq_M0 64 i) = some e) : va_at D vwCl (tq_adF z g 64 i, e) H ∧ ∃ p : Nat, tq_adF z g 64 i = z + p ∧ tq_inv p = (64, i) := by
  rw [tq_mk_64 hi] at h
  cases h
  obtain rfl : i = 0 := by omega
  exact ⟨hR.at (j := 95) (by decide) rfl, 95, rfl, rfl⟩
theorem tq_loc_101 {D : va_G} {z : Nat} {H0 H : Heap} {cy : Nat → ClassId} {g : Nat → Nat → Nat} (hR : tq_rw D z 1660 H0 (tqE380 z cy (tq_adF z g)) H) {i : Nat} {e : va_E} (hi : i < 1) (h : tq_mk cy (tq_adF z g) tq_N0 101 i (tq_mix tq_S0 tq_M0 101 i) = some e) : va_at D vwCl (tq_adF z g 101 i, e) H ∧ ∃ p : Nat, tq_adF z g 101 i = z + p ∧ tq_inv p = (101, i) := by
  rw [tq_mk_101 hi] at h
  cases h
  obtain rfl : i = 0 := by omega
  exact ⟨hR.at (j := 96) (by decide) rfl, 96, rfl, rfl⟩
theorem tq_loc_102 {D : va_G} {z : Nat} {H0 H : Heap} {cy : Nat → ClassId} {g : Nat → Nat → Nat} (hR : tq_rw D z 1660 H0 (tqE380 z cy (tq_adF z g)) H) {i : Nat} {e : va_E} (hi : i < 5) (h : tq_mk cy (tq_adF z g) tq_N0 102 i (tq_mix tq_S0 tq_M0 102 i) = some e) : va_at D vwCl (tq_adF z g 102 i, e) H ∧ ∃ p : Nat, tq_adF z g 102 i = z + p ∧ tq_inv p = (102, i) := by
  rw [tq_mk_102 hi] at h
  cases h
  refine ⟨hR.at (j := 98 + i) (by omega) ?_, 98 + i, rfl, ?_⟩
  · rw [tq_k380 (by omega), tq_k379 (by omega), tq_k378 (by omega), tq_k377 (by omega), tq_k376 (by omega), tq_k375 (by omega), tq_k374 (by omega), tq_k373 (by omega), tq_k372 (by omega), tq_k371 (by omega), tq_k370 (by omega), tq_k369 (by omega), tq_k368 (by omega), tq_k367 (by omega), tq_k366 (by omega), tq_k365 (by omega), tq_k364 (by omega), tq_k363 (by omega), tq_k362 (by omega), tq_k361 (by omega), tq_k360 (by omega), tq_k359 (by omega), tq_k358 (by omega), tq_k357 (by omega), tq_k356 (by omega), tq_k355 (by omega), tq_k354 (by omega), tq_k353 (by omega), tq_k352 (by omega), tq_k351 (by omega), tq_k350 (by omega), tq_k349 (by omega), tq_k348 (by omega), tq_k347 (by omega), tq_k346 (by omega), tq_k345 (by omega), tq_k344 (by omega), tq_k343 (by omega), tq_k342 (by omega), tq_k341 (by omega), tq_k340 (by omega), tq_k339 (by omega), tq_k338 (by omega), tq_k337 (by omega), tq_k336 (by omega), tq_k335 (by omega), tq_k334 (by omega), tq_k333 (by omega), tq_k332 (by omega), tq_k331 (by omega), tq_k330 (by omega), tq_k329 (by omega), tq_k328 (by omega), tq_k327 (by omega), tq_k326 (by omega), tq_k325 (by omega), tq_k324 (by omega), tq_k323 (by omega), tq_k322 (by omega), tq_k321 (by omega), tq_k320 (by omega), tq_k319 (by omega), tq_k318 (by omega), tq_k317 (by omega), tq_k316 (by omega), tq_k315 (by omega), tq_k314 (by omega), tq_k313 (by omega), tq_k312 (by omega), tq_k311 (by omega), tq_k310 (by omega), tq_k309 (by omega), tq_k308 (by omega), tq_k307 (by omega), tq_k306 (by omega), tq_k305 (by omega), tq_k304 (by omega), tq_k303 (by omega), tq_k302 (by omega), tq_k301 (by omega), tq_k300 (by omega), tq_k299 (by omega), tq_k298 (by omega), tq_k297 (by omega), tq_k296 (by omega), tq_k295 (by omega), tq_k294 (by omega), tq_k293 (by omega), tq_k292 (by omega), tq_k291 (by omega), tq_k290 (by omega), tq_k289 (by omega), tq_k288 (by omega), tq_k287 (by omega), tq_k286 (by omega), tq_k285 (by omega), tq_k284 (by omega), tq_k283 (by omega), tq_k282 (by omega), tq_k281 (by omega), tq_k280 (by omega), tq_k279 (by omega), tq_k278 (by omega), tq_k277 (by omega), tq_k276 (by omega), tq_k275 (by omega), tq_k274 (by omega), tq_k273 (by omega), tq_k272 (by omega), tq_k271 (by omega), tq_k270 (by omega), tq_k269 (by omega), tq_k268 (by omega), tq_k267 (by omega), tq_k266 (by omega), tq_k265 (by omega), tq_k264 (by omega), tq_k263 (by omega), tq_k262 (by omega), tq_k261 (by omega), tq_k260 (by omega), tq_k259 (by omega), tq_k258 (by omega), tq_k257 (by omega), tq_k256 (by omega), tq_k255 (by omega), tq_k254 (by omega), tq_k253 (by omega), tq_k252 (by omega), tq_k251 (by omega), tq_k250 (by omega), tq_k249 (by omega), tq_k248 (by omega), tq_k247 (by omega), tq_k246 (by omega), tq_k245 (by omega), tq_k244 (by omega), tq_k243 (by omega), tq_k242 (by omega), tq_k241 (by omega), tq_k240 (by omega), tq_k239 (by omega), tq_k238 (by omega), tq_k237 (by omega), tq_k236 (by omega), tq_k235 (by omega), tq_k234 (by omega), tq_k233 (by omega), tq_k232 (by omega), tq_k231 (by omega), tq_k230 (by omega), tq_k229 (by omega), tq_k228 (by omega), tq_k227 (by omega)]
    exact tq_extM_in (by omega)
  · unfold tq_inv
    rw [if_neg (by omega), if_pos (by omega)]
    unfold tq_in0
    rw [if_neg (by omega), if_neg (by omega), if_neg (by omega), if_pos (by omega)]
    rw [Nat.add_sub_cancel_left]
theorem tq_loc_103 {D : va_G} {z : Nat} {H0 H : Heap} {cy : Nat → ClassId} {g : Nat → Nat → Nat} (hR : tq_rw D z 1660 H0 (tqE380 z cy (tq_adF z g)) H) {i : Nat} {e : va_E} (hi : i < 5) (h : tq_mk cy (tq_adF z g) tq_N0 103 i (tq_mix tq_S0 tq_M0 103 i) = some e) : va_at D vwCl (tq_adF z g 103 i, e) H ∧ ∃ p : Nat, tq_adF z g 103 i = z + p ∧ tq_inv p = (103, i) := by
  rw [tq_mk_103 hi] at h
  cases h
  obtain rfl | rfl | rfl | rfl | rfl : i = 0 ∨ i = 1 ∨ i = 2 ∨ i = 3 ∨ i = 4 := by omega
  · exact ⟨hR.at (j := 104) (by decide) rfl, 104, rfl, rfl⟩
  · exact ⟨hR.at (j := 105) (by decide) rfl, 105, rfl, rfl⟩
  · exact ⟨hR.at (j := 106) (by decide) rfl, 106, rfl, rfl⟩
  · exact ⟨hR.at (j := 107) (by decide) rfl, 107, rfl, rfl⟩
  · exact ⟨hR.at (j := 108) (by decide) rfl, 108, rfl, rfl⟩
theorem tq_loc_104 {D : va_G} {z : Nat} {H0 H : Heap} {cy : Nat → ClassId} {g : Nat → Nat → Nat} (hR : tq_rw D z 1660 H0 (tqE380 z cy (tq_adF z g)) H) {i : Nat} {e : va_E} (hi : i < 5) (h : tq_mk cy (tq_adF z g) tq_N0 104 i (tq_mix tq_S0 tq_M0 104 i) = some e) : va_at D vwCl (tq_adF z g 104 i, e) H ∧ ∃ p : Nat, tq_adF z g 104 i = z + p ∧ tq_inv p = (104, i) := by
  rw [tq_mk_104 hi] at h
  cases h
  obtain rfl | rfl | rfl | rfl | rfl : i = 0 ∨ i = 1 ∨ i = 2 ∨ i = 3 ∨ i = 4 := by omega
  · exact ⟨hR.at (j := 110) (by decide) rfl, 110, rfl, rfl⟩
  · exact ⟨hR.at (j := 111) (by decide) rfl, 111, rfl, rfl⟩
  · exact ⟨hR.at (j := 112) (by decide) rfl, 112, rfl, rfl⟩
  · exact ⟨hR.at (j := 113) (by decide) rfl, 113, rfl, rfl⟩
  · exact ⟨hR.at (j := 114) (by decide) rfl, 114, rfl, rfl⟩
theorem tq_loc_105 {D : va_G} {z : Nat} {H0 H : Heap} {cy : Nat → ClassId} {g : Nat → Nat → Nat} (hR : tq_rw D z 1660 H0 (tqE380 z cy (tq_adF z g)) H) {i : Nat} {e : va_E} (hi : i < 5) (h : tq_mk cy (tq_adF z g) tq_N0 105 i (tq_mix tq_S0 tq_M0 105 i) = some e) : va_at D vwCl (tq_adF z g 105 i, e) H ∧ ∃ p : Nat, tq_adF z g 105 i = z + p ∧ tq_inv p = (105, i) := by
  rw [tq_mk_105 hi] at h
  cases h
  refine ⟨hR.at (j := 116 + i) (by omega) ?_, 116 + i, rfl, ?_⟩
  · rw [tq_k380 (by omega), tq_k379 (by omega), tq_k378 (by omega), tq_k377 (by omega), tq_k376 (by omega), tq_k375 (by omega), tq_k374 (by omega), tq_k373 (by omega), tq_k372 (by omega), tq_k371 (by omega), tq_k370 (by omega), tq_k369 (by omega), tq_k368 (by omega), tq_k367 (by omega), tq_k366 (by omega), tq_k365 (by omega), tq_k364 (by omega), tq_k363 (by omega), tq_k362 (by omega), tq_k361 (by omega), tq_k360 (by omega), tq_k359 (by omega), tq_k358 (by omega), tq_k357 (by omega), tq_k356 (by omega), tq_k355 (by omega), tq_k354 (by omega), tq_k353 (by omega), tq_k352 (by omega), tq_k351 (by omega), tq_k350 (by omega), tq_k349 (by omega), tq_k348 (by omega), tq_k347 (by omega), tq_k346 (by omega), tq_k345 (by omega), tq_k344 (by omega), tq_k343 (by omega), tq_k342 (by omega), tq_k341 (by omega), tq_k340 (by omega), tq_k339 (by omega), tq_k338 (by omega), tq_k337 (by omega), tq_k336 (by omega), tq_k335 (by omega), tq_k334 (by omega), tq_k333 (by omega), tq_k332 (by omega), tq_k331 (by omega), tq_k330 (by omega), tq_k329 (by omega), tq_k328 (by omega), tq_k327 (by omega), tq_k326 (by omega), tq_k325 (by omega), tq_k324 (by omega), tq_k323 (by omega), tq_k322 (by omega), tq_k321 (by omega), tq_k320 (by omega), tq_k319 (by omega), tq_k318 (by omega), tq_k317 (by omega), tq_k316 (by omega), tq_k315 (by omega), tq_k314 (by omega), tq_k313 (by omega), tq_k312 (by omega), tq_k311 (by omega), tq_k310 (by omega), tq_k309 (by omega), tq_k308 (by omega), tq_k307 (by omega), tq_k306 (by omega), tq_k305 (by omega), tq_k304 (by omega), tq_k303 (by omega), tq_k302 (by omega), tq_k301 (by omega), tq_k300 (by omega), tq_k299 (by omega), tq_k298 (by omega), tq_k297 (by omega), tq_k296 (by omega), tq_k295 (by omega), tq_k294 (by omega), tq_k293 (by omega), tq_k292 (by omega), tq_k291 (by omega), tq_k290 (by omega), tq_k289 (by omega), tq_k288 (by omega), tq_k287 (by omega), tq_k286 (by omega), tq_k285 (by omega), tq_k284 (by omega), tq_k283 (by omega), tq_k282 (by omega), tq_k281 (by omega), tq_k280 (by omega), tq_k279 (by omega), tq_k278 (by omega), tq_k277 (by omega), tq_k276 (by omega), tq_k275 (by omega), tq_k274 (by omega), tq_k273 (by omega), tq_k272 (by omega), tq_k271 (by omega), tq_k270 (by omega), tq_k269 (by omega), tq_k268 (by omega), tq_k267 (by omega), tq_k266 (by omega), tq_k265 (by omega), tq_k264 (by omega), tq_k263 (by omega), tq_k262 (by omega), tq_k261 (by omega), tq_k260 (by omega), tq_k259 (by omega), tq_k258 (by omega), tq_k257 (by omega), tq_k256 (by omega), tq_k255 (by omega), tq_k254 (by omega), tq_k253 (by omega), tq_k252 (by omega), tq_k251 (by omega), tq_k250 (by omega), tq_k249 (by omega), tq_k248 (by omega), tq_k247 (by omega), tq_k246 (by omega), tq_k245 (by omega), tq_k244 (by omega), tq_k243 (by omega), tq_k242 (by omega), tq_k241 (by omega), tq_k240 (by omega), tq_k239 (by omega), tq_k238 (by omega), tq_k237 (by omega), tq_k236 (by omega), tq_k235 (by omega), tq_k234 (by omega), tq_k233 (by omega)]
    exact tq_extM_in (by omega)
  · unfold tq_inv
    rw [if_neg (by omega), if_pos (by omega)]
    unfold tq_in0
    rw [if_neg (by omega), if_neg (by omega), if_neg (by omega), if_neg (by omega), if_neg (by omega), if_neg (by omega), if_neg (by omega), if_neg (by omega), if_neg (by omega), if_pos (by omega)]
    rw [Nat.add_sub_cancel_left]
theorem tq_loc_107 {D : va_G} {z : Nat} {H0 H : Heap} {cy : Nat → ClassId} {g : Nat → Nat → Nat} (hR : tq_rw D z 1660 H0 (tqE380 z cy (tq_adF z g)) H) {i : Nat} {e : va_E} (hi : i < 1) (h : tq_mk cy (tq_adF z g) tq_N0 107 i (tq_mix tq_S0 tq_M0 107 i) = some e) : va_at D vwCl (tq_adF z g 107 i, e) H ∧ ∃ p : Nat, tq_adF z g 107 i = z + p ∧ tq_inv p = (107, i) := by
  rw [tq_mk_107 hi] at h
  cases h
  obtain rfl : i = 0 := by omega
  exact ⟨hR.at (j := 121) (by decide) rfl, 121, rfl, rfl⟩
theorem tq_loc_108 {D : va_G} {z : Nat} {H0 H : Heap} {cy : Nat → ClassId} {g : Nat → Nat → Nat} (hR : tq_rw D z 1660 H0 (tqE380 z cy (tq_adF z g)) H) {i : Nat} {e : va_E} (hi : i < 1) (h : tq_mk cy (tq_adF z g) tq_N0 108 i (tq_mix tq_S0 tq_M0 108 i) = some e) : va_at D vwCl (tq_adF z g 108 i, e) H ∧ ∃ p : Nat, tq_adF z g 108 i = z + p ∧ tq_inv p = (108, i) := by
  rw [tq_mk_108 hi] at h
  cases h
  obtain rfl : i = 0 := by omega
  exact ⟨hR.at (j := 122) (by decide) rfl, 122, rfl, rfl⟩
theorem tq_loc_110 {D : va_G} {z : Nat} {H0 H : Heap} {cy : Nat → ClassId} {g : Nat → Nat → Nat} (hR : tq_rw D z 1660 H0 (tqE380 z cy (tq_adF z g)) H) {i : Nat} {e : va_E} (hi : i < 1) (h : tq_mk cy (tq_adF z g) tq_N0 110 i (tq_mix tq_S0 tq_M0 110 i) = some e) : va_at D vwCl (tq_adF z g 110 i, e) H ∧ ∃ p : Nat, tq_adF z g 110 i = z + p ∧ tq_inv p = (110, i) := by
  rw [tq_mk_110 hi] at h
  cases h
  obtain rfl : i = 0 := by omega
  exact ⟨hR.at (j := 123) (by decide) rfl, 123, rfl, rfl⟩
theorem tq_loc_111 {D : va_G} {z : Nat} {H0 H : Heap} {cy : Nat → ClassId} {g : Nat → Nat → Nat} (hR : tq_rw D z 1660 H0 (tqE380 z cy (tq_adF z g)) H) {i : Nat} {e : va_E} (hi : i < 1) (h : tq_mk cy (tq_adF z g) tq_N0 111 i (tq_mix tq_S0 tq_M0 111 i) = some e) : va_at D vwCl (tq_adF z g 111 i, e) H ∧ ∃ p : Nat, tq_adF z g 111 i = z + p ∧ tq_inv p = (111, i) := by
  rw [tq_mk_111 hi] at h
  cases h
  obtain rfl : i = 0 := by omega
  exact ⟨hR.at (j := 124) (by decide) rfl, 124, rfl, rfl⟩
theorem tq_loc_112 {D : va_G} {z : Nat} {H0 H : Heap} {cy : Nat → ClassId} {g : Nat → Nat → Nat} (hR : tq_rw D z 1660 H0 (tqE380 z cy (tq_adF z g)) H) {i : Nat} {e : va_E} (hi : i < 1) (h : tq_mk cy (tq_adF z g) tq_N0 112 i (tq_mix tq_S0 tq_M0 112 i) = some e) : va_at D vwCl (tq_adF z g 112 i, e) H ∧ ∃ p : Nat, tq_adF z g 112 i = z + p ∧ tq_inv p = (112, i) := by
  rw [tq_mk_112 hi] at h
  cases h
  obtain rfl : i = 0 := by omega
  exact ⟨hR.at (j := 125) (by decide) rfl, 125, rfl, rfl⟩
theorem tq_loc_113 {D : va_G} {z : Nat} {H0 H : Heap} {cy : Nat → ClassId} {g : Nat → Nat → Nat} (hR : tq_rw D z 1660 H0 (tqE380 z cy (tq_adF z g)) H) {i : Nat} {e : va_E} (hi : i < 1) (h : tq_mk cy (tq_adF z g) tq_N0 113 i (tq_mix tq_S0 tq_M0 113 i) = some e) : va_at D vwCl (tq_adF z g 113 i, e) H ∧ ∃ p : Nat, tq_adF z g 113 i = z + p ∧ tq_inv p = (113, i) := by
  rw [tq_mk_113 hi] at h
  cases h
  obtain rfl : i = 0 := by omega
  exact ⟨hR.at (j := 126) (by decide) rfl, 126, rfl, rfl⟩
theorem tq_loc_114 {D : va_G} {z : Nat} {H0 H : Heap} {cy : Nat → ClassId} {g : Nat → Nat → Nat} (hR : tq_rw D z 1660 H0 (tqE380 z cy (tq_adF z g)) H) {i : Nat} {e : va_E} (hi : i < 1) (h : tq_mk cy (tq_adF z g) tq_N0 114 i (tq_mix tq_S0 tq_M0 114 i) = some e) : va_at D vwCl (tq_adF z g 114 i, e) H ∧ ∃ p : Nat, tq_adF z g 114 i = z + p ∧ tq_inv p = (114, i) := by
  rw [tq_mk_114 hi] at h
  cases h
  obtain rfl : i = 0 := by omega
  exact ⟨hR.at (j := 127) (by decide) rfl, 127, rfl, rfl⟩
theorem tq_loc_115 {D : va_G} {z : Nat} {H0 H : Heap} {cy : Nat → ClassId} {g : Nat → Nat → Nat} (hR : tq_rw D z 1660 H0 (tqE380 z cy (tq_adF z g)) H) {i : Nat} {e : va_E} (hi : i < 150) (h : tq_mk cy (tq_adF z g) tq_N0 115 i (tq_mix tq_S0 tq_M0 115 i) = some e) : va_at D vwCl (tq_adF z g 115 i, e) H ∧ ∃ p : Nat, tq_adF z g 115 i = z + p ∧ tq_inv p = (115, i) := by
  rw [tq_mk_115 hi] at h
  cases h
  refine ⟨hR.at (j := 129 + i) (by omega) ?_, 129 + i, rfl, ?_⟩
  · rw [tq_k380 (by omega), tq_k379 (by omega), tq_k378 (by omega), tq_k377 (by omega), tq_k376 (by omega), tq_k375 (by omega), tq_k374 (by omega), tq_k373 (by omega), tq_k372 (by omega), tq_k371 (by omega), tq_k370 (by omega), tq_k369 (by omega), tq_k368 (by omega), tq_k367 (by omega), tq_k366 (by omega), tq_k365 (by omega), tq_k364 (by omega), tq_k363 (by omega), tq_k362 (by omega), tq_k361 (by omega), tq_k360 (by omega), tq_k359 (by omega), tq_k358 (by omega), tq_k357 (by omega), tq_k356 (by omega), tq_k355 (by omega), tq_k354 (by omega), tq_k353 (by omega), tq_k352 (by omega), tq_k351 (by omega), tq_k350 (by omega), tq_k349 (by omega), tq_k348 (by omega), tq_k347 (by omega), tq_k346 (by omega), tq_k345 (by omega), tq_k344 (by omega), tq_k343 (by omega), tq_k342 (by omega), tq_k341 (by omega), tq_k340 (by omega), tq_k339 (by omega), tq_k338 (by omega), tq_k337 (by omega), tq_k336 (by omega), tq_k335 (by omega), tq_k334 (by omega), tq_k333 (by omega), tq_k332 (by omega), tq_k331 (by omega), tq_k330 (by omega), tq_k329 (by omega), tq_k328 (by omega), tq_k327 (by omega), tq_k326 (by omega), tq_k325 (by omega), tq_k324 (by omega), tq_k323 (by omega), tq_k322 (by omega), tq_k321 (by omega), tq_k320 (by omega), tq_k319 (by omega), tq_k318 (by omega), tq_k317 (by omega), tq_k316 (by omega), tq_k315 (by omega), tq_k314 (by omega), tq_k313 (by omega), tq_k312 (by omega), tq_k311 (by omega), tq_k310 (by omega), tq_k309 (by omega), tq_k308 (by omega), tq_k307 (by omega), tq_k306 (by omega), tq_k305 (by omega), tq_k304 (by omega), tq_k303 (by omega), tq_k302 (by omega), tq_k301 (by omega), tq_k300 (by omega), tq_k299 (by omega), tq_k298 (by omega), tq_k297 (by omega), tq_k296 (by omega), tq_k295 (by omega), tq_k294 (by omega), tq_k293 (by omega), tq_k292 (by omega), tq_k291 (by omega), tq_k290 (by omega), tq_k289 (by omega), tq_k288 (by omega), tq_k287 (by omega), tq_k286 (by omega), tq_k285 (by omega), tq_k284 (by omega), tq_k283 (by omega), tq_k282 (by omega), tq_k281 (by omega), tq_k280 (by omega), tq_k279 (by omega), tq_k278 (by omega), tq_k277 (by omega), tq_k276 (by omega), tq_k275 (by omega), tq_k274 (by omega), tq_k273 (by omega), tq_k272 (by omega), tq_k271 (by omega), tq_k270 (by omega), tq_k269 (by omega), tq_k268 (by omega), tq_k267 (by omega), tq_k266 (by omega), tq_k265 (by omega), tq_k264 (by omega), tq_k263 (by omega), tq_k262 (by omega), tq_k261 (by omega), tq_k260 (by omega), tq_k259 (by omega), tq_k258 (by omega), tq_k257 (by omega), tq_k256 (by omega), tq_k255 (by omega), tq_k254 (by omega), tq_k253 (by omega), tq_k252 (by omega), tq_k251 (by omega), tq_k250 (by omega), tq_k249 (by omega)]
    exact tq_extM_in (by omega)
  · unfold tq_inv
    rw [if_neg (by omega), if_neg (by omega), if_pos (by omega)]
    unfold tq_in1
    rw [if_neg (by omega), if_neg (by omega), if_neg (by omega), if_neg (by omega), if_neg (by omega), if_neg (by omega), if_pos (by omega)]
    rw [Nat.add_sub_cancel_left]
theorem tq_loc_116 {D : va_G} {z : Nat} {H0 H : Heap} {cy : Nat → ClassId} {g : Nat → Nat → Nat} (hR : tq_rw D z 1660 H0 (tqE380 z cy (tq_adF z g)) H) {i : Nat} {e : va_E} (hi : i < 150) (h : tq_mk cy (tq_adF z g) tq_N0 116 i (tq_mix tq_S0 tq_M0 116 i) = some e) : va_at D vwCl (tq_adF z g 116 i, e) H ∧ ∃ p : Nat, tq_adF z g 116 i = z + p ∧ tq_inv p = (116, i) := by
  rw [tq_mk_116 hi] at h
  cases h
  refine ⟨hR.at (j := 280 + i) (by omega) ?_, 280 + i, rfl, ?_⟩
  · rw [tq_k380 (by omega), tq_k379 (by omega), tq_k378 (by omega), tq_k377 (by omega), tq_k376 (by omega), tq_k375 (by omega), tq_k374 (by omega), tq_k373 (by omega), tq_k372 (by omega), tq_k371 (by omega), tq_k370 (by omega), tq_k369 (by omega), tq_k368 (by omega), tq_k367 (by omega), tq_k366 (by omega), tq_k365 (by omega), tq_k364 (by omega), tq_k363 (by omega), tq_k362 (by omega), tq_k361 (by omega), tq_k360 (by omega), tq_k359 (by omega), tq_k358 (by omega), tq_k357 (by omega), tq_k356 (by omega), tq_k355 (by omega), tq_k354 (by omega), tq_k353 (by omega), tq_k352 (by omega), tq_k351 (by omega), tq_k350 (by omega), tq_k349 (by omega), tq_k348 (by omega), tq_k347 (by omega), tq_k346 (by omega), tq_k345 (by omega), tq_k344 (by omega), tq_k343 (by omega), tq_k342 (by omega), tq_k341 (by omega), tq_k340 (by omega), tq_k339 (by omega), tq_k338 (by omega), tq_k337 (by omega), tq_k336 (by omega), tq_k335 (by omega), tq_k334 (by omega), tq_k333 (by omega), tq_k332 (by omega), tq_k331 (by omega), tq_k330 (by omega), tq_k329 (by omega), tq_k328 (by omega), tq_k327 (by omega), tq_k326 (by omega), tq_k325 (by omega), tq_k324 (by omega), tq_k323 (by omega), tq_k322 (by omega), tq_k321 (by omega), tq_k320 (by omega), tq_k319 (by omega), tq_k318 (by omega), tq_k317 (by omega), tq_k316 (by omega), tq_k315 (by omega), tq_k314 (by omega), tq_k313 (by omega), tq_k312 (by omega), tq_k311 (by omega), tq_k310 (by omega), tq_k309 (by omega), tq_k308 (by omega), tq_k307 (by omega), tq_k306 (by omega), tq_k305 (by omega), tq_k304 (by omega), tq_k303 (by omega), tq_k302 (by omega), tq_k301 (by omega), tq_k300 (by omega), tq_k299 (by omega), tq_k298 (by omega), tq_k297 (by omega), tq_k296 (by omega), tq_k295 (by omega), tq_k294 (by omega), tq_k293 (by omega), tq_k292 (by omega), tq_k291 (by omega), tq_k290 (by omega), tq_k289 (by omega), tq_k288 (by omega), tq_k287 (by omega), tq_k286 (by omega), tq_k285 (by omega), tq_k284 (by omega), tq_k283 (by omega), tq_k282 (by omega), tq_k281 (by omega), tq_k280 (by omega), tq_k279 (by omega), tq_k278 (by omega), tq_k277 (by omega), tq_k276 (by omega), tq_k275 (by omega), tq_k274 (by omega), tq_k273 (by omega), tq_k272 (by omega), tq_k271 (by omega), tq_k270 (by omega), tq_k269 (by omega), tq_k268 (by omega), tq_k267 (by omega), tq_k266 (by omega), tq_k265 (by omega), tq_k264 (by omega), tq_k263 (by omega), tq_k262 (by omega), tq_k261 (by omega), tq_k260 (by omega), tq_k259 (by omega), tq_k258 (by omega), tq_k257 (by omega), tq_k256 (by omega), tq_k255 (by omega), tq_k254 (by omega), tq_k253 (by omega), tq_k252 (by omega), tq_k251 (by omega)]
    exact tq_extM_in (by omega)
  · unfold tq_inv
    rw [if_neg (by omega), if_neg (by omega), if_pos (by omega)]
    unfold tq_in1
    rw [if_neg (by omega), if_neg (by omega), if_neg (by omega), if_neg (by omega), if_neg (by omega), if_neg (by omega), if_neg (by omega), if_neg (by omega), if_pos (by omega)]
    rw [Nat.add_sub_cancel_left]
theorem tq_loc_117 {D : va_G} {z : Nat} {H0 H : Heap} {cy : Nat → ClassId} {g : Nat → Nat → Nat} (hR : tq_rw D z 1660 H0 (tqE380 z cy (tq_adF z g)) H) {i : Nat} {e : va_E} (hi : i < 1) (h : tq_mk cy (tq_adF z g) tq_N0 117 i (tq_mix tq_S0 tq_M0 117 i) = some e) : va_at D vwCl (tq_adF z g 117 i, e) H ∧ ∃ p : Nat, tq_adF z g 117 i = z + p ∧ tq_inv p = (117, i) := by
  rw [tq_mk_117 hi] at h
  cases h
  obtain rfl : i = 0 := by omega
  exact ⟨hR.at (j := 430) (by decide) rfl, 430, rfl, rfl⟩
theorem tq_loc_118 {D : va_G} {z : Nat} {H0 H : Heap} {cy : Nat → ClassId} {g : Nat → Nat → Nat} (hR : tq_rw D z 1660 H0 (tqE380 z cy (tq_adF z g)) H) {i : Nat} {e : va_E} (hi : i < 150) (h : tq_mk cy (tq_adF z g) tq_N0 118 i (tq_mix tq_S0 tq_M0 118 i) = some e) : va_at D vwCl (tq_adF z g 118 i, e) H ∧ ∃ p : Nat, tq_adF z g 118 i = z + p ∧ tq_inv p = (118, i) := by
  rw [tq_mk_118 hi] at h
  cases h
  refine ⟨hR.at (j := 432 + i) (by omega) ?_, 432 + i, rfl, ?_⟩
  · rw [tq_k380 (by omega), tq_k379 (by omega), tq_k378 (by omega), tq_k377 (by omega), tq_k376 (by omega), tq_k375 (by omega), tq_k374 (by omega), tq_k373 (by omega), tq_k372 (by omega), tq_k371 (by omega), tq_k370 (by omega), tq_k369 (by omega), tq_k368 (by omega), tq_k367 (by omega), tq_k366 (by omega), tq_k365 (by omega), tq_k364 (by omega), tq_k363 (by omega), tq_k362 (by omega), tq_k361 (by omega), tq_k360 (by omega), tq_k359 (by omega), tq_k358 (by omega), tq_k357 (by omega), tq_k356 (by omega), tq_k355 (by omega), tq_k354 (by omega), tq_k353 (by omega), tq_k352 (by omega), tq_k351 (by omega), tq_k350 (by omega), tq_k349 (by omega), tq_k348 (by omega), tq_k347 (by omega), tq_k346 (by omega), tq_k345 (by omega), tq_k344 (by omega), tq_k343 (by omega), tq_k342 (by omega), tq_k341 (by omega), tq_k340 (by omega), tq_k339 (by omega), tq_k338 (by omega), tq_k337 (by omega), tq_k336 (by omega), tq_k335 (by omega), tq_k334 (by omega), tq_k333 (by omega), tq_k332 (by omega), tq_k331 (by omega), tq_k330 (by omega), tq_k329 (by omega), tq_k328 (by omega), tq_k327 (by omega), tq_k326 (by omega), tq_k325 (by omega), tq_k324 (by omega), tq_k323 (by omega), tq_k322 (by omega), tq_k321 (by omega), tq_k320 (by omega), tq_k319 (by omega), tq_k318 (by omega), tq_k317 (by omega), tq_k316 (by omega), tq_k315 (by omega), tq_k314 (by omega), tq_k313 (by omega), tq_k312 (by omega), tq_k311 (by omega), tq_k310 (by omega), tq_k309 (by omega), tq_k308 (by omega), tq_k307 (by omega), tq_k306 (by omega), tq_k305 (by omega), tq_k304 (by omega), tq_k303 (by omega), tq_k302 (by omega), tq_k301 (by omega), tq_k300 (by omega), tq_k299 (by omega), tq_k298 (by omega), tq_k297 (by omega), tq_k296 (by omega), tq_k295 (by omega), tq_k294 (by omega), tq_k293 (by omega), tq_k292 (by omega), tq_k291 (by omega), tq_k290 (by omega), tq_k289 (by omega), tq_k288 (by omega), tq_k287 (by omega), tq_k286 (by omega), tq_k285 (by omega), tq_k284 (by omega), tq_k283 (by omega), tq_k282 (by omega), tq_k281 (by omega), tq_k280 (by omega), tq_k279 (by omega), tq_k278 (by omega), tq_k277 (by omega), tq_k276 (by omega), tq_k275 (by omega), tq_k274 (by omega), tq_k273 (by omega), tq_k272 (by omega), tq_k271 (by omega), tq_k270 (by omega), tq_k269 (by omega), tq_k268 (by omega), tq_k267 (by omega), tq_k266 (by omega), tq_k265 (by omega), tq_k264 (by omega), tq_k263 (by omega), tq_k262 (by omega), tq_k261 (by omega), tq_k260 (by omega), tq_k259 (by omega), tq_k258 (by omega), tq_k257 (by omega), tq_k256 (by omega), tq_k255 (by omega)]
    exact tq_extM_in (by omega)
  · unfold tq_inv
    rw [if_neg (by omega), if_neg (by omega), if_pos (by omega)]
    unfold tq_in1
    rw [if_neg (by omega), if_neg (by omega), if_neg (by omega), if_neg (by omega), if_neg (by omega), if_neg (by omega), if_neg (by omega), if_neg (by omega), if_neg (by omega), if_neg (by omega), if_neg (by omega)]
    rw [Nat.add_sub_cancel_left]
theorem tq_loc_119 {D : va_G} {z : Nat} {H0 H : Heap} {cy : Nat → ClassId} {g : Nat → Nat → Nat} (hR : tq_rw D z 1660 H0 (tqE380 z cy (tq_adF z g)) H) {i : Nat} {e : va_E} (hi : i < 150) (h : tq_mk cy (tq_adF z g) tq_N0 119 i (tq_mix tq_S0 tq_M0 119 i) = some e) : va_at D vwCl (tq_adF z g 119 i, e) H ∧ ∃ p : Nat, tq_adF z g 119 i = z + p ∧ tq_inv p = (119, i) := by
  rw [tq_mk_119 hi] at h
  cases h
  refine ⟨hR.at (j := 583 + i) (by omega) ?_, 583 + i, rfl, ?_⟩
  · rw [tq_k380 (by omega), tq_k379 (by omega), tq_k378 (by omega), tq_k377 (by omega), tq_k376 (by omega), tq_k375 (by omega), tq_k374 (by omega), tq_k373 (by omega), tq_k372 (by omega), tq_k371 (by omega), tq_k370 (by omega), tq_k369 (by omega), tq_k368 (by omega), tq_k367 (by omega), tq_k366 (by omega), tq_k365 (by omega), tq_k364 (by omega), tq_k363 (by omega), tq_k362 (by omega), tq_k361 (by omega), tq_k360 (by omega), tq_k359 (by omega), tq_k358 (by omega), tq_k357 (by omega), tq_k356 (by omega), tq_k355 (by omega), tq_k354 (by omega), tq_k353 (by omega), tq_k352 (by omega), tq_k351 (by omega), tq_k350 (by omega), tq_k349 (by omega), tq_k348 (by omega), tq_k347 (by omega), tq_k346 (by omega), tq_k345 (by omega), tq_k344 (by omega), tq_k343 (by omega), tq_k342 (by omega), tq_k341 (by omega), tq_k340 (by omega), tq_k339 (by omega), tq_k338 (by omega), tq_k337 (by omega), tq_k336 (by omega), tq_k335 (by omega), tq_k334 (by omega), tq_k333 (by omega), tq_k332 (by omega), tq_k331 (by omega), tq_k330 (by omega), tq_k329 (by omega), tq_k328 (by omega), tq_k327 (by omega), tq_k326 (by omega), tq_k325 (by omega), tq_k324 (by omega), tq_k323 (by omega), tq_k322 (by omega), tq_k321 (by omega), tq_k320 (by omega), tq_k319 (by omega), tq_k318 (by omega), tq_k317 (by omega), tq_k316 (by omega), tq_k315 (by omega), tq_k314 (by omega), tq_k313 (by omega), tq_k312 (by omega), tq_k311 (by omega), tq_k310 (by omega), tq_k309 (by omega), tq_k308 (by omega), tq_k307 (by omega), tq_k306 (by omega), tq_k305 (by omega), tq_k304 (by omega), tq_k303 (by omega), tq_k302 (by omega), tq_k301 (by omega), tq_k300 (by omega), tq_k299 (by omega), tq_k298 (by omega), tq_k297 (by omega), tq_k296 (by omega), tq_k295 (by omega), tq_k294 (by omega), tq_k293 (by omega), tq_k292 (by omega), tq_k291 (by omega), tq_k290 (by omega), tq_k289 (by omega), tq_k288 (by omega), tq_k287 (by omega), tq_k286 (by omega), tq_k285 (by omega), tq_k284 (by omega), tq_k283 (by omega), tq_k282 (by omega), tq_k281 (by omega), tq_k280 (by omega), tq_k279 (by omega), tq_k278 (by omega), tq_k277 (by omega), tq_k276 (by omega), tq_k275 (by omega), tq_k274 (by omega), tq_k273 (by omega), tq_k272 (by omega), tq_k271 (by omega), tq_k270 (by omega), tq_k269 (by omega), tq_k268 (by omega), tq_k267 (by omega), tq_k266 (by omega), tq_k265 (by omega), tq_k264 (by omega), tq_k263 (by omega), tq_k262 (by omega), tq_k261 (by omega), tq_k260 (by omega), tq_k259 (by omega), tq_k258 (by omega), tq_k257 (by omega)]
    exact tq_extM_in (by omega)
  · unfold tq_inv
    rw [if_neg (by omega), if_neg (by omega), if_neg (by omega), if_pos (by omega)]
    unfold tq_in2
    rw [if_neg (by omega), if_pos (by omega)]
    rw [Nat.add_sub_cancel_left]
theorem tq_loc_120 {D : va_G} {z : Nat} {H0 H : Heap} {cy : Nat → ClassId} {g : Nat → Nat → Nat} (hR : tq_rw D z 1660 H0 (tqE380 z cy (tq_adF z g)) H) {i : Nat} {e : va_E} (hi : i < 150) (h : tq_mk cy (tq_adF z g) tq_N0 120 i (tq_mix tq_S0 tq_M0 120 i) = some e) : va_at D vwCl (tq_adF z g 120 i, e) H ∧ ∃ p : Nat, tq_adF z g 120 i = z + p ∧ tq_inv p = (120, i) := by
  rw [tq_mk_120 hi] at h
  cases h
  refine ⟨hR.at (j := 734 + i) (by omega) ?_, 734 + i, rfl, ?_⟩
  · rw [tq_k380 (by omega), tq_k379 (by omega), tq_k378 (by omega), tq_k377 (by omega), tq_k376 (by omega), tq_k375 (by omega), tq_k374 (by omega), tq_k373 (by omega), tq_k372 (by omega), tq_k371 (by omega), tq_k370 (by omega), tq_k369 (by omega), tq_k368 (by omega), tq_k367 (by omega), tq_k366 (by omega), tq_k365 (by omega), tq_k364 (by omega), tq_k363 (by omega), tq_k362 (by omega), tq_k361 (by omega), tq_k360 (by omega), tq_k359 (by omega), tq_k358 (by omega), tq_k357 (by omega), tq_k356 (by omega), tq_k355 (by omega), tq_k354 (by omega), tq_k353 (by omega), tq_k352 (by omega), tq_k351 (by omega), tq_k350 (by omega), tq_k349 (by omega), tq_k348 (by omega), tq_k347 (by omega), tq_k346 (by omega), tq_k345 (by omega), tq_k344 (by omega), tq_k343 (by omega), tq_k342 (by omega), tq_k341 (by omega), tq_k340 (by omega), tq_k339 (by omega), tq_k338 (by omega), tq_k337 (by omega), tq_k336 (by omega), tq_k335 (by omega), tq_k334 (by omega), tq_k333 (by omega), tq_k332 (by omega), tq_k331 (by omega), tq_k330 (by omega), tq_k329 (by omega), tq_k328 (by omega), tq_k327 (by omega), tq_k326 (by omega), tq_k325 (by omega), tq_k324 (by omega), tq_k323 (by omega), tq_k322 (by omega), tq_k321 (by omega), tq_k320 (by omega), tq_k319 (by omega), tq_k318 (by omega), tq_k317 (by omega), tq_k316 (by omega), tq_k315 (by omega), tq_k314 (by omega), tq_k313 (by omega), tq_k312 (by omega), tq_k311 (by omega), tq_k310 (by omega), tq_k309 (by omega), tq_k308 (by omega), tq_k307 (by omega), tq_k306 (by omega), tq_k305 (by omega), tq_k304 (by omega), tq_k303 (by omega), tq_k302 (by omega), tq_k301 (by omega), tq_k300 (by omega), tq_k299 (by omega), tq_k298 (by omega), tq_k297 (by omega), tq_k296 (by omega), tq_k295 (by omega), tq_k294 (by omega), tq_k293 (by omega), tq_k292 (by omega), tq_k291 (by omega), tq_k290 (by omega), tq_k289 (by omega), tq_k288 (by omega), tq_k287 (by omega), tq_k286 (by omega), tq_k285 (by omega), tq_k284 (by omega), tq_k283 (by omega), tq_k282 (by omega), tq_k281 (by omega), tq_k280 (by omega), tq_k279 (by omega), tq_k278 (by omega), tq_k277 (by omega), tq_k276 (by omega), tq_k275 (by omega), tq_k274 (by omega), tq_k273 (by omega), tq_k272 (by omega), tq_k271 (by omega), tq_k270 (by omega), tq_k269 (by omega), tq_k268 (by omega), tq_k267 (by omega), tq_k266 (by omega), tq_k265 (by omega), tq_k264 (by omega), tq_k263 (by omega), tq_k262 (by omega), tq_k261 (by omega), tq_k260 (by omega), tq_k259 (by omega)]
    exact tq_extM_in (by omega)
  · unfold tq_inv
    rw [if_neg (by omega), if_neg (by omega), if_neg (by omega), if_pos (by omega)]
    unfold tq_in2
    rw [if_neg (by omega), if_neg (by omega), if_neg (by omega), if_pos (by omega)]
    rw [Nat.add_sub_cancel_left]
theorem tq_loc_122 {D : va_G} {z : Nat} {H0 H : Heap} {cy : Nat → ClassId} {g : Nat → Nat → Nat} (hR : tq_rw D z 1660 H0 (tqE380 z cy (tq_adF z g)) H) {i : Nat} {e : va_E} (hi : i < 1) (h : tq_mk cy (tq_adF z g) tq_N0 122 i (tq_mix tq_S0 tq_M0 122 i) = some e) : va_at D vwCl (tq_adF z g 122 i, e) H ∧ ∃ p : Nat, tq_adF z g 122 i = z + p ∧ tq_inv p = (122, i) := by
  rw [tq_mk_122 hi] at h
  cases h
  obtain rfl : i = 0 := by omega
  exact ⟨hR.at (j := 884) (by decide) rfl, 884, rfl, rfl⟩
theorem tq_loc_123 {D : va_G} {z : Nat} {H0 H : Heap} {cy : Nat → ClassId} {g : Nat → Nat → Nat} (hR : tq_rw D z 1660 H0 (tqE380 z cy (tq_adF z g)) H) {i : Nat} {e : va_E} (hi : i < 1) (h : tq_mk cy (tq_adF z g) tq_N0 123 i (tq_mix tq_S0 tq_M0 123 i) = some e) : va_at D vwCl (tq_adF z g 123 i, e) H ∧ ∃ p : Nat, tq_adF z g 123 i = z + p ∧ tq_inv p = (123, i) := by
  rw [tq_mk_123 hi] at h
  cases h
  obtain rfl : i = 0 := by omega
  exact ⟨hR.at (j := 885) (by decide) rfl, 885, rfl, rfl⟩
theorem tq_loc_124 {D : va_G} {z : Nat} {H0 H : Heap} {cy : Nat → ClassId} {g : Nat → Nat → Nat} (hR : tq_rw D z 1660 H0 (tqE380 z cy (tq_adF z g)) H) {i : Nat} {e : va_E} (hi : i < 1) (h : tq_mk cy (tq_adF z g) tq_N0 124 i (tq_mix tq_S0 tq_M0 124 i) = some e) : va_at D vwCl (tq_adF z g 124 i, e) H ∧ ∃ p : Nat, tq_adF z g 124 i = z + p ∧ tq_inv p = (124, i) := by
  rw [tq_mk_124 hi] at h
  cases h
  obtain rfl : i = 0 := by omega
  exact ⟨hR.at (j := 886) (by decide) rfl, 886, rfl, rfl⟩
theorem tq_loc_125 {D : va_G} {z : Nat} {H0 H : Heap} {cy : Nat → ClassId} {g : Nat → Nat → Nat} (hR : tq_rw D z 1660 H0 (tqE380 z cy (tq_adF z g)) H) {i : Nat} {e : va_E} (hi : i < 1) (h : tq_mk cy (tq_adF z g) tq_N0 125 i (tq_mix tq_S0 tq_M0 125 i) = some e) : va_at D vwCl (tq_adF z g 125 i, e) H ∧ ∃ p : Nat, tq_adF z g 125 i = z + p ∧ tq_inv p = (125, i) := by
  rw [tq_mk_125 hi] at h
  cases h
  obtain rfl : i = 0 := by omega
  exact ⟨hR.at (j := 887) (by decide) rfl, 887, rfl, rfl⟩
theorem tq_loc_126 {D : va_G} {z : Nat} {H0 H : Heap} {cy : Nat → ClassId} {g : Nat → Nat → Nat} (hR : tq_rw D z 1660 H0 (tqE380 z cy (tq_adF z g)) H) {i : Nat} {e : va_E} (hi : i < 1) (h : tq_mk cy (tq_adF z g) tq_N0 126 i (tq_mix tq_S0 tq_M0 126 i) = some e) : va_at D vwCl (tq_adF z g 126 i, e) H ∧ ∃ p : Nat, tq_adF z g 126 i = z + p ∧ tq_inv p = (126, i) := by
  rw [tq_mk_126 hi] at h
  cases h
  obtain rfl : i = 0 := by omega
  exact ⟨hR.at (j := 888) (by decide) rfl, 888, rfl, rfl⟩
theorem tq_loc_127 {D : va_G} {z : Nat} {H0 H : Heap} {cy : Nat → ClassId} {g : Nat → Nat → Nat} (hR : tq_rw D z 1660 H0 (tqE380 z cy (tq_adF z g)) H) {i : Nat} {e : va_E} (hi : i < 8) (h : tq_mk cy (tq_adF z g) tq_N0 127 i (tq_mix tq_S0 tq_M0 127 i) = some e) : va_at D vwCl (tq_adF z g 127 i, e) H ∧ ∃ p : Nat, tq_adF z g 127 i = z + p ∧ tq_inv p = (127, i) := by
  rw [tq_mk_127 hi] at h
  cases h
  refine ⟨hR.at (j := 890 + i) (by omega) ?_, 890 + i, rfl, ?_⟩
  · rw [tq_k380 (by omega), tq_k379 (by omega), tq_k378 (by omega), tq_k377 (by omega), tq_k376 (by omega), tq_k375 (by omega), tq_k374 (by omega), tq_k373 (by omega), tq_k372 (by omega), tq_k371 (by omega), tq_k370 (by omega), tq_k369 (by omega), tq_k368 (by omega), tq_k367 (by omega), tq_k366 (by omega), tq_k365 (by omega), tq_k364 (by omega), tq_k363 (by omega), tq_k362 (by omega), tq_k361 (by omega), tq_k360 (by omega), tq_k359 (by omega), tq_k358 (by omega), tq_k357 (by omega), tq_k356 (by omega), tq_k355 (by omega), tq_k354 (by omega), tq_k353 (by omega), tq_k352 (by omega), tq_k351 (by omega), tq_k350 (by omega), tq_k349 (by omega), tq_k348 (by omega), tq_k347 (by omega), tq_k346 (by omega), tq_k345 (by omega), tq_k344 (by omega), tq_k343 (by omega), tq_k342 (by omega), tq_k341 (by omega), tq_k340 (by omega), tq_k339 (by omega), tq_k338 (by omega), tq_k337 (by omega), tq_k336 (by omega), tq_k335 (by omega), tq_k334 (by omega), tq_k333 (by omega), tq_k332 (by omega), tq_k331 (by omega), tq_k330 (by omega), tq_k329 (by omega), tq_k328 (by omega), tq_k327 (by omega), tq_k326 (by omega), tq_k325 (by omega), tq_k324 (by omega), tq_k323 (by omega), tq_k322 (by omega), tq_k321 (by omega), tq_k320 (by omega), tq_k319 (by omega), tq_k318 (by omega), tq_k317 (by omega), tq_k316 (by omega), tq_k315 (by omega), tq_k314 (by omega), tq_k313 (by omega), tq_k312 (by omega), tq_k311 (by omega), tq_k310 (by omega), tq_k309 (by omega), tq_k308 (by omega), tq_k307 (by omega), tq_k306 (by omega), tq_k305 (by omega), tq_k304 (by omega), tq_k303 (by omega), tq_k302 (by omega), tq_k301 (by omega), tq_k300 (by omega), tq_k299 (by omega), tq_k298 (by omega), tq_k297 (by omega), tq_k296 (by omega), tq_k295 (by omega), tq_k294 (by omega), tq_k293 (by omega), tq_k292 (by omega), tq_k291 (by omega), tq_k290 (by omega), tq_k289 (by omega), tq_k288 (by omega), tq_k287 (by omega), tq_k286 (by omega), tq_k285 (by omega), tq_k284 (by omega), tq_k283 (by omega), tq_k282 (by omega), tq_k281 (by omega), tq_k280 (by omega), tq_k279 (by omega), tq_k278 (by omega), tq_k277 (by omega), tq_k276 (by omega), tq_k275 (by omega), tq_k274 (by omega), tq_k273 (by omega), tq_k272 (by omega), tq_k271 (by omega)]
    exact tq_extM_in (by omega)
  · unfold tq_inv
    rw [if_neg (by omega), if_neg (by omega), if_neg (by omega), if_pos (by omega)]
    unfold tq_in2
    rw [if_neg (by omega), if_neg (by omega), if_neg (by omega), if_neg (by omega), if_neg (by omega), if_neg (by omega), if_neg (by omega), if_neg (by omega), if_neg (by omega), if_neg (by omega), if_pos (by omega)]
    rw [Nat.add_sub_cancel_left]
theorem tq_loc_128 {D : va_G} {z : Nat} {H0 H : Heap} {cy : Nat → ClassId} {g : Nat → Nat → Nat} (hR : tq_rw D z 1660 H0 (tqE380 z cy (tq_adF z g)) H) {i : Nat} {e : va_E} (hi : i < 1) (h : tq_mk cy (tq_adF z g) tq_N0 128 i (tq_mix tq_S0 tq_M0 128 i) = some e) : va_at D vwCl (tq_adF z g 128 i, e) H ∧ ∃ p : Nat, tq_adF z g 128 i = z + p ∧ tq_inv p = (128, i) := by
  rw [tq_mk_128 hi] at h
  cases h
  obtain rfl : i = 0 := by omega
  exact ⟨hR.at (j := 898) (by decide) rfl, 898, rfl, rfl⟩
theorem tq_loc_129 {D : va_G} {z : Nat} {H0 H : Heap} {cy : Nat → ClassId} {g : Nat → Nat → Nat} (hR : tq_rw D z 1660 H0 (tqE380 z cy (tq_adF z g)) H) {i : Nat} {e : va_E} (hi : i < 8) (h : tq_mk cy (tq_adF z g) tq_N0 129 i (tq_mix tq_S0 tq_M0 129 i) = some e) : va_at D vwCl (tq_adF z g 129 i, e) H ∧ ∃ p : Nat, tq_adF z g 129 i = z + p ∧ tq_inv p = (129, i) := by
  rw [tq_mk_129 hi] at h
  cases h
  refine ⟨hR.at (j := 900 + i) (by omega) ?_, 900 + i, rfl, ?_⟩
  · rw [tq_k380 (by omega), tq_k379 (by omega), tq_k378 (by omega), tq_k377 (by omega), tq_k376 (by omega), tq_k375 (by omega), tq_k374 (by omega), tq_k373 (by omega), tq_k372 (by omega), tq_k371 (by omega), tq_k370 (by omega), tq_k369 (by omega), tq_k368 (by omega), tq_k367 (by omega), tq_k366 (by omega), tq_k365 (by omega), tq_k364 (by omega), tq_k363 (by omega), tq_k362 (by omega), tq_k361 (by omega), tq_k360 (by omega), tq_k359 (by omega), tq_k358 (by omega), tq_k357 (by omega), tq_k356 (by omega), tq_k355 (by omega), tq_k354 (by omega), tq_k353 (by omega), tq_k352 (by omega), tq_k351 (by omega), tq_k350 (by omega), tq_k349 (by omega), tq_k348 (by omega), tq_k347 (by omega), tq_k346 (by omega), tq_k345 (by omega), tq_k344 (by omega), tq_k343 (by omega), tq_k342 (by omega), tq_k341 (by omega), tq_k340 (by omega), tq_k339 (by omega), tq_k338 (by omega), tq_k337 (by omega), tq_k336 (by omega), tq_k335 (by omega), tq_k334 (by omega), tq_k333 (by omega), tq_k332 (by omega), tq_k331 (by omega), tq_k330 (by omega), tq_k329 (by omega), tq_k328 (by omega), tq_k327 (by omega), tq_k326 (by omega), tq_k325 (by omega), tq_k324 (by omega), tq_k323 (by omega), tq_k322 (by omega), tq_k321 (by omega), tq_k320 (by omega), tq_k319 (by omega), tq_k318 (by omega), tq_k317 (by omega), tq_k316 (by omega), tq_k315 (by omega), tq_k314 (by omega), tq_k313 (by omega), tq_k312 (by omega), tq_k311 (by omega), tq_k310 (by omega), tq_k309 (by omega), tq_k308 (by omega), tq_k307 (by omega), tq_k306 (by omega), tq_k305 (by omega), tq_k304 (by omega), tq_k303 (by omega), tq_k302 (by omega), tq_k301 (by omega), tq_k300 (by omega), tq_k299 (by omega), tq_k298 (by omega), tq_k297 (by omega), tq_k296 (by omega), tq_k295 (by omega), tq_k294 (by omega), tq_k293 (by omega), tq_k292 (by omega), tq_k291 (by omega), tq_k290 (by omega), tq_k289 (by omega), tq_k288 (by omega), tq_k287 (by omega), tq_k286 (by omega), tq_k285 (by omega), tq_k284 (by omega), tq_k283 (by omega), tq_k282 (by omega), tq_k281 (by omega), tq_k280 (by omega), tq_k279 (by omega), tq_k278 (by omega), tq_k277 (by omega), tq_k276 (by omega), tq_k275 (by omega)]
    exact tq_extM_in (by omega)
  · unfold tq_inv
    rw [if_neg (by omega), if_neg (by omega), if_neg (by omega), if_neg (by omega), if_pos (by omega)]
    unfold tq_in3
    rw [if_neg (by omega), if_pos (by omega)]
    rw [Nat.add_sub_cancel_left]
theorem tq_loc_130 {D : va_G} {z : Nat} {H0 H : Heap} {cy : Nat → ClassId} {g : Nat → Nat → Nat} (hR : tq_rw D z 1660 H0 (tqE380 z cy (tq_adF z g)) H) {i : Nat} {e : va_E} (hi : i < 1) (h : tq_mk cy (tq_adF z g) tq_N0 130 i (tq_mix tq_S0 tq_M0 130 i) = some e) : va_at D vwCl (tq_adF z g 130 i, e) H ∧ ∃ p : Nat, tq_adF z g 130 i = z + p ∧ tq_inv p = (130, i) := by
  rw [tq_mk_130 hi] at h
  cases h
  obtain rfl : i = 0 := by omega
  exact ⟨hR.at (j := 908) (by decide) rfl, 908, rfl, rfl⟩
theorem tq_loc_132 {D : va_G} {z : Nat} {H0 H : Heap} {cy : Nat → ClassId} {g : Nat → Nat → Nat} (hR : tq_rw D z 1660 H0 (tqE380 z cy (tq_adF z g)) H) {i : Nat} {e : va_E} (hi : i < 1) (h : tq_mk cy (tq_adF z g) tq_N0 132 i (tq_mix tq_S0 tq_M0 132 i) = some e) : va_at D vwCl (tq_adF z g 132 i, e) H ∧ ∃ p : Nat, tq_adF z g 132 i = z + p ∧ tq_inv p = (132, i) := by
  rw [tq_mk_132 hi] at h
  cases h
  obtain rfl : i = 0 := by omega
  exact ⟨hR.at (j := 909) (by decide) rfl, 909, rfl, rfl⟩
theorem tq_loc_133 {D : va_G} {z : Nat} {H0 H : Heap} {cy : Nat → ClassId} {g : Nat → Nat → Nat} (hR : tq_rw D z 1660 H0 (tqE380 z cy (tq_adF z g)) H) {i : Nat} {e : va_E} (hi : i < 1) (h : tq_mk cy (tq_adF z g) tq_N0 133 i (tq_mix tq_S0 tq_M0 133 i) = some e) : va_at D vwCl (tq_adF z g 133 i, e) H ∧ ∃ p : Nat, tq_adF z g 133 i = z + p ∧ tq_inv p = (133, i) := by
  rw [tq_mk_133 hi] at h
  cases h
  obtain rfl : i = 0 := by omega
  exact ⟨hR.at (j := 910) (by decide) rfl, 910, rfl, rfl⟩
theorem tq_loc_134 {D : va_G} {z : Nat} {H0 H : Heap} {cy : Nat → ClassId} {g : Nat → Nat → Nat} (hR : tq_rw D z 1660 H0 (tqE380 z cy (tq_adF z g)) H) {i : Nat} {e : va_E} (hi : i < 1) (h : tq_mk cy (tq_adF z g) tq_N0 134 i (tq_mix tq_S0 tq_M0 134 i) = some e) : va_at D vwCl (tq_adF z g 134 i, e) H ∧ ∃ p : Nat, tq_adF z g 134 i = z + p ∧ tq_inv p = (134, i) := by
  rw [tq_mk_134 hi] at h
  cases h
  obtain rfl : i = 0 := by omega
  exact ⟨hR.at (j := 911) (by decide) rfl, 911, rfl, rfl⟩
theorem tq_loc_135 {D : va_G} {z : Nat} {H0 H : Heap} {cy : Nat → ClassId} {g : Nat → Nat → Nat} (hR : tq_rw D z 1660 H0 (tqE380 z cy (tq_adF z g)) H) {i : Nat} {e : va_E} (hi : i < 1) (h : tq_mk cy (tq_adF z g) tq_N0 135 i (tq_mix tq_S0 tq_M0 135 i) = some e) : va_at D vwCl (tq_adF z g 135 i, e) H ∧ ∃ p : Nat, tq_adF z g 135 i = z + p ∧ tq_inv p = (135, i) := by
  rw [tq_mk_135 hi] at h
  cases h
  obtain rfl : i = 0 := by omega
  exact ⟨hR.at (j := 912) (by decide) rfl, 912, rfl, rfl⟩
theorem tq_loc_136 {D : va_G} {z : Nat} {H0 H : Heap} {cy : Nat → ClassId} {g : Nat → Nat → Nat} (hR : tq_rw D z 1660 H0 (tqE380 z cy (tq_adF z g)) H) {i : Nat} {e : va_E} (hi : i < 1) (h : tq_mk cy (tq_adF z g) tq_N0 136 i (tq_mix tq_S0 tq_M0 136 i) = some e) : va_at D vwCl (tq_adF z g 136 i, e) H ∧ ∃ p : Nat, tq_adF z g 136 i = z + p ∧ tq_inv p = (136, i) := by
  rw [tq_mk_136 hi] at h
  cases h
  obtain rfl : i = 0 := by omega
  exact ⟨hR.at (j := 913) (by decide) rfl, 913, rfl, rfl⟩
theorem tq_loc_137 {D : va_G} {z : Nat} {H0 H : Heap} {cy : Nat → ClassId} {g : Nat → Nat → Nat} (hR : tq_rw D z 1660 H0 (tqE380 z cy (tq_adF z g)) H) {i : Nat} {e : va_E} (hi : i < 1) (h : tq_mk cy (tq_adF z g) tq_N0 137 i (tq_mix tq_S0 tq_M0 137 i) = some e) : va_at D vwCl (tq_adF z g 137 i, e) H ∧ ∃ p : Nat, tq_adF z g 137 i = z + p ∧ tq_inv p = (137, i) := by
  rw [tq_mk_137 hi] at h
  cases h
  obtain rfl : i = 0 := by omega
  exact ⟨hR.at (j := 914) (by decide) rfl, 914, rfl, rfl⟩
theorem tq_loc_138 {D : va_G} {z : Nat} {H0 H : Heap} {cy : Nat → ClassId} {g : Nat → Nat → Nat} (hR : tq_rw D z 1660 H0 (tqE380 z cy (tq_adF z g)) H) {i : Nat} {e : va_E} (hi : i < 1) (h : tq_mk cy (tq_adF z g) tq_N0 138 i (tq_mix tq_S0 tq_M0 138 i) = some e) : va_at D vwCl (tq_adF z g 138 i, e) H ∧ ∃ p : Nat, tq_adF z g 138 i = z + p ∧ tq_inv p = (138, i) := by
  rw [tq_mk_138 hi] at h
  cases h
  obtain rfl : i = 0 := by omega
  exact ⟨hR.at (j := 915) (by decide) rfl, 915, rfl, rfl⟩
theorem tq_loc_139 {D : va_G} {z : Nat} {H0 H : Heap} {cy : Nat → ClassId} {g : Nat → Nat → Nat} (hR : tq_rw D z 1660 H0 (tqE380 z cy (tq_adF z g)) H) {i : Nat} {e : va_E} (hi : i < 99) (h : tq_mk cy (tq_adF z g) tq_N0 139 i (tq_mix tq_S0 tq_M0 139 i) = some e) : va_at D vwCl (tq_adF z g 139 i, e) H ∧ ∃ p : Nat, tq_adF z g 139 i = z + p ∧ tq_inv p = (139, i) := by
  rw [tq_mk_139 hi] at h
  cases h
  refine ⟨hR.at (j := 917 + i) (by omega) ?_, 917 + i, rfl, ?_⟩
  · rw [tq_k380 (by omega), tq_k379 (by omega), tq_k378 (by omega), tq_k377 (by omega), tq_k376 (by omega), tq_k375 (by omega), tq_k374 (by omega), tq_k373 (by omega), tq_k372 (by omega), tq_k371 (by omega), tq_k370 (by omega), tq_k369 (by omega), tq_k368 (by omega), tq_k367 (by omega), tq_k366 (by omega), tq_k365 (by omega), tq_k364 (by omega), tq_k363 (by omega), tq_k362 (by omega), tq_k361 (by omega), tq_k360 (by omega), tq_k359 (by omega), tq_k358 (by omega), tq_k357 (by omega), tq_k356 (by omega), tq_k355 (by omega), tq_k354 (by omega), tq_k353 (by omega), tq_k352 (by omega), tq_k351 (by omega), tq_k350 (by omega), tq_k349 (by omega), tq_k348 (by omega), tq_k347 (by omega), tq_k346 (by omega), tq_k345 (by omega), tq_k344 (by omega), tq_k343 (by omega), tq_k342 (by omega), tq_k341 (by omega), tq_k340 (by omega), tq_k339 (by omega), tq_k338 (by omega), tq_k337 (by omega), tq_k336 (by omega), tq_k335 (by omega), tq_k334 (by omega), tq_k333 (by omega), tq_k332 (by omega), tq_k331 (by omega), tq_k330 (by omega), tq_k329 (by omega), tq_k328 (by omega), tq_k327 (by omega), tq_k326 (by omega), tq_k325 (by omega), tq_k324 (by omega), tq_k323 (by omega), tq_k322 (by omega), tq_k321 (by omega), tq_k320 (by omega), tq_k319 (by omega), tq_k318 (by omega), tq_k317 (by omega), tq_k316 (by omega), tq_k315 (by omega), tq_k314 (by omega), tq_k313 (by omega), tq_k312 (by omega), tq_k311 (by omega), tq_k310 (by omega), tq_k309 (by omega), tq_k308 (by omega), tq_k307 (by omega), tq_k306 (by omega), tq_k305 (by omega), tq_k304 (by omega), tq_k303 (by omega), tq_k302 (by omega), tq_k301 (by omega), tq_k300 (by omega), tq_k299 (by omega), tq_k298 (by omega), tq_k297 (by omega), tq_k296 (by omega), tq_k295 (by omega), tq_k294 (by omega), tq_k293 (by omega)]
    exact tq_extM_in (by omega)
  · unfold tq_inv
    rw [if_neg (by omega), if_neg (by omega), if_neg (by omega), if_neg (by omega), if_pos (by omega)]
    unfold tq_in3
    rw [if_neg (by omega), if_neg (by omega), if_neg (by omega), if_neg (by omega), if_neg (by omega), if_neg (by omega), if_neg (by omega), if_neg (by omega), if_neg (by omega), if_neg (by omega), if_neg (by omega)]
    rw [Nat.add_sub_cancel_left]
theorem tq_loc_140 {D : va_G} {z : Nat} {H0 H : Heap} {cy : Nat → ClassId} {g : Nat → Nat → Nat} (hR : tq_rw D z 1660 H0 (tqE380 z cy (tq_adF z g)) H) {i : Nat} {e : va_E} (hi : i < 99) (h : tq_mk cy (tq_adF z g) tq_N0 140 i (tq_mix tq_S0 tq_M0 140 i) = some e) : va_at D vwCl (tq_adF z g 140 i, e) H ∧ ∃ p : Nat, tq_adF z g 140 i = z + p ∧ tq_inv p = (140, i) := by
  rw [tq_mk_140 hi] at h
  cases h
  refine ⟨hR.at (j := 1017 + i) (by omega) ?_, 1017 + i, rfl, ?_⟩
  · rw [tq_k380 (by omega), tq_k379 (by omega), tq_k378 (by omega), tq_k377 (by omega), tq_k376 (by omega), tq_k375 (by omega), tq_k374 (by omega), tq_k373 (by omega), tq_k372 (by omega), tq_k371 (by omega), tq_k370 (by omega), tq_k369 (by omega), tq_k368 (by omega), tq_k367 (by omega), tq_k366 (by omega), tq_k365 (by omega), tq_k364 (by omega), tq_k363 (by omega), tq_k362 (by omega), tq_k361 (by omega), tq_k360 (by omega), tq_k359 (by omega), tq_k358 (by omega), tq_k357 (by omega), tq_k356 (by omega), tq_k355 (by omega), tq_k354 (by omega), tq_k353 (by omega), tq_k352 (by omega), tq_k351 (by omega), tq_k350 (by omega), tq_k349 (by omega), tq_k348 (by omega), tq_k347 (by omega), tq_k346 (by omega), tq_k345 (by omega), tq_k344 (by omega), tq_k343 (by omega), tq_k342 (by omega), tq_k341 (by omega), tq_k340 (by omega), tq_k339 (by omega), tq_k338 (by omega), tq_k337 (by omega), tq_k336 (by omega), tq_k335 (by omega), tq_k334 (by omega), tq_k333 (by omega), tq_k332 (by omega), tq_k331 (by omega), tq_k330 (by omega), tq_k329 (by omega), tq_k328 (by omega), tq_k327 (by omega), tq_k326 (by omega), tq_k325 (by omega), tq_k324 (by omega), tq_k323 (by omega), tq_k322 (by omega), tq_k321 (by omega), tq_k320 (by omega), tq_k319 (by omega), tq_k318 (by omega), tq_k317 (by omega), tq_k316 (by omega), tq_k315 (by omega), tq_k314 (by omega), tq_k313 (by omega), tq_k312 (by omega), tq_k311 (by omega), tq_k310 (by omega), tq_k309 (by omega), tq_k308 (by omega), tq_k307 (by omega), tq_k306 (by omega), tq_k305 (by omega), tq_k304 (by omega), tq_k303 (by omega), tq_k302 (by omega), tq_k301 (by omega), tq_k300 (by omega), tq_k299 (by omega), tq_k298 (by omega), tq_k297 (by omega), tq_k296 (by omega), tq_k295 (by omega)]
    exact tq_extM_in (by omega)
  · unfold tq_inv
    rw [if_neg (by omega), if_neg (by omega), if_neg (by omega), if_neg (by omega), if_neg (by omega), if_pos (by omega)]
    unfold tq_in4
    rw [if_neg (by omega), if_pos (by omega)]
    rw [Nat.add_sub_cancel_left]
theorem tq_loc_141 {D : va_G} {z : Nat} {H0 H : Heap} {cy : Nat → ClassId} {g : Nat → Nat → Nat} (hR : tq_rw D z 1660 H0 (tqE380 z cy (tq_adF z g)) H) {i : Nat} {e : va_E} (hi : i < 1) (h : tq_mk cy (tq_adF z g) tq_N0 141 i (tq_mix tq_S0 tq_M0 141 i) = some e) : va_at D vwCl (tq_adF z g 141 i, e) H ∧ ∃ p : Nat, tq_adF z g 141 i = z + p ∧ tq_inv p = (141, i) := by
  rw [tq_mk_141 hi] at h
  cases h
  obtain rfl : i = 0 := by omega
  exact ⟨hR.at (j := 1116) (by decide) rfl, 1116, rfl, rfl⟩
theorem tq_loc_142 {D : va_G} {z : Nat} {H0 H : Heap} {cy : Nat → ClassId} {g : Nat → Nat → Nat} (hR : tq_rw D z 1660 H0 (tqE380 z cy (tq_adF z g)) H) {i : Nat} {e : va_E} (hi : i < 1) (h : tq_mk cy (tq_adF z g) tq_N0 142 i (tq_mix tq_S0 tq_M0 142 i) = some e) : va_at D vwCl (tq_adF z g 142 i, e) H ∧ ∃ p : Nat, tq_adF z g 142 i = z + p ∧ tq_inv p = (142, i) := by
  rw [tq_mk_142 hi] at h
  cases h
  obtain rfl : i = 0 := by omega
  exact ⟨hR.at (j := 1117) (by decide) rfl, 1117, rfl, rfl⟩
theorem tq_loc_144 {D : va_G} {z : Nat} {H0 H : Heap} {cy : Nat → ClassId} {g : Nat → Nat → Nat} (hR : tq_rw D z 1660 H0 (tqE380 z cy (tq_adF z g)) H) {i : Nat} {e : va_E} (hi : i < 500) (h : tq_mk cy (tq_adF z g) tq_N0 144 i (tq_mix tq_S0 tq_M0 144 i) = some e) : va_at D vwCl (tq_adF z g 144 i, e) H ∧ ∃ p : Nat, tq_adF z g 144 i = z + p ∧ tq_inv p = (144, i) := by
  rw [tq_mk_144 hi] at h
  cases h
  refine ⟨hR.at (j := 1119 + i) (by omega) ?_, 1119 + i, rfl, ?_⟩
  · rw [tq_k380 (by omega), tq_k379 (by omega), tq_k378 (by omega), tq_k377 (by omega), tq_k376 (by omega), tq_k375 (by omega), tq_k374 (by omega), tq_k373 (by omega), tq_k372 (by omega), tq_k371 (by omega), tq_k370 (by omega), tq_k369 (by omega), tq_k368 (by omega), tq_k367 (by omega), tq_k366 (by omega), tq_k365 (by omega), tq_k364 (by omega), tq_k363 (by omega), tq_k362 (by omega), tq_k361 (by omega), tq_k360 (by omega), tq_k359 (by omega), tq_k358 (by omega), tq_k357 (by omega), tq_k356 (by omega), tq_k355 (by omega), tq_k354 (by omega), tq_k353 (by omega), tq_k352 (by omega), tq_k351 (by omega), tq_k350 (by omega), tq_k349 (by omega), tq_k348 (by omega), tq_k347 (by omega), tq_k346 (by omega), tq_k345 (by omega), tq_k344 (by omega), tq_k343 (by omega), tq_k342 (by omega), tq_k341 (by omega), tq_k340 (by omega), tq_k339 (by omega), tq_k338 (by omega), tq_k337 (by omega), tq_k336 (by omega), tq_k335 (by omega), tq_k334 (by omega), tq_k333 (by omega), tq_k332 (by omega), tq_k331 (by omega), tq_k330 (by omega), tq_k329 (by omega), tq_k328 (by omega), tq_k327 (by omega), tq_k326 (by omega), tq_k325 (by omega), tq_k324 (by omega), tq_k323 (by omega), tq_k322 (by omega), tq_k321 (by omega), tq_k320 (by omega), tq_k319 (by omega), tq_k318 (by omega), tq_k317 (by omega), tq_k316 (by omega), tq_k315 (by omega), tq_k314 (by omega), tq_k313 (by omega), tq_k312 (by omega), tq_k311 (by omega), tq_k310 (by omega), tq_k309 (by omega), tq_k308 (by omega), tq_k307 (by omega), tq_k306 (by omega), tq_k305 (by omega), tq_k304 (by omega), tq_k303 (by omega), tq_k302 (by omega), tq_k301 (by omega)]
    exact tq_extM_in (by omega)
  · unfold tq_inv
    rw [if_neg (by omega), if_neg (by omega), if_neg (by omega), if_neg (by omega), if_neg (by omega), if_pos (by omega)]
    unfold tq_in4
    rw [if_neg (by omega), if_neg (by omega), if_neg (by omega), if_neg (by omega), if_neg (by omega), if_pos (by omega)]
    rw [Nat.add_sub_cancel_left]
theorem tq_loc_146 {D : va_G} {z : Nat} {H0 H : Heap} {cy : Nat → ClassId} {g : Nat → Nat → Nat} (hR : tq_rw D z 1660 H0 (tqE380 z cy (tq_adF z g)) H) {i : Nat} {e : va_E} (hi : i < 1) (h : tq_mk cy (tq_adF z g) tq_N0 146 i (tq_mix tq_S0 tq_M0 146 i) = some e) : va_at D vwCl (tq_adF z g 146 i, e) H ∧ ∃ p : Nat, tq_adF z g 146 i = z + p ∧ tq_inv p = (146, i) := by
  rw [tq_mk_146 hi] at h
  cases h
  obtain rfl : i = 0 := by omega
  exact ⟨hR.at (j := 1619) (by decide) rfl, 1619, rfl, rfl⟩
theorem tq_loc_147 {D : va_G} {z : Nat} {H0 H : Heap} {cy : Nat → ClassId} {g : Nat → Nat → Nat} (hR : tq_rw D z 1660 H0 (tqE380 z cy (tq_adF z g)) H) {i : Nat} {e : va_E} (hi : i < 1) (h : tq_mk cy (tq_adF z g) tq_N0 147 i (tq_mix tq_S0 tq_M0 147 i) = some e) : va_at D vwCl (tq_adF z g 147 i, e) H ∧ ∃ p : Nat, tq_adF z g 147 i = z + p ∧ tq_inv p = (147, i) := by
  rw [tq_mk_147 hi] at h
  cases h
  obtain rfl : i = 0 := by omega
  exact ⟨hR.at (j := 1620) (by decide) rfl, 1620, rfl, rfl⟩
theorem tq_loc_148 {D : va_G} {z : Nat} {H0 H : Heap} {cy : Nat → ClassId} {g : Nat → Nat → Nat} (hR : tq_rw D z 1660 H0 (tqE380 z cy (tq_adF z g)) H) {i : Nat} {e : va_E} (hi : i < 1) (h : tq_mk cy (tq_adF z g) tq_N0 148 i (tq_mix tq_S0 tq_M0 148 i) = some e) : va_at D vwCl (tq_adF z g 148 i, e) H ∧ ∃ p : Nat, tq_adF z g 148 i = z + p ∧ tq_inv p = (148, i) := by
  rw [tq_mk_148 hi] at h
  cases h
  obtain rfl : i = 0 := by omega
  exact ⟨hR.at (j := 1621) (by decide) rfl, 1621, rfl, rfl⟩
theorem tq_loc_149 {D : va_G} {z : Nat} {H0 H : Heap} {cy : Nat → ClassId} {g : Nat → Nat → Nat} (hR : tq_rw D z 1660 H0 (tqE380 z cy (tq_adF z g)) H) {i : Nat} {e : va_E} (hi : i < 1) (h : tq_mk cy (tq_adF z g) tq_N0 149 i (tq_mix tq_S0 tq_M0 149 i) = some e) : va_at D vwCl (tq_adF z g 149 i, e) H ∧ ∃ p : Nat, tq_adF z g 149 i = z + p ∧ tq_inv p = (149, i) := by
  rw [tq_mk_149 hi] at h
  cases h
  obtain rfl : i = 0 := by omega
  exact ⟨hR.at (j := 1622) (by decide) rfl, 1622, rfl, rfl⟩
theorem tq_loc_150 {D : va_G} {z : Nat} {H0 H : Heap} {cy : Nat → ClassId} {g : Nat → Nat → Nat} (hR : tq_rw D z 1660 H0 (tqE380 z cy (tq_adF z g)) H) {i : Nat} {e : va_E} (hi : i < 1) (h : tq_mk cy (tq_adF z g) tq_N0 150 i (tq_mix tq_S0 tq_M0 150 i) = some e) : va_at D vwCl (tq_adF z g 150 i, e) H ∧ ∃ p : Nat, tq_adF z g 150 i = z + p ∧ tq_inv p = (150, i) := by
  rw [tq_mk_150 hi] at h
  cases h
  obtain rfl : i = 0 := by omega
  exact ⟨hR.at (j := 1623) (by decide) rfl, 1623, rfl, rfl⟩
theorem tq_loc_151 {D : va_G} {z : Nat} {H0 H : Heap} {cy : Nat → ClassId} {g : Nat → Nat → Nat} (hR : tq_rw D z 1660 H0 (tqE380 z cy (tq_adF z g)) H) {i : Nat} {e : va_E} (hi : i < 6) (h : tq_mk cy (tq_adF z g) tq_N0 151 i (tq_mix tq_S0 tq_M0 151 i) = some e) : va_at D vwCl (tq_adF z g 151 i, e) H ∧ ∃ p : Nat, tq_adF z g 151 i = z + p ∧ tq_inv p = (151, i) := by
  rw [tq_mk_151 hi] at h
  cases h
  refine ⟨hR.at (j := 1625 + i) (by omega) ?_, 1625 + i, rfl, ?_⟩
  · rw [tq_k380 (by omega), tq_k379 (by omega), tq_k378 (by omega), tq_k377 (by omega), tq_k376 (by omega), tq_k375 (by omega), tq_k374 (by omega), tq_k373 (by omega), tq_k372 (by omega), tq_k371 (by omega), tq_k370 (by omega), tq_k369 (by omega), tq_k368 (by omega), tq_k367 (by omega), tq_k366 (by omega), tq_k365 (by omega), tq_k364 (by omega), tq_k363 (by omega), tq_k362 (by omega), tq_k361 (by omega), tq_k360 (by omega), tq_k359 (by omega), tq_k358 (by omega), tq_k357 (by omega), tq_k356 (by omega), tq_k355 (by omega), tq_k354 (by omega), tq_k353 (by omega), tq_k352 (by omega), tq_k351 (by omega), tq_k350 (by omega), tq_k349 (by omega), tq_k348 (by omega), tq_k347 (by omega), tq_k346 (by omega), tq_k345 (by omega), tq_k344 (by omega), tq_k343 (by omega), tq_k342 (by omega), tq_k341 (by omega), tq_k340 (by omega), tq_k339 (by omega), tq_k338 (by omega), tq_k337 (by omega), tq_k336 (by omega), tq_k335 (by omega), tq_k334 (by omega), tq_k333 (by omega), tq_k332 (by omega), tq_k331 (by omega), tq_k330 (by omega), tq_k329 (by omega), tq_k328 (by omega), tq_k327 (by omega), tq_k326 (by omega), tq_k325 (by omega), tq_k324 (by omega), tq_k323 (by omega), tq_k322 (by omega), tq_k321 (by omega), tq_k320 (by omega), tq_k319 (by omega), tq_k318 (by omega), tq_k317 (by omega), tq_k316 (by omega), tq_k315 (by omega), tq_k314 (by omega), tq_k313 (by omega)]
    exact tq_extM_in (by omega)
  · unfold tq_inv
    rw [if_neg (by omega), if_neg (by omega), if_neg (by omega), if_neg (by omega), if_neg (by omega), if_neg (by omega), if_pos (by omega)]
    unfold tq_in5
    rw [if_pos (by omega)]
    rw [Nat.add_sub_cancel_left]
theorem tq_loc_152 {D : va_G} {z : Nat} {H0 H : Heap} {cy : Nat → ClassId} {g : Nat → Nat → Nat} (hR : tq_rw D z 1660 H0 (tqE380 z cy (tq_adF z g)) H) {i : Nat} {e : va_E} (hi : i < 6) (h : tq_mk cy (tq_adF z g) tq_N0 152 i (tq_mix tq_S0 tq_M0 152 i) = some e) : va_at D vwCl (tq_adF z g 152 i, e) H ∧ ∃ p : Nat, tq_adF z g 152 i = z + p ∧ tq_inv p = (152, i) := by
  rw [tq_mk_152 hi] at h
  cases h
  refine ⟨hR.at (j := 1632 + i) (by omega) ?_, 1632 + i, rfl, ?_⟩
  · rw [tq_k380 (by omega), tq_k379 (by omega), tq_k378 (by omega), tq_k377 (by omega), tq_k376 (by omega), tq_k375 (by omega), tq_k374 (by omega), tq_k373 (by omega), tq_k372 (by omega), tq_k371 (by omega), tq_k370 (by omega), tq_k369 (by omega), tq_k368 (by omega), tq_k367 (by omega), tq_k366 (by omega), tq_k365 (by omega), tq_k364 (by omega), tq_k363 (by omega), tq_k362 (by omega), tq_k361 (by omega), tq_k360 (by omega), tq_k359 (by omega), tq_k358 (by omega), tq_k357 (by omega), tq_k356 (by omega), tq_k355 (by omega), tq_k354 (by omega), tq_k353 (by omega), tq_k352 (by omega), tq_k351 (by omega), tq_k350 (by omega), tq_k349 (by omega), tq_k348 (by omega), tq_k347 (by omega), tq_k346 (by omega), tq_k345 (by omega), tq_k344 (by omega), tq_k343 (by omega), tq_k342 (by omega), tq_k341 (by omega), tq_k340 (by omega), tq_k339 (by omega), tq_k338 (by omega), tq_k337 (by omega), tq_k336 (by omega), tq_k335 (by omega), tq_k334 (by omega), tq_k333 (by omega), tq_k332 (by omega), tq_k331 (by omega), tq_k330 (by omega), tq_k329 (by omega), tq_k328 (by omega), tq_k327 (by omega), tq_k326 (by omega), tq_k325 (by omega), tq_k324 (by omega), tq_k323 (by omega), tq_k322 (by omega), tq_k321 (by omega), tq_k320 (by omega), tq_k319 (by omega), tq_k318 (by omega), tq_k317 (by omega), tq_k316 (by omega), tq_k315 (by omega)]
    exact tq_extM_in (by omega)
  · unfold tq_inv
    rw [if_neg (by omega), if_neg (by omega), if_neg (by omega), if_neg (by omega), if_neg (by omega), if_neg (by omega), if_pos (by omega)]
    unfold tq_in5
    rw [if_neg (by omega), if_neg (by omega), if_pos (by omega)]
    rw [Nat.add_sub_cancel_left]
theorem tq_loc_153 {D : va_G} {z : Nat} {H0 H : Heap} {cy : Nat → ClassId} {g : Nat → Nat → Nat} (hR : tq_rw D z 1660 H0 (tqE380 z cy (tq_adF z g)) H) {i : Nat} {e : va_E} (hi : i < 1) (h : tq_mk cy (tq_adF z g) tq_N0 153 i (tq_mix tq_S0 tq_M0 153 i) = some e) : va_at D vwCl (tq_adF z g 153 i, e) H ∧ ∃ p : Nat, tq_adF z g 153 i = z + p ∧ tq_inv p = (153, i) := by
  rw [tq_mk_153 hi] at h
  cases h
  obtain rfl : i = 0 := by omega
  exact ⟨hR.at (j := 1638) (by decide) rfl, 1638, rfl, rfl⟩
theorem tq_loc_154 {D : va_G} {z : Nat} {H0 H : Heap} {cy : Nat → ClassId} {g : Nat → Nat → Nat} (hR : tq_rw D z 1660 H0 (tqE380 z cy (tq_adF z g)) H) {i : Nat} {e : va_E} (hi : i < 1) (h : tq_mk cy (tq_adF z g) tq_N0 154 i (tq_mix tq_S0 tq_M0 154 i) = some e) : va_at D vwCl (tq_adF z g 154 i, e) H ∧ ∃ p : Nat, tq_adF z g 154 i = z + p ∧ tq_inv p = (154, i) := by
  rw [tq_mk_154 hi] at h
  cases h
  obtain rfl : i = 0 := by omega
  exact ⟨hR.at (j := 1639) (by decide) rfl, 1639, rfl, rfl⟩
theorem tq_loc_156 {D : va_G} {z : Nat} {H0 H : Heap} {cy : Nat → ClassId} {g : Nat → Nat → Nat} (hR : tq_rw D z 1660 H0 (tqE380 z cy (tq_adF z g)) H) {i : Nat} {e : va_E} (hi : i < 1) (h : tq_mk cy (tq_adF z g) tq_N0 156 i (tq_mix tq_S0 tq_M0 156 i) = some e) : va_at D vwCl (tq_adF z g 156 i, e) H ∧ ∃ p : Nat, tq_adF z g 156 i = z + p ∧ tq_inv p = (156, i) := by
  rw [tq_mk_156 hi] at h
  cases h
  obtain rfl : i = 0 := by omega
  exact ⟨hR.at (j := 1640) (by decide) rfl, 1640, rfl, rfl⟩
theorem tq_loc_157 {D : va_G} {z : Nat} {H0 H : Heap} {cy : Nat → ClassId} {g : Nat → Nat → Nat} (hR : tq_rw D z 1660 H0 (tqE380 z cy (tq_adF z g)) H) {i : Nat} {e : va_E} (hi : i < 1) (h : tq_mk cy (tq_adF z g) tq_N0 157 i (tq_mix tq_S0 tq_M0 157 i) = some e) : va_at D vwCl (tq_adF z g 157 i, e) H ∧ ∃ p : Nat, tq_adF z g 157 i = z + p ∧ tq_inv p = (157, i) := by
  rw [tq_mk_157 hi] at h
  cases h
  obtain rfl : i = 0 := by omega
  exact ⟨hR.at (j := 1641) (by decide) rfl, 1641, rfl, rfl⟩
theorem tq_loc_159 {D : va_G} {z : Nat} {H0 H : Heap} {cy : Nat → ClassId} {g : Nat → Nat → Nat} (hR : tq_rw D z 1660 H0 (tqE380 z cy (tq_adF z g)) H) {i : Nat} {e : va_E} (hi : i < 4) (h : tq_mk cy (tq_adF z g) tq_N0 159 i (tq_mix tq_S0 tq_M0 159 i) = some e) : va_at D vwCl (tq_adF z g 159 i, e) H ∧ ∃ p : Nat, tq_adF z g 159 i = z + p ∧ tq_inv p = (159, i) := by
  rw [tq_mk_159 hi] at h
  cases h
  refine ⟨hR.at (j := 1643 + i) (by omega) ?_, 1643 + i, rfl, ?_⟩
  · rw [tq_k380 (by omega), tq_k379 (by omega), tq_k378 (by omega), tq_k377 (by omega), tq_k376 (by omega), tq_k375 (by omega), tq_k374 (by omega), tq_k373 (by omega), tq_k372 (by omega), tq_k371 (by omega), tq_k370 (by omega), tq_k369 (by omega), tq_k368 (by omega), tq_k367 (by omega), tq_k366 (by omega), tq_k365 (by omega), tq_k364 (by omega), tq_k363 (by omega), tq_k362 (by omega), tq_k361 (by omega), tq_k360 (by omega), tq_k359 (by omega), tq_k358 (by omega), tq_k357 (by omega), tq_k356 (by omega), tq_k355 (by omega), tq_k354 (by omega), tq_k353 (by omega), tq_k352 (by omega), tq_k351 (by omega), tq_k350 (by omega), tq_k349 (by omega), tq_k348 (by omega), tq_k347 (by omega), tq_k346 (by omega), tq_k345 (by omega), tq_k344 (by omega), tq_k343 (by omega), tq_k342 (by omega), tq_k341 (by omega), tq_k340 (by omega), tq_k339 (by omega), tq_k338 (by omega), tq_k337 (by omega), tq_k336 (by omega), tq_k335 (by omega), tq_k334 (by omega), tq_k333 (by omega), tq_k332 (by omega), tq_k331 (by omega), tq_k330 (by omega), tq_k329 (by omega), tq_k328 (by omega), tq_k327 (by omega), tq_k326 (by omega), tq_k325 (by omega)]
    exact tq_extM_in (by omega)
  · unfold tq_inv
    rw [if_neg (by omega), if_neg (by omega), if_neg (by omega), if_neg (by omega), if_neg (by omega), if_neg (by omega), if_pos (by omega)]
    unfold tq_in5
    rw [if_neg (by omega), if_neg (by omega), if_neg (by omega), if_neg (by omega), if_neg (by omega), if_neg (by omega), if_neg (by omega), if_neg (by omega), if_pos (by omega)]
    rw [Nat.add_sub_cancel_left]
theorem tq_loc_160 {D : va_G} {z : Nat} {H0 H : Heap} {cy : Nat → ClassId} {g : Nat → Nat → Nat} (hR : tq_rw D z 1660 H0 (tqE380 z cy (tq_adF z g)) H) {i : Nat} {e : va_E} (hi : i < 1) (h : tq_mk cy (tq_adF z g) tq_N0 160 i (tq_mix tq_S0 tq_M0 160 i) = some e) : va_at D vwCl (tq_adF z g 160 i, e) H ∧ ∃ p : Nat, tq_adF z g 160 i = z + p ∧ tq_inv p = (160, i) := by
  rw [tq_mk_160 hi] at h
  cases h
  obtain rfl : i = 0 := by omega
  exact ⟨hR.at (j := 1647) (by decide) rfl, 1647, rfl, rfl⟩
theorem tq_loc_162 {D : va_G} {z : Nat} {H0 H : Heap} {cy : Nat → ClassId} {g : Nat → Nat → Nat} (hR : tq_rw D z 1660 H0 (tqE380 z cy (tq_adF z g)) H) {i : Nat} {e : va_E} (hi : i < 1) (h : tq_mk cy (tq_adF z g) tq_N0 162 i (tq_mix tq_S0 tq_M0 162 i) = some e) : va_at D vwCl (tq_adF z g 162 i, e) H ∧ ∃ p : Nat, tq_adF z g 162 i = z + p ∧ tq_inv p = (162, i) := by
  rw [tq_mk_162 hi] at h
  cases h
  obtain rfl : i = 0 := by omega
  exact ⟨hR.at (j := 1648) (by decide) rfl, 1648, rfl, rfl⟩
theorem tq_loc_163 {D : va_G} {z : Nat} {H0 H : Heap} {cy : Nat → ClassId} {g : Nat → Nat → Nat} (hR : tq_rw D z 1660 H0 (tqE380 z cy (tq_adF z g)) H) {i : Nat} {e : va_E} (hi : i < 3) (h : tq_mk cy (tq_adF z g) tq_N0 163 i (tq_mix tq_S0 tq_M0 163 i) = some e) : va_at D vwCl (tq_adF z g 163 i, e) H ∧ ∃ p : Nat, tq_adF z g 163 i = z + p ∧ tq_inv p = (163, i) := by
  rw [tq_mk_163 hi] at h
  cases h
  refine ⟨hR.at (j := 1650 + i) (by omega) ?_, 1650 + i, rfl, ?_⟩
  · rw [tq_k380 (by omega), tq_k379 (by omega), tq_k378 (by omega), tq_k377 (by omega), tq_k376 (by omega), tq_k375 (by omega), tq_k374 (by omega), tq_k373 (by omega), tq_k372 (by omega), tq_k371 (by omega), tq_k370 (by omega), tq_k369 (by omega), tq_k368 (by omega), tq_k367 (by omega), tq_k366 (by omega), tq_k365 (by omega), tq_k364 (by omega), tq_k363 (by omega), tq_k362 (by omega), tq_k361 (by omega), tq_k360 (by omega), tq_k359 (by omega), tq_k358 (by omega), tq_k357 (by omega), tq_k356 (by omega), tq_k355 (by omega), tq_k354 (by omega), tq_k353 (by omega), tq_k352 (by omega), tq_k351 (by omega), tq_k350 (by omega), tq_k349 (by omega), tq_k348 (by omega), tq_k347 (by omega), tq_k346 (by omega), tq_k345 (by omega), tq_k344 (by omega), tq_k343 (by omega), tq_k342 (by omega), tq_k341 (by omega), tq_k340 (by omega), tq_k339 (by omega), tq_k338 (by omega), tq_k337 (by omega), tq_k336 (by omega), tq_k335 (by omega), tq_k334 (by omega)]
    exact tq_extM_in (by omega)
  · unfold tq_inv
    rw [if_neg (by omega), if_neg (by omega), if_neg (by omega), if_neg (by omega), if_neg (by omega), if_neg (by omega), if_neg (by omega)]
    unfold tq_in6
    rw [if_pos (by omega)]
    rw [Nat.add_sub_cancel_left]
theorem tq_loc_164 {D : va_G} {z : Nat} {H0 H : Heap} {cy : Nat → ClassId} {g : Nat → Nat → Nat} (hR : tq_rw D z 1660 H0 (tqE380 z cy (tq_adF z g)) H) {i : Nat} {e : va_E} (hi : i < 1) (h : tq_mk cy (tq_adF z g) tq_N0 164 i (tq_mix tq_S0 tq_M0 164 i) = some e) : va_at D vwCl (tq_adF z g 164 i, e) H ∧ ∃ p : Nat, tq_adF z g 164 i = z + p ∧ tq_inv p = (164, i) := by
  rw [tq_mk_164 hi] at h
  cases h
  obtain rfl : i = 0 := by omega
  exact ⟨hR.at (j := 1653) (by decide) rfl, 1653, rfl, rfl⟩
theorem tq_loc_165 {D : va_G} {z : Nat} {H0 H : Heap} {cy : Nat → ClassId} {g : Nat → Nat → Nat} (hR : tq_rw D z 1660 H0 (tqE380 z cy (tq_adF z g)) H) {i : Nat} {e : va_E} (hi : i < 1) (h : tq_mk cy (tq_adF z g) tq_N0 165 i (tq_mix tq_S0 tq_M0 165 i) = some e) : va_at D vwCl (tq_adF z g 165 i, e) H ∧ ∃ p : Nat, tq_adF z g 165 i = z + p ∧ tq_inv p = (165, i) := by
  rw [tq_mk_165 hi] at h
  cases h
  obtain rfl : i = 0 := by omega
  exact ⟨hR.at (j := 1654) (by decide) rfl, 1654, rfl, rfl⟩
theorem tq_loc_170 {D : va_G} {z : Nat} {H0 H : Heap} {cy : Nat → ClassId} {g : Nat → Nat → Nat} (hR : tq_rw D z 1660 H0 (tqE380 z cy (tq_adF z g)) H) {i : Nat} {e : va_E} (hi : i < 1) (h : tq_mk cy (tq_adF z g) tq_N0 170 i (tq_mix tq_S0 tq_M0 170 i) = some e) : va_at D vwCl (tq_adF z g 170 i, e) H ∧ ∃ p : Nat, tq_adF z g 170 i = z + p ∧ tq_inv p = (170, i) := by
  rw [tq_mk_170 hi] at h
  cases h
  obtain rfl : i = 0 := by omega
  exact ⟨hR.at (j := 1655) (by decide) rfl, 1655, rfl, rfl⟩
theorem tq_loc_171 {D : va_G} {z : Nat} {H0 H : Heap} {cy : Nat → ClassId} {g : Nat → Nat → Nat} (hR : tq_rw D z 1660 H0 (tqE380 z cy (tq_adF z g)) H) {i : Nat} {e : va_E} (hi : i < 1) (h : tq_mk cy (tq_adF z g) tq_N0 171 i (tq_mix tq_S0 tq_M0 171 i) = some e) : va_at D vwCl (tq_adF z g 171 i, e) H ∧ ∃ p : Nat, tq_adF z g 171 i = z + p ∧ tq_inv p = (171, i) := by
  rw [tq_mk_171 hi] at h
  cases h
  obtain rfl : i = 0 := by omega
  exact ⟨hR.at (j := 1656) (by decide) rfl, 1656, rfl, rfl⟩
theorem tq_loc_172 {D : va_G} {z : Nat} {H0 H : Heap} {cy : Nat → ClassId} {g : Nat → Nat → Nat} (hR : tq_rw D z 1660 H0 (tqE380 z cy (tq_adF z g)) H) {i : Nat} {e : va_E} (hi : i < 1) (h : tq_mk cy (tq_adF z g) tq_N0 172 i (tq_mix tq_S0 tq_M0 172 i) = some e) : va_at D vwCl (tq_adF z g 172 i, e) H ∧ ∃ p : Nat, tq_adF z g 172 i = z + p ∧ tq_inv p = (172, i) := by
  rw [tq_mk_172 hi] at h
  cases h
  obtain rfl : i = 0 := by omega
  exact ⟨hR.at (j := 1657) (by decide) rfl, 1657, rfl, rfl⟩
theorem tq_loc_175 {D : va_G} {z : Nat} {H0 H : Heap} {cy : Nat → ClassId} {g : Nat → Nat → Nat} (hR : tq_rw D z 1660 H0 (tqE380 z cy (tq_adF z g)) H) {i : Nat} {e : va_E} (hi : i < 1) (h : tq_mk cy (tq_adF z g) tq_N0 175 i (tq_mix tq_S0 tq_M0 175 i) = some e) : va_at D vwCl (tq_adF z g 175 i, e) H ∧ ∃ p : Nat, tq_adF z g 175 i = z + p ∧ tq_inv p = (175, i) := by
  rw [tq_mk_175 hi] at h
  cases h
  obtain rfl : i = 0 := by omega
  exact ⟨hR.at (j := 1658) (by decide) rfl, 1658, rfl, rfl⟩
theorem tq_loc_176 {D : va_G} {z : Nat} {H0 H : Heap} {cy : Nat → ClassId} {g : Nat → Nat → Nat} (hR : tq_rw D z 1660 H0 (tqE380 z cy (tq_adF z g)) H) {i : Nat} {e : va_E} (hi : i < 1) (h : tq_mk cy (tq_adF z g) tq_N0 176 i (tq_mix tq_S0 tq_M0 176 i) = some e) : va_at D vwCl (tq_adF z g 176 i, e) H ∧ ∃ p : Nat, tq_adF z g 176 i = z + p ∧ tq_inv p = (176, i) := by
  rw [tq_mk_176 hi] at h
  cases h
  obtain rfl : i = 0 := by omega
  exact ⟨hR.at (j := 1659) (by decide) rfl, 1659, rfl, rfl⟩
theorem tq_loc_202 {D : va_G} {z : Nat} {H0 H : Heap} {cy : Nat → ClassId} {g : Nat → Nat → Nat} (hR : tq_rw D z 1660 H0 (tqE380 z cy (tq_adF z g)) H) {i : Nat} {e : va_E} (hi : i < 1) (h : tq_mk cy (tq_adF z g) tq_N0 202 i (tq_mix tq_S0 tq_M0 202 i) = some e) : va_at D vwCl (tq_adF z g 202 i, e) H ∧ ∃ p : Nat, tq_adF z g 202 i = z + p ∧ tq_inv p = (202, i) := by
  rw [tq_mk_202 hi] at h
  cases h
  obtain rfl : i = 0 := by omega
  exact ⟨hR.q (p := 97) (by decide) (rfl) (fun j hj => (if_pos hj).trans (congrArg some (show z + 97 + 1 + j = z + (98 + j) by omega))), 97, rfl, rfl⟩
theorem tq_loc_203 {D : va_G} {z : Nat} {H0 H : Heap} {cy : Nat → ClassId} {g : Nat → Nat → Nat} (hR : tq_rw D z 1660 H0 (tqE380 z cy (tq_adF z g)) H) {i : Nat} {e : va_E} (hi : i < 1) (h : tq_mk cy (tq_adF z g) tq_N0 203 i (tq_mix tq_S0 tq_M0 203 i) = some e) : va_at D vwCl (tq_adF z g 203 i, e) H ∧ ∃ p : Nat, tq_adF z g 203 i = z + p ∧ tq_inv p = (203, i) := by
  rw [tq_mk_203 hi] at h
  cases h
  obtain rfl : i = 0 := by omega
  exact ⟨hR.q (p := 103) (by decide) (rfl) (fun j hj => (if_pos hj).trans (congrArg some (show z + 103 + 1 + j = z + (104 + j) by omega))), 103, rfl, rfl⟩
theorem tq_loc_204 {D : va_G} {z : Nat} {H0 H : Heap} {cy : Nat → ClassId} {g : Nat → Nat → Nat} (hR : tq_rw D z 1660 H0 (tqE380 z cy (tq_adF z g)) H) {i : Nat} {e : va_E} (hi : i < 1) (h : tq_mk cy (tq_adF z g) tq_N0 204 i (tq_mix tq_S0 tq_M0 204 i) = some e) : va_at D vwCl (tq_adF z g 204 i, e) H ∧ ∃ p : Nat, tq_adF z g 204 i = z + p ∧ tq_inv p = (204, i) := by
  rw [tq_mk_204 hi] at h
  cases h
  obtain rfl : i = 0 := by omega
  exact ⟨hR.q (p := 109) (by decide) (rfl) (fun j hj => (if_pos hj).trans (congrArg some (show z + 109 + 1 + j = z + (110 + j) by omega))), 109, rfl, rfl⟩
theorem tq_loc_205 {D : va_G} {z : Nat} {H0 H : Heap} {cy : Nat → ClassId} {g : Nat → Nat → Nat} (hR : tq_rw D z 1660 H0 (tqE380 z cy (tq_adF z g)) H) {i : Nat} {e : va_E} (hi : i < 1) (h : tq_mk cy (tq_adF z g) tq_N0 205 i (tq_mix tq_S0 tq_M0 205 i) = some e) : va_at D vwCl (tq_adF z g 205 i, e) H ∧ ∃ p : Nat, tq_adF z g 205 i = z + p ∧ tq_inv p = (205, i) := by
  rw [tq_mk_205 hi] at h
  cases h
  obtain rfl : i = 0 := by omega
  exact ⟨hR.q (p := 115) (by decide) (rfl) (fun j hj => (if_pos hj).trans (congrArg some (show z + 115 + 1 + j = z + (116 + j) by omega))), 115, rfl, rfl⟩
theorem tq_loc_215 {D : va_G} {z : Nat} {H0 H : Heap} {cy : Nat → ClassId} {g : Nat → Nat → Nat} (hR : tq_rw D z 1660 H0 (tqE380 z cy (tq_adF z g)) H) {i : Nat} {e : va_E} (hi : i < 1) (h : tq_mk cy (tq_adF z g) tq_N0 215 i (tq_mix tq_S0 tq_M0 215 i) = some e) : va_at D vwCl (tq_adF z g 215 i, e) H ∧ ∃ p : Nat, tq_adF z g 215 i = z + p ∧ tq_inv p = (215, i) := by
  rw [tq_mk_215 hi] at h
  cases h
  obtain rfl : i = 0 := by omega
  exact ⟨hR.q (p := 128) (by decide) (rfl) (fun j hj => (if_pos hj).trans (congrArg some (show z + 128 + 1 + j = z + (129 + j) by omega))), 128, rfl, rfl⟩
theorem tq_loc_216 {D : va_G} {z : Nat} {H0 H : Heap} {cy : Nat → ClassId} {g : Nat → Nat → Nat} (hR : tq_rw D z 1660 H0 (tqE380 z cy (tq_adF z g)) H) {i : Nat} {e : va_E} (hi : i < 1) (h : tq_mk cy (tq_adF z g) tq_N0 216 i (tq_mix tq_S0 tq_M0 216 i) = some e) : va_at D vwCl (tq_adF z g 216 i, e) H ∧ ∃ p : Nat, tq_adF z g 216 i = z + p ∧ tq_inv p = (216, i) := by
  rw [tq_mk_216 hi] at h
  cases h
  obtain rfl : i = 0 := by omega
  exact ⟨hR.q (p := 279) (by decide) (rfl) (fun j hj => (if_pos hj).trans (congrArg some (show z + 279 + 1 + j = z + (280 + j) by omega))), 279, rfl, rfl⟩
theorem tq_loc_218 {D : va_G} {z : Nat} {H0 H : Heap} {cy : Nat → ClassId} {g : Nat → Nat → Nat} (hR : tq_rw D z 1660 H0 (tqE380 z cy (tq_adF z g)) H) {i : Nat} {e : va_E} (hi : i < 1) (h : tq_mk cy (tq_adF z g) tq_N0 218 i (tq_mix tq_S0 tq_M0 218 i) = some e) : va_at D vwCl (tq_adF z g 218 i, e) H ∧ ∃ p : Nat, tq_adF z g 218 i = z + p ∧ tq_inv p = (218, i) := by
  rw [tq_mk_218 hi] at h
  cases h
  obtain rfl : i = 0 := by omega
  exact ⟨hR.q (p := 431) (by decide) (rfl) (fun j hj => (if_pos hj).trans (congrArg some (show z + 431 + 1 + j = z + (432 + j) by omega))), 431, rfl, rfl⟩
theorem tq_loc_219 {D : va_G} {z : Nat} {H0 H : Heap} {cy : Nat → ClassId} {g : Nat → Nat → Nat} (hR : tq_rw D z 1660 H0 (tqE380 z cy (tq_adF z g)) H) {i : Nat} {e : va_E} (hi : i < 1) (h : tq_mk cy (tq_adF z g) tq_N0 219 i (tq_mix tq_S0 tq_M0 219 i) = some e) : va_at D vwCl (tq_adF z g 219 i, e) H ∧ ∃ p : Nat, tq_adF z g 219 i = z + p ∧ tq_inv p = (219, i) := by
  rw [tq_mk_219 hi] at h
  cases h
  obtain rfl : i = 0 := by omega
  exact ⟨hR.q (p := 582) (by decide) (rfl) (fun j hj => (if_pos hj).trans (congrArg some (show z + 582 + 1 + j = z + (583 + j) by omega))), 582, rfl, rfl⟩
theorem tq_loc_220 {D : va_G} {z : Nat} {H0 H : Heap} {cy : Nat → ClassId} {g : Nat → Nat → Nat} (hR : tq_rw D z 1660 H0 (tqE380 z cy (tq_adF z g)) H) {i : Nat} {e : va_E} (hi : i < 1) (h : tq_mk cy (tq_adF z g) tq_N0 220 i (tq_mix tq_S0 tq_M0 220 i) = some e) : va_at D vwCl (tq_adF z g 220 i, e) H ∧ ∃ p : Nat, tq_adF z g 220 i = z + p ∧ tq_inv p = (220, i) := by
  rw [tq_mk_220 hi] at h
  cases h
  obtain rfl : i = 0 := by omega
  exact ⟨hR.q (p := 733) (by decide) (rfl) (fun j hj => (if_pos hj).trans (congrArg some (show z + 733 + 1 + j = z + (734 + j) by omega))), 733, rfl, rfl⟩
theorem tq_loc_227 {D : va_G} {z : Nat} {H0 H : Heap} {cy : Nat → ClassId} {g : Nat → Nat → Nat} (hR : tq_rw D z 1660 H0 (tqE380 z cy (tq_adF z g)) H) {i : Nat} {e : va_E} (hi : i < 1) (h : tq_mk cy (tq_adF z g) tq_N0 227 i (tq_mix tq_S0 tq_M0 227 i) = some e) : va_at D vwCl (tq_adF z g 227 i, e) H ∧ ∃ p : Nat, tq_adF z g 227 i = z + p ∧ tq_inv p = (227, i) := by
  rw [tq_mk_227 hi] at h
  cases h
  obtain rfl : i = 0 := by omega
  exact ⟨hR.q (p := 889) (by decide) (rfl) (fun j hj => (if_pos hj).trans (congrArg some (show z + 889 + 1 + j = z + (890 + j) by omega))), 889, rfl, rfl⟩
theorem tq_loc_229 {D : va_G} {z : Nat} {H0 H : Heap} {cy : Nat → ClassId} {g : Nat → Nat → Nat} (hR : tq_rw D z 1660 H0 (tqE380 z cy (tq_adF z g)) H) {i : Nat} {e : va_E} (hi : i < 1) (h : tq_mk cy (tq_adF z g) tq_N0 229 i (tq_mix tq_S0 tq_M0 229 i) = some e) : va_at D vwCl (tq_adF z g 229 i, e) H ∧ ∃ p : Nat, tq_adF z g 229 i = z + p ∧ tq_inv p = (229, i) := by
  rw [tq_mk_229 hi] at h
  cases h
  obtain rfl : i = 0 := by omega
  exact ⟨hR.q (p := 899) (by decide) (rfl) (fun j hj => (if_pos hj).trans (congrArg some (show z + 899 + 1 + j = z + (900 + j) by omega))), 899, rfl, rfl⟩
theorem tq_loc_239 {D : va_G} {z : Nat} {H0 H : Heap} {cy : Nat → ClassId} {g : Nat → Nat → Nat} (hR : tq_rw D z 1660 H0 (tqE380 z cy (tq_adF z g)) H) {i : Nat} {e : va_E} (hi : i < 1) (h : tq_mk cy (tq_adF z g) tq_N0 239 i (tq_mix tq_S0 tq_M0 239 i) = some e) : va_at D vwCl (tq_adF z g 239 i, e) H ∧ ∃ p : Nat, tq_adF z g 239 i = z + p ∧ tq_inv p = (239, i) := by
  rw [tq_mk_239 hi] at h
  cases h
  obtain rfl : i = 0 := by omega
  exact ⟨hR.q (p := 916) (by decide) (rfl) (fun j hj => (if_pos hj).trans (congrArg some (show z + 916 + 1 + j = z + (917 + j) by omega))), 916, rfl, rfl⟩
theorem tq_loc_240 {D : va_G} {z : Nat} {H0 H : Heap} {cy : Nat → ClassId} {g : Nat → Nat → Nat} (hR : tq_rw D z 1660 H0 (tqE380 z cy (tq_adF z g)) H) {i : Nat} {e : va_E} (hi : i < 1) (h : tq_mk cy (tq_adF z g) tq_N0 240 i (tq_mix tq_S0 tq_M0 240 i) = some e) : va_at D vwCl (tq_adF z g 240 i, e) H ∧ ∃ p : Nat, tq_adF z g 240 i = z + p ∧ tq_inv p = (240, i) := by
  rw [tq_mk_240 hi] at h
  cases h
  obtain rfl : i = 0 := by omega
  exact ⟨hR.q (p := 1016) (by decide) (rfl) (fun j hj => (if_pos hj).trans (congrArg some (show z + 1016 + 1 + j = z + (1017 + j) by omega))), 1016, rfl, rfl⟩
theorem tq_loc_244 {D : va_G} {z : Nat} {H0 H : Heap} {cy : Nat → ClassId} {g : Nat → Nat → Nat} (hR : tq_rw D z 1660 H0 (tqE380 z cy (tq_adF z g)) H) {i : Nat} {e : va_E} (hi : i < 1) (h : tq_mk cy (tq_adF z g) tq_N0 244 i (tq_mix tq_S0 tq_M0 244 i) = some e) : va_at D vwCl (tq_adF z g 244 i, e) H ∧ ∃ p : Nat, tq_adF z g 244 i = z + p ∧ tq_inv p = (244, i) := by
  rw [tq_mk_244 hi] at h
  cases h
  obtain rfl : i = 0 := by omega
  exact ⟨hR.q (p := 1118) (by decide) (rfl) (fun j hj => (if_pos hj).trans (congrArg some (show z + 1118 + 1 + j = z + (1119 + j) by omega))), 1118, rfl, rfl⟩
theorem tq_loc_251 {D : va_G} {z : Nat} {H0 H : Heap} {cy : Nat → ClassId} {g : Nat → Nat → Nat} (hR : tq_rw D z 1660 H0 (tqE380 z cy (tq_adF z g)) H) {i : Nat} {e : va_E} (hi : i < 1) (h : tq_mk cy (tq_adF z g) tq_N0 251 i (tq_mix tq_S0 tq_M0 251 i) = some e) : va_at D vwCl (tq_adF z g 251 i, e) H ∧ ∃ p : Nat, tq_adF z g 251 i = z + p ∧ tq_inv p = (251, i) := by
  rw [tq_mk_251 hi] at h
  cases h
  obtain rfl : i = 0 := by omega
  exact ⟨hR.q (p := 1624) (by decide) (rfl) (fun j hj => (if_pos hj).trans (congrArg some (show z + 1624 + 1 + j = z + (1625 + j) by omega))), 1624, rfl, rfl⟩
theorem tq_loc_252 {D : va_G} {z : Nat} {H0 H : Heap} {cy : Nat → ClassId} {g : Nat → Nat → Nat} (hR : tq_rw D z 1660 H0 (tqE380 z cy (tq_adF z g)) H) {i : Nat} {e : va_E} (hi : i < 1) (h : tq_mk cy (tq_adF z g) tq_N0 252 i (tq_mix tq_S0 tq_M0 252 i) = some e) : va_at D vwCl (tq_adF z g 252 i, e) H ∧ ∃ p : Nat, tq_adF z g 252 i = z + p ∧ tq_inv p = (252, i) := by
  rw [tq_mk_252 hi] at h
  cases h
  obtain rfl : i = 0 := by omega
  exact ⟨hR.q (p := 1631) (by decide) (rfl) (fun j hj => (if_pos hj).trans (congrArg some (show z + 1631 + 1 + j = z + (1632 + j) by omega))), 1631, rfl, rfl⟩
theorem tq_loc_259 {D : va_G} {z : Nat} {H0 H : Heap} {cy : Nat → ClassId} {g : Nat → Nat → Nat} (hR : tq_rw D z 1660 H0 (tqE380 z cy (tq_adF z g)) H) {i : Nat} {e : va_E} (hi : i < 1) (h : tq_mk cy (tq_adF z g) tq_N0 259 i (tq_mix tq_S0 tq_M0 259 i) = some e) : va_at D vwCl (tq_adF z g 259 i, e) H ∧ ∃ p : Nat, tq_adF z g 259 i = z + p ∧ tq_inv p = (259, i) := by
  rw [tq_mk_259 hi] at h
  cases h
  obtain rfl : i = 0 := by omega
  exact ⟨hR.q (p := 1642) (by decide) (rfl) (fun j hj => (if_pos hj).trans (congrArg some (show z + 1642 + 1 + j = z + (1643 + j) by omega))), 1642, rfl, rfl⟩
theorem tq_loc_263 {D : va_G} {z : Nat} {H0 H : Heap} {cy : Nat → ClassId} {g : Nat → Nat → Nat} (hR : tq_rw D z 1660 H0 (tqE380 z cy (tq_adF z g)) H) {i : Nat} {e : va_E} (hi : i < 1) (h : tq_mk cy (tq_adF z g) tq_N0 263 i (tq_mix tq_S0 tq_M0 263 i) = some e) : va_at D vwCl (tq_adF z g 263 i, e) H ∧ ∃ p : Nat, tq_adF z g 263 i = z + p ∧ tq_inv p = (263, i) := by
  rw [tq_mk_263 hi] at h
  cases h
  obtain rfl : i = 0 := by omega
  exact ⟨hR.q (p := 1649) (by decide) (rfl) (fun j hj => (if_pos hj).trans (congrArg some (show z + 1649 + 1 + j = z + (1650 + j) by omega))), 1649, rfl, rfl⟩
theorem tq_locC {D : va_G} {z : Nat} {H0 H : Heap} {cy : Nat → ClassId} {g : Nat → Nat → Nat} (hR : tq_rw D z 1660 H0 (tqE380 z cy (tq_adF z g)) H) {k i : Nat} {e : va_E} (h0 : tq_mk cy (tq_adF z g) tq_N0 k i (tq_mix tq_S0 tq_M0 k i) = some e) (h : tq_mkC cy (tq_adF z g) (tq_N0 k i) k i (tq_mix tq_S0 tq_M0 k i) = some e) : va_at D vwCl (tq_adF z g k i, e) H ∧ ∃ p : Nat, tq_adF z g k i = z + p ∧ tq_inv p = (k, i) := by
  unfold tq_mkC at h
  rcases tq_chC h with ⟨rfl, ⟨hi, _⟩ | ⟨_, h⟩⟩ | ⟨_, h⟩
  · exact tq_loc_1 hR hi h0
  · exact tq_nos h
  rcases tq_chC h with ⟨rfl, ⟨hi, _⟩ | ⟨_, h⟩⟩ | ⟨_, h⟩
  · exact tq_loc_2 hR hi h0
  · exact tq_nos h
  rcases tq_chC h with ⟨rfl, ⟨hi, _⟩ | ⟨_, h⟩⟩ | ⟨_, h⟩
  · exact tq_loc_3 hR hi h0
  · exact tq_nos h
  rcases tq_chC h with ⟨rfl, ⟨hi, _⟩ | ⟨_, h⟩⟩ | ⟨_, h⟩
  · exact tq_loc_4 hR hi h0
  · exact tq_nos h
  rcases tq_chC h with ⟨rfl, ⟨hi, _⟩ | ⟨_, h⟩⟩ | ⟨_, h⟩
  · exact tq_loc_5 hR hi h0
  · exact tq_nos h
  rcases tq_chC h with ⟨rfl, ⟨hi, _⟩ | ⟨_, h⟩⟩ | ⟨_, h⟩
  · exact tq_loc_6 hR hi h0
  · exact tq_nos h
  rcases tq_chC h with ⟨rfl, ⟨hi, _⟩ | ⟨_, h⟩⟩ | ⟨_, h⟩
  · exact absurd (show (0 : Nat) = 1 from hi) (by decide)
  · exact tq_nos h
  rcases tq_chC h with ⟨rfl, ⟨hi, _⟩ | ⟨_, h⟩⟩ | ⟨_, h⟩
  · exact absurd (show (0 : Nat) = 1 from hi) (by decide)
  · exact tq_nos h
  rcases tq_chC h with ⟨rfl, ⟨hi, _⟩ | ⟨_, h⟩⟩ | ⟨_, h⟩
  · exact absurd (show (0 : Nat) = 1 from hi) (by decide)
  · exact tq_nos h
  rcases tq_chC h with ⟨rfl, ⟨hi, _⟩ | ⟨_, h⟩⟩ | ⟨_, h⟩
  · exact absurd (show (0 : Nat) = 1 from hi) (by decide)
  · exact tq_nos h
  rcases tq_chC h with ⟨rfl, ⟨hi, _⟩ | ⟨_, h⟩⟩ | ⟨_, h⟩
  · exact absurd (show (0 : Nat) = 1 from hi) (by decide)
  · exact tq_nos h
  rcases tq_chC h with ⟨rfl, ⟨hi, _⟩ | ⟨_, h⟩⟩ | ⟨_, h⟩
  · exact tq_loc_12 hR hi h0
  · exact tq_nos h
  rcases tq_chC h with ⟨rfl, ⟨hi, _⟩ | ⟨_, h⟩⟩ | ⟨_, h⟩
  · exact tq_loc_13 hR hi h0
  · exact tq_nos h
  rcases tq_chC h with ⟨rfl, ⟨hi, _⟩ | ⟨_, h⟩⟩ | ⟨_, h⟩
  · exact tq_loc_14 hR hi h0
  · exact tq_nos h
  rcases tq_chC h with ⟨rfl, ⟨hi, _⟩ | ⟨_, h⟩⟩ | ⟨_, h⟩
  · exact tq_loc_15 hR hi h0
  · exact tq_nos h
  rcases tq_chC h with ⟨rfl, ⟨hi, _⟩ | ⟨_, h⟩⟩ | ⟨_, h⟩
  · exact absurd (show (0 : Nat) = 1 from hi) (by decide)
  · exact tq_nos h
  rcases tq_chC h with ⟨rfl, ⟨hi, _⟩ | ⟨_, h⟩⟩ | ⟨_, h⟩
  · exact tq_loc_17 hR hi h0
  · exact tq_nos h
  rcases tq_chC h with ⟨rfl, ⟨hi, _⟩ | ⟨_, h⟩⟩ | ⟨_, h⟩
  · exact absurd (show (0 : Nat) = 1 from hi) (by decide)
  · exact tq_nos h
  rcases tq_chC h with ⟨rfl, ⟨hi, _⟩ | ⟨_, h⟩⟩ | ⟨_, h⟩
  · exact tq_loc_19 hR hi h0
  · exact tq_nos h
  rcases tq_chC h with ⟨rfl, ⟨hi, _⟩ | ⟨_, h⟩⟩ | ⟨_, h⟩
  · exact absurd (show (0 : Nat) = 1 from hi) (by decide)
  · exact tq_nos h
  rcases tq_chC h with ⟨rfl, ⟨hi, _⟩ | ⟨_, h⟩⟩ | ⟨_, h⟩
  · exact tq_loc_21 hR hi h0
  · exact tq_nos h
  rcases tq_chC h with ⟨rfl, ⟨hi, _⟩ | ⟨_, h⟩⟩ | ⟨_, h⟩
  · exact tq_loc_22 hR hi h0
  · exact tq_nos h
  rcases tq_chC h with ⟨rfl, ⟨hi, _⟩ | ⟨_, h⟩⟩ | ⟨_, h⟩
  · exact absurd (show (0 : Nat) = 1 from hi) (by decide)
  · exact tq_nos h
  rcases tq_chC h with ⟨rfl, ⟨hi, _⟩ | ⟨_, h⟩⟩ | ⟨_, h⟩
  · exact tq_loc_24 hR hi h0
  · exact tq_nos h
  rcases tq_chC h with ⟨rfl, ⟨hi, _⟩ | ⟨_, h⟩⟩ | ⟨_, h⟩
  · exact tq_loc_25 hR hi h0
  · exact tq_nos h
  rcases tq_chC h with ⟨rfl, ⟨hi, _⟩ | ⟨_, h⟩⟩ | ⟨_, h⟩
  · exact tq_loc_26 hR hi h0
  · exact tq_nos h
  rcases tq_chC h with ⟨rfl, ⟨hi, _⟩ | ⟨_, h⟩⟩ | ⟨_, h⟩
  · exact tq_loc_27 hR hi h0
  · exact tq_nos h
  rcases tq_chC h with ⟨rfl, ⟨hi, _⟩ | ⟨_, h⟩⟩ | ⟨_, h⟩
  · exact tq_loc_28 hR hi h0
  · exact tq_nos h
  rcases tq_chC h with ⟨rfl, ⟨hi, _⟩ | ⟨_, h⟩⟩ | ⟨_, h⟩
  · exact tq_loc_29 hR hi h0
  · exact tq_nos h
  rcases tq_chC h with ⟨rfl, ⟨hi, _⟩ | ⟨_, h⟩⟩ | ⟨_, h⟩
  · exact tq_loc_30 hR hi h0
  · exact tq_nos h
  rcases tq_chC h with ⟨rfl, ⟨hi, _⟩ | ⟨_, h⟩⟩ | ⟨_, h⟩
  · exact tq_loc_31 hR hi h0
  · exact tq_nos h
  rcases tq_chC h with ⟨rfl, ⟨hi, _⟩ | ⟨_, h⟩⟩ | ⟨_, h⟩
  · exact tq_loc_32 hR hi h0
  · exact tq_nos h
  rcases tq_chC h with ⟨rfl, ⟨hi, _⟩ | ⟨_, h⟩⟩ | ⟨_, h⟩
  · exact tq_loc_33 hR hi h0
  · exact tq_nos h
  rcases tq_chC h with ⟨rfl, ⟨hi, _⟩ | ⟨_, h⟩⟩ | ⟨_, h⟩
  · exact tq_loc_34 hR hi h0
  · exact tq_nos h
  rcases tq_chC h with ⟨rfl, ⟨hi, _⟩ | ⟨_, h⟩⟩ | ⟨_, h⟩
  · exact tq_loc_35 hR hi h0
  · exact tq_nos h
  rcases tq_chC h with ⟨rfl, ⟨hi, _⟩ | ⟨_, h⟩⟩ | ⟨_, h⟩
  · exact tq_loc_36 hR hi h0
  · exact tq_nos h
  rcases tq_chC h with ⟨rfl, ⟨hi, _⟩ | ⟨_, h⟩⟩ | ⟨_, h⟩
  · exact absurd (show (0 : Nat) = 1 from hi) (by decide)
  · exact tq_nos h
  rcases tq_chC h with ⟨rfl, ⟨hi, _⟩ | ⟨_, h⟩⟩ | ⟨_, h⟩
  · exact tq_loc_38 hR hi h0
  · exact tq_nos h
  rcases tq_chC h with ⟨rfl, ⟨hi, _⟩ | ⟨_, h⟩⟩ | ⟨_, h⟩
  · exact absurd (show (0 : Nat) = 1 from hi) (by decide)
  · exact tq_nos h
  rcases tq_chC h with ⟨rfl, ⟨hi, _⟩ | ⟨_, h⟩⟩ | ⟨_, h⟩
  · exact tq_loc_40 hR hi h0
  · exact tq_nos h
  rcases tq_chC h with ⟨rfl, ⟨hi, _⟩ | ⟨_, h⟩⟩ | ⟨_, h⟩
  · exact tq_loc_41 hR hi h0
  · exact tq_nos h
  rcases tq_chC h with ⟨rfl, ⟨hi, _⟩ | ⟨_, h⟩⟩ | ⟨_, h⟩
  · exact tq_loc_42 hR hi h0
  · exact tq_nos h
  rcases tq_chC h with ⟨rfl, ⟨hi, _⟩ | ⟨_, h⟩⟩ | ⟨_, h⟩
  · exact tq_loc_43 hR hi h0
  · exact tq_nos h
  rcases tq_chC h with ⟨rfl, ⟨hi, _⟩ | ⟨_, h⟩⟩ | ⟨_, h⟩
  · exact tq_loc_44 hR hi h0
  · exact tq_nos h
  rcases tq_chC h with ⟨rfl, ⟨hi, _⟩ | ⟨_, h⟩⟩ | ⟨_, h⟩
  · exact tq_loc_45 hR hi h0
  · exact tq_nos h
  rcases tq_chC h with ⟨rfl, ⟨hi, _⟩ | ⟨_, h⟩⟩ | ⟨_, h⟩
  · exact tq_loc_46 hR hi h0
  · exact tq_nos h
  rcases tq_chC h with ⟨rfl, ⟨hi, _⟩ | ⟨_, h⟩⟩ | ⟨_, h⟩
  · exact tq_loc_47 hR hi h0
  · exact tq_nos h
  rcases tq_chC h with ⟨rfl, ⟨hi, _⟩ | ⟨_, h⟩⟩ | ⟨_, h⟩
  · exact tq_loc_48 hR hi h0
  · exact tq_nos h
  rcases tq_chC h with ⟨rfl, ⟨hi, _⟩ | ⟨_, h⟩⟩ | ⟨_, h⟩
  · exact tq_loc_49 hR hi h0
  · exact tq_nos h
  rcases tq_chC h with ⟨rfl, ⟨hi, _⟩ | ⟨_, h⟩⟩ | ⟨_, h⟩
  · exact absurd (show (0 : Nat) = 1 from hi) (by decide)
  · exact tq_nos h
  rcases tq_chC h with ⟨rfl, ⟨hi, _⟩ | ⟨_, h⟩⟩ | ⟨_, h⟩
  · exact absurd (show (0 : Nat) = 1 from hi) (by decide)
  · exact tq_nos h
  rcases tq_chC h with ⟨rfl, ⟨hi, _⟩ | ⟨_, h⟩⟩ | ⟨_, h⟩
  · exact absurd (show (0 : Nat) = 1 from hi) (by decide)
  · exact tq_nos h
  rcases tq_chC h with ⟨rfl, ⟨hi, _⟩ | ⟨_, h⟩⟩ | ⟨_, h⟩
  · exact absurd (show (0 : Nat) = 1 from hi) (by decide)
  · exact tq_nos h
  rcases tq_chC h with ⟨rfl, ⟨hi, _⟩ | ⟨_, h⟩⟩ | ⟨_, h⟩
  · exact absurd (show (0 : Nat) = 1 from hi) (by decide)
  · exact tq_nos h
  rcases tq_chC h with ⟨rfl, ⟨hi, _⟩ | ⟨_, h⟩⟩ | ⟨_, h⟩
  · exact absurd (show (0 : Nat) = 1 from hi) (by decide)
  · exact tq_nos h
  rcases tq_chC h with ⟨rfl, ⟨hi, _⟩ | ⟨_, h⟩⟩ | ⟨_, h⟩
  · exact absurd (show (0 : Nat) = 1 from hi) (by decide)
  · exact tq_nos h
  rcases tq_chC h with ⟨rfl, ⟨hi, _⟩ | ⟨_, h⟩⟩ | ⟨_, h⟩
  · exact absurd (show (0 : Nat) = 1 from hi) (by decide)
  · exact tq_nos h
  rcases tq_chC h with ⟨rfl, ⟨hi, _⟩ | ⟨_, h⟩⟩ | ⟨_, h⟩
  · exact absurd (show (0 : Nat) = 1 from hi) (by decide)
  · exact tq_nos h
  rcases tq_chC h with ⟨rfl, ⟨hi, _⟩ | ⟨_, h⟩⟩ | ⟨_, h⟩
  · exact absurd (show (0 : Nat) = 1 from hi) (by decide)
  · exact tq_nos h
  rcases tq_chC h with ⟨rfl, ⟨hi, _⟩ | ⟨_, h⟩⟩ | ⟨_, h⟩
  · exact absurd (show (0 : Nat) = 1 from hi) (by decide)
  · exact tq_nos h
  exact tq_nos h
theorem tq_locM {D : va_G} {z : Nat} {H0 H : Heap} {cy : Nat → ClassId} {g : Nat → Nat → Nat} (hR : tq_rw D z 1660 H0 (tqE380 z cy (tq_adF z g)) H) {k i : Nat} {e : va_E} (h0 : tq_mk cy (tq_adF z g) tq_N0 k i (tq_mix tq_S0 tq_M0 k i) = some e) (h : tq_mkM cy (tq_adF z g) k i (tq_mix tq_S0 tq_M0 k i) = some e) : va_at D vwCl (tq_adF z g k i, e) H ∧ ∃ p : Nat, tq_adF z g k i = z + p ∧ tq_inv p = (k, i) := by
  unfold tq_mkM at h
  rcases tq_chC h with ⟨rfl, ⟨hi, _⟩ | ⟨_, h⟩⟩ | ⟨_, h⟩
  · exact tq_loc_64 hR hi h0
  · exact tq_nos h
  rcases tq_chC h with ⟨rfl, ⟨hi, _⟩ | ⟨_, h⟩⟩ | ⟨_, h⟩
  · exact tq_loc_101 hR hi h0
  · exact tq_nos h
  rcases tq_chC h with ⟨rfl, ⟨hi, _⟩ | ⟨_, h⟩⟩ | ⟨_, h⟩
  · exact tq_loc_202 hR hi h0
  · exact tq_nos h
  rcases tq_chC h with ⟨rfl, ⟨hi, _⟩ | ⟨_, h⟩⟩ | ⟨_, h⟩
  · exact tq_loc_102 hR hi h0
  · exact tq_nos h
  rcases tq_chC h with ⟨rfl, ⟨hi, _⟩ | ⟨_, h⟩⟩ | ⟨_, h⟩
  · exact tq_loc_203 hR hi h0
  · exact tq_nos h
  rcases tq_chC h with ⟨rfl, ⟨hi, _⟩ | ⟨_, h⟩⟩ | ⟨_, h⟩
  · exact tq_loc_103 hR hi h0
  · exact tq_nos h
  rcases tq_chC h with ⟨rfl, ⟨hi, _⟩ | ⟨_, h⟩⟩ | ⟨_, h⟩
  · exact tq_loc_204 hR hi h0
  · exact tq_nos h
  rcases tq_chC h with ⟨rfl, ⟨hi, _⟩ | ⟨_, h⟩⟩ | ⟨_, h⟩
  · exact tq_loc_104 hR hi h0
  · exact tq_nos h
  rcases tq_chC h with ⟨rfl, ⟨hi, _⟩ | ⟨_, h⟩⟩ | ⟨_, h⟩
  · exact tq_loc_205 hR hi h0
  · exact tq_nos h
  rcases tq_chC h with ⟨rfl, ⟨hi, _⟩ | ⟨_, h⟩⟩ | ⟨_, h⟩
  · exact tq_loc_105 hR hi h0
  · exact tq_nos h
  rcases tq_chC h with ⟨rfl, ⟨hi, _⟩ | ⟨_, h⟩⟩ | ⟨_, h⟩
  · exact tq_loc_107 hR hi h0
  · exact tq_nos h
  rcases tq_chC h with ⟨rfl, ⟨hi, _⟩ | ⟨_, h⟩⟩ | ⟨_, h⟩
  · exact tq_loc_108 hR hi h0
  · exact tq_nos h
  rcases tq_chC h with ⟨rfl, ⟨hi, _⟩ | ⟨_, h⟩⟩ | ⟨_, h⟩
  · exact tq_loc_110 hR hi h0
  · exact tq_nos h
  rcases tq_chC h with ⟨rfl, ⟨hi, _⟩ | ⟨_, h⟩⟩ | ⟨_, h⟩
  · exact tq_loc_111 hR hi h0
  · exact tq_nos h
  rcases tq_chC h with ⟨rfl, ⟨hi, _⟩ | ⟨_, h⟩⟩ | ⟨_, h⟩
  · exact tq_loc_112 hR hi h0
  · exact tq_nos h
  rcases tq_chC h with ⟨rfl, ⟨hi, _⟩ | ⟨_, h⟩⟩ | ⟨_, h⟩
  · exact tq_loc_113 hR hi h0
  · exact tq_nos h
  rcases tq_chC h with ⟨rfl, ⟨hi, _⟩ | ⟨_, h⟩⟩ | ⟨_, h⟩
  · exact tq_loc_114 hR hi h0
  · exact tq_nos h
  rcases tq_chC h with ⟨rfl, ⟨hi, _⟩ | ⟨_, h⟩⟩ | ⟨_, h⟩
  · exact tq_loc_215 hR hi h0
  · exact tq_nos h
  rcases tq_chC h with ⟨rfl, ⟨hi, _⟩ | ⟨_, h⟩⟩ | ⟨_, h⟩
  · exact tq_loc_115 hR hi h0
  · exact tq_nos h
  rcases tq_chC h with ⟨rfl, ⟨hi, _⟩ | ⟨_, h⟩⟩ | ⟨_, h⟩
  · exact tq_loc_216 hR hi h0
  · exact tq_nos h
  rcases tq_chC h with ⟨rfl, ⟨hi, _⟩ | ⟨_, h⟩⟩ | ⟨_, h⟩
  · exact tq_loc_116 hR hi h0
  · exact tq_nos h
  rcases tq_chC h with ⟨rfl, ⟨hi, _⟩ | ⟨_, h⟩⟩ | ⟨_, h⟩
  · exact tq_loc_117 hR hi h0
  · exact tq_nos h
  rcases tq_chC h with ⟨rfl, ⟨hi, _⟩ | ⟨_, h⟩⟩ | ⟨_, h⟩
  · exact tq_loc_218 hR hi h0
  · exact tq_nos h
  rcases tq_chC h with ⟨rfl, ⟨hi, _⟩ | ⟨_, h⟩⟩ | ⟨_, h⟩
  · exact tq_loc_118 hR hi h0
  · exact tq_nos h
  rcases tq_chC h with ⟨rfl, ⟨hi, _⟩ | ⟨_, h⟩⟩ | ⟨_, h⟩
  · exact tq_loc_219 hR hi h0
  · exact tq_nos h
  rcases tq_chC h with ⟨rfl, ⟨hi, _⟩ | ⟨_, h⟩⟩ | ⟨_, h⟩
  · exact tq_loc_119 hR hi h0
  · exact tq_nos h
  rcases tq_chC h with ⟨rfl, ⟨hi, _⟩ | ⟨_, h⟩⟩ | ⟨_, h⟩
  · exact tq_loc_220 hR hi h0
  · exact tq_nos h
  rcases tq_chC h with ⟨rfl, ⟨hi, _⟩ | ⟨_, h⟩⟩ | ⟨_, h⟩
  · exact tq_loc_120 hR hi h0
  · exact tq_nos h
  rcases tq_chC h with ⟨rfl, ⟨hi, _⟩ | ⟨_, h⟩⟩ | ⟨_, h⟩
  · exact tq_loc_122 hR hi h0
  · exact tq_nos h
  rcases tq_chC h with ⟨rfl, ⟨hi, _⟩ | ⟨_, h⟩⟩ | ⟨_, h⟩
  · exact tq_loc_123 hR hi h0
  · exact tq_nos h
  rcases tq_chC h with ⟨rfl, ⟨hi, _⟩ | ⟨_, h⟩⟩ | ⟨_, h⟩
  · exact tq_loc_124 hR hi h0
  · exact tq_nos h
  rcases tq_chC h with ⟨rfl, ⟨hi, _⟩ | ⟨_, h⟩⟩ | ⟨_, h⟩
  · exact tq_loc_125 hR hi h0
  · exact tq_nos h
  rcases tq_chC h with ⟨rfl, ⟨hi, _⟩ | ⟨_, h⟩⟩ | ⟨_, h⟩
  · exact tq_loc_126 hR hi h0
  · exact tq_nos h
  rcases tq_chC h with ⟨rfl, ⟨hi, _⟩ | ⟨_, h⟩⟩ | ⟨_, h⟩
  · exact tq_loc_227 hR hi h0
  · exact tq_nos h
  rcases tq_chC h with ⟨rfl, ⟨hi, _⟩ | ⟨_, h⟩⟩ | ⟨_, h⟩
  · exact tq_loc_127 hR hi h0
  · exact tq_nos h
  rcases tq_chC h with ⟨rfl, ⟨hi, _⟩ | ⟨_, h⟩⟩ | ⟨_, h⟩
  · exact tq_loc_128 hR hi h0
  · exact tq_nos h
  rcases tq_chC h with ⟨rfl, ⟨hi, _⟩ | ⟨_, h⟩⟩ | ⟨_, h⟩
  · exact tq_loc_229 hR hi h0
  · exact tq_nos h
  rcases tq_chC h with ⟨rfl, ⟨hi, _⟩ | ⟨_, h⟩⟩ | ⟨_, h⟩
  · exact tq_loc_129 hR hi h0
  · exact tq_nos h
  rcases tq_chC h with ⟨rfl, ⟨hi, _⟩ | ⟨_, h⟩⟩ | ⟨_, h⟩
  · exact tq_loc_130 hR hi h0
  · exact tq_nos h
  rcases tq_chC h with ⟨rfl, ⟨hi, _⟩ | ⟨_, h⟩⟩ | ⟨_, h⟩
  · exact tq_loc_132 hR hi h0
  · exact tq_nos h
  rcases tq_chC h with ⟨rfl, ⟨hi, _⟩ | ⟨_, h⟩⟩ | ⟨_, h⟩
  · exact tq_loc_133 hR hi h0
  · exact tq_nos h
  rcases tq_chC h with ⟨rfl, ⟨hi, _⟩ | ⟨_, h⟩⟩ | ⟨_, h⟩
  · exact tq_loc_134 hR hi h0
  · exact tq_nos h
  rcases tq_chC h with ⟨rfl, ⟨hi, _⟩ | ⟨_, h⟩⟩ | ⟨_, h⟩
  · exact tq_loc_135 hR hi h0
  · exact tq_nos h
  rcases tq_chC h with ⟨rfl, ⟨hi, _⟩ | ⟨_, h⟩⟩ | ⟨_, h⟩
  · exact tq_loc_136 hR hi h0
  · exact tq_nos h
  rcases tq_chC h with ⟨rfl, ⟨hi, _⟩ | ⟨_, h⟩⟩ | ⟨_, h⟩
  · exact tq_loc_137 hR hi h0
  · exact tq_nos h
  rcases tq_chC h with ⟨rfl, ⟨hi, _⟩ | ⟨_, h⟩⟩ | ⟨_, h⟩
  · exact tq_loc_138 hR hi h0
  · exact tq_nos h
  rcases tq_chC h with ⟨rfl, ⟨hi, _⟩ | ⟨_, h⟩⟩ | ⟨_, h⟩
  · exact tq_loc_239 hR hi h0
  · exact tq_nos h
  rcases tq_chC h with ⟨rfl, ⟨hi, _⟩ | ⟨_, h⟩⟩ | ⟨_, h⟩
  · exact tq_loc_139 hR hi h0
  · exact tq_nos h
  rcases tq_chC h with ⟨rfl, ⟨hi, _⟩ | ⟨_, h⟩⟩ | ⟨_, h⟩
  · exact tq_loc_240 hR hi h0
  · exact tq_nos h
  rcases tq_chC h with ⟨rfl, ⟨hi, _⟩ | ⟨_, h⟩⟩ | ⟨_, h⟩
  · exact tq_loc_140 hR hi h0
  · exact tq_nos h
  rcases tq_chC h with ⟨rfl, ⟨hi, _⟩ | ⟨_, h⟩⟩ | ⟨_, h⟩
  · exact tq_loc_141 hR hi h0
  · exact tq_nos h
  rcases tq_chC h with ⟨rfl, ⟨hi, _⟩ | ⟨_, h⟩⟩ | ⟨_, h⟩
  · exact tq_loc_142 hR hi h0
  · exact tq_nos h
  rcases tq_chC h with ⟨rfl, ⟨hi, _⟩ | ⟨_, h⟩⟩ | ⟨_, h⟩
  · exact tq_loc_244 hR hi h0
  · exact tq_nos h
  rcases tq_chC h with ⟨rfl, ⟨hi, _⟩ | ⟨_, h⟩⟩ | ⟨_, h⟩
  · exact tq_loc_144 hR hi h0
  · exact tq_nos h
  rcases tq_chC h with ⟨rfl, ⟨hi, _⟩ | ⟨_, h⟩⟩ | ⟨_, h⟩
  · exact tq_loc_146 hR hi h0
  · exact tq_nos h
  rcases tq_chC h with ⟨rfl, ⟨hi, _⟩ | ⟨_, h⟩⟩ | ⟨_, h⟩
  · exact tq_loc_147 hR hi h0
  · exact tq_nos h
  rcases tq_chC h with ⟨rfl, ⟨hi, _⟩ | ⟨_, h⟩⟩ | ⟨_, h⟩
  · exact tq_loc_148 hR hi h0
  · exact tq_nos h
  rcases tq_chC h with ⟨rfl, ⟨hi, _⟩ | ⟨_, h⟩⟩ | ⟨_, h⟩
  · exact tq_loc_149 hR hi h0
  · exact tq_nos h
  rcases tq_chC h with ⟨rfl, ⟨hi, _⟩ | ⟨_, h⟩⟩ | ⟨_, h⟩
  · exact tq_loc_150 hR hi h0
  · exact tq_nos h
  rcases tq_chC h with ⟨rfl, ⟨hi, _⟩ | ⟨_, h⟩⟩ | ⟨_, h⟩
  · exact tq_loc_251 hR hi h0
  · exact tq_nos h
  rcases tq_chC h with ⟨rfl, ⟨hi, _⟩ | ⟨_, h⟩⟩ | ⟨_, h⟩
  · exact tq_loc_151 hR hi h0
  · exact tq_nos h
  rcases tq_chC h with ⟨rfl, ⟨hi, _⟩ | ⟨_, h⟩⟩ | ⟨_, h⟩
  · exact tq_loc_252 hR hi h0
  · exact tq_nos h
  rcases tq_chC h with ⟨rfl, ⟨hi, _⟩ | ⟨_, h⟩⟩ | ⟨_, h⟩
  · exact tq_loc_152 hR hi h0
  · exact tq_nos h
  rcases tq_chC h with ⟨rfl, ⟨hi, _⟩ | ⟨_, h⟩⟩ | ⟨_, h⟩
  · exact tq_loc_153 hR hi h0
  · exact tq_nos h
  rcases tq_chC h with ⟨rfl, ⟨hi, _⟩ | ⟨_, h⟩⟩ | ⟨_, h⟩
  · exact tq_loc_154 hR hi h0
  · exact tq_nos h
  rcases tq_chC h with ⟨rfl, ⟨hi, _⟩ | ⟨_, h⟩⟩ | ⟨_, h⟩
  · exact tq_loc_156 hR hi h0
  · exact tq_nos h
  rcases tq_chC h with ⟨rfl, ⟨hi, _⟩ | ⟨_, h⟩⟩ | ⟨_, h⟩
  · exact tq_loc_157 hR hi h0
  · exact tq_nos h
  rcases tq_chC h with ⟨rfl, ⟨hi, _⟩ | ⟨_, h⟩⟩ | ⟨_, h⟩
  · exact tq_loc_259 hR hi h0
  · exact tq_nos h
  rcases tq_chC h with ⟨rfl, ⟨hi, _⟩ | ⟨_, h⟩⟩ | ⟨_, h⟩
  · exact tq_loc_159 hR hi h0
  · exact tq_nos h
  rcases tq_chC h with ⟨rfl, ⟨hi, _⟩ | ⟨_, h⟩⟩ | ⟨_, h⟩
  · exact tq_loc_160 hR hi h0
  · exact tq_nos h
  rcases tq_chC h with ⟨rfl, ⟨hi, _⟩ | ⟨_, h⟩⟩ | ⟨_, h⟩
  · exact tq_loc_162 hR hi h0
  · exact tq_nos h
  rcases tq_chC h with ⟨rfl, ⟨hi, _⟩ | ⟨_, h⟩⟩ | ⟨_, h⟩
  · exact tq_loc_263 hR hi h0
  · exact tq_nos h
  rcases tq_chC h with ⟨rfl, ⟨hi, _⟩ | ⟨_, h⟩⟩ | ⟨_, h⟩
  · exact tq_loc_163 hR hi h0
  · exact tq_nos h
  rcases tq_chC h with ⟨rfl, ⟨hi, _⟩ | ⟨_, h⟩⟩ | ⟨_, h⟩
  · exact tq_loc_164 hR hi h0
  · exact tq_nos h
  rcases tq_chC h with ⟨rfl, ⟨hi, _⟩ | ⟨_, h⟩⟩ | ⟨_, h⟩
  · exact tq_loc_165 hR hi h0
  · exact tq_nos h
  rcases tq_chC h with ⟨rfl, ⟨hi, _⟩ | ⟨_, h⟩⟩ | ⟨_, h⟩
  · exact tq_loc_170 hR hi h0
  · exact tq_nos h
  rcases tq_chC h with ⟨rfl, ⟨hi, _⟩ | ⟨_, h⟩⟩ | ⟨_, h⟩
  · exact tq_loc_171 hR hi h0
  · exact tq_nos h
  rcases tq_chC h with ⟨rfl, ⟨hi, _⟩ | ⟨_, h⟩⟩ | ⟨_, h⟩
  · exact tq_loc_172 hR hi h0
  · exact tq_nos h
  rcases tq_chC h with ⟨rfl, ⟨hi, _⟩ | ⟨_, h⟩⟩ | ⟨_, h⟩
  · exact tq_loc_175 hR hi h0
  · exact tq_nos h
  rcases tq_chC h with ⟨rfl, ⟨hi, _⟩ | ⟨_, h⟩⟩ | ⟨_, h⟩
  · exact tq_loc_176 hR hi h0
  · exact tq_nos h
  exact tq_nos h
theorem tq_loc {D : va_G} {z : Nat} {H0 H : Heap} {cy : Nat → ClassId} {g : Nat → Nat → Nat} (hR : tq_rw D z 1660 H0 (tqE380 z cy (tq_adF z g)) H) {k i : Nat} {e : va_E} (h0 : tq_mk cy (tq_adF z g) tq_N0 k i (tq_mix tq_S0 tq_M0 k i) = some e) : va_at D vwCl (tq_adF z g k i, e) H ∧ ∃ p : Nat, tq_adF z g k i = z + p ∧ tq_inv p = (k, i) := by
  by_cases hk : k < 64
  · exact tq_locC hR h0 (by unfold tq_mk at h0; rw [if_pos hk] at h0; exact h0)
  · exact tq_locM hR h0 (by unfold tq_mk at h0; rw [if_neg hk] at h0; exact h0)
theorem tq_init {D : va_G} {z : Nat} {H0 H : Heap} {cy : Nat → ClassId} {g : Nat → Nat → Nat} (hR : tq_rw D z 1660 H0 (tqE380 z cy (tq_adF z g)) H) : tq_wd D cy z H0 (tq_adF z g) tq_N0 (tq_mix tq_S0 tq_M0) H := by
  refine ⟨fun k i e h => (tq_loc hR h).1, fun k i k' i' e e' h h' hq => ?_, fun k i e h => ?_, by have := hR.1; omega, hR.2.2⟩
  · obtain ⟨_, p, hp, hi⟩ := tq_loc hR h
    obtain ⟨_, p', hp', hi'⟩ := tq_loc hR h'
    have : p = p' := by omega
    subst this
    rw [hi] at hi'
    cases hi'
    exact ⟨rfl, rfl⟩
  · obtain ⟨_, p, hp, _⟩ := tq_loc hR h
    omega
theorem tq_adr0 (z : Nat) (g : Nat → Nat → Nat) : tq_adr z (tq_adF z g) := by
  refine ⟨fun i => ⟨rfl, rfl, rfl, rfl⟩, fun i => ⟨rfl, rfl, rfl, rfl⟩, fun i => ⟨rfl, rfl, rfl⟩, fun i => ⟨rfl, rfl⟩, fun i => rfl, fun i => ⟨rfl, rfl, rfl, rfl, rfl, rfl, rfl, rfl⟩, fun i hi => ⟨?_, ?_⟩⟩
  · show z + (if i = 0 then _ else i) = z + i
    rw [if_neg (by omega)]
  · show z + (if i = 0 then _ else i) = z + i
    rw [if_neg (by omega)]
