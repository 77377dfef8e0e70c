/-- where the cells lie, from z on -/
def tq_off0 (k i : Nat) : Nat := if k = 1 then (if i = 0 then 0 else i) else if k = 2 then 39 + 10 * i else if k = 3 then 10 else if k = 4 then 12 else if k = 5 then 36 else if k = 6 then 89 + 2 * i else if k = 7 then i else if k = 8 then i else if k = 9 then i else if k = 10 then i else if k = 11 then i else if k = 12 then (if i = 0 then 1 else i) else if k = 13 then 2 else if k = 14 then 3 else if k = 15 then 4 else if k = 16 then i else if k = 17 then 5 else if k = 18 then i else if k = 19 then 6 else if k = 20 then i else if k = 21 then 7 else if k = 22 then 8 else if k = 23 then i else if k = 24 then 9 else 0
def tq_off1 (k i : Nat) : Nat := if k = 25 then 29 else if k = 26 then 30 else if k = 27 then 31 else if k = 28 then 32 + i else if k = 29 then 38 else if k = 30 then 40 + 10 * i else if k = 31 then 41 + 10 * i else if k = 32 then 42 + 10 * i else if k = 33 then 43 + 10 * i else if k = 34 then 44 + 10 * i else if k = 35 then 45 + 10 * i else if k = 36 then 46 + 10 * i else if k = 37 then i else if k = 38 then 47 + 10 * i else if k = 39 then i else if k = 40 then 48 + 10 * i else if k = 41 then 11 else if k = 42 then 13 else if k = 43 then 14 + i else if k = 44 then 20 else if k = 45 then 21 + i else if k = 46 then 27 else if k = 47 then 28 else if k = 48 then 37 else if k = 49 then 90 + 2 * i else 0
def tq_off2 (k i : Nat) : Nat := if k = 50 then i + 1 else if k = 51 then i + 3 else if k = 52 then i + 2 else if k = 53 then i else if k = 54 then i + 1 else if k = 55 then i + 2 else if k = 56 then i + 3 else if k = 57 then i + 1 else if k = 58 then i + 2 else if k = 59 then i + 1 else if k = 60 then i else if k = 64 then 95 else if k = 101 then 96 else if k = 102 then 98 + i else if k = 103 then 104 + i else if k = 104 then 110 + i else if k = 105 then 116 + i else if k = 107 then 121 else if k = 108 then 122 else 0
def tq_off3 (k i : Nat) : Nat := if k = 110 then 123 else if k = 111 then 124 else if k = 112 then 125 else if k = 113 then 126 else if k = 114 then 127 else if k = 115 then 129 + i else if k = 116 then 280 + i else if k = 117 then 430 else if k = 118 then 432 + i else if k = 119 then 583 + i else if k = 120 then 734 + i else if k = 122 then 884 else if k = 123 then 885 else if k = 124 then 886 else if k = 125 then 887 else if k = 126 then 888 else if k = 127 then 890 + i else if k = 128 then 898 else if k = 129 then 900 + i else if k = 130 then 908 else if k = 132 then 909 else if k = 133 then 910 else if k = 134 then 911 else if k = 135 then 912 else if k = 136 then 913 else if k = 137 then 914 else if k = 138 then 915 else if k = 139 then 917 + i else if k = 140 then 1017 + i else if k = 141 then 1116 else if k = 142 then 1117 else if k = 144 then 1119 + i else if k = 146 then 1619 else if k = 147 then 1620 else if k = 148 then 1621 else if k = 149 then 1622 else 0
def tq_off4 (k i : Nat) : Nat := if k = 150 then 1623 else if k = 151 then 1625 + i else if k = 152 then 1632 + i else if k = 153 then 1638 else if k = 154 then 1639 else if k = 156 then 1640 else if k = 157 then 1641 else if k = 159 then 1643 + i else if k = 160 then 1647 else if k = 162 then 1648 else if k = 163 then 1650 + i else if k = 164 then 1653 else if k = 165 then 1654 else if k = 170 then 1655 else if k = 171 then 1656 else if k = 172 then 1657 else if k = 175 then 1658 else if k = 176 then 1659 else if k = 202 then 97 else if k = 203 then 103 else if k = 204 then 109 else if k = 205 then 115 else if k = 215 then 128 else if k = 216 then 279 else if k = 218 then 431 else if k = 219 then 582 else if k = 220 then 733 else if k = 227 then 889 else if k = 229 then 899 else if k = 239 then 916 else if k = 240 then 1016 else if k = 244 then 1118 else if k = 251 then 1624 else if k = 252 then 1631 else if k = 259 then 1642 else if k = 263 then 1649 else 0
def tq_off (k i : Nat) : Nat := if k < 25 then tq_off0 k i else if k < 50 then tq_off1 k i else if k < 110 then tq_off2 k i else if k < 150 then tq_off3 k i else tq_off4 k i
def tq_adF (z : Nat) (g : Nat → Nat → Nat) (k i : Nat) : Nat := if k = 0 then g 0 i else if k = 61 then g 61 i else if k = 62 then g 62 i else if k = 63 then g 63 i else z + tq_off k i
def tq_N0 : tq_Nn := fun k i => if k = 0 then (if i = 0 then 1660 else if i = 1 then 42865 else 0) else 0
def tq_S0 : tq_St := fun k i => if k = 2 then (fun t => if t = 0 then Int32.ofNat i else if t = 3 then 120 else if t = 4 then 120 else if t = 16 then (-1) else 0) else if k = 6 then (fun t => if t = 0 then (-1) else 0) else if k = 31 then (upd (upd (upd (upd (fun _ => 0) 0 20) 1 20) 2 20) 3 20) else if k = 25 then (upd (upd (upd (upd (upd (upd (upd (upd (fun _ => 0) 0 100) 1 100) 2 100) 3 100) 4 100) 5 100) 6 100) 7 100) else (fun _ => 0)
def tq_M0 : tq_St := fun k i => if k = 103 then (if i = 0 then (fun _ => 0) else (upd (upd (fun _ => 0) 0 120) 1 120)) else if k = 104 then (if i = 0 then (fun _ => 0) else (upd (upd (upd (upd (fun _ => 0) 0 20) 1 20) 2 20) 3 20)) else if k = 156 then (upd (upd (upd (upd (upd (upd (upd (upd (fun _ => 0) 0 100) 1 100) 2 100) 3 100) 4 100) 5 100) 6 100) 7 100) else if k = 162 then (upd (upd (upd (fun _ => 0) 0 (-1)) 1 (-1)) 2 (-1)) else (fun _ => 0)
theorem tq_k223 {z : Nat} {cy : Nat → ClassId} {ad : Nat → Nat → Nat} {j : Nat} (h : j ≠ 95) : tqE223 z cy ad j = tqE222 z cy ad j := tq_ext_ne h
theorem tq_k224 {z : Nat} {cy : Nat → ClassId} {ad : Nat → Nat → Nat} {j : Nat} (h : j ≠ 96) : tqE224 z cy ad j = tqE223 z cy ad j := tq_ext_ne h
theorem tq_k225 {z : Nat} {cy : Nat → ClassId} {ad : Nat → Nat → Nat} {j : Nat} (h : j ≠ 95) : tqE225 z cy ad j = tqE224 z cy ad j := tq_ext_ne h
theorem tq_k226 {z : Nat} {cy : Nat → ClassId} {ad : Nat → Nat → Nat} {j : Nat} (h : ¬ (97 ≤ j ∧ j < 103)) : tqE226 z cy ad j = tqE225 z cy ad j := (tq_extM_ne (by omega)).trans (tq_ext_ne (by omega))
theorem tq_k227 {z : Nat} {cy : Nat → ClassId} {ad : Nat → Nat → Nat} {j : Nat} (h : j ≠ 95) : tqE227 z cy ad j = tqE226 z cy ad j := tq_ext_ne h
theorem tq_k228 {z : Nat} {cy : Nat → ClassId} {ad : Nat → Nat → Nat} {j : Nat} (h : ¬ (103 ≤ j ∧ j < 109)) : tqE228 z cy ad j = tqE227 z cy ad j := (tq_extM_ne (by omega)).trans (tq_ext_ne (by omega))
theorem tq_k229 {z : Nat} {cy : Nat → ClassId} {ad : Nat → Nat → Nat} {j : Nat} (h : j ≠ 95) : tqE229 z cy ad j = tqE228 z cy ad j := tq_ext_ne h
theorem tq_k230 {z : Nat} {cy : Nat → ClassId} {ad : Nat → Nat → Nat} {j : Nat} (h : ¬ (109 ≤ j ∧ j < 115)) : tqE230 z cy ad j = tqE229 z cy ad j := (tq_extM_ne (by omega)).trans (tq_ext_ne (by omega))
theorem tq_k231 {z : Nat} {cy : Nat → ClassId} {ad : Nat → Nat → Nat} {j : Nat} (h : j ≠ 95) : tqE231 z cy ad j = tqE230 z cy ad j := tq_ext_ne h
theorem tq_k232 {z : Nat} {cy : Nat → ClassId} {ad : Nat → Nat → Nat} {j : Nat} (h : ¬ (115 ≤ j ∧ j < 121)) : tqE232 z cy ad j = tqE231 z cy ad j := (tq_extM_ne (by omega)).trans (tq_ext_ne (by omega))
theorem tq_k233 {z : Nat} {cy : Nat → ClassId} {ad : Nat → Nat → Nat} {j : Nat} (h : j ≠ 95) : tqE233 z cy ad j = tqE232 z cy ad j := tq_ext_ne h
theorem tq_k234 {z : Nat} {cy : Nat → ClassId} {ad : Nat → Nat → Nat} {j : Nat} (h : j ≠ 121) : tqE234 z cy ad j = tqE233 z cy ad j := tq_ext_ne h
theorem tq_k235 {z : Nat} {cy : Nat → ClassId} {ad : Nat → Nat → Nat} {j : Nat} (h : j ≠ 95) : tqE235 z cy ad j = tqE234 z cy ad j := tq_ext_ne h
theorem tq_k236 {z : Nat} {cy : Nat → ClassId} {ad : Nat → Nat → Nat} {j : Nat} (h : j ≠ 122) : tqE236 z cy ad j = tqE235 z cy ad j := tq_ext_ne h
theorem tq_k237 {z : Nat} {cy : Nat → ClassId} {ad : Nat → Nat → Nat} {j : Nat} (h : j ≠ 95) : tqE237 z cy ad j = tqE236 z cy ad j := tq_ext_ne h
theorem tq_k238 {z : Nat} {cy : Nat → ClassId} {ad : Nat → Nat → Nat} {j : Nat} (h : j ≠ 123) : tqE238 z cy ad j = tqE237 z cy ad j := tq_ext_ne h
theorem tq_k239 {z : Nat} {cy : Nat → ClassId} {ad : Nat → Nat → Nat} {j : Nat} (h : j ≠ 95) : tqE239 z cy ad j = tqE238 z cy ad j := tq_ext_ne h
theorem tq_k240 {z : Nat} {cy : Nat → ClassId} {ad : Nat → Nat → Nat} {j : Nat} (h : j ≠ 124) : tqE240 z cy ad j = tqE239 z cy ad j := tq_ext_ne h
theorem tq_k241 {z : Nat} {cy : Nat → ClassId} {ad : Nat → Nat → Nat} {j : Nat} (h : j ≠ 95) : tqE241 z cy ad j = tqE240 z cy ad j := tq_ext_ne h
theorem tq_k242 {z : Nat} {cy : Nat → ClassId} {ad : Nat → Nat → Nat} {j : Nat} (h : j ≠ 125) : tqE242 z cy ad j = tqE241 z cy ad j := tq_ext_ne h
theorem tq_k243 {z : Nat} {cy : Nat → ClassId} {ad : Nat → Nat → Nat} {j : Nat} (h : j ≠ 95) : tqE243 z cy ad j = tqE242 z cy ad j := tq_ext_ne h
theorem tq_k244 {z : Nat} {cy : Nat → ClassId} {ad : Nat → Nat → Nat} {j : Nat} (h : j ≠ 126) : tqE244 z cy ad j = tqE243 z cy ad j := tq_ext_ne h
theorem tq_k245 {z : Nat} {cy : Nat → ClassId} {ad : Nat → Nat → Nat} {j : Nat} (h : j ≠ 95) : tqE245 z cy ad j = tqE244 z cy ad j := tq_ext_ne h
theorem tq_k246 {z : Nat} {cy : Nat → ClassId} {ad : Nat → Nat → Nat} {j : Nat} (h : j ≠ 127) : tqE246 z cy ad j = tqE245 z cy ad j := tq_ext_ne h
theorem tq_k247 {z : Nat} {cy : Nat → ClassId} {ad : Nat → Nat → Nat} {j : Nat} (h : j ≠ 95) : tqE247 z cy ad j = tqE246 z cy ad j := tq_ext_ne h
theorem tq_k248 {z : Nat} {cy : Nat → ClassId} {ad : Nat → Nat → Nat} {j : Nat} (h : ¬ (128 ≤ j ∧ j < 279)) : tqE248 z cy ad j = tqE247 z cy ad j := (tq_extM_ne (by omega)).trans (tq_ext_ne (by omega))
theorem tq_k249 {z : Nat} {cy : Nat → ClassId} {ad : Nat → Nat → Nat} {j : Nat} (h : j ≠ 95) : tqE249 z cy ad j = tqE248 z cy ad j := tq_ext_ne h
theorem tq_k250 {z : Nat} {cy : Nat → ClassId} {ad : Nat → Nat → Nat} {j : Nat} (h : ¬ (279 ≤ j ∧ j < 430)) : tqE250 z cy ad j = tqE249 z cy ad j := (tq_extM_ne (by omega)).trans (tq_ext_ne (by omega))
theorem tq_k251 {z : Nat} {cy : Nat → ClassId} {ad : Nat → Nat → Nat} {j : Nat} (h : j ≠ 95) : tqE251 z cy ad j = tqE250 z cy ad j := tq_ext_ne h
theorem tq_k252 {z : Nat} {cy : Nat → ClassId} {ad : Nat → Nat → Nat} {j : Nat} (h : j ≠ 430) : tqE252 z cy ad j = tqE251 z cy ad j := tq_ext_ne h
theorem tq_k253 {z : Nat} {cy : Nat → ClassId} {ad : Nat → Nat → Nat} {j : Nat} (h : j ≠ 95) : tqE253 z cy ad j = tqE252 z cy ad j := tq_ext_ne h
theorem tq_k254 {z : Nat} {cy : Nat → ClassId} {ad : Nat → Nat → Nat} {j : Nat} (h : ¬ (431 ≤ j ∧ j < 582)) : tqE254 z cy ad j = tqE253 z cy ad j := (tq_extM_ne (by omega)).trans (tq_ext_ne (by omega))
theorem tq_k255 {z : Nat} {cy : Nat → ClassId} {ad : Nat → Nat → Nat} {j : Nat} (h : j ≠ 95) : tqE255 z cy ad j = tqE254 z cy ad j := tq_ext_ne h
theorem tq_k256 {z : Nat} {cy : Nat → ClassId} {ad : Nat → Nat → Nat} {j : Nat} (h : ¬ (582 ≤ j ∧ j < 733)) : tqE256 z cy ad j = tqE255 z cy ad j := (tq_extM_ne (by omega)).trans (tq_ext_ne (by omega))
theorem tq_k257 {z : Nat} {cy : Nat → ClassId} {ad : Nat → Nat → Nat} {j : Nat} (h : j ≠ 95) : tqE257 z cy ad j = tqE256 z cy ad j := tq_ext_ne h
theorem tq_k258 {z : Nat} {cy : Nat → ClassId} {ad : Nat → Nat → Nat} {j : Nat} (h : ¬ (733 ≤ j ∧ j < 884)) : tqE258 z cy ad j = tqE257 z cy ad j := (tq_extM_ne (by omega)).trans (tq_ext_ne (by omega))
theorem tq_k259 {z : Nat} {cy : Nat → ClassId} {ad : Nat → Nat → Nat} {j : Nat} (h : j ≠ 95) : tqE259 z cy ad j = tqE258 z cy ad j := tq_ext_ne h
theorem tq_k260 {z : Nat} {cy : Nat → ClassId} {ad : Nat → Nat → Nat} {j : Nat} (h : j ≠ 884) : tqE260 z cy ad j = tqE259 z cy ad j := tq_ext_ne h
theorem tq_k261 {z : Nat} {cy : Nat → ClassId} {ad : Nat → Nat → Nat} {j : Nat} (h : j ≠ 95) : tqE261 z cy ad j = tqE260 z cy ad j := tq_ext_ne h
theorem tq_k262 {z : Nat} {cy : Nat → ClassId} {ad : Nat → Nat → Nat} {j : Nat} (h : j ≠ 885) : tqE262 z cy ad j = tqE261 z cy ad j := tq_ext_ne h
theorem tq_k263 {z : Nat} {cy : Nat → ClassId} {ad : Nat → Nat → Nat} {j : Nat} (h : j ≠ 95) : tqE263 z cy ad j = tqE262 z cy ad j := tq_ext_ne h
theorem tq_k264 {z : Nat} {cy : Nat → ClassId} {ad : Nat → Nat → Nat} {j : Nat} (h : j ≠ 886) : tqE264 z cy ad j = tqE263 z cy ad j := tq_ext_ne h
theorem tq_k265 {z : Nat} {cy : Nat → ClassId} {ad : Nat → Nat → Nat} {j : Nat} (h : j ≠ 95) : tqE265 z cy ad j = tqE264 z cy ad j := tq_ext_ne h
theorem tq_k266 {z : Nat} {cy : Nat → ClassId} {ad : Nat → Nat → Nat} {j : Nat} (h : j ≠ 887) : tqE266 z cy ad j = tqE265 z cy ad j := tq_ext_ne h
theorem tq_k267 {z : Nat} {cy : Nat → ClassId} {ad : Nat → Nat → Nat} {j : Nat} (h : j ≠ 95) : tqE267 z cy ad j = tqE266 z cy ad j := tq_ext_ne h
theorem tq_k268 {z : Nat} {cy : Nat → ClassId} {ad : Nat → Nat → Nat} {j : Nat} (h : j ≠ 888) : tqE268 z cy ad j = tqE267 z cy ad j := tq_ext_ne h
theorem tq_k269 {z : Nat} {cy : Nat → ClassId} {ad : Nat → Nat → Nat} {j : Nat} (h : j ≠ 95) : tqE269 z cy ad j = tqE268 z cy ad j := tq_ext_ne h
theorem tq_k270 {z : Nat} {cy : Nat → ClassId} {ad : Nat → Nat → Nat} {j : Nat} (h : ¬ (889 ≤ j ∧ j < 898)) : tqE270 z cy ad j = tqE269 z cy ad j := (tq_extM_ne (by omega)).trans (tq_ext_ne (by omega))
theorem tq_k271 {z : Nat} {cy : Nat → ClassId} {ad : Nat → Nat → Nat} {j : Nat} (h : j ≠ 95) : tqE271 z cy ad j = tqE270 z cy ad j := tq_ext_ne h
theorem tq_k272 {z : Nat} {cy : Nat → ClassId} {ad : Nat → Nat → Nat} {j : Nat} (h : j ≠ 898) : tqE272 z cy ad j = tqE271 z cy ad j := tq_ext_ne h
theorem tq_k273 {z : Nat} {cy : Nat → ClassId} {ad : Nat → Nat → Nat} {j : Nat} (h : j ≠ 95) : tqE273 z cy ad j = tqE272 z cy ad j := tq_ext_ne h
theorem tq_k274 {z : Nat} {cy : Nat → ClassId} {ad : Nat → Nat → Nat} {j : Nat} (h : ¬ (899 ≤ j ∧ j < 908)) : tqE274 z cy ad j = tqE273 z cy ad j := (tq_extM_ne (by omega)).trans (tq_ext_ne (by omega))
theorem tq_k275 {z : Nat} {cy : Nat → ClassId} {ad : Nat → Nat → Nat} {j : Nat} (h : j ≠ 95) : tqE275 z cy ad j = tqE274 z cy ad j := tq_ext_ne h
theorem tq_k276 {z : Nat} {cy : Nat → ClassId} {ad : Nat → Nat → Nat} {j : Nat} (h : j ≠ 908) : tqE276 z cy ad j = tqE275 z cy ad j := tq_ext_ne h
theorem tq_k277 {z : Nat} {cy : Nat → ClassId} {ad : Nat → Nat → Nat} {j : Nat} (h : j ≠ 95) : tqE277 z cy ad j = tqE276 z cy ad j := tq_ext_ne h
theorem tq_k278 {z : Nat} {cy : Nat → ClassId} {ad : Nat → Nat → Nat} {j : Nat} (h : j ≠ 909) : tqE278 z cy ad j = tqE277 z cy ad j := tq_ext_ne h
theorem tq_k279 {z : Nat} {cy : Nat → ClassId} {ad : Nat → Nat → Nat} {j : Nat} (h : j ≠ 95) : tqE279 z cy ad j = tqE278 z cy ad j := tq_ext_ne h
theorem tq_k280 {z : Nat} {cy : Nat → ClassId} {ad : Nat → Nat → Nat} {j : Nat} (h : j ≠ 910) : tqE280 z cy ad j = tqE279 z cy ad j := tq_ext_ne h
theorem tq_k281 {z : Nat} {cy : Nat → ClassId} {ad : Nat → Nat → Nat} {j : Nat} (h : j ≠ 95) : tqE281 z cy ad j = tqE280 z cy ad j := tq_ext_ne h
theorem tq_k282 {z : Nat} {cy : Nat → ClassId} {ad : Nat → Nat → Nat} {j : Nat} (h : j ≠ 911) : tqE282 z cy ad j = tqE281 z cy ad j := tq_ext_ne h
theorem tq_k283 {z : Nat} {cy : Nat → ClassId} {ad : Nat → Nat → Nat} {j : Nat} (h : j ≠ 95) : tqE283 z cy ad j = tqE282 z cy ad j := tq_ext_ne h
theorem tq_k284 {z : Nat} {cy : Nat → ClassId} {ad : Nat → Nat → Nat} {j : Nat} (h : j ≠ 912) : tqE284 z cy ad j = tqE283 z cy ad j := tq_ext_ne h
theorem tq_k285 {z : Nat} {cy : Nat → ClassId} {ad : Nat → Nat → Nat} {j : Nat} (h : j ≠ 95) : tqE285 z cy ad j = tqE284 z cy ad j := tq_ext_ne h
theorem tq_k286 {z : Nat} {cy : Nat → ClassId} {ad : Nat → Nat → Nat} {j : Nat} (h : j ≠ 913) : tqE286 z cy ad j = tqE285 z cy ad j := tq_ext_ne h
theorem tq_k287 {z : Nat} {cy : Nat → ClassId} {ad : Nat → Nat → Nat} {j : Nat} (h : j ≠ 95) : tqE287 z cy ad j = tqE286 z cy ad j := tq_ext_ne h
theorem tq_k288 {z : Nat} {cy : Nat → ClassId} {ad : Nat → Nat → Nat} {j : Nat} (h : j ≠ 914) : tqE288 z cy ad j = tqE287 z cy ad j := tq_ext_ne h
theorem tq_k289 {z : Nat} {cy : Nat → ClassId} {ad : Nat → Nat → Nat} {j : Nat} (h : j ≠ 95) : tqE289 z cy ad j = tqE288 z cy ad j := tq_ext_ne h
theorem tq_k290 {z : Nat} {cy : Nat → ClassId} {ad : Nat → Nat → Nat} {j : Nat} (h : j ≠ 915) : tqE290 z cy ad j = tqE289 z cy ad j := tq_ext_ne h
theorem tq_k291 {z : Nat} {cy : Nat → ClassId} {ad : Nat → Nat → Nat} {j : Nat} (h : j ≠ 95) : tqE291 z cy ad j = tqE290 z cy ad j := tq_ext_ne h
theorem tq_k292 {z : Nat} {cy : Nat → ClassId} {ad : Nat → Nat → Nat} {j : Nat} (h : ¬ (916 ≤ j ∧ j < 1016)) : tqE292 z cy ad j = tqE291 z cy ad j := (tq_extM_ne (by omega)).trans (tq_ext_ne (by omega))
theorem tq_k293 {z : Nat} {cy : Nat → ClassId} {ad : Nat → Nat → Nat} {j : Nat} (h : j ≠ 95) : tqE293 z cy ad j = tqE292 z cy ad j := tq_ext_ne h
theorem tq_k294 {z : Nat} {cy : Nat → ClassId} {ad : Nat → Nat → Nat} {j : Nat} (h : ¬ (1016 ≤ j ∧ j < 1116)) : tqE294 z cy ad j = tqE293 z cy ad j := (tq_extM_ne (by omega)).trans (tq_ext_ne (by omega))
theorem tq_k295 {z : Nat} {cy : Nat → ClassId} {ad : Nat → Nat → Nat} {j : Nat} (h : j ≠ 95) : tqE295 z cy ad j = tqE294 z cy ad j := tq_ext_ne h
theorem tq_k296 {z : Nat} {cy : Nat → ClassId} {ad : Nat → Nat → Nat} {j : Nat} (h : j ≠ 1116) : tqE296 z cy ad j = tqE295 z cy ad j := tq_ext_ne h
theorem tq_k297 {z : Nat} {cy : Nat → ClassId} {ad : Nat → Nat → Nat} {j : Nat} (h : j ≠ 95) : tqE297 z cy ad j = tqE296 z cy ad j := tq_ext_ne h
theorem tq_k298 {z : Nat} {cy : Nat → ClassId} {ad : Nat → Nat → Nat} {j : Nat} (h : j ≠ 1117) : tqE298 z cy ad j = tqE297 z cy ad j := tq_ext_ne h
theorem tq_k299 {z : Nat} {cy : Nat → ClassId} {ad : Nat → Nat → Nat} {j : Nat} (h : j ≠ 95) : tqE299 z cy ad j = tqE298 z cy ad j := tq_ext_ne h
theorem tq_k300 {z : Nat} {cy : Nat → ClassId} {ad : Nat → Nat → Nat} {j : Nat} (h : ¬ (1118 ≤ j ∧ j < 1619)) : tqE300 z cy ad j = tqE299 z cy ad j := (tq_extM_ne (by omega)).trans (tq_ext_ne (by omega))
theorem tq_k301 {z : Nat} {cy : Nat → ClassId} {ad : Nat → Nat → Nat} {j : Nat} (h : j ≠ 95) : tqE301 z cy ad j = tqE300 z cy ad j := tq_ext_ne h
theorem tq_k302 {z : Nat} {cy : Nat → ClassId} {ad : Nat → Nat → Nat} {j : Nat} (h : j ≠ 1619) : tqE302 z cy ad j = tqE301 z cy ad j := tq_ext_ne h
theorem tq_k303 {z : Nat} {cy : Nat → ClassId} {ad : Nat → Nat → Nat} {j : Nat} (h : j ≠ 95) : tqE303 z cy ad j = tqE302 z cy ad j := tq_ext_ne h
theorem tq_k304 {z : Nat} {cy : Nat → ClassId} {ad : Nat → Nat → Nat} {j : Nat} (h : j ≠ 1620) : tqE304 z cy ad j = tqE303 z cy ad j := tq_ext_ne h
theorem tq_k305 {z : Nat} {cy : Nat → ClassId} {ad : Nat → Nat → Nat} {j : Nat} (h : j ≠ 95) : tqE305 z cy ad j = tqE304 z cy ad j := tq_ext_ne h
theorem tq_k306 {z : Nat} {cy : Nat → ClassId} {ad : Nat → Nat → Nat} {j : Nat} (h : j ≠ 1621) : tqE306 z cy ad j = tqE305 z cy ad j := tq_ext_ne h
theorem tq_k307 {z : Nat} {cy : Nat → ClassId} {ad : Nat → Nat → Nat} {j : Nat} (h : j ≠ 95) : tqE307 z cy ad j = tqE306 z cy ad j := tq_ext_ne h
theorem tq_k308 {z : Nat} {cy : Nat → ClassId} {ad : Nat → Nat → Nat} {j : Nat} (h : j ≠ 1622) : tqE308 z cy ad j = tqE307 z cy ad j := tq_ext_ne h
theorem tq_k309 {z : Nat} {cy : Nat → ClassId} {ad : Nat → Nat → Nat} {j : Nat} (h : j ≠ 95) : tqE309 z cy ad j = tqE308 z cy ad j := tq_ext_ne h
theorem tq_k310 {z : Nat} {cy : Nat → ClassId} {ad : Nat → Nat → Nat} {j : Nat} (h : j ≠ 1623) : tqE310 z cy ad j = tqE309 z cy ad j := tq_ext_ne h
theorem tq_k311 {z : Nat} {cy : Nat → ClassId} {ad : Nat → Nat → Nat} {j : Nat} (h : j ≠ 95) : tqE311 z cy ad j = tqE310 z cy ad j := tq_ext_ne h
theorem tq_k312 {z : Nat} {cy : Nat → ClassId} {ad : Nat → Nat → Nat} {j : Nat} (h : ¬ (1624 ≤ j ∧ j < 1631)) : tqE312 z cy ad j = tqE311 z cy ad j := (tq_extM_ne (by omega)).trans (tq_ext_ne (by omega))
theorem tq_k313 {z : Nat} {cy : Nat → ClassId} {ad : Nat → Nat → Nat} {j : Nat} (h : j ≠ 95) : tqE313 z cy ad j = tqE312 z cy ad j := tq_ext_ne h
theorem tq_k314 {z : Nat} {cy : Nat → ClassId} {ad : Nat → Nat → Nat} {j : Nat} (h : ¬ (1631 ≤ j ∧ j < 1638)) : tqE314 z cy ad j = tqE313 z cy ad j := (tq_extM_ne (by omega)).trans (tq_ext_ne (by omega))
theorem tq_k315 {z : Nat} {cy : Nat → ClassId} {ad : Nat → Nat → Nat} {j : Nat} (h : j ≠ 95) : tqE315 z cy ad j = tqE314 z cy ad j := tq_ext_ne h
theorem tq_k316 {z : Nat} {cy : Nat → ClassId} {ad : Nat → Nat → Nat} {j : Nat} (h : j ≠ 1638) : tqE316 z cy ad j = tqE315 z cy ad j := tq_ext_ne h
theorem tq_k317 {z : Nat} {cy : Nat → ClassId} {ad : Nat → Nat → Nat} {j : Nat} (h : j ≠ 95) : tqE317 z cy ad j = tqE316 z cy ad j := tq_ext_ne h
theorem tq_k318 {z : Nat} {cy : Nat → ClassId} {ad : Nat → Nat → Nat} {j : Nat} (h : j ≠ 1639) : tqE318 z cy ad j = tqE317 z cy ad j := tq_ext_ne h
theorem tq_k319 {z : Nat} {cy : Nat → ClassId} {ad : Nat → Nat → Nat} {j : Nat} (h : j ≠ 95) : tqE319 z cy ad j = tqE318 z cy ad j := tq_ext_ne h
theorem tq_k320 {z : Nat} {cy : Nat → ClassId} {ad : Nat → Nat → Nat} {j : Nat} (h : j ≠ 1640) : tqE320 z cy ad j = tqE319 z cy ad j := tq_ext_ne h
theorem tq_k321 {z : Nat} {cy : Nat → ClassId} {ad : Nat → Nat → Nat} {j : Nat} (h : j ≠ 95) : tqE321 z cy ad j = tqE320 z cy ad j := tq_ext_ne h
theorem tq_k322 {z : Nat} {cy : Nat → ClassId} {ad : Nat → Nat → Nat} {j : Nat} (h : j ≠ 1641) : tqE322 z cy ad j = tqE321 z cy ad j := tq_ext_ne h
theorem tq_k323 {z : Nat} {cy : Nat → ClassId} {ad : Nat → Nat → Nat} {j : Nat} (h : j ≠ 95) : tqE323 z cy ad j = tqE322 z cy ad j := tq_ext_ne h
theorem tq_k324 {z : Nat} {cy : Nat → ClassId} {ad : Nat → Nat → Nat} {j : Nat} (h : ¬ (1642 ≤ j ∧ j < 1647)) : tqE324 z cy ad j = tqE323 z cy ad j := (tq_extM_ne (by omega)).trans (tq_ext_ne (by omega))
theorem tq_k325 {z : Nat} {cy : Nat → ClassId} {ad : Nat → Nat → Nat} {j : Nat} (h : j ≠ 95) : tqE325 z cy ad j = tqE324 z cy ad j := tq_ext_ne h
theorem tq_k326 {z : Nat} {cy : Nat → ClassId} {ad : Nat → Nat → Nat} {j : Nat} (h : j ≠ 1647) : tqE326 z cy ad j = tqE325 z cy ad j := tq_ext_ne h
theorem tq_k327 {z : Nat} {cy : Nat → ClassId} {ad : Nat → Nat → Nat} {j : Nat} (h : j ≠ 95) : tqE327 z cy ad j = tqE326 z cy ad j := tq_ext_ne h
theorem tq_k328 {z : Nat} {cy : Nat → ClassId} {ad : Nat → Nat → Nat} {j : Nat} (h : j ≠ 1648) : tqE328 z cy ad j = tqE327 z cy ad j := tq_ext_ne h
theorem tq_k329 {z : Nat} {cy : Nat → ClassId} {ad : Nat → Nat → Nat} {j : Nat} (h : j ≠ 1648) : tqE329 z cy ad j = tqE328 z cy ad j := tq_ext_ne h
theorem tq_k330 {z : Nat} {cy : Nat → ClassId} {ad : Nat → Nat → Nat} {j : Nat} (h : j ≠ 1648) : tqE330 z cy ad j = tqE329 z cy ad j := tq_ext_ne h
theorem tq_k331 {z : Nat} {cy : Nat → ClassId} {ad : Nat → Nat → Nat} {j : Nat} (h : j ≠ 1648) : tqE331 z cy ad j = tqE330 z cy ad j := tq_ext_ne h
theorem tq_k332 {z : Nat} {cy : Nat → ClassId} {ad : Nat → Nat → Nat} {j : Nat} (h : j ≠ 95) : tqE332 z cy ad j = tqE331 z cy ad j := tq_ext_ne h
theorem tq_k333 {z : Nat} {cy : Nat → ClassId} {ad : Nat → Nat → Nat} {j : Nat} (h : ¬ (1649 ≤ j ∧ j < 1653)) : tqE333 z cy ad j = tqE332 z cy ad j := (tq_extM_ne (by omega)).trans (tq_ext_ne (by omega))
theorem tq_k334 {z : Nat} {cy : Nat → ClassId} {ad : Nat → Nat → Nat} {j : Nat} (h : j ≠ 95) : tqE334 z cy ad j = tqE333 z cy ad j := tq_ext_ne h
theorem tq_k335 {z : Nat} {cy : Nat → ClassId} {ad : Nat → Nat → Nat} {j : Nat} (h : j ≠ 1653) : tqE335 z cy ad j = tqE334 z cy ad j := tq_ext_ne h
theorem tq_k336 {z : Nat} {cy : Nat → ClassId} {ad : Nat → Nat → Nat} {j : Nat} (h : j ≠ 95) : tqE336 z cy ad j = tqE335 z cy ad j := tq_ext_ne h
theorem tq_k337 {z : Nat} {cy : Nat → ClassId} {ad : Nat → Nat → Nat} {j : Nat} (h : j ≠ 1654) : tqE337 z cy ad j = tqE336 z cy ad j := tq_ext_ne h
theorem tq_k338 {z : Nat} {cy : Nat → ClassId} {ad : Nat → Nat → Nat} {j : Nat} (h : j ≠ 95) : tqE338 z cy ad j = tqE337 z cy ad j := tq_ext_ne h
theorem tq_k339 {z : Nat} {cy : Nat → ClassId} {ad : Nat → Nat → Nat} {j : Nat} (h : j ≠ 1655) : tqE339 z cy ad j = tqE338 z cy ad j := tq_ext_ne h
theorem tq_k340 {z : Nat} {cy : Nat → ClassId} {ad : Nat → Nat → Nat} {j : Nat} (h : j ≠ 95) : tqE340 z cy ad j = tqE339 z cy ad j := tq_ext_ne h
theorem tq_k341 {z : Nat} {cy : Nat → ClassId} {ad : Nat → Nat → Nat} {j : Nat} (h : j ≠ 1656) : tqE341 z cy ad j = tqE340 z cy ad j := tq_ext_ne h
theorem tq_k342 {z : Nat} {cy : Nat → ClassId} {ad : Nat → Nat → Nat} {j : Nat} (h : j ≠ 95) : tqE342 z cy ad j = tqE341 z cy ad j := tq_ext_ne h
theorem tq_k343 {z : Nat} {cy : Nat → ClassId} {ad : Nat → Nat → Nat} {j : Nat} (h : j ≠ 1657) : tqE343 z cy ad j = tqE342 z cy ad j := tq_ext_ne h
theorem tq_k344 {z : Nat} {cy : Nat → ClassId} {ad : Nat → Nat → Nat} {j : Nat} (h : j ≠ 95) : tqE344 z cy ad j = tqE343 z cy ad j := tq_ext_ne h
theorem tq_k345 {z : Nat} {cy : Nat → ClassId} {ad : Nat → Nat → Nat} {j : Nat} (h : j ≠ 1658) : tqE345 z cy ad j = tqE344 z cy ad j := tq_ext_ne h
theorem tq_k346 {z : Nat} {cy : Nat → ClassId} {ad : Nat → Nat → Nat} {j : Nat} (h : j ≠ 95) : tqE346 z cy ad j = tqE345 z cy ad j := tq_ext_ne h
theorem tq_k347 {z : Nat} {cy : Nat → ClassId} {ad : Nat → Nat → Nat} {j : Nat} (h : j ≠ 1659) : tqE347 z cy ad j = tqE346 z cy ad j := tq_ext_ne h
theorem tq_k348 {z : Nat} {cy : Nat → ClassId} {ad : Nat → Nat → Nat} {j : Nat} (h : j ≠ 95) : tqE348 z cy ad j = tqE347 z cy ad j := tq_ext_ne h
theorem tq_k349 {z : Nat} {cy : Nat → ClassId} {ad : Nat → Nat → Nat} {j : Nat} (h : j ≠ 105) : tqE349 z cy ad j = tqE348 z cy ad j := tq_ext_ne h
theorem tq_k350 {z : Nat} {cy : Nat → ClassId} {ad : Nat → Nat → Nat} {j : Nat} (h : j ≠ 105) : tqE350 z cy ad j = tqE349 z cy ad j := tq_ext_ne h
theorem tq_k351 {z : Nat} {cy : Nat → ClassId} {ad : Nat → Nat → Nat} {j : Nat} (h : j ≠ 111) : tqE351 z cy ad j = tqE350 z cy ad j := tq_ext_ne h
theorem tq_k352 {z : Nat} {cy : Nat → ClassId} {ad : Nat → Nat → Nat} {j : Nat} (h : j ≠ 111) : tqE352 z cy ad j = tqE351 z cy ad j := tq_ext_ne h
theorem tq_k353 {z : Nat} {cy : Nat → ClassId} {ad : Nat → Nat → Nat} {j : Nat} (h : j ≠ 111) : tqE353 z cy ad j = tqE352 z cy ad j := tq_ext_ne h
theorem tq_k354 {z : Nat} {cy : Nat → ClassId} {ad : Nat → Nat → Nat} {j : Nat} (h : j ≠ 111) : tqE354 z cy ad j = tqE353 z cy ad j := tq_ext_ne h
theorem tq_k355 {z : Nat} {cy : Nat → ClassId} {ad : Nat → Nat → Nat} {j : Nat} (h : j ≠ 106) : tqE355 z cy ad j = tqE354 z cy ad j := tq_ext_ne h
theorem tq_k356 {z : Nat} {cy : Nat → ClassId} {ad : Nat → Nat → Nat} {j : Nat} (h : j ≠ 106) : tqE356 z cy ad j = tqE355 z cy ad j := tq_ext_ne h
theorem tq_k357 {z : Nat} {cy : Nat → ClassId} {ad : Nat → Nat → Nat} {j : Nat} (h : j ≠ 112) : tqE357 z cy ad j = tqE356 z cy ad j := tq_ext_ne h
theorem tq_k358 {z : Nat} {cy : Nat → ClassId} {ad : Nat → Nat → Nat} {j : Nat} (h : j ≠ 112) : tqE358 z cy ad j = tqE357 z cy ad j := tq_ext_ne h
theorem tq_k359 {z : Nat} {cy : Nat → ClassId} {ad : Nat → Nat → Nat} {j : Nat} (h : j ≠ 112) : tqE359 z cy ad j = tqE358 z cy ad j := tq_ext_ne h
theorem tq_k360 {z : Nat} {cy : Nat → ClassId} {ad : Nat → Nat → Nat} {j : Nat} (h : j ≠ 112) : tqE360 z cy ad j = tqE359 z cy ad j := tq_ext_ne h
theorem tq_k361 {z : Nat} {cy : Nat → ClassId} {ad : Nat → Nat → Nat} {j : Nat} (h : j ≠ 107) : tqE361 z cy ad j = tqE360 z cy ad j := tq_ext_ne h
theorem tq_k362 {z : Nat} {cy : Nat → ClassId} {ad : Nat → Nat → Nat} {j : Nat} (h : j ≠ 107) : tqE362 z cy ad j = tqE361 z cy ad j := tq_ext_ne h
theorem tq_k363 {z : Nat} {cy : Nat → ClassId} {ad : Nat → Nat → Nat} {j : Nat} (h : j ≠ 113) : tqE363 z cy ad j = tqE362 z cy ad j := tq_ext_ne h
theorem tq_k364 {z : Nat} {cy : Nat → ClassId} {ad : Nat → Nat → Nat} {j : Nat} (h : j ≠ 113) : tqE364 z cy ad j = tqE363 z cy ad j := tq_ext_ne h
theorem tq_k365 {z : Nat} {cy : Nat → ClassId} {ad : Nat → Nat → Nat} {j : Nat} (h : j ≠ 113) : tqE365 z cy ad j = tqE364 z cy ad j := tq_ext_ne h
theorem tq_k366 {z : Nat} {cy : Nat → ClassId} {ad : Nat → Nat → Nat} {j : Nat} (h : j ≠ 113) : tqE366 z cy ad j = tqE365 z cy ad j := tq_ext_ne h
theorem tq_k367 {z : Nat} {cy : Nat → ClassId} {ad : Nat → Nat → Nat} {j : Nat} (h : j ≠ 108) : tqE367 z cy ad j = tqE366 z cy ad j := tq_ext_ne h
theorem tq_k368 {z : Nat} {cy : Nat → ClassId} {ad : Nat → Nat → Nat} {j : Nat} (h : j ≠ 108) : tqE368 z cy ad j = tqE367 z cy ad j := tq_ext_ne h
theorem tq_k369 {z : Nat} {cy : Nat → ClassId} {ad : Nat → Nat → Nat} {j : Nat} (h : j ≠ 114) : tqE369 z cy ad j = tqE368 z cy ad j := tq_ext_ne h
theorem tq_k370 {z : Nat} {cy : Nat → ClassId} {ad : Nat → Nat → Nat} {j : Nat} (h : j ≠ 114) : tqE370 z cy ad j = tqE369 z cy ad j := tq_ext_ne h
theorem tq_k371 {z : Nat} {cy : Nat → ClassId} {ad : Nat → Nat → Nat} {j : Nat} (h : j ≠ 114) : tqE371 z cy ad j = tqE370 z cy ad j := tq_ext_ne h
theorem tq_k372 {z : Nat} {cy : Nat → ClassId} {ad : Nat → Nat → Nat} {j : Nat} (h : j ≠ 114) : tqE372 z cy ad j = tqE371 z cy ad j := tq_ext_ne h
theorem tq_k373 {z : Nat} {cy : Nat → ClassId} {ad : Nat → Nat → Nat} {j : Nat} (h : j ≠ 1640) : tqE373 z cy ad j = tqE372 z cy ad j := tq_ext_ne h
theorem tq_k374 {z : Nat} {cy : Nat → ClassId} {ad : Nat → Nat → Nat} {j : Nat} (h : j ≠ 1640) : tqE374 z cy ad j = tqE373 z cy ad j := tq_ext_ne h
theorem tq_k375 {z : Nat} {cy : Nat → ClassId} {ad : Nat → Nat → Nat} {j : Nat} (h : j ≠ 1640) : tqE375 z cy ad j = tqE374 z cy ad j := tq_ext_ne h
theorem tq_k376 {z : Nat} {cy : Nat → ClassId} {ad : Nat → Nat → Nat} {j : Nat} (h : j ≠ 1640) : tqE376 z cy ad j = tqE375 z cy ad j := tq_ext_ne h
theorem tq_k377 {z : Nat} {cy : Nat → ClassId} {ad : Nat → Nat → Nat} {j : Nat} (h : j ≠ 1640) : tqE377 z cy ad j = tqE376 z cy ad j := tq_ext_ne h
theorem tq_k378 {z : Nat} {cy : Nat → ClassId} {ad : Nat → Nat → Nat} {j : Nat} (h : j ≠ 1640) : tqE378 z cy ad j = tqE377 z cy ad j := tq_ext_ne h
theorem tq_k379 {z : Nat} {cy : Nat → ClassId} {ad : Nat → Nat → Nat} {j : Nat} (h : j ≠ 1640) : tqE379 z cy ad j = tqE378 z cy ad j := tq_ext_ne h
theorem tq_k380 {z : Nat} {cy : Nat → ClassId} {ad : Nat → Nat → Nat} {j : Nat} (h : j ≠ 1640) : tqE380 z cy ad j = tqE379 z cy ad j := tq_ext_ne h
theorem tq_low {z : Nat} {cy : Nat → ClassId} {ad : Nat → Nat → Nat} {j : Nat} (h : j < 95) : tqE380 z cy ad j = tqE222 z cy ad j := by
  rw [tq_k380 (by omega), tq_k379 (by omega), tq_k378 (by omega), tq_k377 (by omega), tq_k376 (by omega), tq_k375 (by omega), tq_k374 (by omega), tq_k373 (by omega), tq_k372 (by omega), tq_k371 (by omega), tq_k370 (by omega), tq_k369 (by omega), tq_k368 (by omega), tq_k367 (by omega), tq_k366 (by omega), tq_k365 (by omega), tq_k364 (by omega), tq_k363 (by omega), tq_k362 (by omega), tq_k361 (by omega), tq_k360 (by omega), tq_k359 (by omega), tq_k358 (by omega), tq_k357 (by omega), tq_k356 (by omega), tq_k355 (by omega), tq_k354 (by omega), tq_k353 (by omega), tq_k352 (by omega), tq_k351 (by omega), tq_k350 (by omega), tq_k349 (by omega), tq_k348 (by omega), tq_k347 (by omega), tq_k346 (by omega), tq_k345 (by omega), tq_k344 (by omega), tq_k343 (by omega), tq_k342 (by omega), tq_k341 (by omega), tq_k340 (by omega), tq_k339 (by omega), tq_k338 (by omega), tq_k337 (by omega), tq_k336 (by omega), tq_k335 (by omega), tq_k334 (by omega), tq_k333 (by omega), tq_k332 (by omega), tq_k331 (by omega), tq_k330 (by omega), tq_k329 (by omega), tq_k328 (by omega), tq_k327 (by omega), tq_k326 (by omega), tq_k325 (by omega), tq_k324 (by omega), tq_k323 (by omega), tq_k322 (by omega), tq_k321 (by omega), tq_k320 (by omega), tq_k319 (by omega), tq_k318 (by omega), tq_k317 (by omega), tq_k316 (by omega), tq_k315 (by omega), tq_k314 (by omega), tq_k313 (by omega), tq_k312 (by omega), tq_k311 (by omega), tq_k310 (by omega), tq_k309 (by omega), tq_k308 (by omega), tq_k307 (by omega), tq_k306 (by omega), tq_k305 (by omega), tq_k304 (by omega), tq_k303 (by omega), tq_k302 (by omega), tq_k301 (by omega), tq_k300 (by omega), tq_k299 (by omega), tq_k298 (by omega), tq_k297 (by omega), tq_k296 (by omega), tq_k295 (by omega), tq_k294 (by omega), tq_k293 (by omega), tq_k292 (by omega), tq_k291 (by omega), tq_k290 (by omega), tq_k289 (by omega), tq_k288 (by omega), tq_k287 (by omega), tq_k286 (by omega), tq_k285 (by omega), tq_k284 (by omega), tq_k283 (by omega), tq_k282 (by omega), tq_k281 (by omega), tq_k280 (by omega), tq_k279 (by omega), tq_k278 (by omega), tq_k277 (by omega), tq_k276 (by omega), tq_k275 (by omega), tq_k274 (by omega), tq_k273 (by omega), tq_k272 (by omega), tq_k271 (by omega), tq_k270 (by omega), tq_k269 (by omega), tq_k268 (by omega), tq_k267 (by omega), tq_k266 (by omega), tq_k265 (by omega), tq_k264 (by omega), tq_k263 (by omega), tq_k262 (by omega), tq_k261 (by omega), tq_k260 (by omega), tq_k259 (by omega), tq_k258 (by omega), tq_k257 (by omega), tq_k256 (by omega), tq_k255 (by omega), tq_k254 (by omega), tq_k253 (by omega), tq_k252 (by omega), tq_k251 (by omega), tq_k250 (by omega), tq_k249 (by omega), tq_k248 (by omega), tq_k247 (by omega), tq_k246 (by omega), tq_k245 (by omega), tq_k244 (by omega), tq_k243 (by omega), tq_k242 (by omega), tq_k241 (by omega), tq_k240 (by omega), tq_k239 (by omega), tq_k238 (by omega), tq_k237 (by omega), tq_k236 (by omega), tq_k235 (by omega), tq_k234 (by omega), tq_k233 (by omega), tq_k232 (by omega), tq_k231 (by omega), tq_k230 (by omega), tq_k229 (by omega), tq_k228 (by omega), tq_k227 (by omega), tq_k226 (by omega), tq_k225 (by omega), tq_k224 (by omega), tq_k223 (by omega)]
theorem tq_chC {k K : Nat} {P : Prop} {dP : Decidable P} {x : va_E} {y r : Option va_E} {e : va_E} (h : (if k = K then (if P then some x else y) else r) = some e) : (k = K ∧ ((P ∧ x = e) ∨ (¬ P ∧ y = some e))) ∨ (k ≠ K ∧ r = some e) := by
  by_cases h1 : k = K
  · rw [if_pos h1] at h
    by_cases h2 : P
    · rw [if_pos h2] at h
      exact Or.inl ⟨h1, Or.inl ⟨h2, Option.some.inj h⟩⟩
    · rw [if_neg h2] at h
      exact Or.inl ⟨h1, Or.inr ⟨h2, h⟩⟩
  · rw [if_neg h1] at h
    exact Or.inr ⟨h1, h⟩
theorem tq_arrq {x : ClassId} {n : Nat} {f g : Nat → Option Nat} (h : ∀ j : Nat, j < n → f j = g j) : vp_cell x (n, .inr (.inr (.inr (.inr f)))) = vp_cell x (n, .inr (.inr (.inr (.inr g)))) := by
  rw [vp_cell_q, vp_cell_q]
  unfold arrV
  congr 1
  apply Array.ext
  · simp
  · intro j h1 h2
    simp at h1
    simp [h j h1]
theorem tq_rw.q {D : va_G} {z n p len : Nat} {H0 H : Heap} {E : Nat → va_E} {x : ClassId} {f g : Nat → Option Nat} (hR : tq_rw D z n H0 E H) (hp : p < n) (he : E p = .inl (x, len, .inr (.inr (.inr (.inr f))))) (h : ∀ j : Nat, j < len → f j = g j) : va_at D vwCl (z + p, .inl (x, len, .inr (.inr (.inr (.inr g))))) H := by
  have h1 : H[z + p]? = some (vp_cell x (len, .inr (.inr (.inr (.inr f))))) := hR.at hp he
  show H[z + p]? = some (vp_cell x (len, .inr (.inr (.inr (.inr g)))))
  rw [← tq_arrq h]
  exact h1
