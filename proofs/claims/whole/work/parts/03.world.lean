/-! the store: what the cell i of the kind k holds at the place j (an object: its field j; an array: its item j) -/
abbrev tq_St : Type := Nat → Nat → Nat → Int32
/-- which cells of a kind there are: 1 (of kind 1, above 0: an object whose constructor has not run); N 0 0, N 0 1: how many cells, slots were made at most -/
abbrev tq_Nn : Type := Nat → Nat → Nat
def tq_up (S : tq_St) (k i j : Nat) (v : Int32) : tq_St := fun k' i' j' => if k' = k ∧ i' = i ∧ j' = j then v else S k' i' j'
theorem tq_up_self (S : tq_St) (k i j : Nat) (v : Int32) : tq_up S k i j v k i j = v := by simp [tq_up]
theorem tq_up_cell (S : tq_St) (k i j : Nat) (v : Int32) : tq_up S k i j v k i = upd (S k i) j v := by funext q; by_cases h : q = j <;> simp [tq_up, upd, h]
theorem tq_up_out {S : tq_St} {k i j k' i' : Nat} {v : Int32} (h : ¬ (k' = k ∧ i' = i)) : tq_up S k i j v k' i' = S k' i' := by funext q; simp only [tq_up]; rw [if_neg (fun z => h ⟨z.1, z.2.1⟩)]
/-- the codes of the fields: 0 an int; 1000 + k: the cell of the kind k of the same number; 3000 + k: null, or the cell of the kind k of the number less one -/
def tq_tb (k : Nat) : List Nat :=
  if k = 1 then [0, 1012, 0, 1013, 1014, 1015, 1017, 1019, 1021, 1022, 0, 1024, 1003, 1004, 1025, 1026, 0, 1027, 1005, 1029] else if k = 2 then [0, 0, 1030, 0, 0, 0, 1031, 1032, 0, 1033, 1034, 1035, 1036, 1038, 1040, 3007, 0] else if k = 3 then [1041, 0, 0, 0] else if k = 4 then [1042, 1044, 1046, 1047, 0] else if k = 5 then [1048, 0] else if k = 6 then [0, 0, 1049] else if k = 7 then [0, 0, 0, 0, 0, 1050, 1051, 1052, 0, 0, 0, 0, 0] else if k = 8 then [0, 0, 0, 0, 0, 0, 0, 0, 1054, 1055, 1056] else if k = 9 then [0, 0, 0, 0, 0, 0, 1057, 1058, 0, 0, 0, 0] else if k = 10 then [0, 0, 0, 0, 0, 0, 1059] else if k = 11 then [0, 0, 0, 0, 0, 0] else if k = 64 then [0, 1101, 1202, 1203, 1204, 1205, 0, 1107, 1108, 0, 1110, 1111, 1112, 1113, 1114, 1215, 1216, 1117, 1218, 1219, 1220, 0, 1122, 1123, 1124, 1125, 1126, 1227, 1128, 1229, 1130, 0, 1132, 1133, 1134, 1135, 1136, 1137, 1138, 1239, 1240, 1141, 1142, 0, 1244, 0, 1146, 1147, 1148, 1149, 1150, 1251, 1252, 1153, 1154, 0, 1156, 1157, 0, 1259, 1160, 0, 1162, 1263, 1164, 1165, 0, 0, 0, 0, 1170, 1171, 1172, 0, 0, 1175, 1176] else []
def tq_fty (k t : Nat) : Nat := (tq_tb k).getD t 0
def tq_nul (ad : Nat → Nat → Nat) (k : Nat) (x : Int32) : Option Nat := if x < 1 then none else some (ad k (x.toNatClampNeg - 1))
def tq_val (ad : Nat → Nat → Nat) (u i : Nat) (x : Int32) : Value := if u = 0 then .int x else if u < 3000 then .ref (ad (u - 1000) i) else va_rf (tq_nul ad (u - 3000) x)
def tq_fld (ad : Nat → Nat → Nat) (k i : Nat) (c : Nat → Int32) (t : Nat) : Value := tq_val ad (tq_fty k t) i (c t)
def tq_obj (ad : Nat → Nat → Nat) (ci nf k i : Nat) (c : Nat → Int32) : va_E := .inr (ci, (List.range nf).map (tq_fld ad k i c))
/-- a field of an object whose constructor runs: null yet, or what it has made for it -/
def tq_pf (x : Int32) (a : Nat) : Value := if x = 0 then .null else .ref a
/-- an object whose constructor has not ended -/
def tq_pend (ad : Nat → Nat → Nat) (n i : Nat) (c : Nat → Int32) : Option va_E := if n = 1 then some (.inr (4, [.int (c 0), .int (c 1), .int (c 2), .int (c 3), .int (c 4), tq_pf (c 5) (ad 50 i), tq_pf (c 6) (ad 51 i), tq_pf (c 7) (ad 52 i), .int (c 8), .int (c 9)])) else if n = 2 then some (.inr (2, [.int (c 0), .int (c 1), .int (c 2), .int (c 3), .int (c 4), tq_pf (c 5) (ad 50 i), tq_pf (c 6) (ad 51 i), tq_pf (c 7) (ad 52 i), .int (c 8), .int (c 9), .int (c 10), .int (c 11), .int (c 12)])) else if n = 3 then some (.inr (9, [.int (c 0), .int (c 1), .int (c 2), .int (c 3), .int (c 4), .int (c 5), .int (c 6), .int (c 7), tq_pf (c 8) (ad 54 i), tq_pf (c 9) (ad 55 i), tq_pf (c 10) (ad 56 i)])) else if n = 4 then some (.inr (11, [.int (c 0), .int (c 1), .int (c 2), .int (c 3), .int (c 4), .int (c 5), tq_pf (c 6) (ad 57 i), tq_pf (c 7) (ad 58 i), .int (c 8), .int (c 9), .int (c 10), .int (c 11)])) else if n = 5 then some (.inr (5, [.int (c 0), .int (c 1), .int (c 2), .int (c 3), .int (c 4), .int (c 5), tq_pf (c 6) (ad 59 i)])) else if n = 6 then some (.inr (10, [.int (c 0), .int (c 1), .int (c 2), .int (c 3), .int (c 4), .int (c 5)])) else none
def tq_mkC (cy : Nat → ClassId) (ad : Nat → Nat → Nat) (n : Nat) (k i : Nat) (c : Nat → Int32) : Option va_E :=
  if k = 1 then (if i < 1 then some (tq_obj ad 12 20 1 i c) else tq_pend ad n i c)
  else if k = 2 then (if i < 5 then some (tq_obj ad 6 17 2 i c) else none)
  else if k = 3 then (if i < 1 then some (tq_obj ad 7 4 3 i c) else none)
  else if k = 4 then (if i < 1 then some (tq_obj ad 3 5 4 i c) else none)
  else if k = 5 then (if i < 1 then some (tq_obj ad 1 2 5 i c) else none)
  else if k = 6 then (if i < 3 then some (tq_obj ad 8 3 6 i c) else none)
  else if k = 7 then (if n = 1 then some (if c 13 = 0 then tq_obj ad 4 10 7 i c else tq_obj ad 2 13 7 i c) else none)
  else if k = 8 then (if n = 1 then some (tq_obj ad 9 11 8 i c) else none)
  else if k = 9 then (if n = 1 then some (tq_obj ad 11 12 9 i c) else none)
  else if k = 10 then (if n = 1 then some (tq_obj ad 5 7 10 i c) else none)
  else if k = 11 then (if n = 1 then some (tq_obj ad 10 6 11 i c) else none)
  else if k = 12 then (if i < 1 then some (.inl (cy 3, 5, .inr (.inr (.inr (.inr (fun j => some (ad 2 j))))))) else if n = 1 then some (.inl (cy 0, 5, .inl c)) else none)
  else if k = 13 then (if i < 1 then some (.inl (cy 0, 20, .inl c)) else none)
  else if k = 14 then (if i < 1 then some (.inl (cy 0, 20, .inl c)) else none)
  else if k = 15 then (if i < 1 then some (.inr (0, [.int (c 0), .ref (if c 1 = 0 then ad 0 0 else ad 16 (c 1).toNatClampNeg), .int (c 2)])) else none)
  else if k = 16 then (if n = 1 then some (.inl (cy 5, (c 0).toNatClampNeg, .inr (.inr (.inr (.inr (fun j => tq_nul ad 7 (c (j + 1)))))))) else none)
  else if k = 17 then (if i < 1 then some (.inr (0, [.int (c 0), .ref (if c 1 = 0 then ad 0 0 else ad 18 (c 1).toNatClampNeg), .int (c 2)])) else none)
  else if k = 18 then (if n = 1 then some (.inl (cy 5, (c 0).toNatClampNeg, .inr (.inr (.inr (.inr (fun j => tq_nul ad 7 (c (j + 1)))))))) else none)
  else if k = 19 then (if i < 1 then some (.inr (0, [.int (c 0), .ref (if c 1 = 0 then ad 0 0 else ad 20 (c 1).toNatClampNeg), .int (c 2)])) else none)
  else if k = 20 then (if n = 1 then some (.inl (cy 5, (c 0).toNatClampNeg, .inr (.inr (.inr (.inr (fun j => tq_nul ad 8 (c (j + 1)))))))) else none)
  else if k = 21 then (if i < 1 then some (.inl (cy 0, 4, .inl c)) else none)
  else if k = 22 then (if i < 1 then some (.inr (0, [.int (c 0), .ref (if c 1 = 0 then ad 0 0 else ad 23 (c 1).toNatClampNeg), .int (c 2)])) else none)
  else if k = 23 then (if n = 1 then some (.inl (cy 5, (c 0).toNatClampNeg, .inr (.inr (.inr (.inr (fun j => tq_nul ad 9 (c (j + 1)))))))) else none)
  else if k = 24 then (if i < 1 then some (.inl (cy 0, 4000, .inl c)) else none)
  else if k = 25 then (if i < 1 then some (.inl (cy 0, 8, .inl c)) else none)
  else if k = 26 then (if i < 1 then some (.inl (cy 0, 8, .inl c)) else none)
  else if k = 27 then (if i < 1 then some (.inl (cy 2, 4, .inr (.inr (.inr (.inr (fun j => some (ad 28 j))))))) else none)
  else if k = 28 then (if i < 4 then some (.inl (cy 0, 4, .inl c)) else none)
  else if k = 29 then (if i < 1 then some (.inl (cy 4, 3, .inr (.inr (.inr (.inr (fun j => some (ad 6 j))))))) else none)
  else if k = 30 then (if i < 5 then some (.inl (cy 0, 4, .inl c)) else none)
  else if k = 31 then (if i < 5 then some (.inl (cy 0, 4, .inl c)) else none)
  else if k = 32 then (if i < 5 then some (.inl (cy 0, 4, .inl c)) else none)
  else if k = 33 then (if i < 5 then some (.inl (cy 0, 4, .inl c)) else none)
  else if k = 34 then (if i < 5 then some (.inl (cy 0, 4, .inl c)) else none)
  else if k = 35 then (if i < 5 then some (.inl (cy 0, 4, .inl c)) else none)
  else if k = 36 then (if i < 5 then some (.inr (0, [.int (c 0), .ref (if c 1 = 0 then ad 0 0 else ad 37 (c 1).toNatClampNeg), .int (c 2)])) else none)
  else if k = 37 then (if n = 1 then some (.inl (cy 5, (c 0).toNatClampNeg, .inr (.inr (.inr (.inr (fun j => tq_nul ad 7 (c (j + 1)))))))) else none)
  else if k = 38 then (if i < 5 then some (.inr (0, [.int (c 0), .ref (if c 1 = 0 then ad 0 0 else ad 39 (c 1).toNatClampNeg), .int (c 2)])) else none)
  else if k = 39 then (if n = 1 then some (.inl (cy 5, (c 0).toNatClampNeg, .inr (.inr (.inr (.inr (fun j => tq_nul ad 10 (c (j + 1)))))))) else none)
  else if k = 40 then (if i < 5 then some (.inl (cy 0, 28, .inl c)) else none)
  else if k = 41 then (if i < 1 then some (.inl (cy 0, 120, .inl c)) else none)
  else if k = 42 then (if i < 1 then some (.inl (cy 2, 6, .inr (.inr (.inr (.inr (fun j => some (ad 43 j))))))) else none)
  else if k = 43 then (if i < 6 then some (.inl (cy 0, 4, .inl c)) else none)
  else if k = 44 then (if i < 1 then some (.inl (cy 2, 6, .inr (.inr (.inr (.inr (fun j => some (ad 45 j))))))) else none)
  else if k = 45 then (if i < 6 then some (.inl (cy 0, 4, .inl c)) else none)
  else if k = 46 then (if i < 1 then some (.inl (cy 0, 6, .inl c)) else none)
  else if k = 47 then (if i < 1 then some (.inl (cy 0, 6, .inl c)) else none)
  else if k = 48 then (if i < 1 then some (.inl (cy 0, 20, .inl c)) else none)
  else if k = 49 then (if i < 3 then some (.inl (cy 0, 64, .inl c)) else none)
  else if k = 50 then (if n = 1 then some (.inl (cy 0, 5, .inl c)) else none)
  else if k = 51 then (if n = 1 then some (.inl (cy 0, 4, .inl c)) else none)
  else if k = 52 then (if n = 1 then some (.inr (0, [.int (c 0), .ref (if c 1 = 0 then ad 0 0 else ad 53 (c 1).toNatClampNeg), .int (c 2)])) else none)
  else if k = 53 then (if n = 1 then some (.inl (cy 5, (c 0).toNatClampNeg, .inr (.inr (.inr (.inr (fun j => tq_nul ad 10 (c (j + 1)))))))) else none)
  else if k = 54 then (if n = 1 then some (.inl (cy 0, 4, .inl c)) else none)
  else if k = 55 then (if n = 1 then some (.inl (cy 0, 20, .inl c)) else none)
  else if k = 56 then (if n = 1 then some (.inl (cy 0, 150, .inl c)) else none)
  else if k = 57 then (if n = 1 then some (.inl (cy 0, 4, .inl c)) else none)
  else if k = 58 then (if n = 1 then some (.inl (cy 0, 4, .inl c)) else none)
  else if k = 59 then (if n = 1 then some (.inr (0, [.int (c 0), .ref (if c 1 = 0 then ad 0 0 else ad 60 (c 1).toNatClampNeg), .int (c 2)])) else none)
  else if k = 60 then (if n = 1 then some (.inl (cy 5, (c 0).toNatClampNeg, .inr (.inr (.inr (.inr (fun j => tq_nul ad 11 (c (j + 1)))))))) else none)
  else none
def tq_mkM (cy : Nat → ClassId) (ad : Nat → Nat → Nat) (k i : Nat) (c : Nat → Int32) : Option va_E :=
  if k = 64 then (if i < 1 then some (tq_obj ad 13 77 64 i c) else none)
  else if k = 101 then (if i < 1 then some (.inl (cy 0, 5, .inl c)) else none)
  else if k = 202 then (if i < 1 then some (.inl (cy 2, 5, .inr (.inr (.inr (.inr (fun j => some (ad 102 j))))))) else none)
  else if k = 102 then (if i < 5 then some (.inl (cy 0, 4, .inl c)) else none)
  else if k = 203 then (if i < 1 then some (.inl (cy 2, 5, .inr (.inr (.inr (.inr (fun j => some (ad 103 j))))))) else none)
  else if k = 103 then (if i < 5 then some (.inl (cy 0, 3, .inl c)) else none)
  else if k = 204 then (if i < 1 then some (.inl (cy 2, 5, .inr (.inr (.inr (.inr (fun j => some (ad 104 j))))))) else none)
  else if k = 104 then (if i < 5 then some (.inl (cy 0, 4, .inl c)) else none)
  else if k = 205 then (if i < 1 then some (.inl (cy 2, 5, .inr (.inr (.inr (.inr (fun j => some (ad 105 j))))))) else none)
  else if k = 105 then (if i < 5 then some (.inl (cy 0, 4, .inl c)) else none)
  else if k = 107 then (if i < 1 then some (.inl (cy 0, 20, .inl c)) else none)
  else if k = 108 then (if i < 1 then some (.inl (cy 0, 20, .inl c)) else none)
  else if k = 110 then (if i < 1 then some (.inl (cy 0, 150, .inl c)) else none)
  else if k = 111 then (if i < 1 then some (.inl (cy 0, 150, .inl c)) else none)
  else if k = 112 then (if i < 1 then some (.inl (cy 0, 150, .inl c)) else none)
  else if k = 113 then (if i < 1 then some (.inl (cy 0, 150, .inl c)) else none)
  else if k = 114 then (if i < 1 then some (.inl (cy 0, 150, .inl c)) else none)
  else if k = 215 then (if i < 1 then some (.inl (cy 2, 150, .inr (.inr (.inr (.inr (fun j => some (ad 115 j))))))) else none)
  else if k = 115 then (if i < 150 then some (.inl (cy 0, 5, .inl c)) else none)
  else if k = 216 then (if i < 1 then some (.inl (cy 2, 150, .inr (.inr (.inr (.inr (fun j => some (ad 116 j))))))) else none)
  else if k = 116 then (if i < 150 then some (.inl (cy 0, 4, .inl c)) else none)
  else if k = 117 then (if i < 1 then some (.inl (cy 0, 150, .inl c)) else none)
  else if k = 218 then (if i < 1 then some (.inl (cy 2, 150, .inr (.inr (.inr (.inr (fun j => some (ad 118 j))))))) else none)
  else if k = 118 then (if i < 150 then some (.inl (cy 0, 24, .inl c)) else none)
  else if k = 219 then (if i < 1 then some (.inl (cy 2, 150, .inr (.inr (.inr (.inr (fun j => some (ad 119 j))))))) else none)
  else if k = 119 then (if i < 150 then some (.inl (cy 0, 144, .inl c)) else none)
  else if k = 220 then (if i < 1 then some (.inl (cy 2, 150, .inr (.inr (.inr (.inr (fun j => some (ad 120 j))))))) else none)
  else if k = 120 then (if i < 150 then some (.inl (cy 0, 8, .inl c)) else none)
  else if k = 122 then (if i < 1 then some (.inl (cy 0, 8, .inl c)) else none)
  else if k = 123 then (if i < 1 then some (.inl (cy 0, 8, .inl c)) else none)
  else if k = 124 then (if i < 1 then some (.inl (cy 0, 8, .inl c)) else none)
  else if k = 125 then (if i < 1 then some (.inl (cy 1, 8, .inl c)) else none)
  else if k = 126 then (if i < 1 then some (.inl (cy 0, 4, .inl c)) else none)
  else if k = 227 then (if i < 1 then some (.inl (cy 2, 8, .inr (.inr (.inr (.inr (fun j => some (ad 127 j))))))) else none)
  else if k = 127 then (if i < 8 then some (.inl (cy 0, 4, .inl c)) else none)
  else if k = 128 then (if i < 1 then some (.inl (cy 0, 8, .inl c)) else none)
  else if k = 229 then (if i < 1 then some (.inl (cy 2, 8, .inr (.inr (.inr (.inr (fun j => some (ad 129 j))))))) else none)
  else if k = 129 then (if i < 8 then some (.inl (cy 0, 20, .inl c)) else none)
  else if k = 130 then (if i < 1 then some (.inl (cy 0, 8, .inl c)) else none)
  else if k = 132 then (if i < 1 then some (.inl (cy 0, 99, .inl c)) else none)
  else if k = 133 then (if i < 1 then some (.inl (cy 0, 99, .inl c)) else none)
  else if k = 134 then (if i < 1 then some (.inl (cy 0, 99, .inl c)) else none)
  else if k = 135 then (if i < 1 then some (.inl (cy 0, 99, .inl c)) else none)
  else if k = 136 then (if i < 1 then some (.inl (cy 0, 99, .inl c)) else none)
  else if k = 137 then (if i < 1 then some (.inl (cy 1, 99, .inl c)) else none)
  else if k = 138 then (if i < 1 then some (.inl (cy 0, 99, .inl c)) else none)
  else if k = 239 then (if i < 1 then some (.inl (cy 2, 99, .inr (.inr (.inr (.inr (fun j => some (ad 139 j))))))) else none)
  else if k = 139 then (if i < 99 then some (.inl (cy 0, 4, .inl c)) else none)
  else if k = 240 then (if i < 1 then some (.inl (cy 2, 99, .inr (.inr (.inr (.inr (fun j => some (ad 140 j))))))) else none)
  else if k = 140 then (if i < 99 then some (.inl (cy 0, 4, .inl c)) else none)
  else if k = 141 then (if i < 1 then some (.inl (cy 0, 99, .inl c)) else none)
  else if k = 142 then (if i < 1 then some (.inl (cy 0, 99, .inl c)) else none)
  else if k = 244 then (if i < 1 then some (.inl (cy 2, 500, .inr (.inr (.inr (.inr (fun j => some (ad 144 j))))))) else none)
  else if k = 144 then (if i < 500 then some (.inl (cy 0, 8, .inl c)) else none)
  else if k = 146 then (if i < 1 then some (.inl (cy 0, 64, .inl c)) else none)
  else if k = 147 then (if i < 1 then some (.inl (cy 0, 64, .inl c)) else none)
  else if k = 148 then (if i < 1 then some (.inl (cy 0, 64, .inl c)) else none)
  else if k = 149 then (if i < 1 then some (.inl (cy 0, 64, .inl c)) else none)
  else if k = 150 then (if i < 1 then some (.inl (cy 0, 64, .inl c)) else none)
  else if k = 251 then (if i < 1 then some (.inl (cy 2, 6, .inr (.inr (.inr (.inr (fun j => some (ad 151 j))))))) else none)
  else if k = 151 then (if i < 6 then some (.inl (cy 0, 4, .inl c)) else none)
  else if k = 252 then (if i < 1 then some (.inl (cy 2, 6, .inr (.inr (.inr (.inr (fun j => some (ad 152 j))))))) else none)
  else if k = 152 then (if i < 6 then some (.inl (cy 0, 4, .inl c)) else none)
  else if k = 153 then (if i < 1 then some (.inl (cy 0, 6, .inl c)) else none)
  else if k = 154 then (if i < 1 then some (.inl (cy 0, 6, .inl c)) else none)
  else if k = 156 then (if i < 1 then some (.inl (cy 0, 8, .inl c)) else none)
  else if k = 157 then (if i < 1 then some (.inl (cy 0, 8, .inl c)) else none)
  else if k = 259 then (if i < 1 then some (.inl (cy 2, 4, .inr (.inr (.inr (.inr (fun j => some (ad 159 j))))))) else none)
  else if k = 159 then (if i < 4 then some (.inl (cy 0, 4, .inl c)) else none)
  else if k = 160 then (if i < 1 then some (.inl (cy 0, 120, .inl c)) else none)
  else if k = 162 then (if i < 1 then some (.inl (cy 0, 3, .inl c)) else none)
  else if k = 263 then (if i < 1 then some (.inl (cy 2, 3, .inr (.inr (.inr (.inr (fun j => some (ad 163 j))))))) else none)
  else if k = 163 then (if i < 3 then some (.inl (cy 0, 64, .inl c)) else none)
  else if k = 164 then (if i < 1 then some (.inl (cy 0, 3, .inl c)) else none)
  else if k = 165 then (if i < 1 then some (.inl (cy 0, 20, .inl c)) else none)
  else if k = 170 then (if i < 1 then some (.inl (cy 0, 4, .inl c)) else none)
  else if k = 171 then (if i < 1 then some (.inl (cy 0, 6, .inl c)) else none)
  else if k = 172 then (if i < 1 then some (.inl (cy 0, 900, .inl c)) else none)
  else if k = 175 then (if i < 1 then some (.inl (cy 0, 4, .inl c)) else none)
  else if k = 176 then (if i < 1 then some (.inl (cy 0, 5, .inl c)) else none)
  else none
def tq_mk (cy : Nat → ClassId) (ad : Nat → Nat → Nat) (N : tq_Nn) (k i : Nat) (c : Nat → Int32) : Option va_E := if k < 64 then tq_mkC cy ad (N k i) k i c else tq_mkM cy ad k i c
theorem tq_mk_1 {cy : Nat → ClassId} {ad : Nat → Nat → Nat} {N : tq_Nn} {i : Nat} {c : Nat → Int32} (h : i < 1) : tq_mk cy ad N 1 i c = some (tq_obj ad 12 20 1 i c) := (show (if i < 1 then some ((tq_obj ad 12 20 1 i c) : va_E) else tq_pend ad (N 1 i) i c) = _ from if_pos h)
theorem tq_mk_p {cy : Nat → ClassId} {ad : Nat → Nat → Nat} {N : tq_Nn} {i : Nat} {c : Nat → Int32} (h : ¬ i < 1) : tq_mk cy ad N 1 i c = tq_pend ad (N 1 i) i c := (show (if i < 1 then _ else tq_pend ad (N 1 i) i c) = _ from if_neg h)
theorem tq_mk_2 {cy : Nat → ClassId} {ad : Nat → Nat → Nat} {N : tq_Nn} {i : Nat} {c : Nat → Int32} (h : i < 5) : tq_mk cy ad N 2 i c = some (tq_obj ad 6 17 2 i c) := (show (if i < 5 then some ((tq_obj ad 6 17 2 i c) : va_E) else none) = _ from if_pos h)
theorem tq_mk_3 {cy : Nat → ClassId} {ad : Nat → Nat → Nat} {N : tq_Nn} {i : Nat} {c : Nat → Int32} (h : i < 1) : tq_mk cy ad N 3 i c = some (tq_obj ad 7 4 3 i c) := (show (if i < 1 then some ((tq_obj ad 7 4 3 i c) : va_E) else none) = _ from if_pos h)
theorem tq_mk_4 {cy : Nat → ClassId} {ad : Nat → Nat → Nat} {N : tq_Nn} {i : Nat} {c : Nat → Int32} (h : i < 1) : tq_mk cy ad N 4 i c = some (tq_obj ad 3 5 4 i c) := (show (if i < 1 then some ((tq_obj ad 3 5 4 i c) : va_E) else none) = _ from if_pos h)
theorem tq_mk_5 {cy : Nat → ClassId} {ad : Nat → Nat → Nat} {N : tq_Nn} {i : Nat} {c : Nat → Int32} (h : i < 1) : tq_mk cy ad N 5 i c = some (tq_obj ad 1 2 5 i c) := (show (if i < 1 then some ((tq_obj ad 1 2 5 i c) : va_E) else none) = _ from if_pos h)
theorem tq_mk_6 {cy : Nat → ClassId} {ad : Nat → Nat → Nat} {N : tq_Nn} {i : Nat} {c : Nat → Int32} (h : i < 3) : tq_mk cy ad N 6 i c = some (tq_obj ad 8 3 6 i c) := (show (if i < 3 then some ((tq_obj ad 8 3 6 i c) : va_E) else none) = _ from if_pos h)
theorem tq_mk_7 {cy : Nat → ClassId} {ad : Nat → Nat → Nat} {N : tq_Nn} {i : Nat} {c : Nat → Int32} (h : N 7 i = 1) (hb : c 13 = 0) : tq_mk cy ad N 7 i c = some (tq_obj ad 4 10 7 i c) := (show (if N 7 i = 1 then some (if c 13 = 0 then tq_obj ad 4 10 7 i c else tq_obj ad 2 13 7 i c) else none) = _ from by rw [if_pos h, if_pos hb])
theorem tq_mk_7b {cy : Nat → ClassId} {ad : Nat → Nat → Nat} {N : tq_Nn} {i : Nat} {c : Nat → Int32} (h : N 7 i = 1) (hb : ¬ c 13 = 0) : tq_mk cy ad N 7 i c = some (tq_obj ad 2 13 7 i c) := (show (if N 7 i = 1 then some (if c 13 = 0 then tq_obj ad 4 10 7 i c else tq_obj ad 2 13 7 i c) else none) = _ from by rw [if_pos h, if_neg hb])
theorem tq_mk_8 {cy : Nat → ClassId} {ad : Nat → Nat → Nat} {N : tq_Nn} {i : Nat} {c : Nat → Int32} (h : N 8 i = 1) : tq_mk cy ad N 8 i c = some (tq_obj ad 9 11 8 i c) := (show (if N 8 i = 1 then some ((tq_obj ad 9 11 8 i c) : va_E) else none) = _ from if_pos h)
theorem tq_mk_9 {cy : Nat → ClassId} {ad : Nat → Nat → Nat} {N : tq_Nn} {i : Nat} {c : Nat → Int32} (h : N 9 i = 1) : tq_mk cy ad N 9 i c = some (tq_obj ad 11 12 9 i c) := (show (if N 9 i = 1 then some ((tq_obj ad 11 12 9 i c) : va_E) else none) = _ from if_pos h)
theorem tq_mk_10 {cy : Nat → ClassId} {ad : Nat → Nat → Nat} {N : tq_Nn} {i : Nat} {c : Nat → Int32} (h : N 10 i = 1) : tq_mk cy ad N 10 i c = some (tq_obj ad 5 7 10 i c) := (show (if N 10 i = 1 then some ((tq_obj ad 5 7 10 i c) : va_E) else none) = _ from if_pos h)
theorem tq_mk_11 {cy : Nat → ClassId} {ad : Nat → Nat → Nat} {N : tq_Nn} {i : Nat} {c : Nat → Int32} (h : N 11 i = 1) : tq_mk cy ad N 11 i c = some (tq_obj ad 10 6 11 i c) := (show (if N 11 i = 1 then some ((tq_obj ad 10 6 11 i c) : va_E) else none) = _ from if_pos h)
theorem tq_mk_12 {cy : Nat → ClassId} {ad : Nat → Nat → Nat} {N : tq_Nn} {i : Nat} {c : Nat → Int32} (h : i < 1) : tq_mk cy ad N 12 i c = some (.inl (cy 3, 5, .inr (.inr (.inr (.inr (fun j => some (ad 2 j))))))) := (show (if i < 1 then some ((.inl (cy 3, 5, .inr (.inr (.inr (.inr (fun j => some (ad 2 j))))))) : va_E) else if N 12 i = 1 then some ((.inl (cy 0, 5, .inl c)) : va_E) else none) = _ from if_pos h)
theorem tq_mk_b {cy : Nat → ClassId} {ad : Nat → Nat → Nat} {N : tq_Nn} {i : Nat} {c : Nat → Int32} (h0 : ¬ i < 1) (h : N 12 i = 1) : tq_mk cy ad N 12 i c = some (.inl (cy 0, 5, .inl c)) := (show (if i < 1 then _ else if N 12 i = 1 then some ((.inl (cy 0, 5, .inl c)) : va_E) else none) = _ from by rw [if_neg h0, if_pos h])
theorem tq_mk_13 {cy : Nat → ClassId} {ad : Nat → Nat → Nat} {N : tq_Nn} {i : Nat} {c : Nat → Int32} (h : i < 1) : tq_mk cy ad N 13 i c = some (.inl (cy 0, 20, .inl c)) := (show (if i < 1 then some ((.inl (cy 0, 20, .inl c)) : va_E) else none) = _ from if_pos h)
theorem tq_mk_14 {cy : Nat → ClassId} {ad : Nat → Nat → Nat} {N : tq_Nn} {i : Nat} {c : Nat → Int32} (h : i < 1) : tq_mk cy ad N 14 i c = some (.inl (cy 0, 20, .inl c)) := (show (if i < 1 then some ((.inl (cy 0, 20, .inl c)) : va_E) else none) = _ from if_pos h)
theorem tq_mk_15 {cy : Nat → ClassId} {ad : Nat → Nat → Nat} {N : tq_Nn} {i : Nat} {c : Nat → Int32} (h : i < 1) : tq_mk cy ad N 15 i c = some (.inr (0, [.int (c 0), .ref (if c 1 = 0 then ad 0 0 else ad 16 (c 1).toNatClampNeg), .int (c 2)])) := (show (if i < 1 then some ((.inr (0, [.int (c 0), .ref (if c 1 = 0 then ad 0 0 else ad 16 (c 1).toNatClampNeg), .int (c 2)])) : va_E) else none) = _ from if_pos h)
theorem tq_mk_16 {cy : Nat → ClassId} {ad : Nat → Nat → Nat} {N : tq_Nn} {i : Nat} {c : Nat → Int32} (h : N 16 i = 1) : tq_mk cy ad N 16 i c = some (.inl (cy 5, (c 0).toNatClampNeg, .inr (.inr (.inr (.inr (fun j => tq_nul ad 7 (c (j + 1)))))))) := (show (if N 16 i = 1 then some ((.inl (cy 5, (c 0).toNatClampNeg, .inr (.inr (.inr (.inr (fun j => tq_nul ad 7 (c (j + 1)))))))) : va_E) else none) = _ from if_pos h)
theorem tq_mk_17 {cy : Nat → ClassId} {ad : Nat → Nat → Nat} {N : tq_Nn} {i : Nat} {c : Nat → Int32} (h : i < 1) : tq_mk cy ad N 17 i c = some (.inr (0, [.int (c 0), .ref (if c 1 = 0 then ad 0 0 else ad 18 (c 1).toNatClampNeg), .int (c 2)])) := (show (if i < 1 then some ((.inr (0, [.int (c 0), .ref (if c 1 = 0 then ad 0 0 else ad 18 (c 1).toNatClampNeg), .int (c 2)])) : va_E) else none) = _ from if_pos h)
theorem tq_mk_18 {cy : Nat → ClassId} {ad : Nat → Nat → Nat} {N : tq_Nn} {i : Nat} {c : Nat → Int32} (h : N 18 i = 1) : tq_mk cy ad N 18 i c = some (.inl (cy 5, (c 0).toNatClampNeg, .inr (.inr (.inr (.inr (fun j => tq_nul ad 7 (c (j + 1)))))))) := (show (if N 18 i = 1 then some ((.inl (cy 5, (c 0).toNatClampNeg, .inr (.inr (.inr (.inr (fun j => tq_nul ad 7 (c (j + 1)))))))) : va_E) else none) = _ from if_pos h)
theorem tq_mk_19 {cy : Nat → ClassId} {ad : Nat → Nat → Nat} {N : tq_Nn} {i : Nat} {c : Nat → Int32} (h : i < 1) : tq_mk cy ad N 19 i c = some (.inr (0, [.int (c 0), .ref (if c 1 = 0 then ad 0 0 else ad 20 (c 1).toNatClampNeg), .int (c 2)])) := (show (if i < 1 then some ((.inr (0, [.int (c 0), .ref (if c 1 = 0 then ad 0 0 else ad 20 (c 1).toNatClampNeg), .int (c 2)])) : va_E) else none) = _ from if_pos h)
theorem tq_mk_20 {cy : Nat → ClassId} {ad : Nat → Nat → Nat} {N : tq_Nn} {i : Nat} {c : Nat → Int32} (h : N 20 i = 1) : tq_mk cy ad N 20 i c = some (.inl (cy 5, (c 0).toNatClampNeg, .inr (.inr (.inr (.inr (fun j => tq_nul ad 8 (c (j + 1)))))))) := (show (if N 20 i = 1 then some ((.inl (cy 5, (c 0).toNatClampNeg, .inr (.inr (.inr (.inr (fun j => tq_nul ad 8 (c (j + 1)))))))) : va_E) else none) = _ from if_pos h)
theorem tq_mk_21 {cy : Nat → ClassId} {ad : Nat → Nat → Nat} {N : tq_Nn} {i : Nat} {c : Nat → Int32} (h : i < 1) : tq_mk cy ad N 21 i c = some (.inl (cy 0, 4, .inl c)) := (show (if i < 1 then some ((.inl (cy 0, 4, .inl c)) : va_E) else none) = _ from if_pos h)
theorem tq_mk_22 {cy : Nat → ClassId} {ad : Nat → Nat → Nat} {N : tq_Nn} {i : Nat} {c : Nat → Int32} (h : i < 1) : tq_mk cy ad N 22 i c = some (.inr (0, [.int (c 0), .ref (if c 1 = 0 then ad 0 0 else ad 23 (c 1).toNatClampNeg), .int (c 2)])) := (show (if i < 1 then some ((.inr (0, [.int (c 0), .ref (if c 1 = 0 then ad 0 0 else ad 23 (c 1).toNatClampNeg), .int (c 2)])) : va_E) else none) = _ from if_pos h)
theorem tq_mk_23 {cy : Nat → ClassId} {ad : Nat → Nat → Nat} {N : tq_Nn} {i : Nat} {c : Nat → Int32} (h : N 23 i = 1) : tq_mk cy ad N 23 i c = some (.inl (cy 5, (c 0).toNatClampNeg, .inr (.inr (.inr (.inr (fun j => tq_nul ad 9 (c (j + 1)))))))) := (show (if N 23 i = 1 then some ((.inl (cy 5, (c 0).toNatClampNeg, .inr (.inr (.inr (.inr (fun j => tq_nul ad 9 (c (j + 1)))))))) : va_E) else none) = _ from if_pos h)
theorem tq_mk_24 {cy : Nat → ClassId} {ad : Nat → Nat → Nat} {N : tq_Nn} {i : Nat} {c : Nat → Int32} (h : i < 1) : tq_mk cy ad N 24 i c = some (.inl (cy 0, 4000, .inl c)) := (show (if i < 1 then some ((.inl (cy 0, 4000, .inl c)) : va_E) else none) = _ from if_pos h)
theorem tq_mk_25 {cy : Nat → ClassId} {ad : Nat → Nat → Nat} {N : tq_Nn} {i : Nat} {c : Nat → Int32} (h : i < 1) : tq_mk cy ad N 25 i c = some (.inl (cy 0, 8, .inl c)) := (show (if i < 1 then some ((.inl (cy 0, 8, .inl c)) : va_E) else none) = _ from if_pos h)
theorem tq_mk_26 {cy : Nat → ClassId} {ad : Nat → Nat → Nat} {N : tq_Nn} {i : Nat} {c : Nat → Int32} (h : i < 1) : tq_mk cy ad N 26 i c = some (.inl (cy 0, 8, .inl c)) := (show (if i < 1 then some ((.inl (cy 0, 8, .inl c)) : va_E) else none) = _ from if_pos h)
theorem tq_mk_27 {cy : Nat → ClassId} {ad : Nat → Nat → Nat} {N : tq_Nn} {i : Nat} {c : Nat → Int32} (h : i < 1) : tq_mk cy ad N 27 i c = some (.inl (cy 2, 4, .inr (.inr (.inr (.inr (fun j => some (ad 28 j))))))) := (show (if i < 1 then some ((.inl (cy 2, 4, .inr (.inr (.inr (.inr (fun j => some (ad 28 j))))))) : va_E) else none) = _ from if_pos h)
theorem tq_mk_28 {cy : Nat → ClassId} {ad : Nat → Nat → Nat} {N : tq_Nn} {i : Nat} {c : Nat → Int32} (h : i < 4) : tq_mk cy ad N 28 i c = some (.inl (cy 0, 4, .inl c)) := (show (if i < 4 then some ((.inl (cy 0, 4, .inl c)) : va_E) else none) = _ from if_pos h)
theorem tq_mk_29 {cy : Nat → ClassId} {ad : Nat → Nat → Nat} {N : tq_Nn} {i : Nat} {c : Nat → Int32} (h : i < 1) : tq_mk cy ad N 29 i c = some (.inl (cy 4, 3, .inr (.inr (.inr (.inr (fun j => some (ad 6 j))))))) := (show (if i < 1 then some ((.inl (cy 4, 3, .inr (.inr (.inr (.inr (fun j => some (ad 6 j))))))) : va_E) else none) = _ from if_pos h)
theorem tq_mk_30 {cy : Nat → ClassId} {ad : Nat → Nat → Nat} {N : tq_Nn} {i : Nat} {c : Nat → Int32} (h : i < 5) : tq_mk cy ad N 30 i c = some (.inl (cy 0, 4, .inl c)) := (show (if i < 5 then some ((.inl (cy 0, 4, .inl c)) : va_E) else none) = _ from if_pos h)
theorem tq_mk_31 {cy : Nat → ClassId} {ad : Nat → Nat → Nat} {N : tq_Nn} {i : Nat} {c : Nat → Int32} (h : i < 5) : tq_mk cy ad N 31 i c = some (.inl (cy 0, 4, .inl c)) := (show (if i < 5 then some ((.inl (cy 0, 4, .inl c)) : va_E) else none) = _ from if_pos h)
theorem tq_mk_32 {cy : Nat → ClassId} {ad : Nat → Nat → Nat} {N : tq_Nn} {i : Nat} {c : Nat → Int32} (h : i < 5) : tq_mk cy ad N 32 i c = some (.inl (cy 0, 4, .inl c)) := (show (if i < 5 then some ((.inl (cy 0, 4, .inl c)) : va_E) else none) = _ from if_pos h)
theorem tq_mk_33 {cy : Nat → ClassId} {ad : Nat → Nat → Nat} {N : tq_Nn} {i : Nat} {c : Nat → Int32} (h : i < 5) : tq_mk cy ad N 33 i c = some (.inl (cy 0, 4, .inl c)) := (show (if i < 5 then some ((.inl (cy 0, 4, .inl c)) : va_E) else none) = _ from if_pos h)
theorem tq_mk_34 {cy : Nat → ClassId} {ad : Nat → Nat → Nat} {N : tq_Nn} {i : Nat} {c : Nat → Int32} (h : i < 5) : tq_mk cy ad N 34 i c = some (.inl (cy 0, 4, .inl c)) := (show (if i < 5 then some ((.inl (cy 0, 4, .inl c)) : va_E) else none) = _ from if_pos h)
theorem tq_mk_35 {cy : Nat → ClassId} {ad : Nat → Nat → Nat} {N : tq_Nn} {i : Nat} {c : Nat → Int32} (h : i < 5) : tq_mk cy ad N 35 i c = some (.inl (cy 0, 4, .inl c)) := (show (if i < 5 then some ((.inl (cy 0, 4, .inl c)) : va_E) else none) = _ from if_pos h)
theorem tq_mk_36 {cy : Nat → ClassId} {ad : Nat → Nat → Nat} {N : tq_Nn} {i : Nat} {c : Nat → Int32} (h : i < 5) : tq_mk cy ad N 36 i c = some (.inr (0, [.int (c 0), .ref (if c 1 = 0 then ad 0 0 else ad 37 (c 1).toNatClampNeg), .int (c 2)])) := (show (if i < 5 then some ((.inr (0, [.int (c 0), .ref (if c 1 = 0 then ad 0 0 else ad 37 (c 1).toNatClampNeg), .int (c 2)])) : va_E) else none) = _ from if_pos h)
theorem tq_mk_37 {cy : Nat → ClassId} {ad : Nat → Nat → Nat} {N : tq_Nn} {i : Nat} {c : Nat → Int32} (h : N 37 i = 1) : tq_mk cy ad N 37 i c = some (.inl (cy 5, (c 0).toNatClampNeg, .inr (.inr (.inr (.inr (fun j => tq_nul ad 7 (c (j + 1)))))))) := (show (if N 37 i = 1 then some ((.inl (cy 5, (c 0).toNatClampNeg, .inr (.inr (.inr (.inr (fun j => tq_nul ad 7 (c (j + 1)))))))) : va_E) else none) = _ from if_pos h)
theorem tq_mk_38 {cy : Nat → ClassId} {ad : Nat → Nat → Nat} {N : tq_Nn} {i : Nat} {c : Nat → Int32} (h : i < 5) : tq_mk cy ad N 38 i c = some (.inr (0, [.int (c 0), .ref (if c 1 = 0 then ad 0 0 else ad 39 (c 1).toNatClampNeg), .int (c 2)])) := (show (if i < 5 then some ((.inr (0, [.int (c 0), .ref (if c 1 = 0 then ad 0 0 else ad 39 (c 1).toNatClampNeg), .int (c 2)])) : va_E) else none) = _ from if_pos h)
theorem tq_mk_39 {cy : Nat → ClassId} {ad : Nat → Nat → Nat} {N : tq_Nn} {i : Nat} {c : Nat → Int32} (h : N 39 i = 1) : tq_mk cy ad N 39 i c = some (.inl (cy 5, (c 0).toNatClampNeg, .inr (.inr (.inr (.inr (fun j => tq_nul ad 10 (c (j + 1)))))))) := (show (if N 39 i = 1 then some ((.inl (cy 5, (c 0).toNatClampNeg, .inr (.inr (.inr (.inr (fun j => tq_nul ad 10 (c (j + 1)))))))) : va_E) else none) = _ from if_pos h)
theorem tq_mk_40 {cy : Nat → ClassId} {ad : Nat → Nat → Nat} {N : tq_Nn} {i : Nat} {c : Nat → Int32} (h : i < 5) : tq_mk cy ad N 40 i c = some (.inl (cy 0, 28, .inl c)) := (show (if i < 5 then some ((.inl (cy 0, 28, .inl c)) : va_E) else none) = _ from if_pos h)
theorem tq_mk_41 {cy : Nat → ClassId} {ad : Nat → Nat → Nat} {N : tq_Nn} {i : Nat} {c : Nat → Int32} (h : i < 1) : tq_mk cy ad N 41 i c = some (.inl (cy 0, 120, .inl c)) := (show (if i < 1 then some ((.inl (cy 0, 120, .inl c)) : va_E) else none) = _ from if_pos h)
theorem tq_mk_42 {cy : Nat → ClassId} {ad : Nat → Nat → Nat} {N : tq_Nn} {i : Nat} {c : Nat → Int32} (h : i < 1) : tq_mk cy ad N 42 i c = some (.inl (cy 2, 6, .inr (.inr (.inr (.inr (fun j => some (ad 43 j))))))) := (show (if i < 1 then some ((.inl (cy 2, 6, .inr (.inr (.inr (.inr (fun j => some (ad 43 j))))))) : va_E) else none) = _ from if_pos h)
theorem tq_mk_43 {cy : Nat → ClassId} {ad : Nat → Nat → Nat} {N : tq_Nn} {i : Nat} {c : Nat → Int32} (h : i < 6) : tq_mk cy ad N 43 i c = some (.inl (cy 0, 4, .inl c)) := (show (if i < 6 then some ((.inl (cy 0, 4, .inl c)) : va_E) else none) = _ from if_pos h)
theorem tq_mk_44 {cy : Nat → ClassId} {ad : Nat → Nat → Nat} {N : tq_Nn} {i : Nat} {c : Nat → Int32} (h : i < 1) : tq_mk cy ad N 44 i c = some (.inl (cy 2, 6, .inr (.inr (.inr (.inr (fun j => some (ad 45 j))))))) := (show (if i < 1 then some ((.inl (cy 2, 6, .inr (.inr (.inr (.inr (fun j => some (ad 45 j))))))) : va_E) else none) = _ from if_pos h)
theorem tq_mk_45 {cy : Nat → ClassId} {ad : Nat → Nat → Nat} {N : tq_Nn} {i : Nat} {c : Nat → Int32} (h : i < 6) : tq_mk cy ad N 45 i c = some (.inl (cy 0, 4, .inl c)) := (show (if i < 6 then some ((.inl (cy 0, 4, .inl c)) : va_E) else none) = _ from if_pos h)
theorem tq_mk_46 {cy : Nat → ClassId} {ad : Nat → Nat → Nat} {N : tq_Nn} {i : Nat} {c : Nat → Int32} (h : i < 1) : tq_mk cy ad N 46 i c = some (.inl (cy 0, 6, .inl c)) := (show (if i < 1 then some ((.inl (cy 0, 6, .inl c)) : va_E) else none) = _ from if_pos h)
theorem tq_mk_47 {cy : Nat → ClassId} {ad : Nat → Nat → Nat} {N : tq_Nn} {i : Nat} {c : Nat → Int32} (h : i < 1) : tq_mk cy ad N 47 i c = some (.inl (cy 0, 6, .inl c)) := (show (if i < 1 then some ((.inl (cy 0, 6, .inl c)) : va_E) else none) = _ from if_pos h)
theorem tq_mk_48 {cy : Nat → ClassId} {ad : Nat → Nat → Nat} {N : tq_Nn} {i : Nat} {c : Nat → Int32} (h : i < 1) : tq_mk cy ad N 48 i c = some (.inl (cy 0, 20, .inl c)) := (show (if i < 1 then some ((.inl (cy 0, 20, .inl c)) : va_E) else none) = _ from if_pos h)
theorem tq_mk_49 {cy : Nat → ClassId} {ad : Nat → Nat → Nat} {N : tq_Nn} {i : Nat} {c : Nat → Int32} (h : i < 3) : tq_mk cy ad N 49 i c = some (.inl (cy 0, 64, .inl c)) := (show (if i < 3 then some ((.inl (cy 0, 64, .inl c)) : va_E) else none) = _ from if_pos h)
theorem tq_mk_50 {cy : Nat → ClassId} {ad : Nat → Nat → Nat} {N : tq_Nn} {i : Nat} {c : Nat → Int32} (h : N 50 i = 1) : tq_mk cy ad N 50 i c = some (.inl (cy 0, 5, .inl c)) := (show (if N 50 i = 1 then some ((.inl (cy 0, 5, .inl c)) : va_E) else none) = _ from if_pos h)
theorem tq_mk_51 {cy : Nat → ClassId} {ad : Nat → Nat → Nat} {N : tq_Nn} {i : Nat} {c : Nat → Int32} (h : N 51 i = 1) : tq_mk cy ad N 51 i c = some (.inl (cy 0, 4, .inl c)) := (show (if N 51 i = 1 then some ((.inl (cy 0, 4, .inl c)) : va_E) else none) = _ from if_pos h)
theorem tq_mk_52 {cy : Nat → ClassId} {ad : Nat → Nat → Nat} {N : tq_Nn} {i : Nat} {c : Nat → Int32} (h : N 52 i = 1) : tq_mk cy ad N 52 i c = some (.inr (0, [.int (c 0), .ref (if c 1 = 0 then ad 0 0 else ad 53 (c 1).toNatClampNeg), .int (c 2)])) := (show (if N 52 i = 1 then some ((.inr (0, [.int (c 0), .ref (if c 1 = 0 then ad 0 0 else ad 53 (c 1).toNatClampNeg), .int (c 2)])) : va_E) else none) = _ from if_pos h)
theorem tq_mk_53 {cy : Nat → ClassId} {ad : Nat → Nat → Nat} {N : tq_Nn} {i : Nat} {c : Nat → Int32} (h : N 53 i = 1) : tq_mk cy ad N 53 i c = some (.inl (cy 5, (c 0).toNatClampNeg, .inr (.inr (.inr (.inr (fun j => tq_nul ad 10 (c (j + 1)))))))) := (show (if N 53 i = 1 then some ((.inl (cy 5, (c 0).toNatClampNeg, .inr (.inr (.inr (.inr (fun j => tq_nul ad 10 (c (j + 1)))))))) : va_E) else none) = _ from if_pos h)
theorem tq_mk_54 {cy : Nat → ClassId} {ad : Nat → Nat → Nat} {N : tq_Nn} {i : Nat} {c : Nat → Int32} (h : N 54 i = 1) : tq_mk cy ad N 54 i c = some (.inl (cy 0, 4, .inl c)) := (show (if N 54 i = 1 then some ((.inl (cy 0, 4, .inl c)) : va_E) else none) = _ from if_pos h)
theorem tq_mk_55 {cy : Nat → ClassId} {ad : Nat → Nat → Nat} {N : tq_Nn} {i : Nat} {c : Nat → Int32} (h : N 55 i = 1) : tq_mk cy ad N 55 i c = some (.inl (cy 0, 20, .inl c)) := (show (if N 55 i = 1 then some ((.inl (cy 0, 20, .inl c)) : va_E) else none) = _ from if_pos h)
theorem tq_mk_56 {cy : Nat → ClassId} {ad : Nat → Nat → Nat} {N : tq_Nn} {i : Nat} {c : Nat → Int32} (h : N 56 i = 1) : tq_mk cy ad N 56 i c = some (.inl (cy 0, 150, .inl c)) := (show (if N 56 i = 1 then some ((.inl (cy 0, 150, .inl c)) : va_E) else none) = _ from if_pos h)
theorem tq_mk_57 {cy : Nat → ClassId} {ad : Nat → Nat → Nat} {N : tq_Nn} {i : Nat} {c : Nat → Int32} (h : N 57 i = 1) : tq_mk cy ad N 57 i c = some (.inl (cy 0, 4, .inl c)) := (show (if N 57 i = 1 then some ((.inl (cy 0, 4, .inl c)) : va_E) else none) = _ from if_pos h)
theorem tq_mk_58 {cy : Nat → ClassId} {ad : Nat → Nat → Nat} {N : tq_Nn} {i : Nat} {c : Nat → Int32} (h : N 58 i = 1) : tq_mk cy ad N 58 i c = some (.inl (cy 0, 4, .inl c)) := (show (if N 58 i = 1 then some ((.inl (cy 0, 4, .inl c)) : va_E) else none) = _ from if_pos h)
theorem tq_mk_59 {cy : Nat → ClassId} {ad : Nat → Nat → Nat} {N : tq_Nn} {i : Nat} {c : Nat → Int32} (h : N 59 i = 1) : tq_mk cy ad N 59 i c = some (.inr (0, [.int (c 0), .ref (if c 1 = 0 then ad 0 0 else ad 60 (c 1).toNatClampNeg), .int (c 2)])) := (show (if N 59 i = 1 then some ((.inr (0, [.int (c 0), .ref (if c 1 = 0 then ad 0 0 else ad 60 (c 1).toNatClampNeg), .int (c 2)])) : va_E) else none) = _ from if_pos h)
theorem tq_mk_60 {cy : Nat → ClassId} {ad : Nat → Nat → Nat} {N : tq_Nn} {i : Nat} {c : Nat → Int32} (h : N 60 i = 1) : tq_mk cy ad N 60 i c = some (.inl (cy 5, (c 0).toNatClampNeg, .inr (.inr (.inr (.inr (fun j => tq_nul ad 11 (c (j + 1)))))))) := (show (if N 60 i = 1 then some ((.inl (cy 5, (c 0).toNatClampNeg, .inr (.inr (.inr (.inr (fun j => tq_nul ad 11 (c (j + 1)))))))) : va_E) else none) = _ from if_pos h)
theorem tq_mk_64 {cy : Nat → ClassId} {ad : Nat → Nat → Nat} {N : tq_Nn} {i : Nat} {c : Nat → Int32} (h : i < 1) : tq_mk cy ad N 64 i c = some (tq_obj ad 13 77 64 i c) := (show (if i < 1 then some ((tq_obj ad 13 77 64 i c) : va_E) else none) = _ from if_pos h)
theorem tq_mk_101 {cy : Nat → ClassId} {ad : Nat → Nat → Nat} {N : tq_Nn} {i : Nat} {c : Nat → Int32} (h : i < 1) : tq_mk cy ad N 101 i c = some (.inl (cy 0, 5, .inl c)) := (show (if i < 1 then some ((.inl (cy 0, 5, .inl c)) : va_E) else none) = _ from if_pos h)
theorem tq_mk_202 {cy : Nat → ClassId} {ad : Nat → Nat → Nat} {N : tq_Nn} {i : Nat} {c : Nat → Int32} (h : i < 1) : tq_mk cy ad N 202 i c = some (.inl (cy 2, 5, .inr (.inr (.inr (.inr (fun j => some (ad 102 j))))))) := (show (if i < 1 then some ((.inl (cy 2, 5, .inr (.inr (.inr (.inr (fun j => some (ad 102 j))))))) : va_E) else none) = _ from if_pos h)
theorem tq_mk_102 {cy : Nat → ClassId} {ad : Nat → Nat → Nat} {N : tq_Nn} {i : Nat} {c : Nat → Int32} (h : i < 5) : tq_mk cy ad N 102 i c = some (.inl (cy 0, 4, .inl c)) := (show (if i < 5 then some ((.inl (cy 0, 4, .inl c)) : va_E) else none) = _ from if_pos h)
theorem tq_mk_203 {cy : Nat → ClassId} {ad : Nat → Nat → Nat} {N : tq_Nn} {i : Nat} {c : Nat → Int32} (h : i < 1) : tq_mk cy ad N 203 i c = some (.inl (cy 2, 5, .inr (.inr (.inr (.inr (fun j => some (ad 103 j))))))) := (show (if i < 1 then some ((.inl (cy 2, 5, .inr (.inr (.inr (.inr (fun j => some (ad 103 j))))))) : va_E) else none) = _ from if_pos h)
theorem tq_mk_103 {cy : Nat → ClassId} {ad : Nat → Nat → Nat} {N : tq_Nn} {i : Nat} {c : Nat → Int32} (h : i < 5) : tq_mk cy ad N 103 i c = some (.inl (cy 0, 3, .inl c)) := (show (if i < 5 then some ((.inl (cy 0, 3, .inl c)) : va_E) else none) = _ from if_pos h)
theorem tq_mk_204 {cy : Nat → ClassId} {ad : Nat → Nat → Nat} {N : tq_Nn} {i : Nat} {c : Nat → Int32} (h : i < 1) : tq_mk cy ad N 204 i c = some (.inl (cy 2, 5, .inr (.inr (.inr (.inr (fun j => some (ad 104 j))))))) := (show (if i < 1 then some ((.inl (cy 2, 5, .inr (.inr (.inr (.inr (fun j => some (ad 104 j))))))) : va_E) else none) = _ from if_pos h)
theorem tq_mk_104 {cy : Nat → ClassId} {ad : Nat → Nat → Nat} {N : tq_Nn} {i : Nat} {c : Nat → Int32} (h : i < 5) : tq_mk cy ad N 104 i c = some (.inl (cy 0, 4, .inl c)) := (show (if i < 5 then some ((.inl (cy 0, 4, .inl c)) : va_E) else none) = _ from if_pos h)
theorem tq_mk_205 {cy : Nat → ClassId} {ad : Nat → Nat → Nat} {N : tq_Nn} {i : Nat} {c : Nat → Int32} (h : i < 1) : tq_mk cy ad N 205 i c = some (.inl (cy 2, 5, .inr (.inr (.inr (.inr (fun j => some (ad 105 j))))))) := (show (if i < 1 then some ((.inl (cy 2, 5, .inr (.inr (.inr (.inr (fun j => some (ad 105 j))))))) : va_E) else none) = _ from if_pos h)
theorem tq_mk_105 {cy : Nat → ClassId} {ad : Nat → Nat → Nat} {N : tq_Nn} {i : Nat} {c : Nat → Int32} (h : i < 5) : tq_mk cy ad N 105 i c = some (.inl (cy 0, 4, .inl c)) := (show (if i < 5 then some ((.inl (cy 0, 4, .inl c)) : va_E) else none) = _ from if_pos h)
theorem tq_mk_107 {cy : Nat → ClassId} {ad : Nat → Nat → Nat} {N : tq_Nn} {i : Nat} {c : Nat → Int32} (h : i < 1) : tq_mk cy ad N 107 i c = some (.inl (cy 0, 20, .inl c)) := (show (if i < 1 then some ((.inl (cy 0, 20, .inl c)) : va_E) else none) = _ from if_pos h)
theorem tq_mk_108 {cy : Nat → ClassId} {ad : Nat → Nat → Nat} {N : tq_Nn} {i : Nat} {c : Nat → Int32} (h : i < 1) : tq_mk cy ad N 108 i c = some (.inl (cy 0, 20, .inl c)) := (show (if i < 1 then some ((.inl (cy 0, 20, .inl c)) : va_E) else none) = _ from if_pos h)
theorem tq_mk_110 {cy : Nat → ClassId} {ad : Nat → Nat → Nat} {N : tq_Nn} {i : Nat} {c : Nat → Int32} (h : i < 1) : tq_mk cy ad N 110 i c = some (.inl (cy 0, 150, .inl c)) := (show (if i < 1 then some ((.inl (cy 0, 150, .inl c)) : va_E) else none) = _ from if_pos h)
theorem tq_mk_111 {cy : Nat → ClassId} {ad : Nat → Nat → Nat} {N : tq_Nn} {i : Nat} {c : Nat → Int32} (h : i < 1) : tq_mk cy ad N 111 i c = some (.inl (cy 0, 150, .inl c)) := (show (if i < 1 then some ((.inl (cy 0, 150, .inl c)) : va_E) else none) = _ from if_pos h)
theorem tq_mk_112 {cy : Nat → ClassId} {ad : Nat → Nat → Nat} {N : tq_Nn} {i : Nat} {c : Nat → Int32} (h : i < 1) : tq_mk cy ad N 112 i c = some (.inl (cy 0, 150, .inl c)) := (show (if i < 1 then some ((.inl (cy 0, 150, .inl c)) : va_E) else none) = _ from if_pos h)
theorem tq_mk_113 {cy : Nat → ClassId} {ad : Nat → Nat → Nat} {N : tq_Nn} {i : Nat} {c : Nat → Int32} (h : i < 1) : tq_mk cy ad N 113 i c = some (.inl (cy 0, 150, .inl c)) := (show (if i < 1 then some ((.inl (cy 0, 150, .inl c)) : va_E) else none) = _ from if_pos h)
theorem tq_mk_114 {cy : Nat → ClassId} {ad : Nat → Nat → Nat} {N : tq_Nn} {i : Nat} {c : Nat → Int32} (h : i < 1) : tq_mk cy ad N 114 i c = some (.inl (cy 0, 150, .inl c)) := (show (if i < 1 then some ((.inl (cy 0, 150, .inl c)) : va_E) else none) = _ from if_pos h)
theorem tq_mk_215 {cy : Nat → ClassId} {ad : Nat → Nat → Nat} {N : tq_Nn} {i : Nat} {c : Nat → Int32} (h : i < 1) : tq_mk cy ad N 215 i c = some (.inl (cy 2, 150, .inr (.inr (.inr (.inr (fun j => some (ad 115 j))))))) := (show (if i < 1 then some ((.inl (cy 2, 150, .inr (.inr (.inr (.inr (fun j => some (ad 115 j))))))) : va_E) else none) = _ from if_pos h)
theorem tq_mk_115 {cy : Nat → ClassId} {ad : Nat → Nat → Nat} {N : tq_Nn} {i : Nat} {c : Nat → Int32} (h : i < 150) : tq_mk cy ad N 115 i c = some (.inl (cy 0, 5, .inl c)) := (show (if i < 150 then some ((.inl (cy 0, 5, .inl c)) : va_E) else none) = _ from if_pos h)
theorem tq_mk_216 {cy : Nat → ClassId} {ad : Nat → Nat → Nat} {N : tq_Nn} {i : Nat} {c : Nat → Int32} (h : i < 1) : tq_mk cy ad N 216 i c = some (.inl (cy 2, 150, .inr (.inr (.inr (.inr (fun j => some (ad 116 j))))))) := (show (if i < 1 then some ((.inl (cy 2, 150, .inr (.inr (.inr (.inr (fun j => some (ad 116 j))))))) : va_E) else none) = _ from if_pos h)
theorem tq_mk_116 {cy : Nat → ClassId} {ad : Nat → Nat → Nat} {N : tq_Nn} {i : Nat} {c : Nat → Int32} (h : i < 150) : tq_mk cy ad N 116 i c = some (.inl (cy 0, 4, .inl c)) := (show (if i < 150 then some ((.inl (cy 0, 4, .inl c)) : va_E) else none) = _ from if_pos h)
theorem tq_mk_117 {cy : Nat → ClassId} {ad : Nat → Nat → Nat} {N : tq_Nn} {i : Nat} {c : Nat → Int32} (h : i < 1) : tq_mk cy ad N 117 i c = some (.inl (cy 0, 150, .inl c)) := (show (if i < 1 then some ((.inl (cy 0, 150, .inl c)) : va_E) else none) = _ from if_pos h)
theorem tq_mk_218 {cy : Nat → ClassId} {ad : Nat → Nat → Nat} {N : tq_Nn} {i : Nat} {c : Nat → Int32} (h : i < 1) : tq_mk cy ad N 218 i c = some (.inl (cy 2, 150, .inr (.inr (.inr (.inr (fun j => some (ad 118 j))))))) := (show (if i < 1 then some ((.inl (cy 2, 150, .inr (.inr (.inr (.inr (fun j => some (ad 118 j))))))) : va_E) else none) = _ from if_pos h)
theorem tq_mk_118 {cy : Nat → ClassId} {ad : Nat → Nat → Nat} {N : tq_Nn} {i : Nat} {c : Nat → Int32} (h : i < 150) : tq_mk cy ad N 118 i c = some (.inl (cy 0, 24, .inl c)) := (show (if i < 150 then some ((.inl (cy 0, 24, .inl c)) : va_E) else none) = _ from if_pos h)
theorem tq_mk_219 {cy : Nat → ClassId} {ad : Nat → Nat → Nat} {N : tq_Nn} {i : Nat} {c : Nat → Int32} (h : i < 1) : tq_mk cy ad N 219 i c = some (.inl (cy 2, 150, .inr (.inr (.inr (.inr (fun j => some (ad 119 j))))))) := (show (if i < 1 then some ((.inl (cy 2, 150, .inr (.inr (.inr (.inr (fun j => some (ad 119 j))))))) : va_E) else none) = _ from if_pos h)
theorem tq_mk_119 {cy : Nat → ClassId} {ad : Nat → Nat → Nat} {N : tq_Nn} {i : Nat} {c : Nat → Int32} (h : i < 150) : tq_mk cy ad N 119 i c = some (.inl (cy 0, 144, .inl c)) := (show (if i < 150 then some ((.inl (cy 0, 144, .inl c)) : va_E) else none) = _ from if_pos h)
theorem tq_mk_220 {cy : Nat → ClassId} {ad : Nat → Nat → Nat} {N : tq_Nn} {i : Nat} {c : Nat → Int32} (h : i < 1) : tq_mk cy ad N 220 i c = some (.inl (cy 2, 150, .inr (.inr (.inr (.inr (fun j => some (ad 120 j))))))) := (show (if i < 1 then some ((.inl (cy 2, 150, .inr (.inr (.inr (.inr (fun j => some (ad 120 j))))))) : va_E) else none) = _ from if_pos h)
theorem tq_mk_120 {cy : Nat → ClassId} {ad : Nat → Nat → Nat} {N : tq_Nn} {i : Nat} {c : Nat → Int32} (h : i < 150) : tq_mk cy ad N 120 i c = some (.inl (cy 0, 8, .inl c)) := (show (if i < 150 then some ((.inl (cy 0, 8, .inl c)) : va_E) else none) = _ from if_pos h)
theorem tq_mk_122 {cy : Nat → ClassId} {ad : Nat → Nat → Nat} {N : tq_Nn} {i : Nat} {c : Nat → Int32} (h : i < 1) : tq_mk cy ad N 122 i c = some (.inl (cy 0, 8, .inl c)) := (show (if i < 1 then some ((.inl (cy 0, 8, .inl c)) : va_E) else none) = _ from if_pos h)
theorem tq_mk_123 {cy : Nat → ClassId} {ad : Nat → Nat → Nat} {N : tq_Nn} {i : Nat} {c : Nat → Int32} (h : i < 1) : tq_mk cy ad N 123 i c = some (.inl (cy 0, 8, .inl c)) := (show (if i < 1 then some ((.inl (cy 0, 8, .inl c)) : va_E) else none) = _ from if_pos h)
theorem tq_mk_124 {cy : Nat → ClassId} {ad : Nat → Nat → Nat} {N : tq_Nn} {i : Nat} {c : Nat → Int32} (h : i < 1) : tq_mk cy ad N 124 i c = some (.inl (cy 0, 8, .inl c)) := (show (if i < 1 then some ((.inl (cy 0, 8, .inl c)) : va_E) else none) = _ from if_pos h)
theorem tq_mk_125 {cy : Nat → ClassId} {ad : Nat → Nat → Nat} {N : tq_Nn} {i : Nat} {c : Nat → Int32} (h : i < 1) : tq_mk cy ad N 125 i c = some (.inl (cy 1, 8, .inl c)) := (show (if i < 1 then some ((.inl (cy 1, 8, .inl c)) : va_E) else none) = _ from if_pos h)
theorem tq_mk_126 {cy : Nat → ClassId} {ad : Nat → Nat → Nat} {N : tq_Nn} {i : Nat} {c : Nat → Int32} (h : i < 1) : tq_mk cy ad N 126 i c = some (.inl (cy 0, 4, .inl c)) := (show (if i < 1 then some ((.inl (cy 0, 4, .inl c)) : va_E) else none) = _ from if_pos h)
theorem tq_mk_227 {cy : Nat → ClassId} {ad : Nat → Nat → Nat} {N : tq_Nn} {i : Nat} {c : Nat → Int32} (h : i < 1) : tq_mk cy ad N 227 i c = some (.inl (cy 2, 8, .inr (.inr (.inr (.inr (fun j => some (ad 127 j))))))) := (show (if i < 1 then some ((.inl (cy 2, 8, .inr (.inr (.inr (.inr (fun j => some (ad 127 j))))))) : va_E) else none) = _ from if_pos h)
theorem tq_mk_127 {cy : Nat → ClassId} {ad : Nat → Nat → Nat} {N : tq_Nn} {i : Nat} {c : Nat → Int32} (h : i < 8) : tq_mk cy ad N 127 i c = some (.inl (cy 0, 4, .inl c)) := (show (if i < 8 then some ((.inl (cy 0, 4, .inl c)) : va_E) else none) = _ from if_pos h)
theorem tq_mk_128 {cy : Nat → ClassId} {ad : Nat → Nat → Nat} {N : tq_Nn} {i : Nat} {c : Nat → Int32} (h : i < 1) : tq_mk cy ad N 128 i c = some (.inl (cy 0, 8, .inl c)) := (show (if i < 1 then some ((.inl (cy 0, 8, .inl c)) : va_E) else none) = _ from if_pos h)
theorem tq_mk_229 {cy : Nat → ClassId} {ad : Nat → Nat → Nat} {N : tq_Nn} {i : Nat} {c : Nat → Int32} (h : i < 1) : tq_mk cy ad N 229 i c = some (.inl (cy 2, 8, .inr (.inr (.inr (.inr (fun j => some (ad 129 j))))))) := (show (if i < 1 then some ((.inl (cy 2, 8, .inr (.inr (.inr (.inr (fun j => some (ad 129 j))))))) : va_E) else none) = _ from if_pos h)
theorem tq_mk_129 {cy : Nat → ClassId} {ad : Nat → Nat → Nat} {N : tq_Nn} {i : Nat} {c : Nat → Int32} (h : i < 8) : tq_mk cy ad N 129 i c = some (.inl (cy 0, 20, .inl c)) := (show (if i < 8 then some ((.inl (cy 0, 20, .inl c)) : va_E) else none) = _ from if_pos h)
theorem tq_mk_130 {cy : Nat → ClassId} {ad : Nat → Nat → Nat} {N : tq_Nn} {i : Nat} {c : Nat → Int32} (h : i < 1) : tq_mk cy ad N 130 i c = some (.inl (cy 0, 8, .inl c)) := (show (if i < 1 then some ((.inl (cy 0, 8, .inl c)) : va_E) else none) = _ from if_pos h)
theorem tq_mk_132 {cy : Nat → ClassId} {ad : Nat → Nat → Nat} {N : tq_Nn} {i : Nat} {c : Nat → Int32} (h : i < 1) : tq_mk cy ad N 132 i c = some (.inl (cy 0, 99, .inl c)) := (show (if i < 1 then some ((.inl (cy 0, 99, .inl c)) : va_E) else none) = _ from if_pos h)
theorem tq_mk_133 {cy : Nat → ClassId} {ad : Nat → Nat → Nat} {N : tq_Nn} {i : Nat} {c : Nat → Int32} (h : i < 1) : tq_mk cy ad N 133 i c = some (.inl (cy 0, 99, .inl c)) := (show (if i < 1 then some ((.inl (cy 0, 99, .inl c)) : va_E) else none) = _ from if_pos h)
theorem tq_mk_134 {cy : Nat → ClassId} {ad : Nat → Nat → Nat} {N : tq_Nn} {i : Nat} {c : Nat → Int32} (h : i < 1) : tq_mk cy ad N 134 i c = some (.inl (cy 0, 99, .inl c)) := (show (if i < 1 then some ((.inl (cy 0, 99, .inl c)) : va_E) else none) = _ from if_pos h)
theorem tq_mk_135 {cy : Nat → ClassId} {ad : Nat → Nat → Nat} {N : tq_Nn} {i : Nat} {c : Nat → Int32} (h : i < 1) : tq_mk cy ad N 135 i c = some (.inl (cy 0, 99, .inl c)) := (show (if i < 1 then some ((.inl (cy 0, 99, .inl c)) : va_E) else none) = _ from if_pos h)
theorem tq_mk_136 {cy : Nat → ClassId} {ad : Nat → Nat → Nat} {N : tq_Nn} {i : Nat} {c : Nat → Int32} (h : i < 1) : tq_mk cy ad N 136 i c = some (.inl (cy 0, 99, .inl c)) := (show (if i < 1 then some ((.inl (cy 0, 99, .inl c)) : va_E) else none) = _ from if_pos h)
theorem tq_mk_137 {cy : Nat → ClassId} {ad : Nat → Nat → Nat} {N : tq_Nn} {i : Nat} {c : Nat → Int32} (h : i < 1) : tq_mk cy ad N 137 i c = some (.inl (cy 1, 99, .inl c)) := (show (if i < 1 then some ((.inl (cy 1, 99, .inl c)) : va_E) else none) = _ from if_pos h)
theorem tq_mk_138 {cy : Nat → ClassId} {ad : Nat → Nat → Nat} {N : tq_Nn} {i : Nat} {c : Nat → Int32} (h : i < 1) : tq_mk cy ad N 138 i c = some (.inl (cy 0, 99, .inl c)) := (show (if i < 1 then some ((.inl (cy 0, 99, .inl c)) : va_E) else none) = _ from if_pos h)
theorem tq_mk_239 {cy : Nat → ClassId} {ad : Nat → Nat → Nat} {N : tq_Nn} {i : Nat} {c : Nat → Int32} (h : i < 1) : tq_mk cy ad N 239 i c = some (.inl (cy 2, 99, .inr (.inr (.inr (.inr (fun j => some (ad 139 j))))))) := (show (if i < 1 then some ((.inl (cy 2, 99, .inr (.inr (.inr (.inr (fun j => some (ad 139 j))))))) : va_E) else none) = _ from if_pos h)
theorem tq_mk_139 {cy : Nat → ClassId} {ad : Nat → Nat → Nat} {N : tq_Nn} {i : Nat} {c : Nat → Int32} (h : i < 99) : tq_mk cy ad N 139 i c = some (.inl (cy 0, 4, .inl c)) := (show (if i < 99 then some ((.inl (cy 0, 4, .inl c)) : va_E) else none) = _ from if_pos h)
theorem tq_mk_240 {cy : Nat → ClassId} {ad : Nat → Nat → Nat} {N : tq_Nn} {i : Nat} {c : Nat → Int32} (h : i < 1) : tq_mk cy ad N 240 i c = some (.inl (cy 2, 99, .inr (.inr (.inr (.inr (fun j => some (ad 140 j))))))) := (show (if i < 1 then some ((.inl (cy 2, 99, .inr (.inr (.inr (.inr (fun j => some (ad 140 j))))))) : va_E) else none) = _ from if_pos h)
theorem tq_mk_140 {cy : Nat → ClassId} {ad : Nat → Nat → Nat} {N : tq_Nn} {i : Nat} {c : Nat → Int32} (h : i < 99) : tq_mk cy ad N 140 i c = some (.inl (cy 0, 4, .inl c)) := (show (if i < 99 then some ((.inl (cy 0, 4, .inl c)) : va_E) else none) = _ from if_pos h)
theorem tq_mk_141 {cy : Nat → ClassId} {ad : Nat → Nat → Nat} {N : tq_Nn} {i : Nat} {c : Nat → Int32} (h : i < 1) : tq_mk cy ad N 141 i c = some (.inl (cy 0, 99, .inl c)) := (show (if i < 1 then some ((.inl (cy 0, 99, .inl c)) : va_E) else none) = _ from if_pos h)
theorem tq_mk_142 {cy : Nat → ClassId} {ad : Nat → Nat → Nat} {N : tq_Nn} {i : Nat} {c : Nat → Int32} (h : i < 1) : tq_mk cy ad N 142 i c = some (.inl (cy 0, 99, .inl c)) := (show (if i < 1 then some ((.inl (cy 0, 99, .inl c)) : va_E) else none) = _ from if_pos h)
theorem tq_mk_244 {cy : Nat → ClassId} {ad : Nat → Nat → Nat} {N : tq_Nn} {i : Nat} {c : Nat → Int32} (h : i < 1) : tq_mk cy ad N 244 i c = some (.inl (cy 2, 500, .inr (.inr (.inr (.inr (fun j => some (ad 144 j))))))) := (show (if i < 1 then some ((.inl (cy 2, 500, .inr (.inr (.inr (.inr (fun j => some (ad 144 j))))))) : va_E) else none) = _ from if_pos h)
theorem tq_mk_144 {cy : Nat → ClassId} {ad : Nat → Nat → Nat} {N : tq_Nn} {i : Nat} {c : Nat → Int32} (h : i < 500) : tq_mk cy ad N 144 i c = some (.inl (cy 0, 8, .inl c)) := (show (if i < 500 then some ((.inl (cy 0, 8, .inl c)) : va_E) else none) = _ from if_pos h)
theorem tq_mk_146 {cy : Nat → ClassId} {ad : Nat → Nat → Nat} {N : tq_Nn} {i : Nat} {c : Nat → Int32} (h : i < 1) : tq_mk cy ad N 146 i c = some (.inl (cy 0, 64, .inl c)) := (show (if i < 1 then some ((.inl (cy 0, 64, .inl c)) : va_E) else none) = _ from if_pos h)
theorem tq_mk_147 {cy : Nat → ClassId} {ad : Nat → Nat → Nat} {N : tq_Nn} {i : Nat} {c : Nat → Int32} (h : i < 1) : tq_mk cy ad N 147 i c = some (.inl (cy 0, 64, .inl c)) := (show (if i < 1 then some ((.inl (cy 0, 64, .inl c)) : va_E) else none) = _ from if_pos h)
theorem tq_mk_148 {cy : Nat → ClassId} {ad : Nat → Nat → Nat} {N : tq_Nn} {i : Nat} {c : Nat → Int32} (h : i < 1) : tq_mk cy ad N 148 i c = some (.inl (cy 0, 64, .inl c)) := (show (if i < 1 then some ((.inl (cy 0, 64, .inl c)) : va_E) else none) = _ from if_pos h)
theorem tq_mk_149 {cy : Nat → ClassId} {ad : Nat → Nat → Nat} {N : tq_Nn} {i : Nat} {c : Nat → Int32} (h : i < 1) : tq_mk cy ad N 149 i c = some (.inl (cy 0, 64, .inl c)) := (show (if i < 1 then some ((.inl (cy 0, 64, .inl c)) : va_E) else none) = _ from if_pos h)
theorem tq_mk_150 {cy : Nat → ClassId} {ad : Nat → Nat → Nat} {N : tq_Nn} {i : Nat} {c : Nat → Int32} (h : i < 1) : tq_mk cy ad N 150 i c = some (.inl (cy 0, 64, .inl c)) := (show (if i < 1 then some ((.inl (cy 0, 64, .inl c)) : va_E) else none) = _ from if_pos h)
theorem tq_mk_251 {cy : Nat → ClassId} {ad : Nat → Nat → Nat} {N : tq_Nn} {i : Nat} {c : Nat → Int32} (h : i < 1) : tq_mk cy ad N 251 i c = some (.inl (cy 2, 6, .inr (.inr (.inr (.inr (fun j => some (ad 151 j))))))) := (show (if i < 1 then some ((.inl (cy 2, 6, .inr (.inr (.inr (.inr (fun j => some (ad 151 j))))))) : va_E) else none) = _ from if_pos h)
theorem tq_mk_151 {cy : Nat → ClassId} {ad : Nat → Nat → Nat} {N : tq_Nn} {i : Nat} {c : Nat → Int32} (h : i < 6) : tq_mk cy ad N 151 i c = some (.inl (cy 0, 4, .inl c)) := (show (if i < 6 then some ((.inl (cy 0, 4, .inl c)) : va_E) else none) = _ from if_pos h)
theorem tq_mk_252 {cy : Nat → ClassId} {ad : Nat → Nat → Nat} {N : tq_Nn} {i : Nat} {c : Nat → Int32} (h : i < 1) : tq_mk cy ad N 252 i c = some (.inl (cy 2, 6, .inr (.inr (.inr (.inr (fun j => some (ad 152 j))))))) := (show (if i < 1 then some ((.inl (cy 2, 6, .inr (.inr (.inr (.inr (fun j => some (ad 152 j))))))) : va_E) else none) = _ from if_pos h)
theorem tq_mk_152 {cy : Nat → ClassId} {ad : Nat → Nat → Nat} {N : tq_Nn} {i : Nat} {c : Nat → Int32} (h : i < 6) : tq_mk cy ad N 152 i c = some (.inl (cy 0, 4, .inl c)) := (show (if i < 6 then some ((.inl (cy 0, 4, .inl c)) : va_E) else none) = _ from if_pos h)
theorem tq_mk_153 {cy : Nat → ClassId} {ad : Nat → Nat → Nat} {N : tq_Nn} {i : Nat} {c : Nat → Int32} (h : i < 1) : tq_mk cy ad N 153 i c = some (.inl (cy 0, 6, .inl c)) := (show (if i < 1 then some ((.inl (cy 0, 6, .inl c)) : va_E) else none) = _ from if_pos h)
theorem tq_mk_154 {cy : Nat → ClassId} {ad : Nat → Nat → Nat} {N : tq_Nn} {i : Nat} {c : Nat → Int32} (h : i < 1) : tq_mk cy ad N 154 i c = some (.inl (cy 0, 6, .inl c)) := (show (if i < 1 then some ((.inl (cy 0, 6, .inl c)) : va_E) else none) = _ from if_pos h)
theorem tq_mk_156 {cy : Nat → ClassId} {ad : Nat → Nat → Nat} {N : tq_Nn} {i : Nat} {c : Nat → Int32} (h : i < 1) : tq_mk cy ad N 156 i c = some (.inl (cy 0, 8, .inl c)) := (show (if i < 1 then some ((.inl (cy 0, 8, .inl c)) : va_E) else none) = _ from if_pos h)
theorem tq_mk_157 {cy : Nat → ClassId} {ad : Nat → Nat → Nat} {N : tq_Nn} {i : Nat} {c : Nat → Int32} (h : i < 1) : tq_mk cy ad N 157 i c = some (.inl (cy 0, 8, .inl c)) := (show (if i < 1 then some ((.inl (cy 0, 8, .inl c)) : va_E) else none) = _ from if_pos h)
theorem tq_mk_259 {cy : Nat → ClassId} {ad : Nat → Nat → Nat} {N : tq_Nn} {i : Nat} {c : Nat → Int32} (h : i < 1) : tq_mk cy ad N 259 i c = some (.inl (cy 2, 4, .inr (.inr (.inr (.inr (fun j => some (ad 159 j))))))) := (show (if i < 1 then some ((.inl (cy 2, 4, .inr (.inr (.inr (.inr (fun j => some (ad 159 j))))))) : va_E) else none) = _ from if_pos h)
theorem tq_mk_159 {cy : Nat → ClassId} {ad : Nat → Nat → Nat} {N : tq_Nn} {i : Nat} {c : Nat → Int32} (h : i < 4) : tq_mk cy ad N 159 i c = some (.inl (cy 0, 4, .inl c)) := (show (if i < 4 then some ((.inl (cy 0, 4, .inl c)) : va_E) else none) = _ from if_pos h)
theorem tq_mk_160 {cy : Nat → ClassId} {ad : Nat → Nat → Nat} {N : tq_Nn} {i : Nat} {c : Nat → Int32} (h : i < 1) : tq_mk cy ad N 160 i c = some (.inl (cy 0, 120, .inl c)) := (show (if i < 1 then some ((.inl (cy 0, 120, .inl c)) : va_E) else none) = _ from if_pos h)
theorem tq_mk_162 {cy : Nat → ClassId} {ad : Nat → Nat → Nat} {N : tq_Nn} {i : Nat} {c : Nat → Int32} (h : i < 1) : tq_mk cy ad N 162 i c = some (.inl (cy 0, 3, .inl c)) := (show (if i < 1 then some ((.inl (cy 0, 3, .inl c)) : va_E) else none) = _ from if_pos h)
theorem tq_mk_263 {cy : Nat → ClassId} {ad : Nat → Nat → Nat} {N : tq_Nn} {i : Nat} {c : Nat → Int32} (h : i < 1) : tq_mk cy ad N 263 i c = some (.inl (cy 2, 3, .inr (.inr (.inr (.inr (fun j => some (ad 163 j))))))) := (show (if i < 1 then some ((.inl (cy 2, 3, .inr (.inr (.inr (.inr (fun j => some (ad 163 j))))))) : va_E) else none) = _ from if_pos h)
theorem tq_mk_163 {cy : Nat → ClassId} {ad : Nat → Nat → Nat} {N : tq_Nn} {i : Nat} {c : Nat → Int32} (h : i < 3) : tq_mk cy ad N 163 i c = some (.inl (cy 0, 64, .inl c)) := (show (if i < 3 then some ((.inl (cy 0, 64, .inl c)) : va_E) else none) = _ from if_pos h)
theorem tq_mk_164 {cy : Nat → ClassId} {ad : Nat → Nat → Nat} {N : tq_Nn} {i : Nat} {c : Nat → Int32} (h : i < 1) : tq_mk cy ad N 164 i c = some (.inl (cy 0, 3, .inl c)) := (show (if i < 1 then some ((.inl (cy 0, 3, .inl c)) : va_E) else none) = _ from if_pos h)
theorem tq_mk_165 {cy : Nat → ClassId} {ad : Nat → Nat → Nat} {N : tq_Nn} {i : Nat} {c : Nat → Int32} (h : i < 1) : tq_mk cy ad N 165 i c = some (.inl (cy 0, 20, .inl c)) := (show (if i < 1 then some ((.inl (cy 0, 20, .inl c)) : va_E) else none) = _ from if_pos h)
theorem tq_mk_170 {cy : Nat → ClassId} {ad : Nat → Nat → Nat} {N : tq_Nn} {i : Nat} {c : Nat → Int32} (h : i < 1) : tq_mk cy ad N 170 i c = some (.inl (cy 0, 4, .inl c)) := (show (if i < 1 then some ((.inl (cy 0, 4, .inl c)) : va_E) else none) = _ from if_pos h)
theorem tq_mk_171 {cy : Nat → ClassId} {ad : Nat → Nat → Nat} {N : tq_Nn} {i : Nat} {c : Nat → Int32} (h : i < 1) : tq_mk cy ad N 171 i c = some (.inl (cy 0, 6, .inl c)) := (show (if i < 1 then some ((.inl (cy 0, 6, .inl c)) : va_E) else none) = _ from if_pos h)
theorem tq_mk_172 {cy : Nat → ClassId} {ad : Nat → Nat → Nat} {N : tq_Nn} {i : Nat} {c : Nat → Int32} (h : i < 1) : tq_mk cy ad N 172 i c = some (.inl (cy 0, 900, .inl c)) := (show (if i < 1 then some ((.inl (cy 0, 900, .inl c)) : va_E) else none) = _ from if_pos h)
theorem tq_mk_175 {cy : Nat → ClassId} {ad : Nat → Nat → Nat} {N : tq_Nn} {i : Nat} {c : Nat → Int32} (h : i < 1) : tq_mk cy ad N 175 i c = some (.inl (cy 0, 4, .inl c)) := (show (if i < 1 then some ((.inl (cy 0, 4, .inl c)) : va_E) else none) = _ from if_pos h)
theorem tq_mk_176 {cy : Nat → ClassId} {ad : Nat → Nat → Nat} {N : tq_Nn} {i : Nat} {c : Nat → Int32} (h : i < 1) : tq_mk cy ad N 176 i c = some (.inl (cy 0, 5, .inl c)) := (show (if i < 1 then some ((.inl (cy 0, 5, .inl c)) : va_E) else none) = _ from if_pos h)
/-! the world: every cell of the store at its address, apart, from z on; what lies below z is as it was -/
abbrev tq_tys (cy : Nat → ClassId) : List (ClassId × FieldType) := [(cy 0, .int), (cy 1, .boolean), (cy 2, .array .int), (cy 3, .object "TwoSeas$Place"), (cy 4, .object "TwoSeas$Sheet"), (cy 5, .object "java/lang/Object")]
def tq_wd (D : va_G) (cy : Nat → ClassId) (z : Nat) (H0 : Heap) (ad : Nat → Nat → Nat) (N : tq_Nn) (T : tq_St) (H : Heap) : Prop :=
  (∀ (k i : Nat) (e : va_E), tq_mk cy ad N k i (T k i) = some e → va_at D vwCl (ad k i, e) H) ∧
  (∀ (k i k' i' : Nat) (e e' : va_E), tq_mk cy ad N k i (T k i) = some e → tq_mk cy ad N k' i' (T k' i') = some e' → ad k i = ad k' i' → k = k' ∧ i = i') ∧
  (∀ (k i : Nat) (e : va_E), tq_mk cy ad N k i (T k i) = some e → z ≤ ad k i) ∧
  z ≤ H.size ∧ (∀ q : Nat, q < z → H[q]? = H0[q]?)
theorem tq_wd.set {D : va_G} {cy : Nat → ClassId} {z : Nat} {H0 : Heap} {ad : Nat → Nat → Nat} {N : tq_Nn} {T T' : tq_St} {H H1 : Heap} {k i : Nat} {e e' : va_E} (h : tq_wd D cy z H0 ad N T H) (he : tq_mk cy ad N k i (T k i) = some e) (he' : tq_mk cy ad N k i (T' k i) = some e')
    (hT : ∀ k' i' : Nat, ¬ (k' = k ∧ i' = i) → T' k' i' = T k' i') (hat : va_at D vwCl (ad k i, e') H1) (oq : ∀ q : Nat, q ≠ ad k i → H1[q]? = H[q]?) (hz : H1.size = H.size) : tq_wd D cy z H0 ad N T' H1 := by
  obtain ⟨h1, h2, h3, h4, h5⟩ := h
  have key : ∀ (k' i' : Nat) (x : va_E), tq_mk cy ad N k' i' (T' k' i') = some x → ∃ x0, tq_mk cy ad N k' i' (T k' i') = some x0 := by
    intro k' i' x hx
    by_cases hh : k' = k ∧ i' = i
    · obtain ⟨rfl, rfl⟩ := hh
      exact ⟨e, he⟩
    · rw [hT k' i' hh] at hx
      exact ⟨x, hx⟩
  refine ⟨fun k' i' x hx => ?_, fun k1 i1 k2 i2 x1 x2 hx1 hx2 hq => ?_, fun k' i' x hx => ?_, by rw [hz]; exact h4, fun q hq => ?_⟩
  · by_cases hh : k' = k ∧ i' = i
    · obtain ⟨rfl, rfl⟩ := hh
      rw [he'] at hx
      cases hx
      exact hat
    · rw [hT k' i' hh] at hx
      exact (h1 k' i' x hx).kept (oq _ (fun q => hh (h2 k' i' k i x e hx he q)))
  · obtain ⟨y1, hy1⟩ := key k1 i1 x1 hx1
    obtain ⟨y2, hy2⟩ := key k2 i2 x2 hx2
    exact h2 k1 i1 k2 i2 y1 y2 hy1 hy2 hq
  · obtain ⟨y, hy⟩ := key k' i' x hx
    exact h3 k' i' y hy
  · rw [oq q (fun r => by have := h3 k i e he; omega)]
    exact h5 q hq
theorem tq_one {D : va_G} {a : Nat} {e : va_E} {H : Heap} (h : va_at D vwCl (a, e) H) : va_P D vwCl [(a, e)] H := by
  intro k q hk
  cases k with
  | zero => cases hk; exact h
  | succ k => simp at hk
theorem tq_objset {ad : Nat → Nat → Nat} {k i nf t : Nat} {c : Nat → Int32} {x : Int32} (h0 : tq_fty k t = 0) : ((List.range nf).map (tq_fld ad k i c)).set t (.int x) = (List.range nf).map (tq_fld ad k i (upd c t x)) := by
  apply List.ext_getElem?
  intro j
  by_cases hj : j < nf
  · by_cases hjt : j = t
    · subst hjt
      rw [List.getElem?_set_self (by simpa using hj), List.getElem?_map, List.getElem?_range hj]
      simp [tq_fld, tq_val, h0, upd]
    · rw [List.getElem?_set_ne (Ne.symm hjt), List.getElem?_map, List.getElem?_map, List.getElem?_range hj]
      simp [tq_fld, upd, hjt]
  · rw [List.getElem?_eq_none (by simpa using Nat.le_of_not_lt hj), List.getElem?_eq_none (by simpa using Nat.le_of_not_lt hj)]
def tq_mix (S M : tq_St) : tq_St := fun k => if k < 64 then S k else M k
theorem tq_mixC (S M : tq_St) {k : Nat} (h : k < 64) : tq_mix S M k = S k := if_pos h
theorem tq_mixM (S M : tq_St) {k : Nat} (h : ¬ k < 64) : tq_mix S M k = M k := if_neg h
theorem tq_mix_upM (S M : tq_St) {k : Nat} (h : ¬ k < 64) (i j : Nat) (v : Int32) : tq_up (tq_mix S M) k i j v = tq_mix S (tq_up M k i j v) := by
  funext k' i' j'
  by_cases hk : k' = k
  · subst hk
    simp only [tq_up, tq_mix, if_neg h]
  · simp only [tq_up, tq_mix, hk, false_and, if_false]
    by_cases h2 : k' < 64
    · simp only [if_pos h2]
    · simp only [tq_up, if_neg h2, hk, false_and, if_false]
theorem tq_mix_upC (S M : tq_St) {k : Nat} (h : k < 64) (i j : Nat) (v : Int32) : tq_up (tq_mix S M) k i j v = tq_mix (tq_up S k i j v) M := by
  funext k' i' j'
  by_cases hk : k' = k
  · subst hk
    simp only [tq_up, tq_mix, if_pos h]
  · simp only [tq_up, tq_mix, hk, false_and, if_false]
    by_cases h2 : k' < 64
    · simp only [tq_up, if_pos h2, hk, false_and, if_false]
    · simp only [if_neg h2]
section TQR
variable {p : Program} {l : Launch} {e : Env} {R : Room} {s : State} {m : MethodId} {args : Array Value} {below : List Frame} {meth : Method} {c : Code} {H : Heap} {locs : List Loc} {cells slots : Nat} {Q : State → Prop}
variable {cc : ByteArray} {pc : Nat} {ls : Array Slot} {rest : List Value} {D : va_G} {cy : Nat → ClassId} {z : Nat} {H0 Hs : Heap} {ad : Nat → Nat → Nat} {N : tq_Nn} {T : tq_St}
theorem tq_get (hexec : p.tables.exec = Jvm.exec) (hb : c.code = cc) {own ref C : String} {Tb : u_T} {nf ci index : Nat} {Ts : List Cond} (hts : ∀ w ∈ Ts, w.before args s = true) (hin : ∀ w ∈ u_ws C Tb nf, w ∈ Ts) (hown : s.vm.findClass own = some m.cls) (hK : va_K D vwCl (tq_tys cy) s) (hW : tq_wd D cy z H0 ad N T H) {k i : Nat} (he : tq_mk cy ad N k i (T k i) = some (tq_obj ad ci nf k i (T k i))) (hc : vwCl[ci]? = some (C, Tb, nf)) (t : Nat) (ht : t < nf) (hlink : (Cond.fieldLink own index ref (Tb t).2.1 (Tb t).2.2.1).before args s = true) (hsame : ∀ x, s.fieldFound? (Tb t).1 (Tb t).2.1 (Tb t).2.2.1 = some x → s.fieldFound? ref (Tb t).2.1 (Tb t).2.2.1 = some x) {v : Value} (hv : tq_fld ad k i (T k i) t = v) (hdg : decode cc pc = .ok (.getfield index, 3))
    (kk : W p l e R s m args below meth c H locs cells slots Q (F0 m (pc + 3) ls (v :: rest))) : W p l e R s m args below meth c H locs cells slots Q (F0 m pc ls (.ref (ad k i) :: rest)) := by
  refine va_get (ws := [(ad k i, .inr (ci, (List.range nf).map (tq_fld ad k i (T k i))))]) hexec hb hts hin hown hK (tq_one (hW.1 k i _ he)) 0 rfl hc t ht hlink hsame ?_ hdg kk
  rw [List.getElem?_map, List.getElem?_range ht]
  exact congrArg some hv
theorem tq_put (hexec : p.tables.exec = Jvm.exec) (hb : c.code = cc) {own ref C : String} {Tb : u_T} {nf ci index : Nat} {Ts : List Cond} (hts : ∀ w ∈ Ts, w.before args s = true) (hin : ∀ w ∈ u_ws C Tb nf, w ∈ Ts) (ty0 : Nat → FieldType) (hty : ∀ k, k < nf → parseFieldDescriptor (Tb k).2.2.1 = some (ty0 k)) (hnm : ∀ a, a < nf → ∀ b, b < nf → a ≠ b → (Tb a).2.1 ≠ (Tb b).2.1) (hown : s.vm.findClass own = some m.cls) (hK : va_K D vwCl (tq_tys cy) s) (hW : tq_wd D cy z H0 ad N T H) (hS0 : va_S (fun q => z ≤ q) Hs H locs) {k i : Nat} (he : tq_mk cy ad N k i (T k i) = some (tq_obj ad ci nf k i (T k i))) (hc : vwCl[ci]? = some (C, Tb, nf)) (t : Nat) (ht : t < nf) (hlink : (Cond.fieldLink own index ref (Tb t).2.1 (Tb t).2.2.1).before args s = true) (hsame : ∀ x, s.fieldFound? (Tb t).1 (Tb t).2.1 (Tb t).2.2.1 = some x → s.fieldFound? ref (Tb t).2.1 (Tb t).2.2.1 = some x) (hfin : (Tb t).2.2.2 = false) {ty : FieldType} {x : Int32} (hd : parseFieldDescriptor (Tb t).2.2.1 = some ty) (hn : narrow ty (.int x) = .int x) (hfit : fits ty (.int x) = true) (h0 : tq_fty k t = 0)
    (he2 : tq_mk cy ad N k i ((tq_up T k i t x) k i) = some (tq_obj ad ci nf k i ((tq_up T k i t x) k i))) (hdg : decode cc pc = .ok (.putfield index, 3))
    (kk : ∀ (H1 : Heap) (locs1 : List Loc), tq_wd D cy z H0 ad N (tq_up T k i t x) H1 → va_S (fun q => z ≤ q) Hs H1 locs1 → W p l e R s m args below meth c H1 locs1 cells slots Q (F0 m (pc + 3) ls rest)) : W p l e R s m args below meth c H locs cells slots Q (F0 m pc ls (.int x :: .ref (ad k i) :: rest)) := by
  have hap := va_apart (own := own) hts hin ty0 hty hnm hK hc
  obtain ⟨r, h1, cell, q1, q2, q3, q4⟩ := hW.1 k i _ he
  have hr : r = (C, Tb, nf) := Option.some.inj (h1.symm.trans hc)
  subst hr
  obtain ⟨hSl, hfc, kC, hkC, hkind⟩ := hK.1 ci _ hc
  obtain ⟨cf, kf, fi, f, hi, hsl⟩ := hSl t ht
  have hlay := hts _ (hin _ (u_in_lay ht))
  unfold u_lay at hlay
  rw [if_neg (by rw [hfin]; decide)] at hlay
  have hst := (u_facts hfc hkC (u_lays hts hin ht) hi).1
  have h6 := u_store hfc hkC hkind hlay hi hd hn hfit
  refine W.putK hexec hb (f := f) ⟨hown, hlink, ⟨_, _, _, hsame _ hi⟩, hst⟩ (by rw [q2]; exact h6) q1 q3 (by rw [hsl]; exact k2_hasslot (q4 t ht)) rfl rfl hdg fun H' e1 e2 e3 => ?_
  rw [hsl] at e1 ⊢
  refine kk H' _ (hW.set he he2 (fun k' i' h => tq_up_out h) ?_ e3 e2) (hS0.put e2 e3 (hW.2.2.1 k i _ he))
  refine ⟨_, hc, t_OB.to (V := updV (vp_V ((List.range nf).map (tq_fld ad k i (T k i)))) t (.int x)) ⟨_, e1, q2, q3, t_set q4 hap ht _⟩ (fun j _ => ?_)⟩
  rw [tq_up_cell, ← tq_objset h0]
  exact vp_updV_set (by simpa using ht) _ j
theorem tq_iald (hexec : p.tables.exec = Jvm.exec) (hb : c.code = cc) (hK : va_K D vwCl (tq_tys cy) s) (hW : tq_wd D cy z H0 ad N T H) {k i n : Nat} (he : tq_mk cy ad N k i (T k i) = some (.inl (cy 0, n, .inl (T k i)))) {j : Int32} (hin : vp_in j n) (hdg : decode cc pc = .ok (.iaload, 1))
    (kk : W p l e R s m args below meth c H locs cells slots Q (F0 m (pc + 1) ls (.int (T k i j.toNatClampNeg) :: rest))) : W p l e R s m args below meth c H locs cells slots Q (F0 m pc ls (.int j :: .ref (ad k i) :: rest)) :=
  va_iald (ws := [(ad k i, .inl (cy 0, n, .inl (T k i)))]) hexec hb hK (tq_one (hW.1 k i _ he)) 0 0 rfl rfl hin hdg kk
theorem tq_zald (hexec : p.tables.exec = Jvm.exec) (hb : c.code = cc) (hK : va_K D vwCl (tq_tys cy) s) (hW : tq_wd D cy z H0 ad N T H) {k i n : Nat} (he : tq_mk cy ad N k i (T k i) = some (.inl (cy 1, n, .inl (T k i)))) {j : Int32} (hin : vp_in j n) (hdg : decode cc pc = .ok (.baload, 1))
    (kk : W p l e R s m args below meth c H locs cells slots Q (F0 m (pc + 1) ls (.int (T k i j.toNatClampNeg) :: rest))) : W p l e R s m args below meth c H locs cells slots Q (F0 m pc ls (.int j :: .ref (ad k i) :: rest)) :=
  va_zald (ws := [(ad k i, .inl (cy 1, n, .inl (T k i)))]) hexec hb hK (tq_one (hW.1 k i _ he)) 0 1 rfl rfl hin hdg kk
theorem tq_aald (hexec : p.tables.exec = Jvm.exec) (hb : c.code = cc) (hK : va_K D vwCl (tq_tys cy) s) (hW : tq_wd D cy z H0 ad N T H) {k i n : Nat} {cA : ClassId} {f : Nat → Option Nat} (he : tq_mk cy ad N k i (T k i) = some (.inl (cA, n, .inr (.inr (.inr (.inr f)))))) (t0 : Nat) {ty : FieldType} (ht : (tq_tys cy)[t0]? = some (cA, ty)) (hty : ty.isReference = true) {j : Int32} (hin : vp_in j n) {v : Value} (hv : va_rf (f j.toNatClampNeg) = v) (hdg : decode cc pc = .ok (.aaload, 1))
    (kk : W p l e R s m args below meth c H locs cells slots Q (F0 m (pc + 1) ls (v :: rest))) : W p l e R s m args below meth c H locs cells slots Q (F0 m pc ls (.int j :: .ref (ad k i) :: rest)) := by
  have hlt : j.toNatClampNeg < n := Nat.not_le.mp fun q => hin (Or.inr q)
  exact W.aald (v := v) (ty := ty) hexec hb (hW.1 k i _ he) ((hK.2 t0 _ ht).1 n (fun j => va_rf (f j))) hty (fun q => by cases q) (by show ¬ (j < 0 ∨ (arrV _ _ _).slots.size ≤ _); rw [arrV_size]; exact hin) (by show (arrV _ _ _).slots[_]? = _; rw [arrV_read _ _ hlt, hv]) rfl rfl hdg kk
theorem tq_iast (hexec : p.tables.exec = Jvm.exec) (hb : c.code = cc) (hK : va_K D vwCl (tq_tys cy) s) (hW : tq_wd D cy z H0 ad N T H) (hS0 : va_S (fun q => z ≤ q) Hs H locs) {k i n : Nat} (he : tq_mk cy ad N k i (T k i) = some (.inl (cy 0, n, .inl (T k i)))) {j x : Int32} (hin : vp_in j n) (he2 : tq_mk cy ad N k i ((tq_up T k i j.toNatClampNeg x) k i) = some (.inl (cy 0, n, .inl ((tq_up T k i j.toNatClampNeg x) k i)))) (hdg : decode cc pc = .ok (.iastore, 1))
    (kk : ∀ (H1 : Heap) (locs1 : List Loc), tq_wd D cy z H0 ad N (tq_up T k i j.toNatClampNeg x) H1 → va_S (fun q => z ≤ q) Hs H1 locs1 → W p l e R s m args below meth c H1 locs1 cells slots Q (F0 m (pc + 1) ls rest)) : W p l e R s m args below meth c H locs cells slots Q (F0 m pc ls (.int x :: .int j :: .ref (ad k i) :: rest)) := by
  refine W.iast hexec hb (hW.1 k i _ he) ((hK.2 0 _ rfl).1 n (fun q => .int (T k i q))) (fun q => by cases q) (by show ¬ (j < 0 ∨ (arrV _ _ _).slots.size ≤ _); rw [arrV_size]; exact hin) rfl rfl hdg fun H1 e1 z1 oq => ?_
  refine kk H1 _ (hW.set he he2 (fun k' i' h => tq_up_out h) ?_ oq z1) (hS0.put z1 oq (hW.2.2.1 k i _ he))
  show H1[ad k i]? = some (vp_cell _ _)
  rw [e1, tq_up_cell]
  rw [vp_cell_i, vp_cell_i, arrV_store]
  congr 2
  funext q
  by_cases hq : q = j.toNatClampNeg
  · subst hq
    simp [updV, upd]
  · simp [updV, upd, hq]
theorem tq_zast (hexec : p.tables.exec = Jvm.exec) (hb : c.code = cc) (hK : va_K D vwCl (tq_tys cy) s) (hW : tq_wd D cy z H0 ad N T H) (hS0 : va_S (fun q => z ≤ q) Hs H locs) {k i n : Nat} (he : tq_mk cy ad N k i (T k i) = some (.inl (cy 1, n, .inl (T k i)))) {j x : Int32} (hin : vp_in j n) (hnr : narrow .boolean (.int x) = .int x) (he2 : tq_mk cy ad N k i ((tq_up T k i j.toNatClampNeg x) k i) = some (.inl (cy 1, n, .inl ((tq_up T k i j.toNatClampNeg x) k i)))) (hdg : decode cc pc = .ok (.bastore, 1))
    (kk : ∀ (H1 : Heap) (locs1 : List Loc), tq_wd D cy z H0 ad N (tq_up T k i j.toNatClampNeg x) H1 → va_S (fun q => z ≤ q) Hs H1 locs1 → W p l e R s m args below meth c H1 locs1 cells slots Q (F0 m (pc + 1) ls rest)) : W p l e R s m args below meth c H locs cells slots Q (F0 m pc ls (.int x :: .int j :: .ref (ad k i) :: rest)) := by
  refine W.zast hexec hb (hW.1 k i _ he) ((hK.2 1 _ rfl).1 n (fun q => .int (T k i q))) (fun q => by cases q) (by show ¬ (j < 0 ∨ (arrV _ _ _).slots.size ≤ _); rw [arrV_size]; exact hin) rfl rfl hdg fun H1 e1 z1 oq => ?_
  refine kk H1 _ (hW.set he he2 (fun k' i' h => tq_up_out h) ?_ oq z1) (hS0.put z1 oq (hW.2.2.1 k i _ he))
  show H1[ad k i]? = some (vp_cell _ _)
  rw [e1, tq_up_cell, hnr]
  rw [vp_cell_i, vp_cell_i, arrV_store]
  congr 2
  funext q
  by_cases hq : q = j.toNatClampNeg
  · subst hq
    simp [updV, upd]
  · simp [updV, upd, hq]
theorem tq_alen (hexec : p.tables.exec = Jvm.exec) (hb : c.code = cc) (hK : va_K D vwCl (tq_tys cy) s) (hW : tq_wd D cy z H0 ad N T H) {k i : Nat} {cA : ClassId} {x : vp_A} (he : tq_mk cy ad N k i (T k i) = some (.inl (cA, x))) (t0 : Nat) {ty : FieldType} (ht : (tq_tys cy)[t0]? = some (cA, ty)) {v : Int32} (hv : Int32.ofNat x.1 = v) (hdg : decode cc pc = .ok (.arraylength, 1))
    (kk : W p l e R s m args below meth c H locs cells slots Q (F0 m (pc + 1) ls (.int v :: rest))) : W p l e R s m args below meth c H locs cells slots Q (F0 m pc ls (.ref (ad k i) :: rest)) :=
  va_alen (ws := [(ad k i, .inl (cA, x))]) hexec hb hK (tq_one (hW.1 k i _ he)) 0 t0 rfl ht hv hdg kk
end TQR
/-! facts of the tables that are no words of a method -/
def tq_nM : List (String × Nat × MethodName × String) := [("TwoSeas", 46, ⟨"TwoSeas$Reader", "<init>", "()V"⟩, "TwoSeas"), ("TwoSeas", 53, ⟨"TwoSeas$Market", "<init>", "()V"⟩, "TwoSeas"), ("TwoSeas", 71, ⟨"TwoSeas$Acts", "<init>", "()V"⟩, "TwoSeas"), ("TwoSeas", 85, ⟨"TwoSeas$Sheet", "<init>", "()V"⟩, "TwoSeas"), ("TwoSeas$Ship", 40, ⟨"TwoSeas", "sumOf", "([I)I"⟩, "TwoSeas"), ("TwoSeas", 434, ⟨"TwoSeas$Acts", "run", "(LTwoSeas$Paper;IIII)I"⟩, "TwoSeas")]
def tq_nF : List (String × Nat × String × String × String × String) := [("TwoSeas$Acts", 23, "TwoSeas", "BODIES", "[I", "TwoSeas"), ("TwoSeas$Acts", 26, "TwoSeas", "ABOVE", "[I", "TwoSeas")]
def tq_nC : List (String × String) := [("[I", "java/lang/Cloneable"), ("TwoSeas$Bill", "TwoSeas$Paper"), ("TwoSeas$Place", "java/lang/Object"), ("TwoSeas$Sheet", "java/lang/Object"), ("TwoSeas", "java/lang/Object"), ("java/util/ArrayList", "java/lang/Object"), ("TwoSeas$Reader", "java/lang/Object"), ("TwoSeas$Market", "java/lang/Object"), ("TwoSeas$Acts", "java/lang/Object"), ("TwoSeasModel", "java/lang/Object"), ("TwoSeas$Paper", "java/lang/Object"), ("TwoSeas$Paragraph", "java/lang/Object"), ("TwoSeas$Test", "java/lang/Object"), ("TwoSeas$Ship", "java/lang/Object"), ("TwoSeas$Voyage", "java/lang/Object"), ("TwoSeas$Bill", "java/lang/Object"), ("java/lang/String", "java/lang/Object"), ("[LTwoSeas$Place;", "java/lang/Object"), ("[I", "java/lang/Object"), ("[[I", "java/lang/Object"), ("[LTwoSeas$Sheet;", "java/lang/Object"), ("[B", "java/lang/Object"), ("[Ljava/lang/Object;", "java/lang/Object"), ("[Z", "java/lang/Object")]
def tq_AA (U : State) : Prop := (Cond.arrayOver (.array .int)).before #[] U = true
theorem tq_AA.moved {u U : State} (hvm : u.vm.Alike U.vm) (h : tq_AA u) : tq_AA U := by
  have h2 : (Cond.arrayOver (.array .int)).before #[] (u.setVm U.vm) = true := by rw [Cond.arrayOver_setVmC hvm]; exact h
  unfold tq_AA
  unfold Cond.before Cond.holds at h2 ⊢
  simp only [Cond.value] at h2 ⊢
  first | exact h2 | simpa using h2
/-- where the cells lie that are made later: an object of the number i at z + i, what its constructor makes right behind it -/
def tq_adr (z : Nat) (ad : Nat → Nat → Nat) : Prop := (∀ i : Nat, ad 7 i = z + i ∧ ad 50 i = z + i + 1 ∧ ad 52 i = z + i + 2 ∧ ad 51 i = z + i + 3) ∧ (∀ i : Nat, ad 8 i = z + i ∧ ad 54 i = z + i + 1 ∧ ad 55 i = z + i + 2 ∧ ad 56 i = z + i + 3) ∧ (∀ i : Nat, ad 9 i = z + i ∧ ad 57 i = z + i + 1 ∧ ad 58 i = z + i + 2) ∧ (∀ i : Nat, ad 10 i = z + i ∧ ad 59 i = z + i + 1) ∧ (∀ i : Nat, ad 11 i = z + i) ∧ (∀ i : Nat, ad 16 i = z + i ∧ ad 18 i = z + i ∧ ad 20 i = z + i ∧ ad 23 i = z + i ∧ ad 37 i = z + i ∧ ad 39 i = z + i ∧ ad 53 i = z + i ∧ ad 60 i = z + i) ∧ (∀ i : Nat, 1 ≤ i → ad 1 i = z + i ∧ ad 12 i = z + i)
def tq_G2 (z : Nat) (ad : Nat → Nat → Nat) (U : State) : Prop := (∀ x ∈ tq_nM, va_Nw (.methodLinkNest x.1 x.2.1 x.2.2.1 x.2.2.2) U) ∧ (∀ x ∈ tq_nF, va_Nw (.fieldLinkNest x.1 x.2.1 x.2.2.1 x.2.2.2.1 x.2.2.2.2.1 x.2.2.2.2.2) U) ∧ (∀ x ∈ tq_nC, va_Nw (.castable x.1 x.2) U) ∧ (∀ C ∈ ["TwoSeas$Place", "TwoSeas$Sheet", "java/lang/Object"], va_AO C U) ∧ tq_AA U ∧ va_Nc "TwoSeas$Paper" "TwoSeas$Bill" U ∧ va_Mi "[Ljava/lang/Object;" (ad 63 2) U ∧ va_Dc U ∧ tq_adr z ad
theorem tq_G2.go {z : Nat} {ad : Nat → Nat → Nat} {s U : State} (h : tq_G2 z ad s) (hW : s.WarmedH U.vm) : tq_G2 z ad U := by
  obtain ⟨h1, h2, h3, h4, h5, h6, h7, h8, h9⟩ := h
  exact ⟨fun x hx => (h1 x hx).warmM hW, fun x hx => (h2 x hx).warmF hW, fun x hx => (h3 x hx).warmC hW, fun x hx => (h4 x hx).moved hW.alike, h5.moved hW.alike, h6.moved hW.alike, h7.moved hW.alike, h8.moved hW.alike, h9⟩
/-! the constants: texts, the statics of the class and of the library, all below z -/
def tq_nS : Nat := 28
def tq_len : List Nat := [1, 3, 3, 7, 4, 4, 4, 5, 2, 4, 3, 4, 6, 3, 4, 3, 1, 4, 8, 5, 5, 5, 4, 4, 5, 7, 4, 3]
def tq_byt : List (List Int32) := [[32], [105, 102, 32], [117, 121, 32], [100, 118, 97, 110, 99, 101, 32], [97, 100, 101, 32], [97, 105, 108, 32], [114, 97, 119, 32], [107, 101, 101, 112, 32], [114, 32], [97, 110, 100, 32], [111, 116, 32], [114, 105, 99, 101], [117, 108, 108, 105, 111, 110], [111, 99, 107], [104, 105, 112, 115], [100, 97, 121], [61], [98, 117, 121, 32], [97, 100, 118, 97, 110, 99, 101, 32], [108, 97, 100, 101, 32], [115, 97, 105, 108, 32], [100, 114, 97, 119, 32], [110, 111, 116, 32], [116, 111, 99, 107], [112, 114, 105, 99, 101], [98, 117, 108, 108, 105, 111, 110], [32, 105, 102, 32], [111, 114, 32]]
def tq_sr : List (String × Nat × String × Nat) := [("TwoSeas$Reader", 43, " ", 0), ("TwoSeas$Reader", 62, "if ", 1), ("TwoSeas$Reader", 78, "uy ", 2), ("TwoSeas$Reader", 80, "dvance ", 3), ("TwoSeas$Reader", 82, "ade ", 4), ("TwoSeas$Reader", 84, "ail ", 5), ("TwoSeas$Reader", 86, "raw ", 6), ("TwoSeas$Reader", 88, "keep ", 7), ("TwoSeas$Reader", 97, "r ", 8), ("TwoSeas$Reader", 99, "and ", 9), ("TwoSeas$Reader", 101, "ot ", 10), ("TwoSeas$Reader", 114, "rice", 11), ("TwoSeas$Reader", 116, "ullion", 12), ("TwoSeas$Reader", 118, "ock", 13), ("TwoSeas$Reader", 120, "hips", 14), ("TwoSeas$Reader", 122, "day", 15), ("TwoSeas$Reader", 124, "=", 16), ("TwoSeasModel", 259, "buy ", 17), ("TwoSeasModel", 261, "advance ", 18), ("TwoSeasModel", 263, "lade ", 19), ("TwoSeasModel", 265, "sail ", 20), ("TwoSeasModel", 267, "draw ", 21), ("TwoSeasModel", 269, "keep ", 7), ("TwoSeasModel", 278, " ", 0), ("TwoSeasModel", 283, "not ", 22), ("TwoSeasModel", 285, "hips", 14), ("TwoSeasModel", 287, "tock", 23), ("TwoSeasModel", 289, "price", 24), ("TwoSeasModel", 291, "bullion", 25), ("TwoSeasModel", 293, "day", 15), ("TwoSeasModel", 298, " if ", 26), ("TwoSeasModel", 309, "or ", 27), ("TwoSeasModel", 311, "and ", 9)]
def tq_above : List Int32 := [(-1), 0, 1, 1, 1, 4, 3]
def tq_bodies : List Int32 := [10, 11, 12, 0, 20, 0, 30, 0, 0, 0, 0, 40, 0, 0, 50, 0, 60, 61, 70, 0, 0]
def tq_G (z : Nat) (ad : Nat → Nat → Nat) (U : State) : Prop := vk_S tq_nS tq_len tq_byt (ad 61) (ad 62) (fun q => z ≤ q) U U.heap ∧ (∀ x ∈ tq_sr, vk_R x.1 x.2.1 x.2.2.1 (ad 61 x.2.2.2) U) ∧ va_Z "java/lang/String" "COMPACT_STRINGS" "Z" (.int 1) (fun q => z ≤ q) U U.heap ∧ (va_Z "TwoSeas" "ABOVE" "[I" (.ref (ad 63 0)) (fun q => z ≤ q) U U.heap ∧ va_T .int (ad 63 0) 7 (fun j => .int (tq_above.getD j 0)) (fun q => z ≤ q) U U.heap) ∧ (va_Z "TwoSeas" "BODIES" "[I" (.ref (ad 63 1)) (fun q => z ≤ q) U U.heap ∧ va_T .int (ad 63 1) 21 (fun j => .int (tq_bodies.getD j 0)) (fun q => z ≤ q) U U.heap) ∧ va_Z "java/util/ArrayList" "DEFAULTCAPACITY_EMPTY_ELEMENTDATA" "[Ljava/lang/Object;" (.ref (ad 0 0)) (fun q => z ≤ q) U U.heap ∧ va_T (.object "java/lang/Object") (ad 0 0) 0 (fun _ => .null) (fun q => z ≤ q) U U.heap ∧ va_Zq "jdk/internal/util/Preconditions" "SIOOBE_FORMATTER" "Ljava/util/function/BiFunction;" (fun q => z ≤ q) U U.heap ∧ tq_G2 z ad U
theorem tq_G.go {z : Nat} {ad : Nat → Nat → Nat} {s U : State} (h : tq_G z ad s) (hq : ∀ a : Nat, a < s.heap.size → ¬ z ≤ a → U.heap[a]? = s.heap[a]?) (hW : s.WarmedH U.vm) : tq_G z ad U := by
  obtain ⟨h1, h2, h3, ⟨h4, h5⟩, ⟨h6, h7⟩, h8, h9, h10, h11⟩ := h
  exact ⟨(h1.kept hq).moved hW.alike, fun x hx => (h2 x hx).warm hW, (h3.kept hq).moved hW.alike, ⟨(h4.kept hq).moved hW.alike, (h5.kept hq).moved hW.alike⟩, ⟨(h6.kept hq).moved hW.alike, (h7.kept hq).moved hW.alike⟩, (h8.kept hq).moved hW.alike, (h9.kept hq).moved hW.alike, (h10.kept hq).moved hW.alike, h11.go hW⟩
/-! contracts of methods that make nothing: the world with its two stores -/
def tq_B (D : va_G) (cy : Nat → ClassId) (z : Nat) (H0 : Heap) (ad : Nat → Nat → Nat) (N : tq_Nn) (S M : tq_St) (U : State) : Prop := tq_wd D cy z H0 ad N (tq_mix S M) U.heap ∧ va_K D vwCl (tq_tys cy) U ∧ tq_G z ad U
/-- behind a method: the world; tables and constants are the caller's own -/
def tq_P (D : va_G) (cy : Nat → ClassId) (z : Nat) (H0 : Heap) (ad : Nat → Nat → Nat) (N : tq_Nn) (S M : tq_St) (U : State) : Prop := tq_wd D cy z H0 ad N (tq_mix S M) U.heap
theorem tq_blind {D : va_G} {cy : Nat → ClassId} {z : Nat} {H0 : Heap} {ad : Nat → Nat → Nat} {N : tq_Nn} {S M : tq_St} {av : List Value} : FrameBlind (va_Pc av (tq_B D cy z H0 ad N S M)) := fun a U g mk q => ⟨q.1, q.2.1, va_K.moved (u := U) (U := U.calling g mk a) (Vm.Alike.refl U.vm) q.2.2.1, tq_G.go (U := U.calling g mk a) q.2.2.2 (fun _ _ _ => rfl) (State.WarmedH.refl U)⟩
def tq_rm (fr lo : Nat) : Room := { frames := fr, cells := 0, slots := 0, locals := lo }
/-- a method of the reference that answers an int (or a boolean); post: of the reference's store behind it and the answer -/
def tq_mI (l : Launch) (y : MethodName) (ws : List Cond) (fr lo : Nat) (D : va_G) (cy : Nat → ClassId) (z : Nat) (H0 : Heap) (ad : Nat → Nat → Nat) (N : tq_Nn) (S M : tq_St) (av : List Value) (post : tq_St → Int32 → Prop) : Prop :=
  Met l y ws (tq_rm fr lo) (va_Pc av (tq_B D cy z H0 ad N S M)) (va_Qi (fun r u => post u r) (tq_P D cy z H0 ad N S) (fun q => z ≤ q)) 0 0 (fun q => z ≤ q)
def tq_mV (l : Launch) (y : MethodName) (ws : List Cond) (fr lo : Nat) (D : va_G) (cy : Nat → ClassId) (z : Nat) (H0 : Heap) (ad : Nat → Nat → Nat) (N : tq_Nn) (S M : tq_St) (av : List Value) (post : tq_St → Prop) : Prop :=
  Met l y ws (tq_rm fr lo) (va_Pc av (tq_B D cy z H0 ad N S M)) (va_Qv (fun u => post u) (tq_P D cy z H0 ad N S) (fun q => z ≤ q)) 0 0 (fun q => z ≤ q)
section TQC
variable {p : Program} {l : Launch} {e : Env} {R : Room} {s : State} {m : MethodId} {args : Array Value} {below : List Frame} {meth : Method} {c : Code} {H : Heap} {locs : List Loc} {cells slots : Nat} {Q : State → Prop}
variable {cc : ByteArray} {pc nL n index maxL fr lo : Nat} {ls : Array Slot} {rest st0 As : List Value} {D : va_G} {cy : Nat → ClassId} {z : Nat} {H0 : Heap} {ad : Nat → Nat → Nat} {N : tq_Nn} {S M : tq_St} {Ts ws : List Cond} {own : String} {y : MethodName} {bytes : ByteArray} {ret : Option FieldType}
theorem tq_recv (hK : va_K D vwCl (tq_tys cy) s) (hW : tq_wd D cy z H0 ad N (tq_mix S M) H) : ∃ cellB : Cell, H[ad 64 0]? = some cellB ∧ cellB.vm.isStatics = false ∧ s.vm.findClass RX12 = some cellB.cls :=
  va_recv hK (tq_one (hW.1 64 0 _ (tq_mk_64 (by decide)))) (ci := 13) (q0 := 0) rfl rfl
theorem tq_callVi {post : tq_St → Int32 → Prop} (hM : tq_mI l y ws fr lo D cy z H0 ad N S M (.ref (ad 64 0) :: As) post) (S0 : CallFix p m c cc nL s args Ts own) (cw : CallW R s args own RX12 index y bytes maxL ret ws (tq_rm fr lo) 0 0 n) (hK : va_K D vwCl (tq_tys cy) s) (hG : tq_G z ad s) (hW : tq_wd D cy z H0 ad N (tq_mix S M) H) (hS : va_S (fun q => z ≤ q) s.heap H locs) (hn : As.length = n) (hsize : ls.size = nL) (hst : st0 = As.reverse ++ .ref (ad 64 0) :: rest) (hW8 : (rest.map fun v => v.category).sum ≤ 8) (hdg : decode cc pc = .ok (.invokevirtual index, 3)) (hf : cells + 0 ≤ R.cells ∧ slots + 0 ≤ R.slots)
    (kk : ∀ (r : Int32) (M1 : tq_St) (H1 : Heap) (locs1 : List Loc), post M1 r → tq_wd D cy z H0 ad N (tq_mix S M1) H1 → va_S (fun q => z ≤ q) s.heap H1 locs1 → W p l e R s m args below meth c H1 locs1 cells slots Q (F0 m (pc + 3) ls (.int r :: rest))) : W p l e R s m args below meth c H locs cells slots Q (F0 m pc ls st0) := by
  refine va_calli (va_runV (As := As) (rest := rest) S0 hM cw ⟨tq_blind, tq_recv hK hW, fun U hU hW1 => ⟨rfl, by rw [hU]; exact hW, va_K.moved hW1.alike hK, hG.go (fun a h1 h2 => by rw [hU]; exact hS.2.1 a h1 h2) hW1⟩⟩ rfl hn hsize hst (lv_room hW8) hdg hf) hS (fun q _ h => h) (fun q h => h) (fun r u t H1 locs1 ht hvm hw hB hz1 hk1 hS1 => ?_)
  exact kk r u H1 locs1 hw (by rw [← ht]; exact hB) hS1
theorem tq_callVv {post : tq_St → Prop} (hM : tq_mV l y ws fr lo D cy z H0 ad N S M (.ref (ad 64 0) :: As) post) (S0 : CallFix p m c cc nL s args Ts own) (cw : CallW R s args own RX12 index y bytes maxL ret ws (tq_rm fr lo) 0 0 n) (hK : va_K D vwCl (tq_tys cy) s) (hG : tq_G z ad s) (hW : tq_wd D cy z H0 ad N (tq_mix S M) H) (hS : va_S (fun q => z ≤ q) s.heap H locs) (hn : As.length = n) (hsize : ls.size = nL) (hst : st0 = As.reverse ++ .ref (ad 64 0) :: rest) (hW8 : (rest.map fun v => v.category).sum ≤ 8) (hdg : decode cc pc = .ok (.invokevirtual index, 3)) (hf : cells + 0 ≤ R.cells ∧ slots + 0 ≤ R.slots)
    (kk : ∀ (M1 : tq_St) (H1 : Heap) (locs1 : List Loc), post M1 → tq_wd D cy z H0 ad N (tq_mix S M1) H1 → va_S (fun q => z ≤ q) s.heap H1 locs1 → W p l e R s m args below meth c H1 locs1 cells slots Q (F0 m (pc + 3) ls rest)) : W p l e R s m args below meth c H locs cells slots Q (F0 m pc ls st0) := by
  refine va_callv (va_runV (As := As) (rest := rest) S0 hM cw ⟨tq_blind, tq_recv hK hW, fun U hU hW1 => ⟨rfl, by rw [hU]; exact hW, va_K.moved hW1.alike hK, hG.go (fun a h1 h2 => by rw [hU]; exact hS.2.1 a h1 h2) hW1⟩⟩ rfl hn hsize hst (lv_room hW8) hdg hf) hS (fun q _ h => h) (fun q h => h) (fun u t H1 locs1 ht hvm hw hB hz1 hk1 hS1 => ?_)
  exact kk u H1 locs1 hw (by rw [← ht]; exact hB) hS1
theorem tq_callSi {post : tq_St → Int32 → Prop} (hM : tq_mI l y ws fr lo D cy z H0 ad N S M As post) (S0 : CallFix p m c cc nL s args Ts own) (cw : CallB R s args own index y bytes maxL ret ws (tq_rm fr lo) 0 0 n ∧ (Cond.static y).before args s = true) (hK : va_K D vwCl (tq_tys cy) s) (hG : tq_G z ad s) (hW : tq_wd D cy z H0 ad N (tq_mix S M) H) (hS : va_S (fun q => z ≤ q) s.heap H locs) (hn : As.length = n) (hsize : ls.size = nL) (hst : st0 = As.reverse ++ rest) (hW8 : (rest.map fun v => v.category).sum ≤ 8) (hdg : decode cc pc = .ok (.invokestatic index, 3)) (hf : cells + 0 ≤ R.cells ∧ slots + 0 ≤ R.slots)
    (kk : ∀ (r : Int32) (M1 : tq_St) (H1 : Heap) (locs1 : List Loc), post M1 r → tq_wd D cy z H0 ad N (tq_mix S M1) H1 → va_S (fun q => z ≤ q) s.heap H1 locs1 → W p l e R s m args below meth c H1 locs1 cells slots Q (F0 m (pc + 3) ls (.int r :: rest))) : W p l e R s m args below meth c H locs cells slots Q (F0 m pc ls st0) := by
  refine va_calli (va_runS (As := As) (rest := rest) S0 hM cw ⟨tq_blind, fun U hU hW1 => ⟨rfl, by rw [hU]; exact hW, va_K.moved hW1.alike hK, hG.go (fun a h1 h2 => by rw [hU]; exact hS.2.1 a h1 h2) hW1⟩⟩ rfl hn hsize hst (lv_room hW8) hdg hf) hS (fun q _ h => h) (fun q h => h) (fun r u t H1 locs1 ht hvm hw hB hz1 hk1 hS1 => ?_)
  exact kk r u H1 locs1 hw (by rw [← ht]; exact hB) hS1
end TQC
section TQM
variable {p : Program} {l : Launch} {e : Env} {R : Room} {s : State} {m : MethodId} {args : Array Value} {below : List Frame} {meth : Method} {c : Code} {H : Heap} {locs : List Loc} {cells slots : Nat} {Q : State → Prop}
variable {cc : ByteArray} {pc : Nat} {ls : Array Slot} {rest : List Value} {D : va_G} {cy : Nat → ClassId} {z : Nat} {H0 Hs : Heap} {ad : Nat → Nat → Nat} {N : tq_Nn} {S M : tq_St}
theorem tqm_get (hexec : p.tables.exec = Jvm.exec) (hb : c.code = cc) {own ref C : String} {Tb : u_T} {nf ci index : Nat} {Ts : List Cond} (hts : ∀ w ∈ Ts, w.before args s = true) (hin : ∀ w ∈ u_ws C Tb nf, w ∈ Ts) (hown : s.vm.findClass own = some m.cls) (hK : va_K D vwCl (tq_tys cy) s) (hW : tq_wd D cy z H0 ad N (tq_mix S M) H) {k i : Nat} (hk : ¬ k < 64) (he : tq_mk cy ad N k i (M k i) = some (tq_obj ad ci nf k i (M k i))) (hc : vwCl[ci]? = some (C, Tb, nf)) (t : Nat) (ht : t < nf) (hlink : (Cond.fieldLink own index ref (Tb t).2.1 (Tb t).2.2.1).before args s = true) (hsame : ∀ x, s.fieldFound? (Tb t).1 (Tb t).2.1 (Tb t).2.2.1 = some x → s.fieldFound? ref (Tb t).2.1 (Tb t).2.2.1 = some x) {v : Value} (hv : tq_fld ad k i (M k i) t = v) (hdg : decode cc pc = .ok (.getfield index, 3))
    (kk : W p l e R s m args below meth c H locs cells slots Q (F0 m (pc + 3) ls (v :: rest))) : W p l e R s m args below meth c H locs cells slots Q (F0 m pc ls (.ref (ad k i) :: rest)) := by
  have e1 := tq_mixM S M hk
  exact tq_get hexec hb hts hin hown hK hW (by rw [e1]; exact he) hc t ht hlink hsame (by rw [e1]; exact hv) hdg kk
theorem tqm_put (hexec : p.tables.exec = Jvm.exec) (hb : c.code = cc) {own ref C : String} {Tb : u_T} {nf ci index : Nat} {Ts : List Cond} (hts : ∀ w ∈ Ts, w.before args s = true) (hin : ∀ w ∈ u_ws C Tb nf, w ∈ Ts) (ty0 : Nat → FieldType) (hty : ∀ k, k < nf → parseFieldDescriptor (Tb k).2.2.1 = some (ty0 k)) (hnm : ∀ a, a < nf → ∀ b, b < nf → a ≠ b → (Tb a).2.1 ≠ (Tb b).2.1) (hown : s.vm.findClass own = some m.cls) (hK : va_K D vwCl (tq_tys cy) s) (hW : tq_wd D cy z H0 ad N (tq_mix S M) H) (hS0 : va_S (fun q => z ≤ q) Hs H locs) {k i : Nat} (hk : ¬ k < 64) (he : tq_mk cy ad N k i (M k i) = some (tq_obj ad ci nf k i (M k i))) (hc : vwCl[ci]? = some (C, Tb, nf)) (t : Nat) (ht : t < nf) (hlink : (Cond.fieldLink own index ref (Tb t).2.1 (Tb t).2.2.1).before args s = true) (hsame : ∀ x, s.fieldFound? (Tb t).1 (Tb t).2.1 (Tb t).2.2.1 = some x → s.fieldFound? ref (Tb t).2.1 (Tb t).2.2.1 = some x) (hfin : (Tb t).2.2.2 = false) {x : Int32} (hn : narrow (ty0 t) (.int x) = .int x) (hfit : fits (ty0 t) (.int x) = true) (h0 : tq_fty k t = 0)
    (he2 : tq_mk cy ad N k i ((tq_up M k i t x) k i) = some (tq_obj ad ci nf k i ((tq_up M k i t x) k i))) (hdg : decode cc pc = .ok (.putfield index, 3))
    (kk : ∀ (H1 : Heap) (locs1 : List Loc), tq_wd D cy z H0 ad N (tq_mix S (tq_up M k i t x)) H1 → va_S (fun q => z ≤ q) Hs H1 locs1 → W p l e R s m args below meth c H1 locs1 cells slots Q (F0 m (pc + 3) ls rest)) : W p l e R s m args below meth c H locs cells slots Q (F0 m pc ls (.int x :: .ref (ad k i) :: rest)) := by
  have e1 := tq_mixM S M hk
  have e2 := tq_mix_upM S M hk i t x
  have e3 := tq_mixM S (tq_up M k i t x) hk
  exact tq_put hexec hb hts hin ty0 hty hnm hown hK hW hS0 (by rw [e1]; exact he) hc t ht hlink hsame hfin (hty t ht) hn hfit h0 (by rw [e2, e3]; exact he2) hdg (fun H1 l1 w1 s1 => kk H1 l1 (by rw [← e2]; exact w1) s1)
theorem tqm_iald {jn : Nat} (hexec : p.tables.exec = Jvm.exec) (hb : c.code = cc) (hK : va_K D vwCl (tq_tys cy) s) (hW : tq_wd D cy z H0 ad N (tq_mix S M) H) {k i n : Nat} (hk : ¬ k < 64) (he : tq_mk cy ad N k i (M k i) = some (.inl (cy 0, n, .inl (M k i)))) {j : Int32} (hin : vp_in j n) (hj : j.toNatClampNeg = jn) (hdg : decode cc pc = .ok (.iaload, 1))
    (kk : W p l e R s m args below meth c H locs cells slots Q (F0 m (pc + 1) ls (.int (M k i jn) :: rest))) : W p l e R s m args below meth c H locs cells slots Q (F0 m pc ls (.int j :: .ref (ad k i) :: rest)) := by
  have e1 := tq_mixM S M hk
  subst hj
  exact tq_iald hexec hb hK hW (by rw [e1]; exact he) hin hdg (by rw [e1]; exact kk)
theorem tqm_zald {jn : Nat} (hexec : p.tables.exec = Jvm.exec) (hb : c.code = cc) (hK : va_K D vwCl (tq_tys cy) s) (hW : tq_wd D cy z H0 ad N (tq_mix S M) H) {k i n : Nat} (hk : ¬ k < 64) (he : tq_mk cy ad N k i (M k i) = some (.inl (cy 1, n, .inl (M k i)))) {j : Int32} (hin : vp_in j n) (hj : j.toNatClampNeg = jn) (hdg : decode cc pc = .ok (.baload, 1))
    (kk : W p l e R s m args below meth c H locs cells slots Q (F0 m (pc + 1) ls (.int (M k i jn) :: rest))) : W p l e R s m args below meth c H locs cells slots Q (F0 m pc ls (.int j :: .ref (ad k i) :: rest)) := by
  have e1 := tq_mixM S M hk
  subst hj
  exact tq_zald hexec hb hK hW (by rw [e1]; exact he) hin hdg (by rw [e1]; exact kk)
theorem tqm_aald {jn : Nat} (hexec : p.tables.exec = Jvm.exec) (hb : c.code = cc) (hK : va_K D vwCl (tq_tys cy) s) (hW : tq_wd D cy z H0 ad N (tq_mix S M) H) {k i n : Nat} (hk : ¬ k < 64) {cA : ClassId} {f : Nat → Option Nat} (he : tq_mk cy ad N k i (M k i) = some (.inl (cA, n, .inr (.inr (.inr (.inr f)))))) (t0 : Nat) {ty : FieldType} (ht : (tq_tys cy)[t0]? = some (cA, ty)) (hty : ty.isReference = true) {j : Int32} (hin : vp_in j n) (hj : j.toNatClampNeg = jn) {v : Value} (hv : va_rf (f jn) = v) (hdg : decode cc pc = .ok (.aaload, 1))
    (kk : W p l e R s m args below meth c H locs cells slots Q (F0 m (pc + 1) ls (v :: rest))) : W p l e R s m args below meth c H locs cells slots Q (F0 m pc ls (.int j :: .ref (ad k i) :: rest)) := by
  have e1 := tq_mixM S M hk
  subst hj
  exact tq_aald hexec hb hK hW (by rw [e1]; exact he) t0 ht hty hin hv hdg kk
theorem tqm_iast {jn : Nat} (hexec : p.tables.exec = Jvm.exec) (hb : c.code = cc) (hK : va_K D vwCl (tq_tys cy) s) (hW : tq_wd D cy z H0 ad N (tq_mix S M) H) (hS0 : va_S (fun q => z ≤ q) Hs H locs) {k i n : Nat} (hk : ¬ k < 64) (he : tq_mk cy ad N k i (M k i) = some (.inl (cy 0, n, .inl (M k i)))) {j x : Int32} (hin : vp_in j n) (hj : j.toNatClampNeg = jn) (he2 : tq_mk cy ad N k i ((tq_up M k i jn x) k i) = some (.inl (cy 0, n, .inl ((tq_up M k i jn x) k i)))) (hdg : decode cc pc = .ok (.iastore, 1))
    (kk : ∀ (H1 : Heap) (locs1 : List Loc), tq_wd D cy z H0 ad N (tq_mix S (tq_up M k i jn x)) H1 → va_S (fun q => z ≤ q) Hs H1 locs1 → W p l e R s m args below meth c H1 locs1 cells slots Q (F0 m (pc + 1) ls rest)) : W p l e R s m args below meth c H locs cells slots Q (F0 m pc ls (.int x :: .int j :: .ref (ad k i) :: rest)) := by
  subst hj
  have e1 := tq_mixM S M hk
  have e2 := tq_mix_upM S M hk i j.toNatClampNeg x
  have e3 := tq_mixM S (tq_up M k i j.toNatClampNeg x) hk
  exact tq_iast hexec hb hK hW hS0 (by rw [e1]; exact he) hin (by rw [e2, e3]; exact he2) hdg (fun H1 l1 w1 s1 => kk H1 l1 (by rw [← e2]; exact w1) s1)
theorem tqm_zast {jn : Nat} (hexec : p.tables.exec = Jvm.exec) (hb : c.code = cc) (hK : va_K D vwCl (tq_tys cy) s) (hW : tq_wd D cy z H0 ad N (tq_mix S M) H) (hS0 : va_S (fun q => z ≤ q) Hs H locs) {k i n : Nat} (hk : ¬ k < 64) (he : tq_mk cy ad N k i (M k i) = some (.inl (cy 1, n, .inl (M k i)))) {j x : Int32} (hin : vp_in j n) (hj : j.toNatClampNeg = jn) (hnr : narrow .boolean (.int x) = .int x) (he2 : tq_mk cy ad N k i ((tq_up M k i jn x) k i) = some (.inl (cy 1, n, .inl ((tq_up M k i jn x) k i)))) (hdg : decode cc pc = .ok (.bastore, 1))
    (kk : ∀ (H1 : Heap) (locs1 : List Loc), tq_wd D cy z H0 ad N (tq_mix S (tq_up M k i jn x)) H1 → va_S (fun q => z ≤ q) Hs H1 locs1 → W p l e R s m args below meth c H1 locs1 cells slots Q (F0 m (pc + 1) ls rest)) : W p l e R s m args below meth c H locs cells slots Q (F0 m pc ls (.int x :: .int j :: .ref (ad k i) :: rest)) := by
  subst hj
  have e1 := tq_mixM S M hk
  have e2 := tq_mix_upM S M hk i j.toNatClampNeg x
  have e3 := tq_mixM S (tq_up M k i j.toNatClampNeg x) hk
  exact tq_zast hexec hb hK hW hS0 (by rw [e1]; exact he) hin hnr (by rw [e2, e3]; exact he2) hdg (fun H1 l1 w1 s1 => kk H1 l1 (by rw [← e2]; exact w1) s1)
end TQM
theorem tq_lt {j : Int32} {n : Nat} (h : vp_in j n) : j.toNatClampNeg < n := Nat.not_le.mp fun q => h (Or.inr q)
/-- what holds at every instruction of a method -/
def tq_At (p : Program) (s : State) (m : MethodId) (meth : Method) (c : Code) (args : Array Value) (cc : ByteArray) (nL : Nat) (ret : Option FieldType) (Ts : List Cond) (own : String) (D : va_G) (cy : Nat → ClassId) (z : Nat) (ad : Nat → Nat → Nat) : Prop :=
  p.tables.exec = Jvm.exec ∧ c.code = cc ∧ meth.sig.returnType = ret ∧ c.maxLocals = nL ∧ s.vm.findClass own = some m.cls ∧ (∀ w ∈ Ts, w.before args s = true) ∧ meth.locks = false ∧ va_K D vwCl (tq_tys cy) s ∧ tq_G z ad s
theorem tq_ne {x k : Int32} {i : Int} (h : ¬ x = k) (hk : k.toInt = i) : ¬ x.toInt = i := fun e => h (Int32.toInt_inj.mp (e.trans hk.symm))

