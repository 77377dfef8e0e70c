/-! pure: the relation between the class's store S and the reference's store M -/
def tp_sm (f : Nat → Int) : Nat → Int
  | 0 => 0
  | n + 1 => tp_sm f n + f n
/-- the reference's counts -/
def q_sc (c d pn P Sh V E A t r eb : Nat) (M : tq_St) : Prop :=
  M 64 0 0 = nI d ∧ M 64 0 6 = nI pn ∧ M 64 0 9 = nI P ∧ M 64 0 21 = nI Sh ∧ M 64 0 31 = nI V ∧ M 64 0 43 = nI E ∧ M 64 0 45 = nI A ∧ M 64 0 61 = nI t ∧ M 64 0 66 = nI r
  ∧ d ≤ 2999 ∧ pn ≤ 20 ∧ P ≤ 150 ∧ Sh ≤ 8 ∧ V ≤ 99 ∧ E ≤ eb ∧ eb ≤ 100000000 ∧ A ≤ 17 ∧ t ≤ 120 ∧ r ≤ 100 ∧ c ≤ 512
/-- the class's are the same -/
def q_ss (S M : tq_St) : Prop :=
  S 1 0 0 = M 64 0 0 ∧ S 1 0 2 = M 64 0 6 ∧ S 1 0 10 = M 64 0 43 ∧ S 1 0 16 = M 64 0 58 ∧ S 3 0 1 = M 64 0 61 ∧ S 4 0 4 = M 64 0 55 ∧ S 5 0 1 = M 64 0 66
/-- rows that are the same -/
def q_ar (S M : tq_St) : Prop :=
  S 13 = M 107 ∧ S 14 = M 108 ∧ S 21 = M 126 ∧ S 25 = M 156 ∧ S 26 = M 157 ∧ S 28 = M 159 ∧ S 30 = M 102 ∧ S 32 = M 105 ∧ S 41 = M 160 ∧ S 43 = M 151 ∧ S 45 = M 152 ∧ S 46 = M 153 ∧ S 47 = M 154 ∧ S 48 = M 165 ∧ S 49 = M 163
/-- places -/
def q_pl (S M : tq_St) : Prop :=
  (∀ p : Nat, p < 5 → S 2 p 0 = nI p) ∧ (∀ p : Nat, p < 5 → S 2 p 1 = M 101 0 p) ∧ (∀ p : Nat, 1 ≤ p → p < 5 → S 2 p 3 = M 103 p 0) ∧ (∀ p : Nat, 1 ≤ p → p < 5 → S 2 p 4 = M 103 p 1) ∧ (∀ p : Nat, 1 ≤ p → p < 5 → S 2 p 5 = M 103 p 2) ∧ (∀ p : Nat, 1 ≤ p → p < 5 → S 31 p = M 104 p)
/-- the log -/
def q_lg (d E : Nat) (S M : tq_St) : Prop :=
  (∀ i j : Nat, i < 500 → j < 8 → S 24 0 (i * 8 + j) = M 144 i j) ∧ (∀ i : Nat, i < E → i < 500 → (∃ x : Nat, x ≤ d ∧ M 144 i 0 = nI x) ∧ ∃ p : Nat, 1 ≤ p ∧ p ≤ 4 ∧ M 144 i 1 = nI p)
/-- sheets -/
def q_sh (S M : tq_St) : Prop :=
  ∀ q : Nat, q < 3 → S 6 q 0 = M 162 0 q ∧ S 6 q 1 = M 164 0 q ∧ -1 ≤ (M 162 0 q).toInt ∧ (M 162 0 q).toInt ≤ 2 ∧ ∃ z : Nat, z ≤ 64 ∧ M 164 0 q = nI z
/-- ranks -/
def q_pe (pn : Nat) (M : tq_St) : Prop := ∀ i : Nat, i < pn → ∃ k : Nat, k ≤ 9 ∧ M 108 0 i = nI k
/-- coins: none below 0, and never too many; prices; shares -/
def q_mo (c P : Nat) (M : tq_St) : Prop :=
  (∀ p : Nat, p < 5 → 0 ≤ (M 101 0 p).toInt) ∧ (∀ s : Nat, s < 8 → 0 ≤ (M 128 0 s).toInt) ∧ (∀ p s : Nat, p < 5 → s < 4 → 0 ≤ (M 105 p s).toInt)
  ∧ tp_sm (fun p => (M 101 0 p).toInt) 5 + tp_sm (fun s => (M 128 0 s).toInt) 8 + tp_sm (fun p => tp_sm (fun s => (M 105 p s).toInt) 4) 5 ≤ 1100000 * (c : Int) + 9999 * (P : Int)
def q_pr (M : tq_St) : Prop :=
  (∀ p s : Nat, 1 ≤ p → p < 5 → s < 4 → 1 ≤ (M 104 p s).toInt ∧ (M 104 p s).toInt ≤ 999) ∧ (∀ b s : Nat, b < 6 → s < 4 → 0 ≤ (M 152 b s).toInt ∧ (M 152 b s).toInt ≤ 999)
  ∧ (∀ p : Nat, 1 ≤ p → p < 5 → 0 ≤ (M 103 p 2).toInt ∧ (M 103 p 2).toInt ≤ 50) ∧ (∀ y s : Nat, y < 4 → s < 4 → 0 ≤ (M 159 y s).toInt ∧ (M 159 y s).toInt ≤ 999)
def q_sr (M : tq_St) : Prop := (∀ h : Nat, h < 8 → 0 ≤ (M 156 0 h).toInt) ∧ tp_sm (fun h => (M 156 0 h).toInt) 8 = 800
/-- papers: the class's objects -/
def q_pb (n e : Nat) (N : tq_Nn) (S M : tq_St) : Prop :=
  N 50 e = 1 ∧ N 51 e = 1 ∧ N 52 e = 1 ∧ S 7 e 0 = nI n ∧ S 7 e 1 = M 110 0 n ∧ S 7 e 2 = M 111 0 n ∧ S 7 e 3 = M 113 0 n ∧ S 7 e 4 = M 112 0 n ∧ S 7 e 9 = M 114 0 n
    ∧ S 7 e 8 = (if M 110 0 n = 2 then M 117 0 n else if M 110 0 n = 4 ∨ M 110 0 n = 5 then M 116 n 0 else 0)
    ∧ (M 110 0 n = 5 ↔ ¬ S 7 e 13 = 0) ∧ (M 110 0 n = 5 → S 7 e 10 = M 116 n 1 ∧ S 7 e 11 = M 116 n 2 - 1 ∧ S 7 e 12 = M 116 n 3)
def q_pa (P : Nat) (G : Nat → Nat → Nat → Nat) (N : tq_Nn) (S M : tq_St) : Prop := ∀ n : Nat, n < P → q_pb n (G 15 0 n) N S M
def q_kn (P : Nat) (G : Nat → Nat → Nat → Nat) (S M : tq_St) : Prop := ∀ n p : Nat, n < P → p < 5 → S 50 (G 15 0 n) p = M 115 n p
def q_st (P : Nat) (G : Nat → Nat → Nat → Nat) (S M : tq_St) : Prop := ∀ n s : Nat, n < P → s < 4 → M 110 0 n = 1 → S 51 (G 15 0 n) s = M 116 n s
/-- papers: the reference's numbers -/
def q_pn (d n : Nat) (M : tq_St) : Prop :=
  (∃ k : Nat, 1 ≤ k ∧ k ≤ 6 ∧ M 110 0 n = nI k) ∧ (∃ a : Nat, a < 5 ∧ M 111 0 n = nI a) ∧ (∃ b : Nat, b < 5 ∧ M 113 0 n = nI b) ∧ (∃ x : Nat, x ≤ d ∧ M 112 0 n = nI x) ∧ (∃ y : Nat, y ≤ 3 ∧ M 114 0 n = nI y) ∧ (∀ p : Nat, p < 5 → (M 115 n p).toInt ≤ d) ∧ (M 110 0 n = 5 → (∃ a : Nat, a ≤ 9999 ∧ M 116 n 0 = nI a) ∧ ∃ b : Nat, b ≤ 3 ∧ M 116 n 1 = nI b)
def q_pm (d P : Nat) (M : tq_St) : Prop :=
  (∀ n : Nat, n < P → q_pn d n M)
  ∧ (∀ n m : Nat, n < m → m < P → M 112 0 n ≤ M 112 0 m)
  ∧ (∀ n : Nat, P ≤ n → n < 150 → M 114 0 n = 0 ∧ (∀ s : Nat, s < 4 → M 116 n s = 0) ∧ ∀ s : Nat, s < 8 → M 120 n s = 0)
/-- ships -/
def q_si (h Sh : Nat) (G : Nat → Nat → Nat → Nat) (N : tq_Nn) (S M : tq_St) : Prop :=
  ∀ s : Nat, s < Sh → N 54 (G 19 0 s) = 1 ∧ N 55 (G 19 0 s) = 1 ∧ N 56 (G 19 0 s) = 1 ∧ S 8 (G 19 0 s) 0 = nI s ∧ S 8 (G 19 0 s) 1 = M 122 0 s ∧ S 8 (G 19 0 s) 2 = M 123 0 s ∧ S 8 (G 19 0 s) 3 = M 124 0 s ∧ S 8 (G 19 0 s) 5 = M 125 0 s ∧ S 8 (G 19 0 s) 6 = M 130 0 s
    ∧ (s ≠ h → S 8 (G 19 0 s) 7 = M 128 0 s ∧ (∀ q : Nat, q < 4 → S 54 (G 19 0 s) q = M 127 s q) ∧ (∀ q : Nat, q < 20 → S 55 (G 19 0 s) q = M 129 s q))
def q_ab (Sh : Nat) (G : Nat → Nat → Nat → Nat) (S M : tq_St) : Prop := ∀ s n : Nat, s < Sh → n < 150 → S 56 (G 19 0 s) n = M 120 n s
def q_sm (pn Sh V : Nat) (G : Nat → Nat → Nat → Nat) (S M : tq_St) : Prop :=
  (∀ s : Nat, s < Sh → (∃ o : Nat, o ≤ 3 ∧ M 122 0 s = nI o) ∧ -2 ≤ (M 124 0 s).toInt ∧ (M 124 0 s).toInt ≤ 4
    ∧ (M 124 0 s = -1 → ∃ v : Nat, v < V ∧ M 130 0 s = nI v ∧ S 8 (G 19 0 s) 4 = M 136 0 v ∧ M 132 0 v = nI s ∧ M 138 0 v = 0 ∧ ∀ q : Nat, q < 4 → M 127 s q = M 139 v q))
  ∧ (∀ s q : Nat, s < 8 → pn ≤ q → q < 20 → M 129 s q = 0)
  ∧ (∀ s : Nat, Sh ≤ s → s < 8 → M 124 0 s = 0 ∧ M 125 0 s = 0 ∧ M 128 0 s = 0 ∧ (∀ q : Nat, q < 4 → M 127 s q = 0) ∧ (∀ q : Nat, q < 20 → M 129 s q = 0) ∧ ∀ n : Nat, n < 150 → M 120 n s = 0)
/-- voyages -/
def q_vo (V : Nat) (G : Nat → Nat → Nat → Nat) (N : tq_Nn) (S M : tq_St) : Prop :=
  ∀ v : Nat, v < V → N 57 (G 22 0 v) = 1 ∧ N 58 (G 22 0 v) = 1 ∧ S 9 (G 22 0 v) 0 = nI v ∧ S 9 (G 22 0 v) 1 = M 132 0 v ∧ S 9 (G 22 0 v) 2 = M 133 0 v ∧ S 9 (G 22 0 v) 3 = M 134 0 v ∧ S 9 (G 22 0 v) 4 = M 135 0 v ∧ S 9 (G 22 0 v) 5 = M 136 0 v ∧ S 9 (G 22 0 v) 8 = M 137 0 v ∧ S 9 (G 22 0 v) 9 = M 138 0 v ∧ S 9 (G 22 0 v) 10 = M 141 0 v ∧ S 9 (G 22 0 v) 11 = M 142 0 v
    ∧ (∀ q : Nat, q < 4 → S 57 (G 22 0 v) q = M 139 v q) ∧ (M 138 0 v = 1 → ∀ q : Nat, q < 4 → S 58 (G 22 0 v) q = M 140 v q) ∧ (M 138 0 v = 0 → ∀ q : Nat, q < 4 → S 58 (G 22 0 v) q = M 139 v q)
def q_vm (V : Nat) (M : tq_St) : Prop :=
  (∀ v : Nat, v < V → (∃ p : Nat, p < 5 ∧ M 134 0 v = nI p) ∧ ∃ e : Nat, e ≤ 2 ∧ M 138 0 v = nI e) ∧ (∀ v : Nat, V ≤ v → v < 99 → M 137 0 v = 0 ∧ M 138 0 v = 0)
/-- bills -/
def tp_BL (P : Nat) (K : Nat → Int32) : List Nat := (List.range P).filter (fun n => K n = 5)
def q_bi (P : Nat) (G : Nat → Nat → Nat → Nat) (M : tq_St) : Prop := ∀ k n : Nat, (tp_BL P (M 110 0))[k]? = some n → G 17 0 k = G 15 0 n
def q_lb (P : Nat) (G : Nat → Nat → Nat → Nat) (S M : tq_St) : Prop := ∀ p : Nat, 1 ≤ p → p < 5 →
  (S 2 p 15 = 0 ∧ ∀ n : Nat, n < P → M 110 0 n = 5 → ¬ M 111 0 n = nI p) ∨ ∃ n : Nat, n < P ∧ M 110 0 n = 5 ∧ M 111 0 n = nI p ∧ S 2 p 15 = nI (G 15 0 n + 1) ∧ ∀ m : Nat, m < P → m ≠ n → M 110 0 m = 5 → M 111 0 m = nI p → ¬ M 116 m 1 < 2
/-- invoices that the house knows -/
def q_iv (P : Nat) (S M : tq_St) : Prop := (∀ n : Nat, n < P → M 110 0 n = 4 → M 113 0 n = 0) ∧ ∀ p : Nat, 1 ≤ p → p < 5 → ∀ x : Int32, 0 ≤ x → (x ≤ S 2 p 16 ↔ ∃ n : Nat, n < P ∧ M 110 0 n = 4 ∧ M 111 0 n = nI p ∧ x ≤ M 112 0 n ∧ 0 ≤ M 115 n 0)
/-- an order's paragraphs and tests -/
def q_te (g q : Nat) (G : Nat → Nat → Nat → Nat) (S11 : Nat → Nat → Int32) (M119 : Nat → Int32) (k : Nat) : Prop :=
  S11 (G 59 q k) 0 = M119 (24 * g + 6 * k + 5) ∧ S11 (G 59 q k) 1 = M119 (24 * g + 6 * k) ∧ S11 (G 59 q k) 2 = M119 (24 * g + 6 * k + 1) ∧ S11 (G 59 q k) 3 = M119 (24 * g + 6 * k + 2) ∧ S11 (G 59 q k) 4 = M119 (24 * g + 6 * k + 3) - 61 ∧ S11 (G 59 q k) 5 = M119 (24 * g + 6 * k + 4)
  ∧ (M119 (24 * g + 6 * k + 5) = 0 ∨ M119 (24 * g + 6 * k + 5) = 1) ∧ (M119 (24 * g + 6 * k) = 0 ∨ M119 (24 * g + 6 * k) = 1) ∧ (∃ f : Nat, f ≤ 4 ∧ M119 (24 * g + 6 * k + 1) = nI f ∧ (f < 2 → ∃ s : Nat, s < 4 ∧ M119 (24 * g + 6 * k + 2) = nI s)) ∧ ∃ x : Nat, 60 ≤ x ∧ x ≤ 62 ∧ M119 (24 * g + 6 * k + 3) = nI x
def q_pg (n g : Nat) (q : Nat) (G : Nat → Nat → Nat → Nat) (C : Nat → Nat → Nat) (N : tq_Nn) (S10 S11 S59 S60 : Nat → Nat → Int32) (M118 M119 : Nat → Int32) : Prop :=
  N 59 q = 1 ∧ S10 q 0 = nI n ∧ S10 q 1 = nI g
  ∧ (∃ a : Nat, a ≤ 5 ∧ M118 (4 * g) = nI a ∧ S10 q 2 = nI (if a = 5 then 6 else a) ∧ S10 q 3 = M118 (4 * g + 1) ∧ (a < 3 → ∃ s : Nat, s < 4 ∧ M118 (4 * g + 1) = nI s ∧ S10 q 5 = nI (4 * a + s)) ∧ (3 ≤ a → M118 (4 * g + 1) = -1 ∧ S10 q 5 = nI (4 * (if a = 5 then 6 else a))))
  ∧ (∃ x : Nat, x ≤ 9999 ∧ M118 (4 * g + 2) = nI x) ∧ S10 q 4 = M118 (4 * g + 2)
  ∧ ∃ K : Nat, K ≤ 4 ∧ M118 (4 * g + 3) = nI K ∧ tp_L N S59 S60 G C 59 60 11 q K ∧ ∀ k : Nat, k < K → q_te g q G S11 M119 k
def q_or (n e : Nat) (G : Nat → Nat → Nat → Nat) (C : Nat → Nat → Nat) (N : tq_Nn) (S10 S11 S52 S53 S59 S60 : Nat → Nat → Int32) (M117 : Nat → Int32) (M118 M119 : Nat → Nat → Int32) : Prop :=
  ∃ g : Nat, 1 ≤ g ∧ g ≤ 6 ∧ M117 n = nI g ∧ tp_L N S52 S53 G C 52 53 10 e g ∧ ∀ k : Nat, k < g → q_pg n k (G 52 e k) G C N S10 S11 S59 S60 (M118 n) (M119 n)
def q_od (P : Nat) (G : Nat → Nat → Nat → Nat) (C : Nat → Nat → Nat) (N : tq_Nn) (S M : tq_St) : Prop := ∀ n : Nat, n < P → M 110 0 n = 2 → q_or n (G 15 0 n) G C N (S 10) (S 11) (S 52) (S 53) (S 59) (S 60) (M 117 0) (M 118) (M 119)
/-- which orders are known at a place, in their order -/
def tp_KO (P p : Nat) (K F : Nat → Int32) (W : Nat → Nat → Int32) (n : Nat) : Prop := n < P ∧ K n = 2 ∧ F n = nI p ∧ 0 ≤ W n p
def tp_ah (p : Nat) (W : Nat → Nat → Int32) (x y : Nat) : Prop := W x p < W y p ∨ (W x p = W y p ∧ x < y)
def q_ol (P : Nat) (OL : Nat → List Nat) (M : tq_St) : Prop := ∀ p : Nat, p < 5 → (∀ n : Nat, n ∈ OL p ↔ tp_KO P p (M 110 0) (M 113 0) (M 115) n) ∧ (OL p).Pairwise (tp_ah p (M 115))
def q_oi (OL : Nat → List Nat) (G : Nat → Nat → Nat → Nat) : Prop := ∀ p k n : Nat, p < 5 → (OL p)[k]? = some n → G 36 p k = G 15 0 n
/-- paragraphs in force: an order's that no later one has -/
def tp_has (U : Nat → Int32) (B : Nat → Nat → Int32) (x g y : Nat) : Prop := ∃ h : Nat, h < (U y).toNatClampNeg ∧ B x (4 * g) = B y (4 * h) ∧ B x (4 * g + 1) = B y (4 * h + 1)
noncomputable def tp_FL (U : Nat → Int32) (B : Nat → Nat → Int32) : List Nat → List (Nat × Nat)
  | [] => []
  | x :: l => (((List.range (U x).toNatClampNeg).filter (fun g => @decide (∀ y ∈ l, ¬ tp_has U B x g y) (Classical.propDecidable _))).map (fun g => (x, g))) ++ tp_FL U B l
def q_fi (OL : Nat → List Nat) (G : Nat → Nat → Nat → Nat) (M : tq_St) : Prop := ∀ p j x g : Nat, p < 5 → (tp_FL (M 117 0) (M 118) (OL p))[j]? = some (x, g) → G 38 p j = G 52 (G 15 0 x) g
/-- the lists -/
def q_li (P Sh V : Nat) (OL : Nat → List Nat) (G : Nat → Nat → Nat → Nat) (C : Nat → Nat → Nat) (N : tq_Nn) (S M : tq_St) : Prop :=
  tp_L N (S 15) (S 16) G C 15 16 7 0 P ∧ tp_L N (S 19) (S 20) G C 19 20 8 0 Sh ∧ tp_L N (S 22) (S 23) G C 22 23 9 0 V ∧ tp_L N (S 17) (S 18) G C 17 18 7 0 (tp_BL P (M 110 0)).length
  ∧ (∀ p : Nat, p < 5 → tp_L N (S 36) (S 37) G C 36 37 7 p (OL p).length) ∧ (∀ p : Nat, p < 5 → tp_L N (S 38) (S 39) G C 38 39 10 p (tp_FL (M 117 0) (M 118) (OL p)).length)
  ∧ (∀ p q : Nat, p < 5 → q < 5 → p ≠ q → 0 < S 36 p 1 → 0 < S 36 q 1 → (S 36 p 1).toNatClampNeg ≠ (S 36 q 1).toNatClampNeg) ∧ (∀ p q : Nat, p < 5 → q < 5 → p ≠ q → 0 < S 38 p 1 → 0 < S 38 q 1 → (S 38 p 1).toNatClampNeg ≠ (S 38 q 1).toNatClampNeg)
/-- advances -/
def tp_opn (A p s : Nat) (X Y Z : Nat → Int32) (a : Nat) : Prop := a < A ∧ X a = nI p ∧ Y a = nI s ∧ Z a < 5
def q_ad (d w A : Nat) (S M : tq_St) : Prop :=
  (∀ a : Nat, a < A → (∃ p : Nat, 1 ≤ p ∧ p < 5 ∧ M 146 0 a = nI p) ∧ (∃ s : Nat, s < 4 ∧ M 147 0 a = nI s) ∧ (∃ b : Nat, 1 ≤ b ∧ b ≤ 9999 ∧ M 148 0 a = nI b) ∧ (∃ o : Nat, o ≤ d ∧ M 149 0 a = nI o) ∧ ∃ t : Nat, t ≤ 5 ∧ M 150 0 a = nI t)
  ∧ (∀ p s a a' : Nat, p < 5 → s < 4 → tp_opn A p s (M 146 0) (M 147 0) (M 150 0) a → tp_opn A p s (M 146 0) (M 147 0) (M 150 0) a' → a = a')
  ∧ (∀ p s : Nat, 1 ≤ p → p < 5 → s < 4 → (S 35 p s = 0 ∧ ∀ a : Nat, ¬ tp_opn A p s (M 146 0) (M 147 0) (M 150 0) a) ∨ ∃ a b o t : Nat, tp_opn A p s (M 146 0) (M 147 0) (M 150 0) a ∧ M 148 0 a = nI b ∧ M 149 0 a = nI o ∧ M 150 0 a = nI t ∧ 1 ≤ b ∧ b ≤ 9999 ∧ o ≤ d ∧ t < 5 ∧ S 33 p s = nI o ∧ S 34 p s = nI b ∧ S 35 p s = nI (b - t * (b / 5)) ∧ (p < w → t = (d - o) / 10) ∧ (w ≤ p → o < d ∧ t = (d - 1 - o) / 10))
/-- the room -/
def tp_CS (C : Nat → Nat → Nat) : Nat := C 15 0 + C 17 0 + C 19 0 + C 22 0 + (C 36 0 + C 36 1 + C 36 2 + C 36 3 + C 36 4) + (C 38 0 + C 38 1 + C 38 2 + C 38 3 + C 38 4)
def q_ro (c P V : Nat) (C : Nat → Nat → Nat) (N : tq_Nn) : Prop :=
  N 0 0 ≤ 1700 + 100 * c + 20 * P + 20 * V + tp_CS C ∧ N 0 1 ≤ 43000 + 2000 * c + 100 * P + 100 * V + 4 * tp_CS C ∧ 1 ≤ N 0 0
  ∧ C 15 0 ≤ 2400 ∧ C 17 0 ≤ 2400 ∧ C 19 0 ≤ 2400 ∧ C 22 0 ≤ 2400 ∧ (∀ p : Nat, p < 5 → C 36 p ≤ 2400) ∧ (∀ p : Nat, p < 5 → C 38 p ≤ 2400)
def RR (c h w d pn P Sh V E A t r eb : Nat) (G : Nat → Nat → Nat → Nat) (C : Nat → Nat → Nat) (OL : Nat → List Nat) (N : tq_Nn) (S M : tq_St) : Prop :=
  q_sc c d pn P Sh V E A t r eb M ∧ q_ss S M ∧ q_ar S M ∧ q_pl S M ∧ q_lg d E S M ∧ q_sh S M ∧ q_pe pn M ∧ q_mo c P M ∧ q_pr M ∧ q_sr M
  ∧ q_pa P G N S M ∧ q_kn P G S M ∧ q_st P G S M ∧ q_pm d P M ∧ q_si h Sh G N S M ∧ q_ab Sh G S M ∧ q_sm pn Sh V G S M ∧ q_vo V G N S M ∧ q_vm V M
  ∧ q_bi P G M ∧ q_lb P G S M ∧ q_iv P S M ∧ q_od P G C N S M ∧ q_ol P OL M ∧ q_oi OL G ∧ q_fi OL G M ∧ q_li P Sh V OL G C N S M ∧ q_ad d w A S M ∧ q_ro c P V C N
/-- the invariant between two calls -/
def tp_R (c : Nat) (N : tq_Nn) (S M : tq_St) : Prop := ∃ (d pn P Sh V E A t r : Nat) (G : Nat → Nat → Nat → Nat) (C : Nat → Nat → Nat) (OL : Nat → List Nat), RR c 8 5 d pn P Sh V E A t r (5000 * d + c) G C OL N S M
