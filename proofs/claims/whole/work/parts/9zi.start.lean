/-! pure: the start -/
theorem tp_R0 : tp_R 0 tq_N0 tq_S0 tq_M0 := by
  have c4 : ∀ p : Nat, 1 ≤ p → p < 5 → p = 1 ∨ p = 2 ∨ p = 3 ∨ p = 4 := fun p h1 h2 => by omega
  have s4 : ∀ s : Nat, s < 4 → s = 0 ∨ s = 1 ∨ s = 2 ∨ s = 3 := fun s h => by omega
  have z0 : (0 : Int) ≤ (0 : Int32).toInt := by decide
  have z9 : (0 : Int) ≤ (0 : Int32).toInt ∧ (0 : Int32).toInt ≤ 999 := by decide
  have L0 : ∀ kl kd ek i : Nat, tq_S0 kl i 2 = 0 → tq_S0 kl i 1 = 0 → tp_L tq_N0 (tq_S0 kl) (tq_S0 kd) (fun _ _ _ => 0) (fun _ _ => 0) kl kd ek i 0 := fun kl kd ek i h2 h1 => ⟨⟨h2, Nat.le_refl _, Nat.zero_le _, Or.inl ⟨h1, rfl⟩⟩, fun j hj => absurd hj (by omega)⟩
  refine ⟨0, 0, 0, 0, 0, 0, 0, 0, 0, fun _ _ _ => 0, fun _ _ => 0, fun _ => [], ?_⟩
  refine ⟨?_, ?_, ?_, ?_, ?_, ?_, ?_, ?_, ?_, ?_, ?_, ?_, ?_, ?_, ?_, ?_, ?_, ?_, ?_, ?_, ?_, ?_, ?_, ?_, ?_, ?_, ?_, ?_, ?_⟩
  · exact ⟨rfl, rfl, rfl, rfl, rfl, rfl, rfl, rfl, rfl, by decide, by decide, by decide, by decide, by decide, by decide, by decide, by decide, by decide, by decide, by decide⟩
  · exact ⟨rfl, rfl, rfl, rfl, rfl, rfl, rfl⟩
  · exact ⟨rfl, rfl, rfl, rfl, rfl, rfl, rfl, rfl, rfl, rfl, rfl, rfl, rfl, rfl, rfl⟩
  · refine ⟨fun p _ => rfl, fun p _ => rfl, fun p h1 h2 => ?_, fun p h1 h2 => ?_, fun p h1 h2 => ?_, fun p h1 h2 => ?_⟩
    · rcases c4 p h1 h2 with rfl | rfl | rfl | rfl <;> rfl
    · rcases c4 p h1 h2 with rfl | rfl | rfl | rfl <;> rfl
    · rcases c4 p h1 h2 with rfl | rfl | rfl | rfl <;> rfl
    · rcases c4 p h1 h2 with rfl | rfl | rfl | rfl <;> rfl
  · exact ⟨fun i j _ _ => rfl, fun i h => absurd h (by omega)⟩
  · intro q hq
    have h3 : q = 0 ∨ q = 1 ∨ q = 2 := by omega
    rcases h3 with rfl | rfl | rfl
    · exact ⟨rfl, rfl, by decide, by decide, 0, by decide, rfl⟩
    · exact ⟨rfl, rfl, by decide, by decide, 0, by decide, rfl⟩
    · exact ⟨rfl, rfl, by decide, by decide, 0, by decide, rfl⟩
  · exact fun i h => absurd h (by omega)
  · exact ⟨fun p _ => z0, fun s _ => z0, fun p s _ _ => z0, by decide +kernel⟩
  · refine ⟨fun p s h1 h2 h3 => ?_, fun b s _ _ => z9, fun p h1 h2 => ?_, fun y s _ _ => z9⟩
    · rcases c4 p h1 h2 with rfl | rfl | rfl | rfl <;> rcases s4 s h3 with rfl | rfl | rfl | rfl <;> decide
    · rcases c4 p h1 h2 with rfl | rfl | rfl | rfl <;> decide
  · refine ⟨fun h hh => ?_, by decide +kernel⟩
    have h8 : h = 0 ∨ h = 1 ∨ h = 2 ∨ h = 3 ∨ h = 4 ∨ h = 5 ∨ h = 6 ∨ h = 7 := by omega
    rcases h8 with rfl | rfl | rfl | rfl | rfl | rfl | rfl | rfl <;> decide
  · exact fun n h => absurd h (by omega)
  · exact fun n p h => absurd h (by omega)
  · exact fun n s h => absurd h (by omega)
  · exact ⟨fun n h => absurd h (by omega), fun n m _ h => absurd h (by omega), fun n _ _ => ⟨rfl, fun _ _ => rfl, fun _ _ => rfl⟩⟩
  · exact fun s h => absurd h (by omega)
  · exact fun s n h => absurd h (by omega)
  · exact ⟨fun s h => absurd h (by omega), fun s q _ _ _ => rfl, fun s _ _ => ⟨rfl, rfl, rfl, fun _ _ => rfl, fun _ _ => rfl, fun _ _ => rfl⟩⟩
  · exact fun v h => absurd h (by omega)
  · exact ⟨fun v h => absurd h (by omega), fun v _ _ => ⟨rfl, rfl⟩⟩
  · intro k n hk
    have e : tp_BL 0 (tq_M0 110 0) = [] := rfl
    exact absurd (e ▸ hk : ([] : List Nat)[k]? = some n) (by simp)
  · exact fun p _ _ => Or.inl ⟨rfl, fun n h => absurd h (by omega)⟩
  · refine ⟨fun n h => absurd h (by omega), fun p _ _ x hx => ⟨fun h => ?_, fun ⟨n, h, _⟩ => absurd h (by omega)⟩⟩
    have e : tq_S0 2 p 16 = -1 := rfl
    rw [e, tp_le] at h
    rw [tp_le] at hx
    have t1 : (-1 : Int32).toInt = -1 := by decide
    have t0 : (0 : Int32).toInt = 0 := by decide
    omega
  · exact fun n h => absurd h (by omega)
  · exact fun p _ => ⟨fun n => ⟨fun h => absurd h (by simp), fun h => absurd h.1 (by omega)⟩, List.Pairwise.nil⟩
  · intro p k n _ hk
    simp at hk
  · intro p j x g _ hj
    have e : tp_FL (tq_M0 117 0) (tq_M0 118) [] = [] := rfl
    exact absurd (e ▸ hj : ([] : List (Nat × Nat))[j]? = some (x, g)) (by simp)
  · have nz : ¬ (0 : Int32) < 0 := by decide
    exact ⟨L0 15 16 7 0 rfl rfl, L0 19 20 8 0 rfl rfl, L0 22 23 9 0 rfl rfl, L0 17 18 7 0 rfl rfl, fun p _ => L0 36 37 7 p rfl rfl, fun p _ => L0 38 39 10 p rfl rfl, fun p q _ _ _ h => absurd h nz, fun p q _ _ _ h => absurd h nz⟩
  · exact ⟨fun a h => absurd h (by omega), fun p s a a' _ _ h => absurd h.1 (by omega), fun p s _ _ _ => Or.inl ⟨rfl, fun a h => absurd h.1 (by omega)⟩⟩
  · exact ⟨by decide, by decide, by decide, by decide, by decide, by decide, by decide, fun p _ => Nat.zero_le _, fun p _ => Nat.zero_le _⟩
