theorem ty_X0 : ∀ j, j < 3 → (fI 0 j = true → tyX0 j = .int) ∧ (fI 0 j = false → (∃ n, tyX0 j = .object n) ∨ ∃ t, tyX0 j = .array t) := by
  intro j hj
  match j with
  | 0 => exact ⟨fun h => (by cases h), fun _ => Or.inr ⟨_, rfl⟩⟩
  | 1 => exact ⟨fun h => (by cases h), fun _ => Or.inr ⟨_, rfl⟩⟩
  | 2 => exact ⟨fun _ => rfl, fun h => (by cases h)⟩
  | j + 3 => exact absurd hj (by omega)
theorem ty_X1 : ∀ j, j < 9 → (fI 1 j = true → tyX1 j = .int) ∧ (fI 1 j = false → (∃ n, tyX1 j = .object n) ∨ ∃ t, tyX1 j = .array t) := by
  intro j hj
  match j with
  | 0 => exact ⟨fun h => (by cases h), fun _ => Or.inr ⟨_, rfl⟩⟩
  | 1 => exact ⟨fun h => (by cases h), fun _ => Or.inr ⟨_, rfl⟩⟩
  | 2 => exact ⟨fun h => (by cases h), fun _ => Or.inr ⟨_, rfl⟩⟩
  | 3 => exact ⟨fun h => (by cases h), fun _ => Or.inr ⟨_, rfl⟩⟩
  | 4 => exact ⟨fun _ => rfl, fun h => (by cases h)⟩
  | 5 => exact ⟨fun h => (by cases h), fun _ => Or.inr ⟨_, rfl⟩⟩
  | 6 => exact ⟨fun h => (by cases h), fun _ => Or.inr ⟨_, rfl⟩⟩
  | 7 => exact ⟨fun h => (by cases h), fun _ => Or.inr ⟨_, rfl⟩⟩
  | 8 => exact ⟨fun _ => rfl, fun h => (by cases h)⟩
  | j + 9 => exact absurd hj (by omega)
theorem ty_X2 : ∀ j, j < 11 → (fI 2 j = true → tyX2 j = .int) ∧ (fI 2 j = false → (∃ n, tyX2 j = .object n) ∨ ∃ t, tyX2 j = .array t) := by
  intro j hj
  match j with
  | 0 => exact ⟨fun h => (by cases h), fun _ => Or.inr ⟨_, rfl⟩⟩
  | 1 => exact ⟨fun h => (by cases h), fun _ => Or.inr ⟨_, rfl⟩⟩
  | 2 => exact ⟨fun h => (by cases h), fun _ => Or.inr ⟨_, rfl⟩⟩
  | 3 => exact ⟨fun h => (by cases h), fun _ => Or.inr ⟨_, rfl⟩⟩
  | 4 => exact ⟨fun h => (by cases h), fun _ => Or.inr ⟨_, rfl⟩⟩
  | 5 => exact ⟨fun h => (by cases h), fun _ => Or.inr ⟨_, rfl⟩⟩
  | 6 => exact ⟨fun h => (by cases h), fun _ => Or.inr ⟨_, rfl⟩⟩
  | 7 => exact ⟨fun h => (by cases h), fun _ => Or.inr ⟨_, rfl⟩⟩
  | 8 => exact ⟨fun h => (by cases h), fun _ => Or.inr ⟨_, rfl⟩⟩
  | 9 => exact ⟨fun _ => rfl, fun h => (by cases h)⟩
  | 10 => exact ⟨fun _ => rfl, fun h => (by cases h)⟩
  | j + 11 => exact absurd hj (by omega)
theorem ty_X3 : ∀ j, j < 6 → (fI 3 j = true → tyX3 j = .int) ∧ (fI 3 j = false → (∃ n, tyX3 j = .object n) ∨ ∃ t, tyX3 j = .array t) := by
  intro j hj
  match j with
  | 0 => exact ⟨fun h => (by cases h), fun _ => Or.inr ⟨_, rfl⟩⟩
  | 1 => exact ⟨fun h => (by cases h), fun _ => Or.inr ⟨_, rfl⟩⟩
  | 2 => exact ⟨fun h => (by cases h), fun _ => Or.inr ⟨_, rfl⟩⟩
  | 3 => exact ⟨fun h => (by cases h), fun _ => Or.inr ⟨_, rfl⟩⟩
  | 4 => exact ⟨fun h => (by cases h), fun _ => Or.inr ⟨_, rfl⟩⟩
  | 5 => exact ⟨fun _ => rfl, fun h => (by cases h)⟩
  | j + 6 => exact absurd hj (by omega)
theorem ty_X4 : ∀ j, j < 7 → (fI 4 j = true → tyX4 j = .int) ∧ (fI 4 j = false → (∃ n, tyX4 j = .object n) ∨ ∃ t, tyX4 j = .array t) := by
  intro j hj
  match j with
  | 0 => exact ⟨fun h => (by cases h), fun _ => Or.inr ⟨_, rfl⟩⟩
  | 1 => exact ⟨fun h => (by cases h), fun _ => Or.inr ⟨_, rfl⟩⟩
  | 2 => exact ⟨fun _ => rfl, fun h => (by cases h)⟩
  | 3 => exact ⟨fun h => (by cases h), fun _ => Or.inr ⟨_, rfl⟩⟩
  | 4 => exact ⟨fun h => (by cases h), fun _ => Or.inr ⟨_, rfl⟩⟩
  | 5 => exact ⟨fun h => (by cases h), fun _ => Or.inr ⟨_, rfl⟩⟩
  | 6 => exact ⟨fun h => (by cases h), fun _ => Or.inr ⟨_, rfl⟩⟩
  | j + 7 => exact absurd hj (by omega)
theorem ty_X5 : ∀ j, j < 9 → (fI 5 j = true → tyX5 j = .int) ∧ (fI 5 j = false → (∃ n, tyX5 j = .object n) ∨ ∃ t, tyX5 j = .array t) := by
  intro j hj
  match j with
  | 0 => exact ⟨fun h => (by cases h), fun _ => Or.inr ⟨_, rfl⟩⟩
  | 1 => exact ⟨fun _ => rfl, fun h => (by cases h)⟩
  | 2 => exact ⟨fun h => (by cases h), fun _ => Or.inr ⟨_, rfl⟩⟩
  | 3 => exact ⟨fun h => (by cases h), fun _ => Or.inr ⟨_, rfl⟩⟩
  | 4 => exact ⟨fun _ => rfl, fun h => (by cases h)⟩
  | 5 => exact ⟨fun _ => rfl, fun h => (by cases h)⟩
  | 6 => exact ⟨fun _ => rfl, fun h => (by cases h)⟩
  | 7 => exact ⟨fun _ => rfl, fun h => (by cases h)⟩
  | 8 => exact ⟨fun _ => rfl, fun h => (by cases h)⟩
  | j + 9 => exact absurd hj (by omega)
theorem ty_X6 : ∀ j, j < 8 → (fI 6 j = true → tyX6 j = .int) ∧ (fI 6 j = false → (∃ n, tyX6 j = .object n) ∨ ∃ t, tyX6 j = .array t) := by
  intro j hj
  match j with
  | 0 => exact ⟨fun h => (by cases h), fun _ => Or.inr ⟨_, rfl⟩⟩
  | 1 => exact ⟨fun h => (by cases h), fun _ => Or.inr ⟨_, rfl⟩⟩
  | 2 => exact ⟨fun h => (by cases h), fun _ => Or.inr ⟨_, rfl⟩⟩
  | 3 => exact ⟨fun h => (by cases h), fun _ => Or.inr ⟨_, rfl⟩⟩
  | 4 => exact ⟨fun h => (by cases h), fun _ => Or.inr ⟨_, rfl⟩⟩
  | 5 => exact ⟨fun h => (by cases h), fun _ => Or.inr ⟨_, rfl⟩⟩
  | 6 => exact ⟨fun h => (by cases h), fun _ => Or.inr ⟨_, rfl⟩⟩
  | 7 => exact ⟨fun _ => rfl, fun h => (by cases h)⟩
  | j + 8 => exact absurd hj (by omega)
theorem ty_X7 : ∀ j, j < 16 → (fI 7 j = true → tyX7 j = .int) ∧ (fI 7 j = false → (∃ n, tyX7 j = .object n) ∨ ∃ t, tyX7 j = .array t) := by
  intro j hj
  match j with
  | 0 => exact ⟨fun h => (by cases h), fun _ => Or.inl ⟨_, rfl⟩⟩
  | 1 => exact ⟨fun h => (by cases h), fun _ => Or.inl ⟨_, rfl⟩⟩
  | 2 => exact ⟨fun h => (by cases h), fun _ => Or.inl ⟨_, rfl⟩⟩
  | 3 => exact ⟨fun h => (by cases h), fun _ => Or.inr ⟨_, rfl⟩⟩
  | 4 => exact ⟨fun h => (by cases h), fun _ => Or.inr ⟨_, rfl⟩⟩
  | 5 => exact ⟨fun h => (by cases h), fun _ => Or.inr ⟨_, rfl⟩⟩
  | 6 => exact ⟨fun h => (by cases h), fun _ => Or.inr ⟨_, rfl⟩⟩
  | 7 => exact ⟨fun h => (by cases h), fun _ => Or.inr ⟨_, rfl⟩⟩
  | 8 => exact ⟨fun h => (by cases h), fun _ => Or.inr ⟨_, rfl⟩⟩
  | 9 => exact ⟨fun h => (by cases h), fun _ => Or.inr ⟨_, rfl⟩⟩
  | 10 => exact ⟨fun h => (by cases h), fun _ => Or.inr ⟨_, rfl⟩⟩
  | 11 => exact ⟨fun h => (by cases h), fun _ => Or.inr ⟨_, rfl⟩⟩
  | 12 => exact ⟨fun h => (by cases h), fun _ => Or.inr ⟨_, rfl⟩⟩
  | 13 => exact ⟨fun h => (by cases h), fun _ => Or.inr ⟨_, rfl⟩⟩
  | 14 => exact ⟨fun h => (by cases h), fun _ => Or.inr ⟨_, rfl⟩⟩
  | 15 => exact ⟨fun _ => rfl, fun h => (by cases h)⟩
  | j + 16 => exact absurd hj (by omega)
theorem ty_X8 : ∀ j, j < 9 → (fI 8 j = true → tyX8 j = .int) ∧ (fI 8 j = false → (∃ n, tyX8 j = .object n) ∨ ∃ t, tyX8 j = .array t) := by
  intro j hj
  match j with
  | 0 => exact ⟨fun h => (by cases h), fun _ => Or.inr ⟨_, rfl⟩⟩
  | 1 => exact ⟨fun h => (by cases h), fun _ => Or.inr ⟨_, rfl⟩⟩
  | 2 => exact ⟨fun h => (by cases h), fun _ => Or.inr ⟨_, rfl⟩⟩
  | 3 => exact ⟨fun h => (by cases h), fun _ => Or.inr ⟨_, rfl⟩⟩
  | 4 => exact ⟨fun h => (by cases h), fun _ => Or.inr ⟨_, rfl⟩⟩
  | 5 => exact ⟨fun h => (by cases h), fun _ => Or.inr ⟨_, rfl⟩⟩
  | 6 => exact ⟨fun h => (by cases h), fun _ => Or.inr ⟨_, rfl⟩⟩
  | 7 => exact ⟨fun _ => rfl, fun h => (by cases h)⟩
  | 8 => exact ⟨fun _ => rfl, fun h => (by cases h)⟩
  | j + 9 => exact absurd hj (by omega)
theorem ty_X9 : ∀ j, j < 5 → (fI 9 j = true → tyX9 j = .int) ∧ (fI 9 j = false → (∃ n, tyX9 j = .object n) ∨ ∃ t, tyX9 j = .array t) := by
  intro j hj
  match j with
  | 0 => exact ⟨fun h => (by cases h), fun _ => Or.inr ⟨_, rfl⟩⟩
  | 1 => exact ⟨fun h => (by cases h), fun _ => Or.inr ⟨_, rfl⟩⟩
  | 2 => exact ⟨fun h => (by cases h), fun _ => Or.inr ⟨_, rfl⟩⟩
  | 3 => exact ⟨fun h => (by cases h), fun _ => Or.inr ⟨_, rfl⟩⟩
  | 4 => exact ⟨fun _ => rfl, fun h => (by cases h)⟩
  | j + 5 => exact absurd hj (by omega)
theorem ty_X10 : ∀ j, j < 15 → (fI 10 j = true → tyX10 j = .int) ∧ (fI 10 j = false → (∃ n, tyX10 j = .object n) ∨ ∃ t, tyX10 j = .array t) := by
  intro j hj
  match j with
  | 0 => exact ⟨fun _ => rfl, fun h => (by cases h)⟩
  | 1 => exact ⟨fun h => (by cases h), fun _ => Or.inl ⟨_, rfl⟩⟩
  | 2 => exact ⟨fun h => (by cases h), fun _ => Or.inl ⟨_, rfl⟩⟩
  | 3 => exact ⟨fun h => (by cases h), fun _ => Or.inl ⟨_, rfl⟩⟩
  | 4 => exact ⟨fun h => (by cases h), fun _ => Or.inl ⟨_, rfl⟩⟩
  | 5 => exact ⟨fun h => (by cases h), fun _ => Or.inl ⟨_, rfl⟩⟩
  | 6 => exact ⟨fun h => (by cases h), fun _ => Or.inl ⟨_, rfl⟩⟩
  | 7 => exact ⟨fun h => (by cases h), fun _ => Or.inl ⟨_, rfl⟩⟩
  | 8 => exact ⟨fun h => (by cases h), fun _ => Or.inl ⟨_, rfl⟩⟩
  | 9 => exact ⟨fun h => (by cases h), fun _ => Or.inr ⟨_, rfl⟩⟩
  | 10 => exact ⟨fun h => (by cases h), fun _ => Or.inl ⟨_, rfl⟩⟩
  | 11 => exact ⟨fun h => (by cases h), fun _ => Or.inl ⟨_, rfl⟩⟩
  | 12 => exact ⟨fun h => (by cases h), fun _ => Or.inr ⟨_, rfl⟩⟩
  | 13 => exact ⟨fun h => (by cases h), fun _ => Or.inr ⟨_, rfl⟩⟩
  | 14 => exact ⟨fun h => (by cases h), fun _ => Or.inl ⟨_, rfl⟩⟩
  | j + 15 => exact absurd hj (by omega)
theorem ty_X11 : ∀ j, j < 79 → (fI 11 j = true → tyX11 j = .int) ∧ (fI 11 j = false → (∃ n, tyX11 j = .object n) ∨ ∃ t, tyX11 j = .array t) := by
  intro j hj
  match j with
  | 0 => exact ⟨fun _ => rfl, fun h => (by cases h)⟩
  | 1 => exact ⟨fun _ => rfl, fun h => (by cases h)⟩
  | 2 => exact ⟨fun h => (by cases h), fun _ => Or.inr ⟨_, rfl⟩⟩
  | 3 => exact ⟨fun h => (by cases h), fun _ => Or.inr ⟨_, rfl⟩⟩
  | 4 => exact ⟨fun h => (by cases h), fun _ => Or.inr ⟨_, rfl⟩⟩
  | 5 => exact ⟨fun h => (by cases h), fun _ => Or.inr ⟨_, rfl⟩⟩
  | 6 => exact ⟨fun h => (by cases h), fun _ => Or.inr ⟨_, rfl⟩⟩
  | 7 => exact ⟨fun h => (by cases h), fun _ => Or.inr ⟨_, rfl⟩⟩
  | 8 => exact ⟨fun h => (by cases h), fun _ => Or.inr ⟨_, rfl⟩⟩
  | 9 => exact ⟨fun _ => rfl, fun h => (by cases h)⟩
  | 10 => exact ⟨fun h => (by cases h), fun _ => Or.inr ⟨_, rfl⟩⟩
  | 11 => exact ⟨fun h => (by cases h), fun _ => Or.inr ⟨_, rfl⟩⟩
  | 12 => exact ⟨fun h => (by cases h), fun _ => Or.inr ⟨_, rfl⟩⟩
  | 13 => exact ⟨fun h => (by cases h), fun _ => Or.inr ⟨_, rfl⟩⟩
  | 14 => exact ⟨fun h => (by cases h), fun _ => Or.inr ⟨_, rfl⟩⟩
  | 15 => exact ⟨fun h => (by cases h), fun _ => Or.inr ⟨_, rfl⟩⟩
  | 16 => exact ⟨fun h => (by cases h), fun _ => Or.inr ⟨_, rfl⟩⟩
  | 17 => exact ⟨fun h => (by cases h), fun _ => Or.inr ⟨_, rfl⟩⟩
  | 18 => exact ⟨fun h => (by cases h), fun _ => Or.inr ⟨_, rfl⟩⟩
  | 19 => exact ⟨fun h => (by cases h), fun _ => Or.inr ⟨_, rfl⟩⟩
  | 20 => exact ⟨fun h => (by cases h), fun _ => Or.inr ⟨_, rfl⟩⟩
  | 21 => exact ⟨fun _ => rfl, fun h => (by cases h)⟩
  | 22 => exact ⟨fun _ => rfl, fun h => (by cases h)⟩
  | 23 => exact ⟨fun h => (by cases h), fun _ => Or.inr ⟨_, rfl⟩⟩
  | 24 => exact ⟨fun h => (by cases h), fun _ => Or.inr ⟨_, rfl⟩⟩
  | 25 => exact ⟨fun h => (by cases h), fun _ => Or.inr ⟨_, rfl⟩⟩
  | 26 => exact ⟨fun h => (by cases h), fun _ => Or.inr ⟨_, rfl⟩⟩
  | 27 => exact ⟨fun h => (by cases h), fun _ => Or.inr ⟨_, rfl⟩⟩
  | 28 => exact ⟨fun h => (by cases h), fun _ => Or.inr ⟨_, rfl⟩⟩
  | 29 => exact ⟨fun _ => rfl, fun h => (by cases h)⟩
  | 30 => exact ⟨fun _ => rfl, fun h => (by cases h)⟩
  | 31 => exact ⟨fun _ => rfl, fun h => (by cases h)⟩
  | 32 => exact ⟨fun _ => rfl, fun h => (by cases h)⟩
  | 33 => exact ⟨fun _ => rfl, fun h => (by cases h)⟩
  | 34 => exact ⟨fun _ => rfl, fun h => (by cases h)⟩
  | 35 => exact ⟨fun h => (by cases h), fun _ => Or.inr ⟨_, rfl⟩⟩
  | 36 => exact ⟨fun h => (by cases h), fun _ => Or.inr ⟨_, rfl⟩⟩
  | 37 => exact ⟨fun h => (by cases h), fun _ => Or.inr ⟨_, rfl⟩⟩
  | 38 => exact ⟨fun _ => rfl, fun h => (by cases h)⟩
  | 39 => exact ⟨fun _ => rfl, fun h => (by cases h)⟩
  | 40 => exact ⟨fun h => (by cases h), fun _ => Or.inr ⟨_, rfl⟩⟩
  | 41 => exact ⟨fun h => (by cases h), fun _ => Or.inr ⟨_, rfl⟩⟩
  | 42 => exact ⟨fun h => (by cases h), fun _ => Or.inr ⟨_, rfl⟩⟩
  | 43 => exact ⟨fun h => (by cases h), fun _ => Or.inr ⟨_, rfl⟩⟩
  | 44 => exact ⟨fun h => (by cases h), fun _ => Or.inr ⟨_, rfl⟩⟩
  | 45 => exact ⟨fun h => (by cases h), fun _ => Or.inr ⟨_, rfl⟩⟩
  | 46 => exact ⟨fun h => (by cases h), fun _ => Or.inr ⟨_, rfl⟩⟩
  | 47 => exact ⟨fun h => (by cases h), fun _ => Or.inr ⟨_, rfl⟩⟩
  | 48 => exact ⟨fun h => (by cases h), fun _ => Or.inr ⟨_, rfl⟩⟩
  | 49 => exact ⟨fun h => (by cases h), fun _ => Or.inr ⟨_, rfl⟩⟩
  | 50 => exact ⟨fun h => (by cases h), fun _ => Or.inr ⟨_, rfl⟩⟩
  | 51 => exact ⟨fun _ => rfl, fun h => (by cases h)⟩
  | 52 => exact ⟨fun h => (by cases h), fun _ => Or.inr ⟨_, rfl⟩⟩
  | 53 => exact ⟨fun h => (by cases h), fun _ => Or.inr ⟨_, rfl⟩⟩
  | 54 => exact ⟨fun _ => rfl, fun h => (by cases h)⟩
  | 55 => exact ⟨fun h => (by cases h), fun _ => Or.inr ⟨_, rfl⟩⟩
  | 56 => exact ⟨fun h => (by cases h), fun _ => Or.inr ⟨_, rfl⟩⟩
  | 57 => exact ⟨fun h => (by cases h), fun _ => Or.inr ⟨_, rfl⟩⟩
  | 58 => exact ⟨fun h => (by cases h), fun _ => Or.inr ⟨_, rfl⟩⟩
  | 59 => exact ⟨fun h => (by cases h), fun _ => Or.inr ⟨_, rfl⟩⟩
  | 60 => exact ⟨fun _ => rfl, fun h => (by cases h)⟩
  | 61 => exact ⟨fun h => (by cases h), fun _ => Or.inr ⟨_, rfl⟩⟩
  | 62 => exact ⟨fun h => (by cases h), fun _ => Or.inr ⟨_, rfl⟩⟩
  | 63 => exact ⟨fun _ => rfl, fun h => (by cases h)⟩
  | 64 => exact ⟨fun h => (by cases h), fun _ => Or.inr ⟨_, rfl⟩⟩
  | 65 => exact ⟨fun h => (by cases h), fun _ => Or.inr ⟨_, rfl⟩⟩
  | 66 => exact ⟨fun h => (by cases h), fun _ => Or.inr ⟨_, rfl⟩⟩
  | 67 => exact ⟨fun h => (by cases h), fun _ => Or.inr ⟨_, rfl⟩⟩
  | 68 => exact ⟨fun h => (by cases h), fun _ => Or.inr ⟨_, rfl⟩⟩
  | 69 => exact ⟨fun h => (by cases h), fun _ => Or.inr ⟨_, rfl⟩⟩
  | 70 => exact ⟨fun _ => rfl, fun h => (by cases h)⟩
  | 71 => exact ⟨fun h => (by cases h), fun _ => Or.inr ⟨_, rfl⟩⟩
  | 72 => exact ⟨fun h => (by cases h), fun _ => Or.inr ⟨_, rfl⟩⟩
  | 73 => exact ⟨fun h => (by cases h), fun _ => Or.inr ⟨_, rfl⟩⟩
  | 74 => exact ⟨fun h => (by cases h), fun _ => Or.inr ⟨_, rfl⟩⟩
  | 75 => exact ⟨fun _ => rfl, fun h => (by cases h)⟩
  | 76 => exact ⟨fun h => (by cases h), fun _ => Or.inr ⟨_, rfl⟩⟩
  | 77 => exact ⟨fun h => (by cases h), fun _ => Or.inr ⟨_, rfl⟩⟩
  | 78 => exact ⟨fun h => (by cases h), fun _ => Or.inr ⟨_, rfl⟩⟩
  | j + 79 => exact absurd hj (by omega)
set_option maxRecDepth 100000 in
theorem ct_1 (l : Launch) (G : GC) (ρ : Nat → Int → Option Nat) (σ : Nat → Int → Int) (hz : ∀ a, 2 ≤ a → a < 7 → σ a = fun _ => 0) : Ct l G M_X3_init 1 5 60 [vr 1] (2, ρ, σ) (fun r S1 => r = none ∧ S1 = (7, upq (upq (upq (upq (upq (ρ) 1 0 (some 2)) 1 1 (some 3)) 1 2 (some 4)) 1 3 (some 5)) 1 4 (some 6), σ)) := by
  refine Ct.of rfl (by decide) ?_
  refine x_aload_n (E_X3_init_0 0 rfl) rfl ?_
  refine x_objinit (E_X3_init_0 1 rfl) ml_X3_3 oi_2 oi_3 (by decide) ?_
  refine x_aload_n (E_X3_init_0 2 rfl) rfl ?_
  refine x_bipush (z := 12) (E_X3_init_0 3 rfl) (by decide) ?_
  refine y_newa (n1 := 3) (ca1 := 1) (sl1 := 12) (E_X3_init_0 4 rfl) rfl (Or.inl ⟨rfl, rfl⟩) ac_int rfl (by decide) rfl (by decide) rfl rfl rfl (by decide) (hz 2 (by decide) (by decide)) ?_
  refine x_putR (E_X3_init_0 5 rfl) fl_X3_9 rfl (by decide) rfl rfl ?_
  refine x_aload_n (E_X3_init_0 6 rfl) rfl ?_
  refine x_bipush (z := 12) (E_X3_init_0 7 rfl) (by decide) ?_
  refine y_newa (n1 := 4) (ca1 := 2) (sl1 := 24) (E_X3_init_0 8 rfl) rfl (Or.inl ⟨rfl, rfl⟩) ac_int rfl (by decide) rfl (by decide) rfl rfl rfl (by decide) (hz 3 (by decide) (by decide)) ?_
  refine x_putR (E_X3_init_0 9 rfl) fl_X3_15 rfl (by decide) rfl rfl ?_
  refine x_aload_n (E_X3_init_0 10 rfl) rfl ?_
  refine x_bipush (z := 12) (E_X3_init_0 11 rfl) (by decide) ?_
  refine y_newa (n1 := 5) (ca1 := 3) (sl1 := 36) (E_X3_init_0 12 rfl) rfl (Or.inl ⟨rfl, rfl⟩) ac_int rfl (by decide) rfl (by decide) rfl rfl rfl (by decide) (hz 4 (by decide) (by decide)) ?_
  refine x_putR (E_X3_init_0 13 rfl) fl_X3_18 rfl (by decide) rfl rfl ?_
  refine x_aload_n (E_X3_init_0 14 rfl) rfl ?_
  refine x_bipush (z := 12) (E_X3_init_0 15 rfl) (by decide) ?_
  refine y_newa (n1 := 6) (ca1 := 4) (sl1 := 48) (E_X3_init_0 16 rfl) rfl (Or.inl ⟨rfl, rfl⟩) ac_int rfl (by decide) rfl (by decide) rfl rfl rfl (by decide) (hz 5 (by decide) (by decide)) ?_
  refine x_putR (E_X3_init_0 17 rfl) fl_X3_21 rfl (by decide) rfl rfl ?_
  refine x_aload_n (E_X3_init_0 18 rfl) rfl ?_
  refine x_bipush (z := 12) (E_X3_init_0 19 rfl) (by decide) ?_
  refine y_newa (n1 := 7) (ca1 := 5) (sl1 := 60) (E_X3_init_0 20 rfl) rfl (Or.inl ⟨rfl, rfl⟩) ac_int rfl (by decide) rfl (by decide) rfl rfl rfl (by decide) (hz 6 (by decide) (by decide)) ?_
  refine x_putR (E_X3_init_0 21 rfl) fl_X3_24 rfl (by decide) rfl rfl ?_
  refine x_vret (E_X3_init_0 22 rfl) trivial (by decide) (by decide) ⟨rfl, rfl⟩
set_option maxRecDepth 100000 in
theorem ct_7 (l : Launch) (G : GC) (ρ : Nat → Int → Option Nat) (σ : Nat → Int → Int) (hz : ∀ a, 8 ≤ a → a < 17 → σ a = fun _ => 0) : Ct l G M_X2_init 1 9 1080 [vr 7] (8, ρ, σ) (fun r S1 => r = none ∧ S1 = (17, upq (upq (upq (upq (upq (upq (upq (upq (upq (ρ) 7 0 (some 8)) 7 1 (some 9)) 7 2 (some 10)) 7 3 (some 11)) 7 4 (some 12)) 7 5 (some 13)) 7 6 (some 14)) 7 7 (some 15)) 7 8 (some 16), σ)) := by
  refine Ct.of rfl (by decide) ?_
  refine x_aload_n (E_X2_init_0 0 rfl) rfl ?_
  refine x_objinit (E_X2_init_0 1 rfl) ml_X2_3 oi_2 oi_3 (by decide) ?_
  refine x_aload_n (E_X2_init_0 2 rfl) rfl ?_
  refine x_bipush (z := 120) (E_X2_init_0 3 rfl) (by decide) ?_
  refine y_newa (n1 := 9) (ca1 := 1) (sl1 := 120) (E_X2_init_0 4 rfl) rfl (Or.inl ⟨rfl, rfl⟩) ac_int rfl (by decide) rfl (by decide) rfl rfl rfl (by decide) (hz 8 (by decide) (by decide)) ?_
  refine x_putR (E_X2_init_0 5 rfl) fl_X2_9 rfl (by decide) rfl rfl ?_
  refine x_aload_n (E_X2_init_0 6 rfl) rfl ?_
  refine x_bipush (z := 120) (E_X2_init_0 7 rfl) (by decide) ?_
  refine y_newa (n1 := 10) (ca1 := 2) (sl1 := 240) (E_X2_init_0 8 rfl) rfl (Or.inl ⟨rfl, rfl⟩) ac_int rfl (by decide) rfl (by decide) rfl rfl rfl (by decide) (hz 9 (by decide) (by decide)) ?_
  refine x_putR (E_X2_init_0 9 rfl) fl_X2_15 rfl (by decide) rfl rfl ?_
  refine x_aload_n (E_X2_init_0 10 rfl) rfl ?_
  refine x_bipush (z := 120) (E_X2_init_0 11 rfl) (by decide) ?_
  refine y_newa (n1 := 11) (ca1 := 3) (sl1 := 360) (E_X2_init_0 12 rfl) rfl (Or.inl ⟨rfl, rfl⟩) ac_int rfl (by decide) rfl (by decide) rfl rfl rfl (by decide) (hz 10 (by decide) (by decide)) ?_
  refine x_putR (E_X2_init_0 13 rfl) fl_X2_18 rfl (by decide) rfl rfl ?_
  refine x_aload_n (E_X2_init_0 14 rfl) rfl ?_
  refine x_bipush (z := 120) (E_X2_init_0 15 rfl) (by decide) ?_
  refine y_newa (n1 := 12) (ca1 := 4) (sl1 := 480) (E_X2_init_0 16 rfl) rfl (Or.inl ⟨rfl, rfl⟩) ac_int rfl (by decide) rfl (by decide) rfl rfl rfl (by decide) (hz 11 (by decide) (by decide)) ?_
  refine x_putR (E_X2_init_0 17 rfl) fl_X2_21 rfl (by decide) rfl rfl ?_
  refine x_aload_n (E_X2_init_0 18 rfl) rfl ?_
  refine x_bipush (z := 120) (E_X2_init_0 19 rfl) (by decide) ?_
  refine y_newa (n1 := 13) (ca1 := 5) (sl1 := 600) (E_X2_init_0 20 rfl) rfl (Or.inl ⟨rfl, rfl⟩) ac_int rfl (by decide) rfl (by decide) rfl rfl rfl (by decide) (hz 12 (by decide) (by decide)) ?_
  refine x_putR (E_X2_init_0 21 rfl) fl_X2_24 rfl (by decide) rfl rfl ?_
  refine x_aload_n (E_X2_init_0 22 rfl) rfl ?_
  refine x_bipush (z := 120) (E_X2_init_0 23 rfl) (by decide) ?_
  refine y_newa (n1 := 14) (ca1 := 6) (sl1 := 720) (E_X2_init_0 24 rfl) rfl (Or.inl ⟨rfl, rfl⟩) ac_int rfl (by decide) rfl (by decide) rfl rfl rfl (by decide) (hz 13 (by decide) (by decide)) ?_
  refine x_putR (E_X2_init_0 25 rfl) fl_X2_27 rfl (by decide) rfl rfl ?_
  refine x_aload_n (E_X2_init_0 26 rfl) rfl ?_
  refine x_bipush (z := 120) (E_X2_init_0 27 rfl) (by decide) ?_
  refine y_newa (n1 := 15) (ca1 := 7) (sl1 := 840) (E_X2_init_0 28 rfl) rfl (Or.inl ⟨rfl, rfl⟩) ac_int rfl (by decide) rfl (by decide) rfl rfl rfl (by decide) (hz 14 (by decide) (by decide)) ?_
  refine x_putR (E_X2_init_0 29 rfl) fl_X2_30 rfl (by decide) rfl rfl ?_
  refine x_aload_n (E_X2_init_0 30 rfl) rfl ?_
  refine x_bipush (z := 120) (E_X2_init_0 31 rfl) (by decide) ?_
  refine y_newa (n1 := 16) (ca1 := 8) (sl1 := 960) (E_X2_init_0 32 rfl) rfl (Or.inl ⟨rfl, rfl⟩) ac_int rfl (by decide) rfl (by decide) rfl rfl rfl (by decide) (hz 15 (by decide) (by decide)) ?_
  refine x_putR (E_X2_init_0 33 rfl) fl_X2_33 rfl (by decide) rfl rfl ?_
  refine x_aload_n (E_X2_init_0 34 rfl) rfl ?_
  refine x_bipush (z := 120) (E_X2_init_0 35 rfl) (by decide) ?_
  refine y_newa (n1 := 17) (ca1 := 9) (sl1 := 1080) (E_X2_init_0 36 rfl) rfl (Or.inr (Or.inl ⟨rfl, rfl⟩)) ac_boolean rfl (by decide) rfl (by decide) rfl rfl rfl (by decide) (hz 16 (by decide) (by decide)) ?_
  refine x_putR (E_X2_init_0 37 rfl) fl_X2_36 rfl (by decide) rfl rfl ?_
  refine x_vret (E_X2_init_0 38 rfl) trivial (by decide) (by decide) ⟨rfl, rfl⟩
set_option maxRecDepth 100000 in
theorem ct_17 (l : Launch) (G : GC) (ρ : Nat → Int → Option Nat) (σ : Nat → Int → Int) (hz : ∀ a, 18 ≤ a → a < 41 → σ a = fun _ => 0) : Ct l G M_X8_init 1 23 218 [vr 17] (18, ρ, σ) (fun r S1 => r = none ∧ S1 = (41, upq (upq (upq (upq (rwq (upq (rwq (upq (upq (ρ) 17 0 (some 18)) 17 1 (some 19)) 20) 17 2 (some 20)) 29) 17 3 (some 29)) 17 4 (some 38)) 17 5 (some 39)) 17 6 (some 40), upq (σ) 17 7 (-1))) := by
  refine Ct.of rfl (by decide) ?_
  refine x_aload_n (E_X8_init_0 0 rfl) rfl ?_
  refine x_objinit (E_X8_init_0 1 rfl) ml_X8_3 oi_2 oi_3 (by decide) ?_
  refine x_aload_n (E_X8_init_0 2 rfl) rfl ?_
  refine x_bipush (z := 8) (E_X8_init_0 3 rfl) (by decide) ?_
  refine y_newa (n1 := 19) (ca1 := 1) (sl1 := 8) (E_X8_init_0 4 rfl) rfl (Or.inl ⟨rfl, rfl⟩) ac_int rfl (by decide) rfl (by decide) rfl rfl rfl (by decide) (hz 18 (by decide) (by decide)) ?_
  refine x_putR (E_X8_init_0 5 rfl) fl_X8_11 rfl (by decide) rfl rfl ?_
  refine x_aload_n (E_X8_init_0 6 rfl) rfl ?_
  refine x_bipush (z := 8) (E_X8_init_0 7 rfl) (by decide) ?_
  refine y_newa (n1 := 20) (ca1 := 2) (sl1 := 16) (E_X8_init_0 8 rfl) rfl (Or.inl ⟨rfl, rfl⟩) ac_int rfl (by decide) rfl (by decide) rfl rfl rfl (by decide) (hz 19 (by decide) (by decide)) ?_
  refine x_putR (E_X8_init_0 9 rfl) fl_X8_15 rfl (by decide) rfl rfl ?_
  refine x_aload_n (E_X8_init_0 10 rfl) rfl ?_
  refine x_bipush (z := 8) (E_X8_init_0 11 rfl) (by decide) ?_
  refine x_bipush (z := 10) (E_X8_init_0 12 rfl) (by decide) ?_
  refine y_mna (K := 10) (n1 := 29) (ca1 := 11) (sl1 := 104) (E_X8_init_0 13 rfl) cl_X8_20 ac_int rfl rfl (by decide) rfl (by decide) (by decide) rfl rfl rfl (by decide) (fun a h1 h2 => hz a (Nat.le_trans (by decide) h1) (Nat.lt_of_lt_of_le h2 (by decide))) ?_
  refine x_putR (E_X8_init_0 14 rfl) fl_X8_22 rfl (by decide) rfl rfl ?_
  refine x_aload_n (E_X8_init_0 15 rfl) rfl ?_
  refine x_bipush (z := 8) (E_X8_init_0 16 rfl) (by decide) ?_
  refine x_bipush (z := 10) (E_X8_init_0 17 rfl) (by decide) ?_
  refine y_mna (K := 10) (n1 := 38) (ca1 := 20) (sl1 := 192) (E_X8_init_0 18 rfl) cl_X8_20 ac_int rfl rfl (by decide) rfl (by decide) (by decide) rfl rfl rfl (by decide) (fun a h1 h2 => hz a (Nat.le_trans (by decide) h1) (Nat.lt_of_lt_of_le h2 (by decide))) ?_
  refine x_putR (E_X8_init_0 19 rfl) fl_X8_25 rfl (by decide) rfl rfl ?_
  refine x_aload_n (E_X8_init_0 20 rfl) rfl ?_
  refine x_bipush (z := 8) (E_X8_init_0 21 rfl) (by decide) ?_
  refine y_newa (n1 := 39) (ca1 := 21) (sl1 := 200) (E_X8_init_0 22 rfl) rfl (Or.inl ⟨rfl, rfl⟩) ac_int rfl (by decide) rfl (by decide) rfl rfl rfl (by decide) (hz 38 (by decide) (by decide)) ?_
  refine x_putR (E_X8_init_0 23 rfl) fl_X8_28 rfl (by decide) rfl rfl ?_
  refine x_aload_n (E_X8_init_0 24 rfl) rfl ?_
  refine x_bipush (z := 8) (E_X8_init_0 25 rfl) (by decide) ?_
  refine y_newa (n1 := 40) (ca1 := 22) (sl1 := 208) (E_X8_init_0 26 rfl) rfl (Or.inr (Or.inl ⟨rfl, rfl⟩)) ac_boolean rfl (by decide) rfl (by decide) rfl rfl rfl (by decide) (hz 39 (by decide) (by decide)) ?_
  refine x_putR (E_X8_init_0 27 rfl) fl_X8_31 rfl (by decide) rfl rfl ?_
  refine x_aload_n (E_X8_init_0 28 rfl) rfl ?_
  refine x_bipush (z := 10) (E_X8_init_0 29 rfl) (by decide) ?_
  refine y_newa (n1 := 41) (ca1 := 23) (sl1 := 218) (E_X8_init_0 30 rfl) rfl (Or.inl ⟨rfl, rfl⟩) ac_int rfl (by decide) rfl (by decide) rfl rfl rfl (by decide) (hz 40 (by decide) (by decide)) ?_
  refine x_putR (E_X8_init_0 31 rfl) fl_X8_35 rfl (by decide) rfl rfl ?_
  refine x_aload_n (E_X8_init_0 32 rfl) rfl ?_
  refine x_iconst (E_X8_init_0 33 rfl) ?_
  refine x_putI (E_X8_init_0 34 rfl) fl_X8_38 rfl (by decide) ?_
  refine x_vret (E_X8_init_0 35 rfl) trivial (by decide) (by decide) ⟨rfl, rfl⟩
set_option maxRecDepth 100000 in
theorem ct_41 (l : Launch) (G : GC) (ρ : Nat → Int → Option Nat) (σ : Nat → Int → Int) (hz : ∀ a, 42 ≤ a → a < 45 → σ a = fun _ => 0) : Ct l G M_X5_init 1 3 180 [vr 41] (42, ρ, σ) (fun r S1 => r = none ∧ S1 = (45, upq (upq (upq (ρ) 41 0 (some 42)) 41 2 (some 43)) 41 3 (some 44), upq (σ) 41 6 (-1))) := by
  refine Ct.of rfl (by decide) ?_
  refine x_aload_n (E_X5_init_0 0 rfl) rfl ?_
  refine x_objinit (E_X5_init_0 1 rfl) ml_X5_3 oi_2 oi_3 (by decide) ?_
  refine x_aload_n (E_X5_init_0 2 rfl) rfl ?_
  refine x_sipush (z := 160) (E_X5_init_0 3 rfl) (by decide) ?_
  refine y_newa (n1 := 43) (ca1 := 1) (sl1 := 160) (E_X5_init_0 4 rfl) rfl (Or.inl ⟨rfl, rfl⟩) ac_int rfl (by decide) rfl (by decide) rfl rfl rfl (by decide) (hz 42 (by decide) (by decide)) ?_
  refine x_putR (E_X5_init_0 5 rfl) fl_X5_11 rfl (by decide) rfl rfl ?_
  refine x_aload_n (E_X5_init_0 6 rfl) rfl ?_
  refine x_bipush (z := 10) (E_X5_init_0 7 rfl) (by decide) ?_
  refine y_newa (n1 := 44) (ca1 := 2) (sl1 := 170) (E_X5_init_0 8 rfl) rfl (Or.inl ⟨rfl, rfl⟩) ac_int rfl (by decide) rfl (by decide) rfl rfl rfl (by decide) (hz 43 (by decide) (by decide)) ?_
  refine x_putR (E_X5_init_0 9 rfl) fl_X5_15 rfl (by decide) rfl rfl ?_
  refine x_aload_n (E_X5_init_0 10 rfl) rfl ?_
  refine x_bipush (z := 10) (E_X5_init_0 11 rfl) (by decide) ?_
  refine y_newa (n1 := 45) (ca1 := 3) (sl1 := 180) (E_X5_init_0 12 rfl) rfl (Or.inl ⟨rfl, rfl⟩) ac_int rfl (by decide) rfl (by decide) rfl rfl rfl (by decide) (hz 44 (by decide) (by decide)) ?_
  refine x_putR (E_X5_init_0 13 rfl) fl_X5_18 rfl (by decide) rfl rfl ?_
  refine x_aload_n (E_X5_init_0 14 rfl) rfl ?_
  refine x_iconst (E_X5_init_0 15 rfl) ?_
  refine x_putI (E_X5_init_0 16 rfl) fl_X5_21 rfl (by decide) ?_
  refine x_vret (E_X5_init_0 17 rfl) trivial (by decide) (by decide) ⟨rfl, rfl⟩
set_option maxRecDepth 100000 in
theorem ct_45 (l : Launch) (G : GC) (ρ : Nat → Int → Option Nat) (σ : Nat → Int → Int) (hz : ∀ a, 46 ≤ a → a < 58 → σ a = fun _ => 0) : Ct l G M_X7_init 1 12 1116 [vr 45, vr 1, vr 7, vr 17] (46, ρ, σ) (fun r S1 => r = none ∧ S1 = (58, upq (upq (upq (upq (upq (upq (upq (upq (upq (upq (upq (upq (upq (upq (upq (ρ) 45 3 (some 46)) 45 4 (some 47)) 45 5 (some 48)) 45 6 (some 49)) 45 7 (some 50)) 45 8 (some 51)) 45 9 (some 52)) 45 10 (some 53)) 45 11 (some 54)) 45 12 (some 55)) 45 13 (some 56)) 45 14 (some 57)) 45 0 (some 1)) 45 1 (some 7)) 45 2 (some 17), σ)) := by
  refine Ct.of rfl (by decide) ?_
  refine x_aload_n (E_X7_init_0 0 rfl) rfl ?_
  refine x_objinit (E_X7_init_0 1 rfl) ml_X7_3 oi_2 oi_3 (by decide) ?_
  refine x_aload_n (E_X7_init_0 2 rfl) rfl ?_
  refine x_bipush (z := 120) (E_X7_init_0 3 rfl) (by decide) ?_
  refine y_newa (n1 := 47) (ca1 := 1) (sl1 := 120) (E_X7_init_0 4 rfl) rfl (Or.inr (Or.inl ⟨rfl, rfl⟩)) ac_boolean rfl (by decide) rfl (by decide) rfl rfl rfl (by decide) (hz 46 (by decide) (by decide)) ?_
  refine x_putR (E_X7_init_0 5 rfl) fl_X7_9 rfl (by decide) rfl rfl ?_
  refine x_aload_n (E_X7_init_0 6 rfl) rfl ?_
  refine x_bipush (z := 120) (E_X7_init_0 7 rfl) (by decide) ?_
  refine y_newa (n1 := 48) (ca1 := 2) (sl1 := 240) (E_X7_init_0 8 rfl) rfl (Or.inr (Or.inl ⟨rfl, rfl⟩)) ac_boolean rfl (by decide) rfl (by decide) rfl rfl rfl (by decide) (hz 47 (by decide) (by decide)) ?_
  refine x_putR (E_X7_init_0 9 rfl) fl_X7_15 rfl (by decide) rfl rfl ?_
  refine x_aload_n (E_X7_init_0 10 rfl) rfl ?_
  refine x_bipush (z := 120) (E_X7_init_0 11 rfl) (by decide) ?_
  refine y_newa (n1 := 49) (ca1 := 3) (sl1 := 360) (E_X7_init_0 12 rfl) rfl (Or.inl ⟨rfl, rfl⟩) ac_int rfl (by decide) rfl (by decide) rfl rfl rfl (by decide) (hz 48 (by decide) (by decide)) ?_
  refine x_putR (E_X7_init_0 13 rfl) fl_X7_18 rfl (by decide) rfl rfl ?_
  refine x_aload_n (E_X7_init_0 14 rfl) rfl ?_
  refine x_bipush (z := 120) (E_X7_init_0 15 rfl) (by decide) ?_
  refine y_newa (n1 := 50) (ca1 := 4) (sl1 := 480) (E_X7_init_0 16 rfl) rfl (Or.inl ⟨rfl, rfl⟩) ac_int rfl (by decide) rfl (by decide) rfl rfl rfl (by decide) (hz 49 (by decide) (by decide)) ?_
  refine x_putR (E_X7_init_0 17 rfl) fl_X7_22 rfl (by decide) rfl rfl ?_
  refine x_aload_n (E_X7_init_0 18 rfl) rfl ?_
  refine x_bipush (z := 120) (E_X7_init_0 19 rfl) (by decide) ?_
  refine y_newa (n1 := 51) (ca1 := 5) (sl1 := 600) (E_X7_init_0 20 rfl) rfl (Or.inl ⟨rfl, rfl⟩) ac_int rfl (by decide) rfl (by decide) rfl rfl rfl (by decide) (hz 50 (by decide) (by decide)) ?_
  refine x_putR (E_X7_init_0 21 rfl) fl_X7_25 rfl (by decide) rfl rfl ?_
  refine x_aload_n (E_X7_init_0 22 rfl) rfl ?_
  refine x_bipush (z := 120) (E_X7_init_0 23 rfl) (by decide) ?_
  refine y_newa (n1 := 52) (ca1 := 6) (sl1 := 720) (E_X7_init_0 24 rfl) rfl (Or.inl ⟨rfl, rfl⟩) ac_int rfl (by decide) rfl (by decide) rfl rfl rfl (by decide) (hz 51 (by decide) (by decide)) ?_
  refine x_putR (E_X7_init_0 25 rfl) fl_X7_28 rfl (by decide) rfl rfl ?_
  refine x_aload_n (E_X7_init_0 26 rfl) rfl ?_
  refine x_bipush (z := 120) (E_X7_init_0 27 rfl) (by decide) ?_
  refine y_newa (n1 := 53) (ca1 := 7) (sl1 := 840) (E_X7_init_0 28 rfl) rfl (Or.inl ⟨rfl, rfl⟩) ac_int rfl (by decide) rfl (by decide) rfl rfl rfl (by decide) (hz 52 (by decide) (by decide)) ?_
  refine x_putR (E_X7_init_0 29 rfl) fl_X7_31 rfl (by decide) rfl rfl ?_
  refine x_aload_n (E_X7_init_0 30 rfl) rfl ?_
  refine x_bipush (z := 120) (E_X7_init_0 31 rfl) (by decide) ?_
  refine y_newa (n1 := 54) (ca1 := 8) (sl1 := 960) (E_X7_init_0 32 rfl) rfl (Or.inl ⟨rfl, rfl⟩) ac_int rfl (by decide) rfl (by decide) rfl rfl rfl (by decide) (hz 53 (by decide) (by decide)) ?_
  refine x_putR (E_X7_init_0 33 rfl) fl_X7_34 rfl (by decide) rfl rfl ?_
  refine x_aload_n (E_X7_init_0 34 rfl) rfl ?_
  refine x_bipush (z := 120) (E_X7_init_0 35 rfl) (by decide) ?_
  refine y_newa (n1 := 55) (ca1 := 9) (sl1 := 1080) (E_X7_init_0 36 rfl) rfl (Or.inl ⟨rfl, rfl⟩) ac_int rfl (by decide) rfl (by decide) rfl rfl rfl (by decide) (hz 54 (by decide) (by decide)) ?_
  refine x_putR (E_X7_init_0 37 rfl) fl_X7_37 rfl (by decide) rfl rfl ?_
  refine x_aload_n (E_X7_init_0 38 rfl) rfl ?_
  refine x_bipush (z := 12) (E_X7_init_0 39 rfl) (by decide) ?_
  refine y_newa (n1 := 56) (ca1 := 10) (sl1 := 1092) (E_X7_init_0 40 rfl) rfl (Or.inl ⟨rfl, rfl⟩) ac_int rfl (by decide) rfl (by decide) rfl rfl rfl (by decide) (hz 55 (by decide) (by decide)) ?_
  refine x_putR (E_X7_init_0 41 rfl) fl_X7_40 rfl (by decide) rfl rfl ?_
  refine x_aload_n (E_X7_init_0 42 rfl) rfl ?_
  refine x_bipush (z := 12) (E_X7_init_0 43 rfl) (by decide) ?_
  refine y_newa (n1 := 57) (ca1 := 11) (sl1 := 1104) (E_X7_init_0 44 rfl) rfl (Or.inl ⟨rfl, rfl⟩) ac_int rfl (by decide) rfl (by decide) rfl rfl rfl (by decide) (hz 56 (by decide) (by decide)) ?_
  refine x_putR (E_X7_init_0 45 rfl) fl_X7_43 rfl (by decide) rfl rfl ?_
  refine x_aload_n (E_X7_init_0 46 rfl) rfl ?_
  refine x_bipush (z := 12) (E_X7_init_0 47 rfl) (by decide) ?_
  refine y_newa (n1 := 58) (ca1 := 12) (sl1 := 1116) (E_X7_init_0 48 rfl) rfl (Or.inl ⟨rfl, rfl⟩) ac_int rfl (by decide) rfl (by decide) rfl rfl rfl (by decide) (hz 57 (by decide) (by decide)) ?_
  refine x_putR (E_X7_init_0 49 rfl) fl_X7_46 rfl (by decide) rfl rfl ?_
  refine x_aload_n (E_X7_init_0 50 rfl) rfl ?_
  refine x_aload_n (E_X7_init_0 51 rfl) rfl ?_
  refine x_putR (E_X7_init_0 52 rfl) fl_X7_49 rfl (by decide) rfl rfl ?_
  refine x_aload_n (E_X7_init_0 53 rfl) rfl ?_
  refine x_aload_n (E_X7_init_0 54 rfl) rfl ?_
  refine x_putR (E_X7_init_0 55 rfl) fl_X7_53 rfl (by decide) rfl rfl ?_
  refine x_aload_n (E_X7_init_0 56 rfl) rfl ?_
  refine x_aload_n (E_X7_init_0 57 rfl) rfl ?_
  refine x_putR (E_X7_init_0 58 rfl) fl_X7_57 rfl (by decide) rfl rfl ?_
  refine x_vret (E_X7_init_0 59 rfl) trivial (by decide) (by decide) ⟨rfl, rfl⟩
set_option maxRecDepth 100000 in
theorem ct_58 (l : Launch) (G : GC) (ρ : Nat → Int → Option Nat) (σ : Nat → Int → Int) (hz : ∀ a, 59 ≤ a → a < 71 → σ a = fun _ => 0) : Ct l G M_X7_init 1 12 1116 [vr 58, vr 1, vr 7, vr 17] (59, ρ, σ) (fun r S1 => r = none ∧ S1 = (71, upq (upq (upq (upq (upq (upq (upq (upq (upq (upq (upq (upq (upq (upq (upq (ρ) 58 3 (some 59)) 58 4 (some 60)) 58 5 (some 61)) 58 6 (some 62)) 58 7 (some 63)) 58 8 (some 64)) 58 9 (some 65)) 58 10 (some 66)) 58 11 (some 67)) 58 12 (some 68)) 58 13 (some 69)) 58 14 (some 70)) 58 0 (some 1)) 58 1 (some 7)) 58 2 (some 17), σ)) := by
  refine Ct.of rfl (by decide) ?_
  refine x_aload_n (E_X7_init_0 0 rfl) rfl ?_
  refine x_objinit (E_X7_init_0 1 rfl) ml_X7_3 oi_2 oi_3 (by decide) ?_
  refine x_aload_n (E_X7_init_0 2 rfl) rfl ?_
  refine x_bipush (z := 120) (E_X7_init_0 3 rfl) (by decide) ?_
  refine y_newa (n1 := 60) (ca1 := 1) (sl1 := 120) (E_X7_init_0 4 rfl) rfl (Or.inr (Or.inl ⟨rfl, rfl⟩)) ac_boolean rfl (by decide) rfl (by decide) rfl rfl rfl (by decide) (hz 59 (by decide) (by decide)) ?_
  refine x_putR (E_X7_init_0 5 rfl) fl_X7_9 rfl (by decide) rfl rfl ?_
  refine x_aload_n (E_X7_init_0 6 rfl) rfl ?_
  refine x_bipush (z := 120) (E_X7_init_0 7 rfl) (by decide) ?_
  refine y_newa (n1 := 61) (ca1 := 2) (sl1 := 240) (E_X7_init_0 8 rfl) rfl (Or.inr (Or.inl ⟨rfl, rfl⟩)) ac_boolean rfl (by decide) rfl (by decide) rfl rfl rfl (by decide) (hz 60 (by decide) (by decide)) ?_
  refine x_putR (E_X7_init_0 9 rfl) fl_X7_15 rfl (by decide) rfl rfl ?_
  refine x_aload_n (E_X7_init_0 10 rfl) rfl ?_
  refine x_bipush (z := 120) (E_X7_init_0 11 rfl) (by decide) ?_
  refine y_newa (n1 := 62) (ca1 := 3) (sl1 := 360) (E_X7_init_0 12 rfl) rfl (Or.inl ⟨rfl, rfl⟩) ac_int rfl (by decide) rfl (by decide) rfl rfl rfl (by decide) (hz 61 (by decide) (by decide)) ?_
  refine x_putR (E_X7_init_0 13 rfl) fl_X7_18 rfl (by decide) rfl rfl ?_
  refine x_aload_n (E_X7_init_0 14 rfl) rfl ?_
  refine x_bipush (z := 120) (E_X7_init_0 15 rfl) (by decide) ?_
  refine y_newa (n1 := 63) (ca1 := 4) (sl1 := 480) (E_X7_init_0 16 rfl) rfl (Or.inl ⟨rfl, rfl⟩) ac_int rfl (by decide) rfl (by decide) rfl rfl rfl (by decide) (hz 62 (by decide) (by decide)) ?_
  refine x_putR (E_X7_init_0 17 rfl) fl_X7_22 rfl (by decide) rfl rfl ?_
  refine x_aload_n (E_X7_init_0 18 rfl) rfl ?_
  refine x_bipush (z := 120) (E_X7_init_0 19 rfl) (by decide) ?_
  refine y_newa (n1 := 64) (ca1 := 5) (sl1 := 600) (E_X7_init_0 20 rfl) rfl (Or.inl ⟨rfl, rfl⟩) ac_int rfl (by decide) rfl (by decide) rfl rfl rfl (by decide) (hz 63 (by decide) (by decide)) ?_
  refine x_putR (E_X7_init_0 21 rfl) fl_X7_25 rfl (by decide) rfl rfl ?_
  refine x_aload_n (E_X7_init_0 22 rfl) rfl ?_
  refine x_bipush (z := 120) (E_X7_init_0 23 rfl) (by decide) ?_
  refine y_newa (n1 := 65) (ca1 := 6) (sl1 := 720) (E_X7_init_0 24 rfl) rfl (Or.inl ⟨rfl, rfl⟩) ac_int rfl (by decide) rfl (by decide) rfl rfl rfl (by decide) (hz 64 (by decide) (by decide)) ?_
  refine x_putR (E_X7_init_0 25 rfl) fl_X7_28 rfl (by decide) rfl rfl ?_
  refine x_aload_n (E_X7_init_0 26 rfl) rfl ?_
  refine x_bipush (z := 120) (E_X7_init_0 27 rfl) (by decide) ?_
  refine y_newa (n1 := 66) (ca1 := 7) (sl1 := 840) (E_X7_init_0 28 rfl) rfl (Or.inl ⟨rfl, rfl⟩) ac_int rfl (by decide) rfl (by decide) rfl rfl rfl (by decide) (hz 65 (by decide) (by decide)) ?_
  refine x_putR (E_X7_init_0 29 rfl) fl_X7_31 rfl (by decide) rfl rfl ?_
  refine x_aload_n (E_X7_init_0 30 rfl) rfl ?_
  refine x_bipush (z := 120) (E_X7_init_0 31 rfl) (by decide) ?_
  refine y_newa (n1 := 67) (ca1 := 8) (sl1 := 960) (E_X7_init_0 32 rfl) rfl (Or.inl ⟨rfl, rfl⟩) ac_int rfl (by decide) rfl (by decide) rfl rfl rfl (by decide) (hz 66 (by decide) (by decide)) ?_
  refine x_putR (E_X7_init_0 33 rfl) fl_X7_34 rfl (by decide) rfl rfl ?_
  refine x_aload_n (E_X7_init_0 34 rfl) rfl ?_
  refine x_bipush (z := 120) (E_X7_init_0 35 rfl) (by decide) ?_
  refine y_newa (n1 := 68) (ca1 := 9) (sl1 := 1080) (E_X7_init_0 36 rfl) rfl (Or.inl ⟨rfl, rfl⟩) ac_int rfl (by decide) rfl (by decide) rfl rfl rfl (by decide) (hz 67 (by decide) (by decide)) ?_
  refine x_putR (E_X7_init_0 37 rfl) fl_X7_37 rfl (by decide) rfl rfl ?_
  refine x_aload_n (E_X7_init_0 38 rfl) rfl ?_
  refine x_bipush (z := 12) (E_X7_init_0 39 rfl) (by decide) ?_
  refine y_newa (n1 := 69) (ca1 := 10) (sl1 := 1092) (E_X7_init_0 40 rfl) rfl (Or.inl ⟨rfl, rfl⟩) ac_int rfl (by decide) rfl (by decide) rfl rfl rfl (by decide) (hz 68 (by decide) (by decide)) ?_
  refine x_putR (E_X7_init_0 41 rfl) fl_X7_40 rfl (by decide) rfl rfl ?_
  refine x_aload_n (E_X7_init_0 42 rfl) rfl ?_
  refine x_bipush (z := 12) (E_X7_init_0 43 rfl) (by decide) ?_
  refine y_newa (n1 := 70) (ca1 := 11) (sl1 := 1104) (E_X7_init_0 44 rfl) rfl (Or.inl ⟨rfl, rfl⟩) ac_int rfl (by decide) rfl (by decide) rfl rfl rfl (by decide) (hz 69 (by decide) (by decide)) ?_
  refine x_putR (E_X7_init_0 45 rfl) fl_X7_43 rfl (by decide) rfl rfl ?_
  refine x_aload_n (E_X7_init_0 46 rfl) rfl ?_
  refine x_bipush (z := 12) (E_X7_init_0 47 rfl) (by decide) ?_
  refine y_newa (n1 := 71) (ca1 := 12) (sl1 := 1116) (E_X7_init_0 48 rfl) rfl (Or.inl ⟨rfl, rfl⟩) ac_int rfl (by decide) rfl (by decide) rfl rfl rfl (by decide) (hz 70 (by decide) (by decide)) ?_
  refine x_putR (E_X7_init_0 49 rfl) fl_X7_46 rfl (by decide) rfl rfl ?_
  refine x_aload_n (E_X7_init_0 50 rfl) rfl ?_
  refine x_aload_n (E_X7_init_0 51 rfl) rfl ?_
  refine x_putR (E_X7_init_0 52 rfl) fl_X7_49 rfl (by decide) rfl rfl ?_
  refine x_aload_n (E_X7_init_0 53 rfl) rfl ?_
  refine x_aload_n (E_X7_init_0 54 rfl) rfl ?_
  refine x_putR (E_X7_init_0 55 rfl) fl_X7_53 rfl (by decide) rfl rfl ?_
  refine x_aload_n (E_X7_init_0 56 rfl) rfl ?_
  refine x_aload_n (E_X7_init_0 57 rfl) rfl ?_
  refine x_putR (E_X7_init_0 58 rfl) fl_X7_57 rfl (by decide) rfl rfl ?_
  refine x_vret (E_X7_init_0 59 rfl) trivial (by decide) (by decide) ⟨rfl, rfl⟩
set_option maxRecDepth 100000 in
theorem ct_71 (l : Launch) (G : GC) (ρ : Nat → Int → Option Nat) (σ : Nat → Int → Int) (hz : ∀ a, 72 ≤ a → a < 74 → σ a = fun _ => 0) : Ct l G M_X0_init 1 2 321 [vr 71] (72, ρ, σ) (fun r S1 => r = none ∧ S1 = (74, upq (upq (ρ) 71 0 (some 72)) 71 1 (some 73), σ)) := by
  refine Ct.of rfl (by decide) ?_
  refine x_aload_n (E_X0_init_0 0 rfl) rfl ?_
  refine x_objinit (E_X0_init_0 1 rfl) ml_X0_3 oi_2 oi_3 (by decide) ?_
  refine x_aload_n (E_X0_init_0 2 rfl) rfl ?_
  refine x_sipush (z := 201) (E_X0_init_0 3 rfl) (by decide) ?_
  refine y_newa (n1 := 73) (ca1 := 1) (sl1 := 201) (E_X0_init_0 4 rfl) rfl (Or.inl ⟨rfl, rfl⟩) ac_int rfl (by decide) rfl (by decide) rfl rfl rfl (by decide) (hz 72 (by decide) (by decide)) ?_
  refine x_putR (E_X0_init_0 5 rfl) fl_X0_9 rfl (by decide) rfl rfl ?_
  refine x_aload_n (E_X0_init_0 6 rfl) rfl ?_
  refine x_bipush (z := 120) (E_X0_init_0 7 rfl) (by decide) ?_
  refine y_newa (n1 := 74) (ca1 := 2) (sl1 := 321) (E_X0_init_0 8 rfl) rfl (Or.inl ⟨rfl, rfl⟩) ac_int rfl (by decide) rfl (by decide) rfl rfl rfl (by decide) (hz 73 (by decide) (by decide)) ?_
  refine x_putR (E_X0_init_0 9 rfl) fl_X0_15 rfl (by decide) rfl rfl ?_
  refine x_vret (E_X0_init_0 10 rfl) trivial (by decide) (by decide) ⟨rfl, rfl⟩
set_option maxRecDepth 100000 in
theorem ct_74 (l : Launch) (G : GC) (ρ : Nat → Int → Option Nat) (σ : Nat → Int → Int) (hz : ∀ a, 75 ≤ a → a < 79 → σ a = fun _ => 0) : Ct l G M_X9_init 1 4 160 [vr 74] (75, ρ, σ) (fun r S1 => r = none ∧ S1 = (79, upq (upq (upq (upq (ρ) 74 0 (some 75)) 74 1 (some 76)) 74 2 (some 77)) 74 3 (some 78), σ)) := by
  refine Ct.of rfl (by decide) ?_
  refine x_aload_n (E_X9_init_0 0 rfl) rfl ?_
  refine x_objinit (E_X9_init_0 1 rfl) ml_X9_1 oi_2 oi_3 (by decide) ?_
  refine x_aload_n (E_X9_init_0 2 rfl) rfl ?_
  refine x_bipush (z := 40) (E_X9_init_0 3 rfl) (by decide) ?_
  refine y_newa (n1 := 76) (ca1 := 1) (sl1 := 40) (E_X9_init_0 4 rfl) rfl (Or.inl ⟨rfl, rfl⟩) ac_int rfl (by decide) rfl (by decide) rfl rfl rfl (by decide) (hz 75 (by decide) (by decide)) ?_
  refine x_putR (E_X9_init_0 5 rfl) fl_X9_9 rfl (by decide) rfl rfl ?_
  refine x_aload_n (E_X9_init_0 6 rfl) rfl ?_
  refine x_bipush (z := 40) (E_X9_init_0 7 rfl) (by decide) ?_
  refine y_newa (n1 := 77) (ca1 := 2) (sl1 := 80) (E_X9_init_0 8 rfl) rfl (Or.inl ⟨rfl, rfl⟩) ac_int rfl (by decide) rfl (by decide) rfl rfl rfl (by decide) (hz 76 (by decide) (by decide)) ?_
  refine x_putR (E_X9_init_0 9 rfl) fl_X9_13 rfl (by decide) rfl rfl ?_
  refine x_aload_n (E_X9_init_0 10 rfl) rfl ?_
  refine x_bipush (z := 40) (E_X9_init_0 11 rfl) (by decide) ?_
  refine y_newa (n1 := 78) (ca1 := 3) (sl1 := 120) (E_X9_init_0 12 rfl) rfl (Or.inl ⟨rfl, rfl⟩) ac_int rfl (by decide) rfl (by decide) rfl rfl rfl (by decide) (hz 77 (by decide) (by decide)) ?_
  refine x_putR (E_X9_init_0 13 rfl) fl_X9_16 rfl (by decide) rfl rfl ?_
  refine x_aload_n (E_X9_init_0 14 rfl) rfl ?_
  refine x_bipush (z := 40) (E_X9_init_0 15 rfl) (by decide) ?_
  refine y_newa (n1 := 79) (ca1 := 4) (sl1 := 160) (E_X9_init_0 16 rfl) rfl (Or.inl ⟨rfl, rfl⟩) ac_int rfl (by decide) rfl (by decide) rfl rfl rfl (by decide) (hz 78 (by decide) (by decide)) ?_
  refine x_putR (E_X9_init_0 17 rfl) fl_X9_19 rfl (by decide) rfl rfl ?_
  refine x_vret (E_X9_init_0 18 rfl) trivial (by decide) (by decide) ⟨rfl, rfl⟩
set_option maxRecDepth 100000 in
theorem ct_88 (l : Launch) (G : GC) (ρ : Nat → Int → Option Nat) (σ : Nat → Int → Int) (hz : ∀ a, 89 ≤ a → a < 96 → σ a = fun _ => 0) : Ct l G M_X6_init 1 7 616 [vr 88] (89, ρ, σ) (fun r S1 => r = none ∧ S1 = (96, upq (upq (upq (upq (upq (upq (upq (ρ) 88 0 (some 89)) 88 1 (some 90)) 88 2 (some 91)) 88 3 (some 92)) 88 4 (some 93)) 88 5 (some 94)) 88 6 (some 95), σ)) := by
  refine Ct.of rfl (by decide) ?_
  refine x_aload_n (E_X6_init_0 0 rfl) rfl ?_
  refine x_objinit (E_X6_init_0 1 rfl) ml_X6_3 oi_2 oi_3 (by decide) ?_
  refine x_aload_n (E_X6_init_0 2 rfl) rfl ?_
  refine x_bipush (z := 24) (E_X6_init_0 3 rfl) (by decide) ?_
  refine y_newa (n1 := 90) (ca1 := 1) (sl1 := 24) (E_X6_init_0 4 rfl) rfl (Or.inl ⟨rfl, rfl⟩) ac_int rfl (by decide) rfl (by decide) rfl rfl rfl (by decide) (hz 89 (by decide) (by decide)) ?_
  refine x_putR (E_X6_init_0 5 rfl) fl_X6_11 rfl (by decide) rfl rfl ?_
  refine x_aload_n (E_X6_init_0 6 rfl) rfl ?_
  refine x_bipush (z := 24) (E_X6_init_0 7 rfl) (by decide) ?_
  refine y_newa (n1 := 91) (ca1 := 2) (sl1 := 48) (E_X6_init_0 8 rfl) rfl (Or.inl ⟨rfl, rfl⟩) ac_int rfl (by decide) rfl (by decide) rfl rfl rfl (by decide) (hz 90 (by decide) (by decide)) ?_
  refine x_putR (E_X6_init_0 9 rfl) fl_X6_15 rfl (by decide) rfl rfl ?_
  refine x_aload_n (E_X6_init_0 10 rfl) rfl ?_
  refine x_bipush (z := 24) (E_X6_init_0 11 rfl) (by decide) ?_
  refine y_newa (n1 := 92) (ca1 := 3) (sl1 := 72) (E_X6_init_0 12 rfl) rfl (Or.inl ⟨rfl, rfl⟩) ac_int rfl (by decide) rfl (by decide) rfl rfl rfl (by decide) (hz 91 (by decide) (by decide)) ?_
  refine x_putR (E_X6_init_0 13 rfl) fl_X6_18 rfl (by decide) rfl rfl ?_
  refine x_aload_n (E_X6_init_0 14 rfl) rfl ?_
  refine x_bipush (z := 24) (E_X6_init_0 15 rfl) (by decide) ?_
  refine y_newa (n1 := 93) (ca1 := 4) (sl1 := 96) (E_X6_init_0 16 rfl) rfl (Or.inl ⟨rfl, rfl⟩) ac_int rfl (by decide) rfl (by decide) rfl rfl rfl (by decide) (hz 92 (by decide) (by decide)) ?_
  refine x_putR (E_X6_init_0 17 rfl) fl_X6_21 rfl (by decide) rfl rfl ?_
  refine x_aload_n (E_X6_init_0 18 rfl) rfl ?_
  refine x_bipush (z := 8) (E_X6_init_0 19 rfl) (by decide) ?_
  refine y_newa (n1 := 94) (ca1 := 5) (sl1 := 104) (E_X6_init_0 20 rfl) rfl (Or.inl ⟨rfl, rfl⟩) ac_int rfl (by decide) rfl (by decide) rfl rfl rfl (by decide) (hz 93 (by decide) (by decide)) ?_
  refine x_putR (E_X6_init_0 21 rfl) fl_X6_24 rfl (by decide) rfl rfl ?_
  refine x_aload_n (E_X6_init_0 22 rfl) rfl ?_
  refine x_sipush (z := 256) (E_X6_init_0 23 rfl) (by decide) ?_
  refine y_newa (n1 := 95) (ca1 := 6) (sl1 := 360) (E_X6_init_0 24 rfl) rfl (Or.inl ⟨rfl, rfl⟩) ac_int rfl (by decide) rfl (by decide) rfl rfl rfl (by decide) (hz 94 (by decide) (by decide)) ?_
  refine x_putR (E_X6_init_0 25 rfl) fl_X6_27 rfl (by decide) rfl rfl ?_
  refine x_aload_n (E_X6_init_0 26 rfl) rfl ?_
  refine x_sipush (z := 256) (E_X6_init_0 27 rfl) (by decide) ?_
  refine y_newa (n1 := 96) (ca1 := 7) (sl1 := 616) (E_X6_init_0 28 rfl) rfl (Or.inl ⟨rfl, rfl⟩) ac_int rfl (by decide) rfl (by decide) rfl rfl rfl (by decide) (hz 95 (by decide) (by decide)) ?_
  refine x_putR (E_X6_init_0 29 rfl) fl_X6_30 rfl (by decide) rfl rfl ?_
  refine x_vret (E_X6_init_0 30 rfl) trivial (by decide) (by decide) ⟨rfl, rfl⟩
set_option maxRecDepth 100000 in
theorem ct_96 (l : Launch) (G : GC) (ρ : Nat → Int → Option Nat) (σ : Nat → Int → Int) (hz : ∀ a, 97 ≤ a → a < 105 → σ a = fun _ => 0) : Ct l G M_X1_init 1 7 120 [vr 96] (97, ρ, σ) (fun r S1 => r = none ∧ S1 = (105, upq (upq (upq (upq (upq (upq (upq (ρ) 96 0 (some 97)) 96 1 (some 98)) 96 2 (some 99)) 96 3 (some 100)) 96 5 (some 101)) 96 6 (some 102)) 96 7 (some 103), σ)) := by
  refine Ct.of rfl (by decide) ?_
  refine x_aload_n (E_X1_init_0 0 rfl) rfl ?_
  refine x_objinit (E_X1_init_0 1 rfl) ml_X1_3 oi_2 oi_3 (by decide) ?_
  refine x_aload_n (E_X1_init_0 2 rfl) rfl ?_
  refine x_bipush (z := 24) (E_X1_init_0 3 rfl) (by decide) ?_
  refine y_newa (n1 := 98) (ca1 := 1) (sl1 := 24) (E_X1_init_0 4 rfl) rfl (Or.inl ⟨rfl, rfl⟩) ac_int rfl (by decide) rfl (by decide) rfl rfl rfl (by decide) (hz 97 (by decide) (by decide)) ?_
  refine x_putR (E_X1_init_0 5 rfl) fl_X1_11 rfl (by decide) rfl rfl ?_
  refine x_aload_n (E_X1_init_0 6 rfl) rfl ?_
  refine x_bipush (z := 24) (E_X1_init_0 7 rfl) (by decide) ?_
  refine y_newa (n1 := 99) (ca1 := 2) (sl1 := 48) (E_X1_init_0 8 rfl) rfl (Or.inl ⟨rfl, rfl⟩) ac_int rfl (by decide) rfl (by decide) rfl rfl rfl (by decide) (hz 98 (by decide) (by decide)) ?_
  refine x_putR (E_X1_init_0 9 rfl) fl_X1_15 rfl (by decide) rfl rfl ?_
  refine x_aload_n (E_X1_init_0 10 rfl) rfl ?_
  refine x_bipush (z := 24) (E_X1_init_0 11 rfl) (by decide) ?_
  refine y_newa (n1 := 100) (ca1 := 3) (sl1 := 72) (E_X1_init_0 12 rfl) rfl (Or.inl ⟨rfl, rfl⟩) ac_int rfl (by decide) rfl (by decide) rfl rfl rfl (by decide) (hz 99 (by decide) (by decide)) ?_
  refine x_putR (E_X1_init_0 13 rfl) fl_X1_18 rfl (by decide) rfl rfl ?_
  refine x_aload_n (E_X1_init_0 14 rfl) rfl ?_
  refine x_bipush (z := 24) (E_X1_init_0 15 rfl) (by decide) ?_
  refine y_newa (n1 := 101) (ca1 := 4) (sl1 := 96) (E_X1_init_0 16 rfl) rfl (Or.inl ⟨rfl, rfl⟩) ac_int rfl (by decide) rfl (by decide) rfl rfl rfl (by decide) (hz 100 (by decide) (by decide)) ?_
  refine x_putR (E_X1_init_0 17 rfl) fl_X1_21 rfl (by decide) rfl rfl ?_
  refine x_aload_n (E_X1_init_0 18 rfl) rfl ?_
  refine x_bipush (z := 8) (E_X1_init_0 19 rfl) (by decide) ?_
  refine y_newa (n1 := 102) (ca1 := 5) (sl1 := 104) (E_X1_init_0 20 rfl) rfl (Or.inl ⟨rfl, rfl⟩) ac_int rfl (by decide) rfl (by decide) rfl rfl rfl (by decide) (hz 101 (by decide) (by decide)) ?_
  refine x_putR (E_X1_init_0 21 rfl) fl_X1_24 rfl (by decide) rfl rfl ?_
  refine x_aload_n (E_X1_init_0 22 rfl) rfl ?_
  refine x_bipush (z := 8) (E_X1_init_0 23 rfl) (by decide) ?_
  refine y_newa (n1 := 103) (ca1 := 6) (sl1 := 112) (E_X1_init_0 24 rfl) rfl (Or.inl ⟨rfl, rfl⟩) ac_int rfl (by decide) rfl (by decide) rfl rfl rfl (by decide) (hz 102 (by decide) (by decide)) ?_
  refine x_putR (E_X1_init_0 25 rfl) fl_X1_27 rfl (by decide) rfl rfl ?_
  refine x_aload_n (E_X1_init_0 26 rfl) rfl ?_
  refine x_bipush (z := 8) (E_X1_init_0 27 rfl) (by decide) ?_
  refine y_newa (n1 := 104) (ca1 := 7) (sl1 := 120) (E_X1_init_0 28 rfl) rfl (Or.inl ⟨rfl, rfl⟩) ac_int rfl (by decide) rfl (by decide) rfl rfl rfl (by decide) (hz 103 (by decide) (by decide)) ?_
  refine x_putR (E_X1_init_0 29 rfl) fl_X1_30 rfl (by decide) rfl rfl ?_
  refine x_skip ?_ rfl
  refine x_vret (E_X1_init_0 30 rfl) trivial (by decide) (by decide) ⟨rfl, rfl⟩
set_option maxRecDepth 100000 in
theorem ct_107 (l : Launch) (G : GC) (ρ : Nat → Int → Option Nat) (σ : Nat → Int → Int) (hz : ∀ a, 108 ≤ a → a < 114 → σ a = fun _ => 0) : Ct l G M_X4_init 1 6 1044 [vr 107] (108, ρ, σ) (fun r S1 => r = none ∧ S1 = (114, upq (upq (upq (upq (upq (upq (ρ) 107 0 (some 108)) 107 1 (some 109)) 107 3 (some 110)) 107 4 (some 111)) 107 5 (some 112)) 107 6 (some 113), σ)) := by
  refine Ct.of rfl (by decide) ?_
  refine x_aload_n (E_X4_init_0 0 rfl) rfl ?_
  refine x_objinit (E_X4_init_0 1 rfl) ml_X4_3 oi_2 oi_3 (by decide) ?_
  refine x_aload_n (E_X4_init_0 2 rfl) rfl ?_
  refine x_bipush (z := 12) (E_X4_init_0 3 rfl) (by decide) ?_
  refine y_newa (n1 := 109) (ca1 := 1) (sl1 := 12) (E_X4_init_0 4 rfl) rfl (Or.inl ⟨rfl, rfl⟩) ac_int rfl (by decide) rfl (by decide) rfl rfl rfl (by decide) (hz 108 (by decide) (by decide)) ?_
  refine x_putR (E_X4_init_0 5 rfl) fl_X4_9 rfl (by decide) rfl rfl ?_
  refine x_aload_n (E_X4_init_0 6 rfl) rfl ?_
  refine x_bipush (z := 8) (E_X4_init_0 7 rfl) (by decide) ?_
  refine y_newa (n1 := 110) (ca1 := 2) (sl1 := 20) (E_X4_init_0 8 rfl) rfl (Or.inl ⟨rfl, rfl⟩) ac_int rfl (by decide) rfl (by decide) rfl rfl rfl (by decide) (hz 109 (by decide) (by decide)) ?_
  refine x_putR (E_X4_init_0 9 rfl) fl_X4_15 rfl (by decide) rfl rfl ?_
  refine x_aload_n (E_X4_init_0 10 rfl) rfl ?_
  refine x_sipush (z := 256) (E_X4_init_0 11 rfl) (by decide) ?_
  refine y_newa (n1 := 111) (ca1 := 3) (sl1 := 276) (E_X4_init_0 12 rfl) rfl (Or.inl ⟨rfl, rfl⟩) ac_int rfl (by decide) rfl (by decide) rfl rfl rfl (by decide) (hz 110 (by decide) (by decide)) ?_
  refine x_putR (E_X4_init_0 13 rfl) fl_X4_18 rfl (by decide) rfl rfl ?_
  refine x_aload_n (E_X4_init_0 14 rfl) rfl ?_
  refine x_sipush (z := 256) (E_X4_init_0 15 rfl) (by decide) ?_
  refine y_newa (n1 := 112) (ca1 := 4) (sl1 := 532) (E_X4_init_0 16 rfl) rfl (Or.inl ⟨rfl, rfl⟩) ac_int rfl (by decide) rfl (by decide) rfl rfl rfl (by decide) (hz 111 (by decide) (by decide)) ?_
  refine x_putR (E_X4_init_0 17 rfl) fl_X4_21 rfl (by decide) rfl rfl ?_
  refine x_aload_n (E_X4_init_0 18 rfl) rfl ?_
  refine x_sipush (z := 256) (E_X4_init_0 19 rfl) (by decide) ?_
  refine y_newa (n1 := 113) (ca1 := 5) (sl1 := 788) (E_X4_init_0 20 rfl) rfl (Or.inr (Or.inr ⟨rfl, rfl⟩)) ac_long rfl (by decide) rfl (by decide) rfl rfl rfl (by decide) (hz 112 (by decide) (by decide)) ?_
  refine x_putR (E_X4_init_0 21 rfl) fl_X4_24 rfl (by decide) rfl rfl ?_
  refine x_aload_n (E_X4_init_0 22 rfl) rfl ?_
  refine x_sipush (z := 256) (E_X4_init_0 23 rfl) (by decide) ?_
  refine y_newa (n1 := 114) (ca1 := 6) (sl1 := 1044) (E_X4_init_0 24 rfl) rfl (Or.inr (Or.inr ⟨rfl, rfl⟩)) ac_long rfl (by decide) rfl (by decide) rfl rfl rfl (by decide) (hz 113 (by decide) (by decide)) ?_
  refine x_putR (E_X4_init_0 25 rfl) fl_X4_28 rfl (by decide) rfl rfl ?_
  refine x_vret (E_X4_init_0 26 rfl) trivial (by decide) (by decide) ⟨rfl, rfl⟩
theorem zq_0 {n0 n1 : Nat} : ∀ a, n0 ≤ a → a < n1 → (fun (_ : Nat) (_ : Int) => (0 : Int)) a = fun _ => 0 := fun _ _ _ => rfl
theorem zq_up {n0 n1 k : Nat} {i v : Int} {σ : Nat → Int → Int} (h : ∀ a, n0 ≤ a → a < n1 → σ a = fun _ => 0) (hk : k < n0) : ∀ a, n0 ≤ a → a < n1 → upq σ k i v a = fun _ => 0 := fun a h1 h2 => by rw [upq_ne (by omega)]; exact h a h1 h2
def ρA : Nat → Int → Option Nat := upq (upq (upq (upq (upq (upq (upq ((upq (upq (upq (upq (upq (upq (upq (upq (upq (upq ((upq (upq (upq (upq (upq (upq (upq (upq ((upq (rwq (upq (upq (upq (upq (upq ((upq (upq (upq ((upq (upq (upq (upq (upq (upq (upq (upq (upq (upq (upq (upq (upq (upq (upq (upq ((upq (upq (upq (upq (upq (upq (upq (upq (upq (upq (upq (upq (upq (upq (upq (upq ((upq (upq (upq (upq ((upq (upq (upq (upq (upq (rwq (upq (rwq (upq (upq ((upq (upq (upq (upq (upq (upq (upq (upq (upq (upq ((upq (upq (upq (upq (upq (upq ((fun _ _ => none)) 1 0 (some 2)) 1 1 (some 3)) 1 2 (some 4)) 1 3 (some 5)) 1 4 (some 6)) 0 1 (some 1))) 7 0 (some 8)) 7 1 (some 9)) 7 2 (some 10)) 7 3 (some 11)) 7 4 (some 12)) 7 5 (some 13)) 7 6 (some 14)) 7 7 (some 15)) 7 8 (some 16)) 0 2 (some 7))) 17 0 (some 18)) 17 1 (some 19)) 20) 17 2 (some 20)) 29) 17 3 (some 29)) 17 4 (some 38)) 17 5 (some 39)) 17 6 (some 40)) 0 3 (some 17))) 41 0 (some 42)) 41 2 (some 43)) 41 3 (some 44)) 0 4 (some 41))) 45 3 (some 46)) 45 4 (some 47)) 45 5 (some 48)) 45 6 (some 49)) 45 7 (some 50)) 45 8 (some 51)) 45 9 (some 52)) 45 10 (some 53)) 45 11 (some 54)) 45 12 (some 55)) 45 13 (some 56)) 45 14 (some 57)) 45 0 (some 1)) 45 1 (some 7)) 45 2 (some 17)) 0 5 (some 45))) 58 3 (some 59)) 58 4 (some 60)) 58 5 (some 61)) 58 6 (some 62)) 58 7 (some 63)) 58 8 (some 64)) 58 9 (some 65)) 58 10 (some 66)) 58 11 (some 67)) 58 12 (some 68)) 58 13 (some 69)) 58 14 (some 70)) 58 0 (some 1)) 58 1 (some 7)) 58 2 (some 17)) 0 6 (some 58))) 71 0 (some 72)) 71 1 (some 73)) 0 7 (some 71))) 74 0 (some 75)) 74 1 (some 76)) 74 2 (some 77)) 74 3 (some 78)) 0 8 (some 74)) 79) 0 9 (some 79))) 88 0 (some 89)) 88 1 (some 90)) 88 2 (some 91)) 88 3 (some 92)) 88 4 (some 93)) 88 5 (some 94)) 88 6 (some 95)) 0 10 (some 88))) 96 0 (some 97)) 96 1 (some 98)) 96 2 (some 99)) 96 3 (some 100)) 96 5 (some 101)) 96 6 (some 102)) 96 7 (some 103)) 0 11 (some 96)) 0 12 (some 105)) 0 13 (some 106))) 107 0 (some 108)) 107 1 (some 109)) 107 3 (some 110)) 107 4 (some 111)) 107 5 (some 112)) 107 6 (some 113)) 0 14 (some 107)
def σA : Nat → Int → Int := (upq (upq (upq (upq (upq (upq (((((((upq ((upq ((((upq (fun _ _ => 0) 0 0 (0))))) 17 7 (-1))) 41 6 (-1)))))))) 105 0 (200)) 105 1 (200)) 105 2 (200)) 105 3 (200)) 105 4 (200)) 105 5 (200))
set_option maxRecDepth 100000 in
theorem ct_0 (l : Launch) (G : GC) : Ct l G M_X10_init 2 112 6244 [vr 0] (1, fun _ _ => none, fun _ _ => 0) (fun r S1 => r = none ∧ S1 = (114, ρA, σA)) := by
  refine Ct.of rfl (by decide) ?_
  refine x_aload_n (E_X10_init_0 0 rfl) rfl ?_
  refine x_objinit (E_X10_init_0 1 rfl) ml_X10_1 oi_2 oi_3 (by decide) ?_
  refine x_aload_n (E_X10_init_0 2 rfl) rfl ?_
  refine x_iconst (E_X10_init_0 3 rfl) ?_
  refine x_putI (E_X10_init_0 4 rfl) fl_X10_7 rfl (by decide) ?_
  refine x_aload_n (E_X10_init_0 5 rfl) rfl ?_
  refine y_new (n1 := 2) (ca1 := 1) (sl1 := 6) (E_X10_init_0 6 rfl) clk_3 ty_X3 cl_X10_13 in_X3 iz_X3 rfl (by decide) rfl rfl rfl (by decide) rfl rfl ?_
  refine x_dupr (E_X10_init_0 7 rfl) ?_
  refine y_callIN (ca1 := 6) (sl1 := 66) (E_X10_init_0 8 rfl) ml_X10_15 mi_X3_init (ct_1 l G _ _ (zq_up zq_0 (by decide))) (by decide) rfl rfl (by decide) rfl rfl (by decide) ?_
  refine x_putR (E_X10_init_0 9 rfl) fl_X10_16 rfl (by decide) rfl rfl ?_
  refine x_aload_n (E_X10_init_0 10 rfl) rfl ?_
  refine y_new (n1 := 8) (ca1 := 7) (sl1 := 77) (E_X10_init_0 11 rfl) clk_2 ty_X2 cl_X10_20 in_X2 iz_X2 rfl (by decide) rfl rfl rfl (by decide) rfl rfl ?_
  refine x_dupr (E_X10_init_0 12 rfl) ?_
  refine y_callIN (ca1 := 16) (sl1 := 1157) (E_X10_init_0 13 rfl) ml_X10_22 mi_X2_init (ct_7 l G _ _ (zq_up zq_0 (by decide))) (by decide) rfl rfl (by decide) rfl rfl (by decide) ?_
  refine x_putR (E_X10_init_0 14 rfl) fl_X10_23 rfl (by decide) rfl rfl ?_
  refine x_aload_n (E_X10_init_0 15 rfl) rfl ?_
  refine y_new (n1 := 18) (ca1 := 17) (sl1 := 1166) (E_X10_init_0 16 rfl) clk_8 ty_X8 cl_X10_27 in_X8 iz_X8 rfl (by decide) rfl rfl rfl (by decide) rfl rfl ?_
  refine x_dupr (E_X10_init_0 17 rfl) ?_
  refine y_callIN (ca1 := 40) (sl1 := 1384) (E_X10_init_0 18 rfl) ml_X10_29 mi_X8_init (ct_17 l G _ _ (zq_up zq_0 (by decide))) (by decide) rfl rfl (by decide) rfl rfl (by decide) ?_
  refine x_putR (E_X10_init_0 19 rfl) fl_X10_30 rfl (by decide) rfl rfl ?_
  refine x_aload_n (E_X10_init_0 20 rfl) rfl ?_
  refine y_new (n1 := 42) (ca1 := 41) (sl1 := 1393) (E_X10_init_0 21 rfl) clk_5 ty_X5 cl_X10_34 in_X5 iz_X5 rfl (by decide) rfl rfl rfl (by decide) rfl rfl ?_
  refine x_dupr (E_X10_init_0 22 rfl) ?_
  refine y_callIN (ca1 := 44) (sl1 := 1573) (E_X10_init_0 23 rfl) ml_X10_36 mi_X5_init (ct_41 l G _ _ (zq_up (zq_up zq_0 (by decide)) (by decide))) (by decide) rfl rfl (by decide) rfl rfl (by decide) ?_
  refine x_putR (E_X10_init_0 24 rfl) fl_X10_37 rfl (by decide) rfl rfl ?_
  refine x_aload_n (E_X10_init_0 25 rfl) rfl ?_
  refine y_new (n1 := 46) (ca1 := 45) (sl1 := 1589) (E_X10_init_0 26 rfl) clk_7 ty_X7 cl_X10_41 in_X7 iz_X7 rfl (by decide) rfl rfl rfl (by decide) rfl rfl ?_
  refine x_dupr (E_X10_init_0 27 rfl) ?_
  refine x_aload_n (E_X10_init_0 28 rfl) rfl ?_
  refine x_getR (E_X10_init_0 29 rfl) fl_X10_16 rfl (by decide) rfl ?_
  refine x_aload_n (E_X10_init_0 30 rfl) rfl ?_
  refine x_getR (E_X10_init_0 31 rfl) fl_X10_23 rfl (by decide) rfl ?_
  refine x_aload_n (E_X10_init_0 32 rfl) rfl ?_
  refine x_getR (E_X10_init_0 33 rfl) fl_X10_30 rfl (by decide) rfl ?_
  refine y_callI (ca1 := 57) (sl1 := 2705) (E_X10_init_0 34 rfl) ml_X10_43 mi_X7_init (ct_45 l G _ _ (zq_up (zq_up (zq_up zq_0 (by decide)) (by decide)) (by decide))) (by decide) rfl rfl (by decide) rfl rfl (by decide) ?_
  refine x_putR (E_X10_init_0 35 rfl) fl_X10_46 rfl (by decide) rfl rfl ?_
  refine x_aload_n (E_X10_init_0 36 rfl) rfl ?_
  refine y_new (n1 := 59) (ca1 := 58) (sl1 := 2721) (E_X10_init_0 37 rfl) clk_7 ty_X7 cl_X10_41 in_X7 iz_X7 rfl (by decide) rfl rfl rfl (by decide) rfl rfl ?_
  refine x_dupr (E_X10_init_0 38 rfl) ?_
  refine x_aload_n (E_X10_init_0 39 rfl) rfl ?_
  refine x_getR (E_X10_init_0 40 rfl) fl_X10_16 rfl (by decide) rfl ?_
  refine x_aload_n (E_X10_init_0 41 rfl) rfl ?_
  refine x_getR (E_X10_init_0 42 rfl) fl_X10_23 rfl (by decide) rfl ?_
  refine x_aload_n (E_X10_init_0 43 rfl) rfl ?_
  refine x_getR (E_X10_init_0 44 rfl) fl_X10_30 rfl (by decide) rfl ?_
  refine y_callI (ca1 := 70) (sl1 := 3837) (E_X10_init_0 45 rfl) ml_X10_43 mi_X7_init (ct_58 l G _ _ (zq_up (zq_up (zq_up zq_0 (by decide)) (by decide)) (by decide))) (by decide) rfl rfl (by decide) rfl rfl (by decide) ?_
  refine x_putR (E_X10_init_0 46 rfl) fl_X10_50 rfl (by decide) rfl rfl ?_
  refine x_aload_n (E_X10_init_0 47 rfl) rfl ?_
  refine y_new (n1 := 72) (ca1 := 71) (sl1 := 3840) (E_X10_init_0 48 rfl) clk_0 ty_X0 cl_X10_53 in_X0 iz_X0 rfl (by decide) rfl rfl rfl (by decide) rfl rfl ?_
  refine x_dupr (E_X10_init_0 49 rfl) ?_
  refine y_callIN (ca1 := 73) (sl1 := 4161) (E_X10_init_0 50 rfl) ml_X10_55 mi_X0_init (ct_71 l G _ _ (zq_up (zq_up (zq_up zq_0 (by decide)) (by decide)) (by decide))) (by decide) rfl rfl (by decide) rfl rfl (by decide) ?_
  refine x_putR (E_X10_init_0 51 rfl) fl_X10_56 rfl (by decide) rfl rfl ?_
  refine x_aload_n (E_X10_init_0 52 rfl) rfl ?_
  refine y_new (n1 := 75) (ca1 := 74) (sl1 := 4166) (E_X10_init_0 53 rfl) clk_9 ty_X9 cl_X10_60 in_X9 iz_X9 rfl (by decide) rfl rfl rfl (by decide) rfl rfl ?_
  refine x_dupr (E_X10_init_0 54 rfl) ?_
  refine y_callIN (ca1 := 78) (sl1 := 4326) (E_X10_init_0 55 rfl) ml_X10_62 mi_X9_init (ct_74 l G _ _ (zq_up (zq_up (zq_up zq_0 (by decide)) (by decide)) (by decide))) (by decide) rfl rfl (by decide) rfl rfl (by decide) ?_
  refine x_putR (E_X10_init_0 56 rfl) fl_X10_63 rfl (by decide) rfl rfl ?_
  refine x_aload_n (E_X10_init_0 57 rfl) rfl ?_
  refine x_bipush (z := 8) (E_X10_init_0 58 rfl) (by decide) ?_
  refine x_bipush (z := 12) (E_X10_init_0 59 rfl) (by decide) ?_
  refine y_mna (K := 12) (n1 := 88) (ca1 := 87) (sl1 := 4430) (E_X10_init_1 0 rfl) cl_X10_67 ac_int rfl rfl (by decide) rfl (by decide) (by decide) rfl rfl rfl (by decide) (zq_up (zq_up (zq_up zq_0 (by decide)) (by decide)) (by decide)) ?_
  refine x_putR (E_X10_init_1 1 rfl) fl_X10_69 rfl (by decide) rfl rfl ?_
  refine x_aload_n (E_X10_init_1 2 rfl) rfl ?_
  refine y_new (n1 := 89) (ca1 := 88) (sl1 := 4438) (E_X10_init_1 3 rfl) clk_6 ty_X6 cl_X10_72 in_X6 iz_X6 rfl (by decide) rfl rfl rfl (by decide) rfl rfl ?_
  refine x_dupr (E_X10_init_1 4 rfl) ?_
  refine y_callIN (ca1 := 95) (sl1 := 5054) (E_X10_init_1 5 rfl) ml_X10_74 mi_X6_init (ct_88 l G _ _ (zq_up (zq_up (zq_up zq_0 (by decide)) (by decide)) (by decide))) (by decide) rfl rfl (by decide) rfl rfl (by decide) ?_
  refine x_putR (E_X10_init_1 6 rfl) fl_X10_75 rfl (by decide) rfl rfl ?_
  refine x_aload_n (E_X10_init_1 7 rfl) rfl ?_
  refine y_new (n1 := 97) (ca1 := 96) (sl1 := 5063) (E_X10_init_1 8 rfl) clk_1 ty_X1 cl_X10_79 in_X1 iz_X1 rfl (by decide) rfl rfl rfl (by decide) rfl rfl ?_
  refine x_dupr (E_X10_init_1 9 rfl) ?_
  refine y_callIN (ca1 := 103) (sl1 := 5183) (E_X10_init_1 10 rfl) ml_X10_81 mi_X1_init (ct_96 l G _ _ (zq_up (zq_up (zq_up zq_0 (by decide)) (by decide)) (by decide))) (by decide) rfl rfl (by decide) rfl rfl (by decide) ?_
  refine x_putR (E_X10_init_1 11 rfl) fl_X10_82 rfl (by decide) rfl rfl ?_
  refine x_aload_n (E_X10_init_1 12 rfl) rfl ?_
  refine x_bipush (z := 6) (E_X10_init_1 13 rfl) (by decide) ?_
  refine y_newa (n1 := 106) (ca1 := 104) (sl1 := 5189) (E_X10_init_1 14 rfl) rfl (Or.inl ⟨rfl, rfl⟩) ac_int rfl (by decide) rfl (by decide) rfl rfl rfl (by decide) rfl ?_
  refine x_putR (E_X10_init_1 15 rfl) fl_X10_86 rfl (by decide) rfl rfl ?_
  refine x_iconst (E_X10_init_1 16 rfl) ?_
  refine x_istore_n (E_X10_init_1 17 rfl) rfl ?_
  refine x_iload_n (E_X10_init_1 18 rfl) rfl ?_
  refine x_bipush (z := 6) (E_X10_init_1 19 rfl) (by decide) ?_
  refine x_icmp_ge (E_X10_init_1 20 rfl) (by decide) (by decide) (fun c9 => absurd c9 (by decide)) (fun _ => ?_)
  refine x_aload_n (E_X10_init_1 21 rfl) rfl ?_
  refine x_getR (E_X10_init_1 22 rfl) fl_X10_86 rfl (by decide) rfl ?_
  refine x_iload_n (E_X10_init_1 23 rfl) rfl ?_
  refine x_sipush (z := 200) (E_X10_init_1 24 rfl) (by decide) ?_
  refine x_iast (E_X10_init_1 25 rfl) rfl (by decide) (by decide) ?_
  refine x_iinc (E_X10_init_1 26 rfl) rfl rfl ?_
  refine x_goto (E_X10_init_1 27 rfl) ?_
  refine x_iload_n (E_X10_init_1 18 rfl) rfl ?_
  refine x_bipush (z := 6) (E_X10_init_1 19 rfl) (by decide) ?_
  refine x_icmp_ge (E_X10_init_1 20 rfl) (by decide) (by decide) (fun c9 => absurd c9 (by decide)) (fun _ => ?_)
  refine x_aload_n (E_X10_init_1 21 rfl) rfl ?_
  refine x_getR (E_X10_init_1 22 rfl) fl_X10_86 rfl (by decide) rfl ?_
  refine x_iload_n (E_X10_init_1 23 rfl) rfl ?_
  refine x_sipush (z := 200) (E_X10_init_1 24 rfl) (by decide) ?_
  refine x_iast (E_X10_init_1 25 rfl) rfl (by decide) (by decide) ?_
  refine x_iinc (E_X10_init_1 26 rfl) rfl rfl ?_
  refine x_goto (E_X10_init_1 27 rfl) ?_
  refine x_iload_n (E_X10_init_1 18 rfl) rfl ?_
  refine x_bipush (z := 6) (E_X10_init_1 19 rfl) (by decide) ?_
  refine x_icmp_ge (E_X10_init_1 20 rfl) (by decide) (by decide) (fun c9 => absurd c9 (by decide)) (fun _ => ?_)
  refine x_aload_n (E_X10_init_1 21 rfl) rfl ?_
  refine x_getR (E_X10_init_1 22 rfl) fl_X10_86 rfl (by decide) rfl ?_
  refine x_iload_n (E_X10_init_1 23 rfl) rfl ?_
  refine x_sipush (z := 200) (E_X10_init_1 24 rfl) (by decide) ?_
  refine x_iast (E_X10_init_1 25 rfl) rfl (by decide) (by decide) ?_
  refine x_iinc (E_X10_init_1 26 rfl) rfl rfl ?_
  refine x_goto (E_X10_init_1 27 rfl) ?_
  refine x_iload_n (E_X10_init_1 18 rfl) rfl ?_
  refine x_bipush (z := 6) (E_X10_init_1 19 rfl) (by decide) ?_
  refine x_icmp_ge (E_X10_init_1 20 rfl) (by decide) (by decide) (fun c9 => absurd c9 (by decide)) (fun _ => ?_)
  refine x_aload_n (E_X10_init_1 21 rfl) rfl ?_
  refine x_getR (E_X10_init_1 22 rfl) fl_X10_86 rfl (by decide) rfl ?_
  refine x_iload_n (E_X10_init_1 23 rfl) rfl ?_
  refine x_sipush (z := 200) (E_X10_init_1 24 rfl) (by decide) ?_
  refine x_iast (E_X10_init_1 25 rfl) rfl (by decide) (by decide) ?_
  refine x_iinc (E_X10_init_1 26 rfl) rfl rfl ?_
  refine x_goto (E_X10_init_1 27 rfl) ?_
  refine x_iload_n (E_X10_init_1 18 rfl) rfl ?_
  refine x_bipush (z := 6) (E_X10_init_1 19 rfl) (by decide) ?_
  refine x_icmp_ge (E_X10_init_1 20 rfl) (by decide) (by decide) (fun c9 => absurd c9 (by decide)) (fun _ => ?_)
  refine x_aload_n (E_X10_init_1 21 rfl) rfl ?_
  refine x_getR (E_X10_init_1 22 rfl) fl_X10_86 rfl (by decide) rfl ?_
  refine x_iload_n (E_X10_init_1 23 rfl) rfl ?_
  refine x_sipush (z := 200) (E_X10_init_1 24 rfl) (by decide) ?_
  refine x_iast (E_X10_init_1 25 rfl) rfl (by decide) (by decide) ?_
  refine x_iinc (E_X10_init_1 26 rfl) rfl rfl ?_
  refine x_goto (E_X10_init_1 27 rfl) ?_
  refine x_iload_n (E_X10_init_1 18 rfl) rfl ?_
  refine x_bipush (z := 6) (E_X10_init_1 19 rfl) (by decide) ?_
  refine x_icmp_ge (E_X10_init_1 20 rfl) (by decide) (by decide) (fun c9 => absurd c9 (by decide)) (fun _ => ?_)
  refine x_aload_n (E_X10_init_1 21 rfl) rfl ?_
  refine x_getR (E_X10_init_1 22 rfl) fl_X10_86 rfl (by decide) rfl ?_
  refine x_iload_n (E_X10_init_1 23 rfl) rfl ?_
  refine x_sipush (z := 200) (E_X10_init_1 24 rfl) (by decide) ?_
  refine x_iast (E_X10_init_1 25 rfl) rfl (by decide) (by decide) ?_
  refine x_iinc (E_X10_init_1 26 rfl) rfl rfl ?_
  refine x_goto (E_X10_init_1 27 rfl) ?_
  refine x_iload_n (E_X10_init_1 18 rfl) rfl ?_
  refine x_bipush (z := 6) (E_X10_init_1 19 rfl) (by decide) ?_
  refine x_icmp_ge (E_X10_init_1 20 rfl) (by decide) (by decide) (fun _ => ?_) (fun c9 => absurd (by decide) c9)
  refine x_aload_n (E_X10_init_1 28 rfl) rfl ?_
  refine x_iconst (E_X10_init_1 29 rfl) ?_
  refine y_newa (n1 := 107) (ca1 := 105) (sl1 := 5193) (E_X10_init_1 30 rfl) rfl (Or.inl ⟨rfl, rfl⟩) ac_int rfl (by decide) rfl (by decide) rfl rfl rfl (by decide) rfl ?_
  refine x_putR (E_X10_init_1 31 rfl) fl_X10_90 rfl (by decide) rfl rfl ?_
  refine x_aload_n (E_X10_init_1 32 rfl) rfl ?_
  refine y_new (n1 := 108) (ca1 := 106) (sl1 := 5200) (E_X10_init_1 33 rfl) clk_4 ty_X4 cl_X10_93 in_X4 iz_X4 rfl (by decide) rfl rfl rfl (by decide) rfl rfl ?_
  refine x_dupr (E_X10_init_1 34 rfl) ?_
  refine y_callIN (ca1 := 112) (sl1 := 6244) (E_X10_init_1 35 rfl) ml_X10_95 mi_X4_init (ct_107 l G _ _ (zq_up (zq_up (zq_up (zq_up (zq_up (zq_up (zq_up (zq_up (zq_up zq_0 (by decide)) (by decide)) (by decide)) (by decide)) (by decide)) (by decide)) (by decide)) (by decide)) (by decide))) (by decide) rfl rfl (by decide) rfl rfl (by decide) ?_
  refine x_putR (E_X10_init_1 36 rfl) fl_X10_96 rfl (by decide) rfl rfl ?_
  refine x_vret (E_X10_init_1 37 rfl) trivial (by decide) (by decide) ⟨rfl, rfl⟩
set_option maxRecDepth 100000 in
theorem ct_114 (l : Launch) (G : GC) (ρ : Nat → Int → Option Nat) (σ : Nat → Int → Int) (hz : ∀ a, 115 ≤ a → a < 175 → σ a = fun _ => 0) : Ct l G M_X11_init 1 60 3934 [vr 114] (115, ρ, σ) (fun r S1 => r = none ∧ S1 = (175, upq (upq (upq (upq (upq (upq (upq (upq (upq (upq (upq (upq (upq (upq (upq (upq (upq (upq (upq (upq (upq (upq (upq (upq (upq (upq (upq (upq (upq (upq (upq (upq (upq (upq (upq (upq (upq (upq (upq (upq (upq (upq (upq (upq (upq (upq (upq (upq (upq (upq (upq (upq (upq (upq (upq (upq (upq (upq (upq (upq (ρ) 114 2 (some 115)) 114 3 (some 116)) 114 4 (some 117)) 114 5 (some 118)) 114 6 (some 119)) 114 7 (some 120)) 114 8 (some 121)) 114 10 (some 122)) 114 11 (some 123)) 114 12 (some 124)) 114 13 (some 125)) 114 14 (some 126)) 114 15 (some 127)) 114 16 (some 128)) 114 17 (some 129)) 114 18 (some 130)) 114 19 (some 131)) 114 20 (some 132)) 114 23 (some 133)) 114 24 (some 134)) 114 25 (some 135)) 114 26 (some 136)) 114 27 (some 137)) 114 28 (some 138)) 114 35 (some 139)) 114 36 (some 140)) 114 37 (some 141)) 114 40 (some 142)) 114 41 (some 143)) 114 42 (some 144)) 114 43 (some 145)) 114 44 (some 146)) 114 45 (some 147)) 114 46 (some 148)) 114 47 (some 149)) 114 48 (some 150)) 114 49 (some 151)) 114 50 (some 152)) 114 52 (some 153)) 114 53 (some 154)) 114 55 (some 155)) 114 56 (some 156)) 114 57 (some 157)) 114 58 (some 158)) 114 59 (some 159)) 114 61 (some 160)) 114 62 (some 161)) 114 64 (some 162)) 114 65 (some 163)) 114 66 (some 164)) 114 67 (some 165)) 114 68 (some 166)) 114 69 (some 167)) 114 71 (some 168)) 114 72 (some 169)) 114 73 (some 170)) 114 74 (some 171)) 114 76 (some 172)) 114 77 (some 173)) 114 78 (some 174), upq (upq (upq (upq (upq (upq (upq (σ) 114 32 (-1)) 121 0 (200)) 121 1 (200)) 121 2 (200)) 121 3 (200)) 121 4 (200)) 121 5 (200))) := by
  refine Ct.of rfl (by decide) ?_
  refine x_aload_n (E_X11_init_0 0 rfl) rfl ?_
  refine x_objinit (E_X11_init_0 1 rfl) ml_X11_1 oi_2 oi_3 (by decide) ?_
  refine x_aload_n (E_X11_init_0 2 rfl) rfl ?_
  refine x_bipush (z := 12) (E_X11_init_0 3 rfl) (by decide) ?_
  refine y_newa (n1 := 116) (ca1 := 1) (sl1 := 12) (E_X11_init_0 4 rfl) rfl (Or.inl ⟨rfl, rfl⟩) ac_int rfl (by decide) rfl (by decide) rfl rfl rfl (by decide) (hz 115 (by decide) (by decide)) ?_
  refine x_putR (E_X11_init_0 5 rfl) fl_X11_7 rfl (by decide) rfl rfl ?_
  refine x_aload_n (E_X11_init_0 6 rfl) rfl ?_
  refine x_bipush (z := 12) (E_X11_init_0 7 rfl) (by decide) ?_
  refine y_newa (n1 := 117) (ca1 := 2) (sl1 := 24) (E_X11_init_0 8 rfl) rfl (Or.inl ⟨rfl, rfl⟩) ac_int rfl (by decide) rfl (by decide) rfl rfl rfl (by decide) (hz 116 (by decide) (by decide)) ?_
  refine x_putR (E_X11_init_0 9 rfl) fl_X11_13 rfl (by decide) rfl rfl ?_
  refine x_aload_n (E_X11_init_0 10 rfl) rfl ?_
  refine x_bipush (z := 12) (E_X11_init_0 11 rfl) (by decide) ?_
  refine y_newa (n1 := 118) (ca1 := 3) (sl1 := 36) (E_X11_init_0 12 rfl) rfl (Or.inl ⟨rfl, rfl⟩) ac_int rfl (by decide) rfl (by decide) rfl rfl rfl (by decide) (hz 117 (by decide) (by decide)) ?_
  refine x_putR (E_X11_init_0 13 rfl) fl_X11_16 rfl (by decide) rfl rfl ?_
  refine x_aload_n (E_X11_init_0 14 rfl) rfl ?_
  refine x_bipush (z := 12) (E_X11_init_0 15 rfl) (by decide) ?_
  refine y_newa (n1 := 119) (ca1 := 4) (sl1 := 48) (E_X11_init_0 16 rfl) rfl (Or.inl ⟨rfl, rfl⟩) ac_int rfl (by decide) rfl (by decide) rfl rfl rfl (by decide) (hz 118 (by decide) (by decide)) ?_
  refine x_putR (E_X11_init_0 17 rfl) fl_X11_19 rfl (by decide) rfl rfl ?_
  refine x_aload_n (E_X11_init_0 18 rfl) rfl ?_
  refine x_bipush (z := 12) (E_X11_init_0 19 rfl) (by decide) ?_
  refine y_newa (n1 := 120) (ca1 := 5) (sl1 := 60) (E_X11_init_0 20 rfl) rfl (Or.inl ⟨rfl, rfl⟩) ac_int rfl (by decide) rfl (by decide) rfl rfl rfl (by decide) (hz 119 (by decide) (by decide)) ?_
  refine x_putR (E_X11_init_0 21 rfl) fl_X11_22 rfl (by decide) rfl rfl ?_
  refine x_aload_n (E_X11_init_0 22 rfl) rfl ?_
  refine x_bipush (z := 12) (E_X11_init_0 23 rfl) (by decide) ?_
  refine y_newa (n1 := 121) (ca1 := 6) (sl1 := 72) (E_X11_init_0 24 rfl) rfl (Or.inl ⟨rfl, rfl⟩) ac_int rfl (by decide) rfl (by decide) rfl rfl rfl (by decide) (hz 120 (by decide) (by decide)) ?_
  refine x_putR (E_X11_init_0 25 rfl) fl_X11_25 rfl (by decide) rfl rfl ?_
  refine x_aload_n (E_X11_init_0 26 rfl) rfl ?_
  refine x_bipush (z := 6) (E_X11_init_0 27 rfl) (by decide) ?_
  refine y_newa (n1 := 122) (ca1 := 7) (sl1 := 78) (E_X11_init_0 28 rfl) rfl (Or.inl ⟨rfl, rfl⟩) ac_int rfl (by decide) rfl (by decide) rfl rfl rfl (by decide) (hz 121 (by decide) (by decide)) ?_
  refine x_putR (E_X11_init_0 29 rfl) fl_X11_28 rfl (by decide) rfl rfl ?_
  refine x_aload_n (E_X11_init_0 30 rfl) rfl ?_
  refine x_bipush (z := 120) (E_X11_init_0 31 rfl) (by decide) ?_
  refine y_newa (n1 := 123) (ca1 := 8) (sl1 := 198) (E_X11_init_0 32 rfl) rfl (Or.inl ⟨rfl, rfl⟩) ac_int rfl (by decide) rfl (by decide) rfl rfl rfl (by decide) (hz 122 (by decide) (by decide)) ?_
  refine x_putR (E_X11_init_0 33 rfl) fl_X11_31 rfl (by decide) rfl rfl ?_
  refine x_aload_n (E_X11_init_0 34 rfl) rfl ?_
  refine x_bipush (z := 120) (E_X11_init_0 35 rfl) (by decide) ?_
  refine y_newa (n1 := 124) (ca1 := 9) (sl1 := 318) (E_X11_init_0 36 rfl) rfl (Or.inl ⟨rfl, rfl⟩) ac_int rfl (by decide) rfl (by decide) rfl rfl rfl (by decide) (hz 123 (by decide) (by decide)) ?_
  refine x_putR (E_X11_init_0 37 rfl) fl_X11_34 rfl (by decide) rfl rfl ?_
  refine x_aload_n (E_X11_init_0 38 rfl) rfl ?_
  refine x_bipush (z := 120) (E_X11_init_0 39 rfl) (by decide) ?_
  refine y_newa (n1 := 125) (ca1 := 10) (sl1 := 438) (E_X11_init_0 40 rfl) rfl (Or.inl ⟨rfl, rfl⟩) ac_int rfl (by decide) rfl (by decide) rfl rfl rfl (by decide) (hz 124 (by decide) (by decide)) ?_
  refine x_putR (E_X11_init_0 41 rfl) fl_X11_37 rfl (by decide) rfl rfl ?_
  refine x_aload_n (E_X11_init_0 42 rfl) rfl ?_
  refine x_bipush (z := 120) (E_X11_init_0 43 rfl) (by decide) ?_
  refine y_newa (n1 := 126) (ca1 := 11) (sl1 := 558) (E_X11_init_0 44 rfl) rfl (Or.inl ⟨rfl, rfl⟩) ac_int rfl (by decide) rfl (by decide) rfl rfl rfl (by decide) (hz 125 (by decide) (by decide)) ?_
  refine x_putR (E_X11_init_0 45 rfl) fl_X11_40 rfl (by decide) rfl rfl ?_
  refine x_aload_n (E_X11_init_0 46 rfl) rfl ?_
  refine x_bipush (z := 120) (E_X11_init_0 47 rfl) (by decide) ?_
  refine y_newa (n1 := 127) (ca1 := 12) (sl1 := 678) (E_X11_init_0 48 rfl) rfl (Or.inl ⟨rfl, rfl⟩) ac_int rfl (by decide) rfl (by decide) rfl rfl rfl (by decide) (hz 126 (by decide) (by decide)) ?_
  refine x_putR (E_X11_init_0 49 rfl) fl_X11_43 rfl (by decide) rfl rfl ?_
  refine x_aload_n (E_X11_init_0 50 rfl) rfl ?_
  refine x_bipush (z := 120) (E_X11_init_0 51 rfl) (by decide) ?_
  refine y_newa (n1 := 128) (ca1 := 13) (sl1 := 798) (E_X11_init_0 52 rfl) rfl (Or.inl ⟨rfl, rfl⟩) ac_int rfl (by decide) rfl (by decide) rfl rfl rfl (by decide) (hz 127 (by decide) (by decide)) ?_
  refine x_putR (E_X11_init_0 53 rfl) fl_X11_46 rfl (by decide) rfl rfl ?_
  refine x_aload_n (E_X11_init_0 54 rfl) rfl ?_
  refine x_bipush (z := 120) (E_X11_init_0 55 rfl) (by decide) ?_
  refine y_newa (n1 := 129) (ca1 := 14) (sl1 := 918) (E_X11_init_0 56 rfl) rfl (Or.inl ⟨rfl, rfl⟩) ac_int rfl (by decide) rfl (by decide) rfl rfl rfl (by decide) (hz 128 (by decide) (by decide)) ?_
  refine x_putR (E_X11_init_0 57 rfl) fl_X11_49 rfl (by decide) rfl rfl ?_
  refine x_aload_n (E_X11_init_0 58 rfl) rfl ?_
  refine x_bipush (z := 120) (E_X11_init_0 59 rfl) (by decide) ?_
  refine y_newa (n1 := 130) (ca1 := 15) (sl1 := 1038) (E_X11_init_1 0 rfl) rfl (Or.inr (Or.inl ⟨rfl, rfl⟩)) ac_boolean rfl (by decide) rfl (by decide) rfl rfl rfl (by decide) (hz 129 (by decide) (by decide)) ?_
  refine x_putR (E_X11_init_1 1 rfl) fl_X11_52 rfl (by decide) rfl rfl ?_
  refine x_aload_n (E_X11_init_1 2 rfl) rfl ?_
  refine x_bipush (z := 120) (E_X11_init_1 3 rfl) (by decide) ?_
  refine y_newa (n1 := 131) (ca1 := 16) (sl1 := 1158) (E_X11_init_1 4 rfl) rfl (Or.inr (Or.inl ⟨rfl, rfl⟩)) ac_boolean rfl (by decide) rfl (by decide) rfl rfl rfl (by decide) (hz 130 (by decide) (by decide)) ?_
  refine x_putR (E_X11_init_1 5 rfl) fl_X11_56 rfl (by decide) rfl rfl ?_
  refine x_aload_n (E_X11_init_1 6 rfl) rfl ?_
  refine x_bipush (z := 120) (E_X11_init_1 7 rfl) (by decide) ?_
  refine y_newa (n1 := 132) (ca1 := 17) (sl1 := 1278) (E_X11_init_1 8 rfl) rfl (Or.inr (Or.inl ⟨rfl, rfl⟩)) ac_boolean rfl (by decide) rfl (by decide) rfl rfl rfl (by decide) (hz 131 (by decide) (by decide)) ?_
  refine x_putR (E_X11_init_1 9 rfl) fl_X11_59 rfl (by decide) rfl rfl ?_
  refine x_aload_n (E_X11_init_1 10 rfl) rfl ?_
  refine x_bipush (z := 120) (E_X11_init_1 11 rfl) (by decide) ?_
  refine y_newa (n1 := 133) (ca1 := 18) (sl1 := 1398) (E_X11_init_1 12 rfl) rfl (Or.inl ⟨rfl, rfl⟩) ac_int rfl (by decide) rfl (by decide) rfl rfl rfl (by decide) (hz 132 (by decide) (by decide)) ?_
  refine x_putR (E_X11_init_1 13 rfl) fl_X11_62 rfl (by decide) rfl rfl ?_
  refine x_aload_n (E_X11_init_1 14 rfl) rfl ?_
  refine x_bipush (z := 8) (E_X11_init_1 15 rfl) (by decide) ?_
  refine y_newa (n1 := 134) (ca1 := 19) (sl1 := 1406) (E_X11_init_1 16 rfl) rfl (Or.inl ⟨rfl, rfl⟩) ac_int rfl (by decide) rfl (by decide) rfl rfl rfl (by decide) (hz 133 (by decide) (by decide)) ?_
  refine x_putR (E_X11_init_1 17 rfl) fl_X11_65 rfl (by decide) rfl rfl ?_
  refine x_aload_n (E_X11_init_1 18 rfl) rfl ?_
  refine x_bipush (z := 8) (E_X11_init_1 19 rfl) (by decide) ?_
  refine y_newa (n1 := 135) (ca1 := 20) (sl1 := 1414) (E_X11_init_1 20 rfl) rfl (Or.inl ⟨rfl, rfl⟩) ac_int rfl (by decide) rfl (by decide) rfl rfl rfl (by decide) (hz 134 (by decide) (by decide)) ?_
  refine x_putR (E_X11_init_1 21 rfl) fl_X11_68 rfl (by decide) rfl rfl ?_
  refine x_aload_n (E_X11_init_1 22 rfl) rfl ?_
  refine x_bipush (z := 80) (E_X11_init_1 23 rfl) (by decide) ?_
  refine y_newa (n1 := 136) (ca1 := 21) (sl1 := 1494) (E_X11_init_1 24 rfl) rfl (Or.inl ⟨rfl, rfl⟩) ac_int rfl (by decide) rfl (by decide) rfl rfl rfl (by decide) (hz 135 (by decide) (by decide)) ?_
  refine x_putR (E_X11_init_1 25 rfl) fl_X11_71 rfl (by decide) rfl rfl ?_
  refine x_aload_n (E_X11_init_1 26 rfl) rfl ?_
  refine x_bipush (z := 80) (E_X11_init_1 27 rfl) (by decide) ?_
  refine y_newa (n1 := 137) (ca1 := 22) (sl1 := 1574) (E_X11_init_1 28 rfl) rfl (Or.inl ⟨rfl, rfl⟩) ac_int rfl (by decide) rfl (by decide) rfl rfl rfl (by decide) (hz 136 (by decide) (by decide)) ?_
  refine x_putR (E_X11_init_1 29 rfl) fl_X11_74 rfl (by decide) rfl rfl ?_
  refine x_aload_n (E_X11_init_1 30 rfl) rfl ?_
  refine x_bipush (z := 80) (E_X11_init_1 31 rfl) (by decide) ?_
  refine y_newa (n1 := 138) (ca1 := 23) (sl1 := 1654) (E_X11_init_1 32 rfl) rfl (Or.inl ⟨rfl, rfl⟩) ac_int rfl (by decide) rfl (by decide) rfl rfl rfl (by decide) (hz 137 (by decide) (by decide)) ?_
  refine x_putR (E_X11_init_1 33 rfl) fl_X11_77 rfl (by decide) rfl rfl ?_
  refine x_aload_n (E_X11_init_1 34 rfl) rfl ?_
  refine x_sipush (z := 160) (E_X11_init_1 35 rfl) (by decide) ?_
  refine y_newa (n1 := 139) (ca1 := 24) (sl1 := 1814) (E_X11_init_1 36 rfl) rfl (Or.inl ⟨rfl, rfl⟩) ac_int rfl (by decide) rfl (by decide) rfl rfl rfl (by decide) (hz 138 (by decide) (by decide)) ?_
  refine x_putR (E_X11_init_1 37 rfl) fl_X11_80 rfl (by decide) rfl rfl ?_
  refine x_aload_n (E_X11_init_1 38 rfl) rfl ?_
  refine x_iconst (E_X11_init_1 39 rfl) ?_
  refine x_putI (E_X11_init_1 40 rfl) fl_X11_83 rfl (by decide) ?_
  refine x_aload_n (E_X11_init_1 41 rfl) rfl ?_
  refine x_bipush (z := 8) (E_X11_init_1 42 rfl) (by decide) ?_
  refine y_newa (n1 := 140) (ca1 := 25) (sl1 := 1822) (E_X11_init_1 43 rfl) rfl (Or.inr (Or.inl ⟨rfl, rfl⟩)) ac_boolean rfl (by decide) rfl (by decide) rfl rfl rfl (by decide) (hz 139 (by decide) (by decide)) ?_
  refine x_putR (E_X11_init_1 44 rfl) fl_X11_87 rfl (by decide) rfl rfl ?_
  refine x_aload_n (E_X11_init_1 45 rfl) rfl ?_
  refine x_bipush (z := 8) (E_X11_init_1 46 rfl) (by decide) ?_
  refine y_newa (n1 := 141) (ca1 := 26) (sl1 := 1830) (E_X11_init_1 47 rfl) rfl (Or.inl ⟨rfl, rfl⟩) ac_int rfl (by decide) rfl (by decide) rfl rfl rfl (by decide) (hz 140 (by decide) (by decide)) ?_
  refine x_putR (E_X11_init_1 48 rfl) fl_X11_90 rfl (by decide) rfl rfl ?_
  refine x_aload_n (E_X11_init_1 49 rfl) rfl ?_
  refine x_bipush (z := 9) (E_X11_init_1 50 rfl) (by decide) ?_
  refine y_newa (n1 := 142) (ca1 := 27) (sl1 := 1839) (E_X11_init_1 51 rfl) rfl (Or.inl ⟨rfl, rfl⟩) ac_int rfl (by decide) rfl (by decide) rfl rfl rfl (by decide) (hz 141 (by decide) (by decide)) ?_
  refine x_putR (E_X11_init_1 52 rfl) fl_X11_93 rfl (by decide) rfl rfl ?_
  refine x_aload_n (E_X11_init_1 53 rfl) rfl ?_
  refine x_bipush (z := 120) (E_X11_init_1 54 rfl) (by decide) ?_
  refine y_newa (n1 := 143) (ca1 := 28) (sl1 := 1959) (E_X11_init_1 55 rfl) rfl (Or.inr (Or.inl ⟨rfl, rfl⟩)) ac_boolean rfl (by decide) rfl (by decide) rfl rfl rfl (by decide) (hz 142 (by decide) (by decide)) ?_
  refine x_putR (E_X11_init_1 56 rfl) fl_X11_96 rfl (by decide) rfl rfl ?_
  refine x_aload_n (E_X11_init_1 57 rfl) rfl ?_
  refine x_bipush (z := 120) (E_X11_init_1 58 rfl) (by decide) ?_
  refine y_newa (n1 := 144) (ca1 := 29) (sl1 := 2079) (E_X11_init_1 59 rfl) rfl (Or.inl ⟨rfl, rfl⟩) ac_int rfl (by decide) rfl (by decide) rfl rfl rfl (by decide) (hz 143 (by decide) (by decide)) ?_
  refine x_putR (E_X11_init_2 0 rfl) fl_X11_99 rfl (by decide) rfl rfl ?_
  refine x_aload_n (E_X11_init_2 1 rfl) rfl ?_
  refine x_bipush (z := 120) (E_X11_init_2 2 rfl) (by decide) ?_
  refine y_newa (n1 := 145) (ca1 := 30) (sl1 := 2199) (E_X11_init_2 3 rfl) rfl (Or.inl ⟨rfl, rfl⟩) ac_int rfl (by decide) rfl (by decide) rfl rfl rfl (by decide) (hz 144 (by decide) (by decide)) ?_
  refine x_putR (E_X11_init_2 4 rfl) fl_X11_102 rfl (by decide) rfl rfl ?_
  refine x_aload_n (E_X11_init_2 5 rfl) rfl ?_
  refine x_bipush (z := 120) (E_X11_init_2 6 rfl) (by decide) ?_
  refine y_newa (n1 := 146) (ca1 := 31) (sl1 := 2319) (E_X11_init_2 7 rfl) rfl (Or.inl ⟨rfl, rfl⟩) ac_int rfl (by decide) rfl (by decide) rfl rfl rfl (by decide) (hz 145 (by decide) (by decide)) ?_
  refine x_putR (E_X11_init_2 8 rfl) fl_X11_105 rfl (by decide) rfl rfl ?_
  refine x_aload_n (E_X11_init_2 9 rfl) rfl ?_
  refine x_bipush (z := 120) (E_X11_init_2 10 rfl) (by decide) ?_
  refine y_newa (n1 := 147) (ca1 := 32) (sl1 := 2439) (E_X11_init_2 11 rfl) rfl (Or.inl ⟨rfl, rfl⟩) ac_int rfl (by decide) rfl (by decide) rfl rfl rfl (by decide) (hz 146 (by decide) (by decide)) ?_
  refine x_putR (E_X11_init_2 12 rfl) fl_X11_108 rfl (by decide) rfl rfl ?_
  refine x_aload_n (E_X11_init_2 13 rfl) rfl ?_
  refine x_bipush (z := 120) (E_X11_init_2 14 rfl) (by decide) ?_
  refine y_newa (n1 := 148) (ca1 := 33) (sl1 := 2559) (E_X11_init_2 15 rfl) rfl (Or.inl ⟨rfl, rfl⟩) ac_int rfl (by decide) rfl (by decide) rfl rfl rfl (by decide) (hz 147 (by decide) (by decide)) ?_
  refine x_putR (E_X11_init_2 16 rfl) fl_X11_111 rfl (by decide) rfl rfl ?_
  refine x_aload_n (E_X11_init_2 17 rfl) rfl ?_
  refine x_bipush (z := 120) (E_X11_init_2 18 rfl) (by decide) ?_
  refine y_newa (n1 := 149) (ca1 := 34) (sl1 := 2679) (E_X11_init_2 19 rfl) rfl (Or.inl ⟨rfl, rfl⟩) ac_int rfl (by decide) rfl (by decide) rfl rfl rfl (by decide) (hz 148 (by decide) (by decide)) ?_
  refine x_putR (E_X11_init_2 20 rfl) fl_X11_114 rfl (by decide) rfl rfl ?_
  refine x_aload_n (E_X11_init_2 21 rfl) rfl ?_
  refine x_bipush (z := 120) (E_X11_init_2 22 rfl) (by decide) ?_
  refine y_newa (n1 := 150) (ca1 := 35) (sl1 := 2799) (E_X11_init_2 23 rfl) rfl (Or.inl ⟨rfl, rfl⟩) ac_int rfl (by decide) rfl (by decide) rfl rfl rfl (by decide) (hz 149 (by decide) (by decide)) ?_
  refine x_putR (E_X11_init_2 24 rfl) fl_X11_117 rfl (by decide) rfl rfl ?_
  refine x_aload_n (E_X11_init_2 25 rfl) rfl ?_
  refine x_bipush (z := 12) (E_X11_init_2 26 rfl) (by decide) ?_
  refine y_newa (n1 := 151) (ca1 := 36) (sl1 := 2811) (E_X11_init_2 27 rfl) rfl (Or.inl ⟨rfl, rfl⟩) ac_int rfl (by decide) rfl (by decide) rfl rfl rfl (by decide) (hz 150 (by decide) (by decide)) ?_
  refine x_putR (E_X11_init_2 28 rfl) fl_X11_120 rfl (by decide) rfl rfl ?_
  refine x_aload_n (E_X11_init_2 29 rfl) rfl ?_
  refine x_bipush (z := 12) (E_X11_init_2 30 rfl) (by decide) ?_
  refine y_newa (n1 := 152) (ca1 := 37) (sl1 := 2823) (E_X11_init_2 31 rfl) rfl (Or.inl ⟨rfl, rfl⟩) ac_int rfl (by decide) rfl (by decide) rfl rfl rfl (by decide) (hz 151 (by decide) (by decide)) ?_
  refine x_putR (E_X11_init_2 32 rfl) fl_X11_123 rfl (by decide) rfl rfl ?_
  refine x_aload_n (E_X11_init_2 33 rfl) rfl ?_
  refine x_bipush (z := 120) (E_X11_init_2 34 rfl) (by decide) ?_
  refine y_newa (n1 := 153) (ca1 := 38) (sl1 := 2943) (E_X11_init_2 35 rfl) rfl (Or.inl ⟨rfl, rfl⟩) ac_int rfl (by decide) rfl (by decide) rfl rfl rfl (by decide) (hz 152 (by decide) (by decide)) ?_
  refine x_putR (E_X11_init_2 36 rfl) fl_X11_126 rfl (by decide) rfl rfl ?_
  refine x_aload_n (E_X11_init_2 37 rfl) rfl ?_
  refine x_bipush (z := 120) (E_X11_init_2 38 rfl) (by decide) ?_
  refine y_newa (n1 := 154) (ca1 := 39) (sl1 := 3063) (E_X11_init_2 39 rfl) rfl (Or.inl ⟨rfl, rfl⟩) ac_int rfl (by decide) rfl (by decide) rfl rfl rfl (by decide) (hz 153 (by decide) (by decide)) ?_
  refine x_putR (E_X11_init_2 40 rfl) fl_X11_129 rfl (by decide) rfl rfl ?_
  refine x_aload_n (E_X11_init_2 41 rfl) rfl ?_
  refine x_bipush (z := 120) (E_X11_init_2 42 rfl) (by decide) ?_
  refine y_newa (n1 := 155) (ca1 := 40) (sl1 := 3183) (E_X11_init_2 43 rfl) rfl (Or.inl ⟨rfl, rfl⟩) ac_int rfl (by decide) rfl (by decide) rfl rfl rfl (by decide) (hz 154 (by decide) (by decide)) ?_
  refine x_putR (E_X11_init_2 44 rfl) fl_X11_132 rfl (by decide) rfl rfl ?_
  refine x_aload_n (E_X11_init_2 45 rfl) rfl ?_
  refine x_bipush (z := 40) (E_X11_init_2 46 rfl) (by decide) ?_
  refine y_newa (n1 := 156) (ca1 := 41) (sl1 := 3223) (E_X11_init_2 47 rfl) rfl (Or.inl ⟨rfl, rfl⟩) ac_int rfl (by decide) rfl (by decide) rfl rfl rfl (by decide) (hz 155 (by decide) (by decide)) ?_
  refine x_putR (E_X11_init_2 48 rfl) fl_X11_135 rfl (by decide) rfl rfl ?_
  refine x_aload_n (E_X11_init_2 49 rfl) rfl ?_
  refine x_bipush (z := 40) (E_X11_init_2 50 rfl) (by decide) ?_
  refine y_newa (n1 := 157) (ca1 := 42) (sl1 := 3263) (E_X11_init_2 51 rfl) rfl (Or.inl ⟨rfl, rfl⟩) ac_int rfl (by decide) rfl (by decide) rfl rfl rfl (by decide) (hz 156 (by decide) (by decide)) ?_
  refine x_putR (E_X11_init_2 52 rfl) fl_X11_138 rfl (by decide) rfl rfl ?_
  refine x_aload_n (E_X11_init_2 53 rfl) rfl ?_
  refine x_bipush (z := 40) (E_X11_init_2 54 rfl) (by decide) ?_
  refine y_newa (n1 := 158) (ca1 := 43) (sl1 := 3303) (E_X11_init_2 55 rfl) rfl (Or.inl ⟨rfl, rfl⟩) ac_int rfl (by decide) rfl (by decide) rfl rfl rfl (by decide) (hz 157 (by decide) (by decide)) ?_
  refine x_putR (E_X11_init_2 56 rfl) fl_X11_141 rfl (by decide) rfl rfl ?_
  refine x_aload_n (E_X11_init_2 57 rfl) rfl ?_
  refine x_bipush (z := 40) (E_X11_init_2 58 rfl) (by decide) ?_
  refine y_newa (n1 := 159) (ca1 := 44) (sl1 := 3343) (E_X11_init_2 59 rfl) rfl (Or.inl ⟨rfl, rfl⟩) ac_int rfl (by decide) rfl (by decide) rfl rfl rfl (by decide) (hz 158 (by decide) (by decide)) ?_
  refine x_putR (E_X11_init_3 0 rfl) fl_X11_144 rfl (by decide) rfl rfl ?_
  refine x_aload_n (E_X11_init_3 1 rfl) rfl ?_
  refine x_bipush (z := 96) (E_X11_init_3 2 rfl) (by decide) ?_
  refine y_newa (n1 := 160) (ca1 := 45) (sl1 := 3439) (E_X11_init_3 3 rfl) rfl (Or.inl ⟨rfl, rfl⟩) ac_int rfl (by decide) rfl (by decide) rfl rfl rfl (by decide) (hz 159 (by decide) (by decide)) ?_
  refine x_putR (E_X11_init_3 4 rfl) fl_X11_147 rfl (by decide) rfl rfl ?_
  refine x_aload_n (E_X11_init_3 5 rfl) rfl ?_
  refine x_bipush (z := 32) (E_X11_init_3 6 rfl) (by decide) ?_
  refine y_newa (n1 := 161) (ca1 := 46) (sl1 := 3471) (E_X11_init_3 7 rfl) rfl (Or.inl ⟨rfl, rfl⟩) ac_int rfl (by decide) rfl (by decide) rfl rfl rfl (by decide) (hz 160 (by decide) (by decide)) ?_
  refine x_putR (E_X11_init_3 8 rfl) fl_X11_150 rfl (by decide) rfl rfl ?_
  refine x_aload_n (E_X11_init_3 9 rfl) rfl ?_
  refine x_sipush (z := 256) (E_X11_init_3 10 rfl) (by decide) ?_
  refine y_newa (n1 := 162) (ca1 := 47) (sl1 := 3727) (E_X11_init_3 11 rfl) rfl (Or.inl ⟨rfl, rfl⟩) ac_int rfl (by decide) rfl (by decide) rfl rfl rfl (by decide) (hz 161 (by decide) (by decide)) ?_
  refine x_putR (E_X11_init_3 12 rfl) fl_X11_153 rfl (by decide) rfl rfl ?_
  refine x_aload_n (E_X11_init_3 13 rfl) rfl ?_
  refine x_bipush (z := 24) (E_X11_init_3 14 rfl) (by decide) ?_
  refine y_newa (n1 := 163) (ca1 := 48) (sl1 := 3751) (E_X11_init_3 15 rfl) rfl (Or.inl ⟨rfl, rfl⟩) ac_int rfl (by decide) rfl (by decide) rfl rfl rfl (by decide) (hz 162 (by decide) (by decide)) ?_
  refine x_putR (E_X11_init_3 16 rfl) fl_X11_156 rfl (by decide) rfl rfl ?_
  refine x_aload_n (E_X11_init_3 17 rfl) rfl ?_
  refine x_bipush (z := 24) (E_X11_init_3 18 rfl) (by decide) ?_
  refine y_newa (n1 := 164) (ca1 := 49) (sl1 := 3775) (E_X11_init_3 19 rfl) rfl (Or.inl ⟨rfl, rfl⟩) ac_int rfl (by decide) rfl (by decide) rfl rfl rfl (by decide) (hz 163 (by decide) (by decide)) ?_
  refine x_putR (E_X11_init_3 20 rfl) fl_X11_159 rfl (by decide) rfl rfl ?_
  refine x_aload_n (E_X11_init_3 21 rfl) rfl ?_
  refine x_bipush (z := 24) (E_X11_init_3 22 rfl) (by decide) ?_
  refine y_newa (n1 := 165) (ca1 := 50) (sl1 := 3799) (E_X11_init_3 23 rfl) rfl (Or.inl ⟨rfl, rfl⟩) ac_int rfl (by decide) rfl (by decide) rfl rfl rfl (by decide) (hz 164 (by decide) (by decide)) ?_
  refine x_putR (E_X11_init_3 24 rfl) fl_X11_162 rfl (by decide) rfl rfl ?_
  refine x_aload_n (E_X11_init_3 25 rfl) rfl ?_
  refine x_bipush (z := 24) (E_X11_init_3 26 rfl) (by decide) ?_
  refine y_newa (n1 := 166) (ca1 := 51) (sl1 := 3823) (E_X11_init_3 27 rfl) rfl (Or.inl ⟨rfl, rfl⟩) ac_int rfl (by decide) rfl (by decide) rfl rfl rfl (by decide) (hz 165 (by decide) (by decide)) ?_
  refine x_putR (E_X11_init_3 28 rfl) fl_X11_165 rfl (by decide) rfl rfl ?_
  refine x_aload_n (E_X11_init_3 29 rfl) rfl ?_
  refine x_bipush (z := 24) (E_X11_init_3 30 rfl) (by decide) ?_
  refine y_newa (n1 := 167) (ca1 := 52) (sl1 := 3847) (E_X11_init_3 31 rfl) rfl (Or.inl ⟨rfl, rfl⟩) ac_int rfl (by decide) rfl (by decide) rfl rfl rfl (by decide) (hz 166 (by decide) (by decide)) ?_
  refine x_putR (E_X11_init_3 32 rfl) fl_X11_168 rfl (by decide) rfl rfl ?_
  refine x_aload_n (E_X11_init_3 33 rfl) rfl ?_
  refine x_bipush (z := 8) (E_X11_init_3 34 rfl) (by decide) ?_
  refine y_newa (n1 := 168) (ca1 := 53) (sl1 := 3855) (E_X11_init_3 35 rfl) rfl (Or.inl ⟨rfl, rfl⟩) ac_int rfl (by decide) rfl (by decide) rfl rfl rfl (by decide) (hz 167 (by decide) (by decide)) ?_
  refine x_putR (E_X11_init_3 36 rfl) fl_X11_171 rfl (by decide) rfl rfl ?_
  refine x_aload_n (E_X11_init_3 37 rfl) rfl ?_
  refine x_bipush (z := 16) (E_X11_init_3 38 rfl) (by decide) ?_
  refine y_newa (n1 := 169) (ca1 := 54) (sl1 := 3871) (E_X11_init_3 39 rfl) rfl (Or.inr (Or.inl ⟨rfl, rfl⟩)) ac_boolean rfl (by decide) rfl (by decide) rfl rfl rfl (by decide) (hz 168 (by decide) (by decide)) ?_
  refine x_putR (E_X11_init_3 40 rfl) fl_X11_174 rfl (by decide) rfl rfl ?_
  refine x_aload_n (E_X11_init_3 41 rfl) rfl ?_
  refine x_bipush (z := 8) (E_X11_init_3 42 rfl) (by decide) ?_
  refine y_newa (n1 := 170) (ca1 := 55) (sl1 := 3879) (E_X11_init_3 43 rfl) rfl (Or.inl ⟨rfl, rfl⟩) ac_int rfl (by decide) rfl (by decide) rfl rfl rfl (by decide) (hz 169 (by decide) (by decide)) ?_
  refine x_putR (E_X11_init_3 44 rfl) fl_X11_177 rfl (by decide) rfl rfl ?_
  refine x_aload_n (E_X11_init_3 45 rfl) rfl ?_
  refine x_bipush (z := 8) (E_X11_init_3 46 rfl) (by decide) ?_
  refine y_newa (n1 := 171) (ca1 := 56) (sl1 := 3887) (E_X11_init_3 47 rfl) rfl (Or.inl ⟨rfl, rfl⟩) ac_int rfl (by decide) rfl (by decide) rfl rfl rfl (by decide) (hz 170 (by decide) (by decide)) ?_
  refine x_putR (E_X11_init_3 48 rfl) fl_X11_180 rfl (by decide) rfl rfl ?_
  refine x_aload_n (E_X11_init_3 49 rfl) rfl ?_
  refine x_bipush (z := 8) (E_X11_init_3 50 rfl) (by decide) ?_
  refine y_newa (n1 := 172) (ca1 := 57) (sl1 := 3895) (E_X11_init_3 51 rfl) rfl (Or.inl ⟨rfl, rfl⟩) ac_int rfl (by decide) rfl (by decide) rfl rfl rfl (by decide) (hz 171 (by decide) (by decide)) ?_
  refine x_putR (E_X11_init_3 52 rfl) fl_X11_183 rfl (by decide) rfl rfl ?_
  refine x_aload_n (E_X11_init_3 53 rfl) rfl ?_
  refine x_bipush (z := 6) (E_X11_init_3 54 rfl) (by decide) ?_
  refine y_newa (n1 := 173) (ca1 := 58) (sl1 := 3901) (E_X11_init_3 55 rfl) rfl (Or.inl ⟨rfl, rfl⟩) ac_int rfl (by decide) rfl (by decide) rfl rfl rfl (by decide) (hz 172 (by decide) (by decide)) ?_
  refine x_putR (E_X11_init_3 56 rfl) fl_X11_186 rfl (by decide) rfl rfl ?_
  refine x_aload_n (E_X11_init_3 57 rfl) rfl ?_
  refine x_bipush (z := 24) (E_X11_init_3 58 rfl) (by decide) ?_
  refine y_newa (n1 := 174) (ca1 := 59) (sl1 := 3925) (E_X11_init_3 59 rfl) rfl (Or.inl ⟨rfl, rfl⟩) ac_int rfl (by decide) rfl (by decide) rfl rfl rfl (by decide) (hz 173 (by decide) (by decide)) ?_
  refine x_putR (E_X11_init_4 0 rfl) fl_X11_189 rfl (by decide) rfl rfl ?_
  refine x_aload_n (E_X11_init_4 1 rfl) rfl ?_
  refine x_bipush (z := 9) (E_X11_init_4 2 rfl) (by decide) ?_
  refine y_newa (n1 := 175) (ca1 := 60) (sl1 := 3934) (E_X11_init_4 3 rfl) rfl (Or.inl ⟨rfl, rfl⟩) ac_int rfl (by decide) rfl (by decide) rfl rfl rfl (by decide) (hz 174 (by decide) (by decide)) ?_
  refine x_putR (E_X11_init_4 4 rfl) fl_X11_192 rfl (by decide) rfl rfl ?_
  refine x_iconst (E_X11_init_4 5 rfl) ?_
  refine x_istore_n (E_X11_init_4 6 rfl) rfl ?_
  refine x_iload_n (E_X11_init_4 7 rfl) rfl ?_
  refine x_bipush (z := 6) (E_X11_init_4 8 rfl) (by decide) ?_
  refine x_icmp_ge (E_X11_init_4 9 rfl) (by decide) (by decide) (fun c9 => absurd c9 (by decide)) (fun _ => ?_)
  refine x_aload_n (E_X11_init_4 10 rfl) rfl ?_
  refine x_getR (E_X11_init_4 11 rfl) fl_X11_28 rfl (by decide) rfl ?_
  refine x_iload_n (E_X11_init_4 12 rfl) rfl ?_
  refine x_sipush (z := 200) (E_X11_init_4 13 rfl) (by decide) ?_
  refine x_iast (E_X11_init_4 14 rfl) rfl (by decide) (by decide) ?_
  refine x_iinc (E_X11_init_4 15 rfl) rfl rfl ?_
  refine x_goto (E_X11_init_4 16 rfl) ?_
  refine x_iload_n (E_X11_init_4 7 rfl) rfl ?_
  refine x_bipush (z := 6) (E_X11_init_4 8 rfl) (by decide) ?_
  refine x_icmp_ge (E_X11_init_4 9 rfl) (by decide) (by decide) (fun c9 => absurd c9 (by decide)) (fun _ => ?_)
  refine x_aload_n (E_X11_init_4 10 rfl) rfl ?_
  refine x_getR (E_X11_init_4 11 rfl) fl_X11_28 rfl (by decide) rfl ?_
  refine x_iload_n (E_X11_init_4 12 rfl) rfl ?_
  refine x_sipush (z := 200) (E_X11_init_4 13 rfl) (by decide) ?_
  refine x_iast (E_X11_init_4 14 rfl) rfl (by decide) (by decide) ?_
  refine x_iinc (E_X11_init_4 15 rfl) rfl rfl ?_
  refine x_goto (E_X11_init_4 16 rfl) ?_
  refine x_iload_n (E_X11_init_4 7 rfl) rfl ?_
  refine x_bipush (z := 6) (E_X11_init_4 8 rfl) (by decide) ?_
  refine x_icmp_ge (E_X11_init_4 9 rfl) (by decide) (by decide) (fun c9 => absurd c9 (by decide)) (fun _ => ?_)
  refine x_aload_n (E_X11_init_4 10 rfl) rfl ?_
  refine x_getR (E_X11_init_4 11 rfl) fl_X11_28 rfl (by decide) rfl ?_
  refine x_iload_n (E_X11_init_4 12 rfl) rfl ?_
  refine x_sipush (z := 200) (E_X11_init_4 13 rfl) (by decide) ?_
  refine x_iast (E_X11_init_4 14 rfl) rfl (by decide) (by decide) ?_
  refine x_iinc (E_X11_init_4 15 rfl) rfl rfl ?_
  refine x_goto (E_X11_init_4 16 rfl) ?_
  refine x_iload_n (E_X11_init_4 7 rfl) rfl ?_
  refine x_bipush (z := 6) (E_X11_init_4 8 rfl) (by decide) ?_
  refine x_icmp_ge (E_X11_init_4 9 rfl) (by decide) (by decide) (fun c9 => absurd c9 (by decide)) (fun _ => ?_)
  refine x_aload_n (E_X11_init_4 10 rfl) rfl ?_
  refine x_getR (E_X11_init_4 11 rfl) fl_X11_28 rfl (by decide) rfl ?_
  refine x_iload_n (E_X11_init_4 12 rfl) rfl ?_
  refine x_sipush (z := 200) (E_X11_init_4 13 rfl) (by decide) ?_
  refine x_iast (E_X11_init_4 14 rfl) rfl (by decide) (by decide) ?_
  refine x_iinc (E_X11_init_4 15 rfl) rfl rfl ?_
  refine x_goto (E_X11_init_4 16 rfl) ?_
  refine x_iload_n (E_X11_init_4 7 rfl) rfl ?_
  refine x_bipush (z := 6) (E_X11_init_4 8 rfl) (by decide) ?_
  refine x_icmp_ge (E_X11_init_4 9 rfl) (by decide) (by decide) (fun c9 => absurd c9 (by decide)) (fun _ => ?_)
  refine x_aload_n (E_X11_init_4 10 rfl) rfl ?_
  refine x_getR (E_X11_init_4 11 rfl) fl_X11_28 rfl (by decide) rfl ?_
  refine x_iload_n (E_X11_init_4 12 rfl) rfl ?_
  refine x_sipush (z := 200) (E_X11_init_4 13 rfl) (by decide) ?_
  refine x_iast (E_X11_init_4 14 rfl) rfl (by decide) (by decide) ?_
  refine x_iinc (E_X11_init_4 15 rfl) rfl rfl ?_
  refine x_goto (E_X11_init_4 16 rfl) ?_
  refine x_iload_n (E_X11_init_4 7 rfl) rfl ?_
  refine x_bipush (z := 6) (E_X11_init_4 8 rfl) (by decide) ?_
  refine x_icmp_ge (E_X11_init_4 9 rfl) (by decide) (by decide) (fun c9 => absurd c9 (by decide)) (fun _ => ?_)
  refine x_aload_n (E_X11_init_4 10 rfl) rfl ?_
  refine x_getR (E_X11_init_4 11 rfl) fl_X11_28 rfl (by decide) rfl ?_
  refine x_iload_n (E_X11_init_4 12 rfl) rfl ?_
  refine x_sipush (z := 200) (E_X11_init_4 13 rfl) (by decide) ?_
  refine x_iast (E_X11_init_4 14 rfl) rfl (by decide) (by decide) ?_
  refine x_iinc (E_X11_init_4 15 rfl) rfl rfl ?_
  refine x_goto (E_X11_init_4 16 rfl) ?_
  refine x_iload_n (E_X11_init_4 7 rfl) rfl ?_
  refine x_bipush (z := 6) (E_X11_init_4 8 rfl) (by decide) ?_
  refine x_icmp_ge (E_X11_init_4 9 rfl) (by decide) (by decide) (fun _ => ?_) (fun c9 => absurd (by decide) c9)
  refine x_vret (E_X11_init_4 17 rfl) trivial (by decide) (by decide) ⟨rfl, rfl⟩
def ρB : Nat → Int → Option Nat := upq (upq (upq (upq (upq (upq (upq (upq (upq (upq (upq (upq (upq (upq (upq (upq (upq (upq (upq (upq (upq (upq (upq (upq (upq (upq (upq (upq (upq (upq (upq (upq (upq (upq (upq (upq (upq (upq (upq (upq (upq (upq (upq (upq (upq (upq (upq (upq (upq (upq (upq (upq (upq (upq (upq (upq (upq (upq (upq (upq (ρA) 114 2 (some 115)) 114 3 (some 116)) 114 4 (some 117)) 114 5 (some 118)) 114 6 (some 119)) 114 7 (some 120)) 114 8 (some 121)) 114 10 (some 122)) 114 11 (some 123)) 114 12 (some 124)) 114 13 (some 125)) 114 14 (some 126)) 114 15 (some 127)) 114 16 (some 128)) 114 17 (some 129)) 114 18 (some 130)) 114 19 (some 131)) 114 20 (some 132)) 114 23 (some 133)) 114 24 (some 134)) 114 25 (some 135)) 114 26 (some 136)) 114 27 (some 137)) 114 28 (some 138)) 114 35 (some 139)) 114 36 (some 140)) 114 37 (some 141)) 114 40 (some 142)) 114 41 (some 143)) 114 42 (some 144)) 114 43 (some 145)) 114 44 (some 146)) 114 45 (some 147)) 114 46 (some 148)) 114 47 (some 149)) 114 48 (some 150)) 114 49 (some 151)) 114 50 (some 152)) 114 52 (some 153)) 114 53 (some 154)) 114 55 (some 155)) 114 56 (some 156)) 114 57 (some 157)) 114 58 (some 158)) 114 59 (some 159)) 114 61 (some 160)) 114 62 (some 161)) 114 64 (some 162)) 114 65 (some 163)) 114 66 (some 164)) 114 67 (some 165)) 114 68 (some 166)) 114 69 (some 167)) 114 71 (some 168)) 114 72 (some 169)) 114 73 (some 170)) 114 74 (some 171)) 114 76 (some 172)) 114 77 (some 173)) 114 78 (some 174)
def σB : Nat → Int → Int := upq (upq (upq (upq (upq (upq (upq (σA) 114 32 (-1)) 121 0 (200)) 121 1 (200)) 121 2 (200)) 121 3 (200)) 121 4 (200)) 121 5 (200)
