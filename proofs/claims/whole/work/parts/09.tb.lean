def am_isB (b : Nat) : Prop := b = 2 ∨ b = 14 ∨ b = 28 ∨ b = 40
theorem tb_B {b : Nat} (h : am_isB b) : am_tab[b]? = some (.inl (0, [b + 3, 0, b + 8, b + 9, b + 10, 0, 0, 0, b + 11, b + 12, b + 13, 0])) := by rcases h with rfl | rfl | rfl | rfl <;> rfl
theorem tb_Bk {b : Nat} (h : am_isB b) : am_tab[b + 1]? = some (.inr (.inr (3, [b + 2, b + 3, b + 4, b + 5]))) := by rcases h with rfl | rfl | rfl | rfl <;> rfl
theorem tb_K {b k : Nat} (h : am_isB b) (hk : k < 4) : am_tab[b + 2 + k]? = some (.inl (1, [0, 0, 0, 0, 0, 0, 0, 0, 0])) := by
  rcases (show k = 0 ∨ k = 1 ∨ k = 2 ∨ k = 3 by omega) with rfl | rfl | rfl | rfl <;> rcases h with rfl | rfl | rfl | rfl <;> rfl
theorem tb_B6 {b : Nat} (h : am_isB b) : am_tab[b + 6]? = some (.inr (.inl (0, 8))) := by rcases h with rfl | rfl | rfl | rfl <;> rfl
theorem tb_B7 {b : Nat} (h : am_isB b) : am_tab[b + 7]? = some (.inr (.inl (0, 8))) := by rcases h with rfl | rfl | rfl | rfl <;> rfl
theorem tb_B8 {b : Nat} (h : am_isB b) : am_tab[b + 8]? = some (.inr (.inl (0, 8))) := by rcases h with rfl | rfl | rfl | rfl <;> rfl
theorem tb_B9 {b : Nat} (h : am_isB b) : am_tab[b + 9]? = some (.inr (.inl (0, 6))) := by rcases h with rfl | rfl | rfl | rfl <;> rfl
theorem tb_B10 {b : Nat} (h : am_isB b) : am_tab[b + 10]? = some (.inr (.inl (0, 6))) := by rcases h with rfl | rfl | rfl | rfl <;> rfl
theorem tb_B11 {b : Nat} (h : am_isB b) : am_tab[b + 11]? = some (.inr (.inl (0, 6))) := by rcases h with rfl | rfl | rfl | rfl <;> rfl
