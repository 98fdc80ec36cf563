theorem x_w4 {n : Nat} (h : n ≤ 3) : nI n = nI 0 ∨ nI n = nI 1 ∨ nI n = nI 2 ∨ nI n = nI 3 := by
  rcases (show n = 0 ∨ n = 1 ∨ n = 2 ∨ n = 3 by omega) with e | e | e | e <;> subst e
  · exact Or.inl rfl
  · exact Or.inr (Or.inl rfl)
  · exact Or.inr (Or.inr (Or.inl rfl))
  · exact Or.inr (Or.inr (Or.inr rfl))
theorem x_w4n {n k : Nat} (h : n ≤ 3) (hk : k ≤ 3) (e : nI n = nI k) : n = k := (nI_eq (by omega) (by omega)).mp e
theorem xft_0 {b β : Nat → Int32} {m : Int32} {n : Nat} (h : ∀ i, i < 9 → b i = β i) (e : n = 0) : nI (xfault b m) = xft β m n := by rw [← xft_cong h, xft, if_pos e]
theorem xft_1 {b β : Nat → Int32} {m : Int32} {n : Nat} (h : ∀ i, i < 9 → b i = β i) (e : n = 1) : xplace b m = xft β m n := by subst e; rw [← xft_cong h, xft, if_neg (by decide), if_pos rfl]
theorem xft_2 {b β : Nat → Int32} {m : Int32} {n : Nat} (h : ∀ i, i < 9 → b i = β i) (e : n = 2) : b (xtop b 8) = xft β m n := by subst e; rw [← xft_cong h, xft, if_neg (by decide), if_neg (by decide), if_pos rfl]
theorem xft_3 {b β : Nat → Int32} {m : Int32} {n : Nat} (h : ∀ i, i < 9 → b i = β i) (e : n = 3) : nI (xcnt b 0 9) = xft β m n := by subst e; rw [← xft_cong h, xft, if_neg (by decide), if_neg (by decide), if_neg (by decide)]
