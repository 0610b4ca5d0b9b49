/-! ===== the cells by families; small facts that the walks use ===== -/
def isK (c : Nat) : Prop := c = 20 ∨ c = 31 ∨ c = 43 ∨ c = 54
theorem isK.l0 {c : Nat} (h : isK c) : jlay c = (5, 0) := by rcases h with rfl | rfl | rfl | rfl <;> rfl
theorem isK.l1 {c : Nat} (h : isK c) : jlay (c + 1) = (0, 3) := by rcases h with rfl | rfl | rfl | rfl <;> rfl
theorem isK.l2 {c : Nat} (h : isK c) : jlay (c + 2) = (0, 3) := by rcases h with rfl | rfl | rfl | rfl <;> rfl
theorem isK.l3 {c : Nat} (h : isK c) : jlay (c + 3) = (0, 3) := by rcases h with rfl | rfl | rfl | rfl <;> rfl
theorem isK.l4 {c : Nat} (h : isK c) : jlay (c + 4) = (0, 5) := by rcases h with rfl | rfl | rfl | rfl <;> rfl
theorem isK.l5 {c : Nat} (h : isK c) : jlay (c + 5) = (0, 5) := by rcases h with rfl | rfl | rfl | rfl <;> rfl
theorem isK.l6 {c : Nat} (h : isK c) : jlay (c + 6) = (0, 5) := by rcases h with rfl | rfl | rfl | rfl <;> rfl
theorem isK.l7 {c : Nat} (h : isK c) : jlay (c + 7) = (0, 3) := by rcases h with rfl | rfl | rfl | rfl <;> rfl
theorem isK.l8 {c : Nat} (h : isK c) : jlay (c + 8) = (0, 5) := by rcases h with rfl | rfl | rfl | rfl <;> rfl
theorem isK.l9 {c : Nat} (h : isK c) : jlay (c + 9) = (0, 5) := by rcases h with rfl | rfl | rfl | rfl <;> rfl
theorem isK.l10 {c : Nat} (h : isK c) : jlay (c + 10) = (0, 5) := by rcases h with rfl | rfl | rfl | rfl <;> rfl
theorem isR_l (r : Nat) (h : r < 8) : jlay (2 + 2 * r) = (5, 1) := co_dec (P := fun r => jlay (2 + 2 * r) = (5, 1)) (by decide +kernel) h
theorem isR_i (r : Nat) (h : r < 8) : jlay (2 + 2 * r + 1) = (0, 40) := co_dec (P := fun r => jlay (2 + 2 * r + 1) = (0, 40)) (by decide +kernel) h
theorem isI_k (k : Nat) (h : k < 2) : isK (43 + 11 * k) := by
  have : k = 0 ∨ k = 1 := by omega
  rcases this with rfl | rfl
  · exact Or.inr (Or.inr (Or.inl rfl))
  · exact Or.inr (Or.inr (Or.inr rfl))
theorem isA_l (k : Nat) (h : k < 24) : jlay (66 + k) = (0, 19) := co_dec (P := fun r => jlay (66 + r) = (0, 19)) (by decide +kernel) h
theorem isB_l (k : Nat) (h : k < 4) : jlay (93 + k) = (0, 19) := co_dec (P := fun r => jlay (93 + r) = (0, 19)) (by decide +kernel) h
theorem jtg_1 (j : Nat) : jtg 1 j = 2 + 2 * j := rfl
theorem j_add {x y : Int32} {a b : Nat} (hx : x = nI a) (hy : y = nI b) : x + y = nI (a + b) := by rw [hx, hy]; exact nI_add a b
theorem j_mul {x y : Int32} {a b : Nat} (hx : x = nI a) (hy : y = nI b) : x * y = nI (a * b) := by rw [hx, hy]; exact pk_mul a b
theorem j_sub {x y : Int32} {a b : Nat} (hx : x = nI a) (hy : y = nI b) (h : b ≤ a) : x - y = nI (a - b) := by rw [hx, hy]; exact pk_sub h
theorem j_inc {x : Int32} {a : Nat} (hx : x = nI a) : x + Int32.ofInt 1 = nI (a + 1) := by rw [hx]; exact nI_1 a
theorem jnl_at {L : List (Option Value)} {i : Nat} (h : jnl (L[i]?.getD none) = true) : ∀ j, j + 1 = i + 1 → jnl (L[j]?.getD none) = true := fun j hj => by
  obtain rfl : j = i := by omega
  exact h
theorem j_lt {a b : Nat} (ha : a < 2 ^ 31) (hb : b < 2 ^ 31) : nI a < nI b ↔ a < b := nI_ltI ha hb
theorem j_le {a b : Nat} (ha : a < 2 ^ 31) (hb : b < 2 ^ 31) : nI a ≤ nI b ↔ a ≤ b := nI_leI ha hb
theorem j_eq {a b : Nat} (ha : a < 2 ^ 31) (hb : b < 2 ^ 31) : nI a = nI b ↔ a = b := nI_eq ha hb
/-- the numbers below a bound are small naturals -/
theorem j_small {x : Int32} (h0 : ¬ x < 0) {n : Nat} (hn : n < 2 ^ 31) (h1 : x < nI n) : ∃ k : Nat, k < n ∧ x = nI k := by
  obtain ⟨k, hk, rfl⟩ := nI_of h0
  exact ⟨k, (j_lt hk hn).mp h1, rfl⟩
