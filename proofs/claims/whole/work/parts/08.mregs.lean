/-! the reference's world -/
def maO (a : Nat) : Nat := 23 + a
def mg (σ : Nat → ax_C) (J : Nat → Int) (G : Nat → Nat → Int) : Nat → ax_C := fun i => match i with
  | 22 => .inr (4, [.int (zi (J 0)), .int (zi (J 1)), .int (zi (J 2)), .int (zi (J 3)), .int (zi (J 4)), .int (zi (J 5)), .ref (maO 0), .int (zi (J 7)), .ref (maO 1), .ref (maO 2), .ref (maO 3), .int (zi (J 11)), .int (zi (J 12)), .int (zi (J 13)), .ref (maO 4), .ref (maO 5), .int (zi (J 16)), .ref (maO 6), .ref (maO 7), .ref (maO 8), .ref (maO 9), .int (zi (J 21)), .ref (maO 10), .ref (maO 11), .ref (maO 12), .ref (maO 13), .int (zi (J 26)), .ref (maO 14)])
  | 23 => .inl (false, 808, fun j => zi (G 0 j))
  | 24 => .inl (true, 100, fun j => zi (G 1 j))
  | 25 => .inl (true, 100, fun j => zi (G 2 j))
  | 26 => .inl (false, 100, fun j => zi (G 3 j))
  | 27 => .inl (false, 100, fun j => zi (G 4 j))
  | 28 => .inl (true, 50000, fun j => zi (G 5 j))
  | 29 => .inl (false, 10100, fun j => zi (G 6 j))
  | 30 => .inl (true, 100, fun j => zi (G 7 j))
  | 31 => .inl (true, 100, fun j => zi (G 8 j))
  | 32 => .inl (true, 100, fun j => zi (G 9 j))
  | 33 => .inl (true, 100, fun j => zi (G 10 j))
  | 34 => .inl (true, 100, fun j => zi (G 11 j))
  | 35 => .inl (true, 100, fun j => zi (G 12 j))
  | 36 => .inl (false, 100, fun j => zi (G 13 j))
  | 37 => .inl (true, 100, fun j => zi (G 14 j))
  | i => σ i
theorem mg_off {σ : Nat → ax_C} {J : Nat → Int} {G : Nat → Nat → Int} {i : Nat} (h : i < 22 ∨ 38 ≤ i) : mg σ J G i = σ i := by
  unfold mg
  split <;> first | rfl | omega
theorem mg_put_0 (σ : Nat → ax_C) (J : Nat → Int) (G : Nat → Nat → Int) (e : Int) : va_up (mg σ J G) 22 (.inr (4, [.int (zi e), .int (zi (J 1)), .int (zi (J 2)), .int (zi (J 3)), .int (zi (J 4)), .int (zi (J 5)), .ref (maO 0), .int (zi (J 7)), .ref (maO 1), .ref (maO 2), .ref (maO 3), .int (zi (J 11)), .int (zi (J 12)), .int (zi (J 13)), .ref (maO 4), .ref (maO 5), .int (zi (J 16)), .ref (maO 6), .ref (maO 7), .ref (maO 8), .ref (maO 9), .int (zi (J 21)), .ref (maO 10), .ref (maO 11), .ref (maO 12), .ref (maO 13), .int (zi (J 26)), .ref (maO 14)])) = mg σ (va_up J 0 e) G := by
  funext i
  by_cases h : i < 22 ∨ 38 ≤ i
  · rw [mg_off h, show va_up (mg σ J G) 22 (.inr (4, [.int (zi e), .int (zi (J 1)), .int (zi (J 2)), .int (zi (J 3)), .int (zi (J 4)), .int (zi (J 5)), .ref (maO 0), .int (zi (J 7)), .ref (maO 1), .ref (maO 2), .ref (maO 3), .int (zi (J 11)), .int (zi (J 12)), .int (zi (J 13)), .ref (maO 4), .ref (maO 5), .int (zi (J 16)), .ref (maO 6), .ref (maO 7), .ref (maO 8), .ref (maO 9), .int (zi (J 21)), .ref (maO 10), .ref (maO 11), .ref (maO 12), .ref (maO 13), .int (zi (J 26)), .ref (maO 14)])) i = mg σ J G i from if_neg (by omega), mg_off h]
  · obtain rfl | rfl | rfl | rfl | rfl | rfl | rfl | rfl | rfl | rfl | rfl | rfl | rfl | rfl | rfl | rfl : i = 22 ∨ i = 23 ∨ i = 24 ∨ i = 25 ∨ i = 26 ∨ i = 27 ∨ i = 28 ∨ i = 29 ∨ i = 30 ∨ i = 31 ∨ i = 32 ∨ i = 33 ∨ i = 34 ∨ i = 35 ∨ i = 36 ∨ i = 37 := by omega
    all_goals rfl
theorem mg_put_1 (σ : Nat → ax_C) (J : Nat → Int) (G : Nat → Nat → Int) (e : Int) : va_up (mg σ J G) 22 (.inr (4, [.int (zi (J 0)), .int (zi e), .int (zi (J 2)), .int (zi (J 3)), .int (zi (J 4)), .int (zi (J 5)), .ref (maO 0), .int (zi (J 7)), .ref (maO 1), .ref (maO 2), .ref (maO 3), .int (zi (J 11)), .int (zi (J 12)), .int (zi (J 13)), .ref (maO 4), .ref (maO 5), .int (zi (J 16)), .ref (maO 6), .ref (maO 7), .ref (maO 8), .ref (maO 9), .int (zi (J 21)), .ref (maO 10), .ref (maO 11), .ref (maO 12), .ref (maO 13), .int (zi (J 26)), .ref (maO 14)])) = mg σ (va_up J 1 e) G := by
  funext i
  by_cases h : i < 22 ∨ 38 ≤ i
  · rw [mg_off h, show va_up (mg σ J G) 22 (.inr (4, [.int (zi (J 0)), .int (zi e), .int (zi (J 2)), .int (zi (J 3)), .int (zi (J 4)), .int (zi (J 5)), .ref (maO 0), .int (zi (J 7)), .ref (maO 1), .ref (maO 2), .ref (maO 3), .int (zi (J 11)), .int (zi (J 12)), .int (zi (J 13)), .ref (maO 4), .ref (maO 5), .int (zi (J 16)), .ref (maO 6), .ref (maO 7), .ref (maO 8), .ref (maO 9), .int (zi (J 21)), .ref (maO 10), .ref (maO 11), .ref (maO 12), .ref (maO 13), .int (zi (J 26)), .ref (maO 14)])) i = mg σ J G i from if_neg (by omega), mg_off h]
  · obtain rfl | rfl | rfl | rfl | rfl | rfl | rfl | rfl | rfl | rfl | rfl | rfl | rfl | rfl | rfl | rfl : i = 22 ∨ i = 23 ∨ i = 24 ∨ i = 25 ∨ i = 26 ∨ i = 27 ∨ i = 28 ∨ i = 29 ∨ i = 30 ∨ i = 31 ∨ i = 32 ∨ i = 33 ∨ i = 34 ∨ i = 35 ∨ i = 36 ∨ i = 37 := by omega
    all_goals rfl
theorem mg_put_2 (σ : Nat → ax_C) (J : Nat → Int) (G : Nat → Nat → Int) (e : Int) : va_up (mg σ J G) 22 (.inr (4, [.int (zi (J 0)), .int (zi (J 1)), .int (zi e), .int (zi (J 3)), .int (zi (J 4)), .int (zi (J 5)), .ref (maO 0), .int (zi (J 7)), .ref (maO 1), .ref (maO 2), .ref (maO 3), .int (zi (J 11)), .int (zi (J 12)), .int (zi (J 13)), .ref (maO 4), .ref (maO 5), .int (zi (J 16)), .ref (maO 6), .ref (maO 7), .ref (maO 8), .ref (maO 9), .int (zi (J 21)), .ref (maO 10), .ref (maO 11), .ref (maO 12), .ref (maO 13), .int (zi (J 26)), .ref (maO 14)])) = mg σ (va_up J 2 e) G := by
  funext i
  by_cases h : i < 22 ∨ 38 ≤ i
  · rw [mg_off h, show va_up (mg σ J G) 22 (.inr (4, [.int (zi (J 0)), .int (zi (J 1)), .int (zi e), .int (zi (J 3)), .int (zi (J 4)), .int (zi (J 5)), .ref (maO 0), .int (zi (J 7)), .ref (maO 1), .ref (maO 2), .ref (maO 3), .int (zi (J 11)), .int (zi (J 12)), .int (zi (J 13)), .ref (maO 4), .ref (maO 5), .int (zi (J 16)), .ref (maO 6), .ref (maO 7), .ref (maO 8), .ref (maO 9), .int (zi (J 21)), .ref (maO 10), .ref (maO 11), .ref (maO 12), .ref (maO 13), .int (zi (J 26)), .ref (maO 14)])) i = mg σ J G i from if_neg (by omega), mg_off h]
  · obtain rfl | rfl | rfl | rfl | rfl | rfl | rfl | rfl | rfl | rfl | rfl | rfl | rfl | rfl | rfl | rfl : i = 22 ∨ i = 23 ∨ i = 24 ∨ i = 25 ∨ i = 26 ∨ i = 27 ∨ i = 28 ∨ i = 29 ∨ i = 30 ∨ i = 31 ∨ i = 32 ∨ i = 33 ∨ i = 34 ∨ i = 35 ∨ i = 36 ∨ i = 37 := by omega
    all_goals rfl
theorem mg_put_3 (σ : Nat → ax_C) (J : Nat → Int) (G : Nat → Nat → Int) (e : Int) : va_up (mg σ J G) 22 (.inr (4, [.int (zi (J 0)), .int (zi (J 1)), .int (zi (J 2)), .int (zi e), .int (zi (J 4)), .int (zi (J 5)), .ref (maO 0), .int (zi (J 7)), .ref (maO 1), .ref (maO 2), .ref (maO 3), .int (zi (J 11)), .int (zi (J 12)), .int (zi (J 13)), .ref (maO 4), .ref (maO 5), .int (zi (J 16)), .ref (maO 6), .ref (maO 7), .ref (maO 8), .ref (maO 9), .int (zi (J 21)), .ref (maO 10), .ref (maO 11), .ref (maO 12), .ref (maO 13), .int (zi (J 26)), .ref (maO 14)])) = mg σ (va_up J 3 e) G := by
  funext i
  by_cases h : i < 22 ∨ 38 ≤ i
  · rw [mg_off h, show va_up (mg σ J G) 22 (.inr (4, [.int (zi (J 0)), .int (zi (J 1)), .int (zi (J 2)), .int (zi e), .int (zi (J 4)), .int (zi (J 5)), .ref (maO 0), .int (zi (J 7)), .ref (maO 1), .ref (maO 2), .ref (maO 3), .int (zi (J 11)), .int (zi (J 12)), .int (zi (J 13)), .ref (maO 4), .ref (maO 5), .int (zi (J 16)), .ref (maO 6), .ref (maO 7), .ref (maO 8), .ref (maO 9), .int (zi (J 21)), .ref (maO 10), .ref (maO 11), .ref (maO 12), .ref (maO 13), .int (zi (J 26)), .ref (maO 14)])) i = mg σ J G i from if_neg (by omega), mg_off h]
  · obtain rfl | rfl | rfl | rfl | rfl | rfl | rfl | rfl | rfl | rfl | rfl | rfl | rfl | rfl | rfl | rfl : i = 22 ∨ i = 23 ∨ i = 24 ∨ i = 25 ∨ i = 26 ∨ i = 27 ∨ i = 28 ∨ i = 29 ∨ i = 30 ∨ i = 31 ∨ i = 32 ∨ i = 33 ∨ i = 34 ∨ i = 35 ∨ i = 36 ∨ i = 37 := by omega
    all_goals rfl
theorem mg_put_4 (σ : Nat → ax_C) (J : Nat → Int) (G : Nat → Nat → Int) (e : Int) : va_up (mg σ J G) 22 (.inr (4, [.int (zi (J 0)), .int (zi (J 1)), .int (zi (J 2)), .int (zi (J 3)), .int (zi e), .int (zi (J 5)), .ref (maO 0), .int (zi (J 7)), .ref (maO 1), .ref (maO 2), .ref (maO 3), .int (zi (J 11)), .int (zi (J 12)), .int (zi (J 13)), .ref (maO 4), .ref (maO 5), .int (zi (J 16)), .ref (maO 6), .ref (maO 7), .ref (maO 8), .ref (maO 9), .int (zi (J 21)), .ref (maO 10), .ref (maO 11), .ref (maO 12), .ref (maO 13), .int (zi (J 26)), .ref (maO 14)])) = mg σ (va_up J 4 e) G := by
  funext i
  by_cases h : i < 22 ∨ 38 ≤ i
  · rw [mg_off h, show va_up (mg σ J G) 22 (.inr (4, [.int (zi (J 0)), .int (zi (J 1)), .int (zi (J 2)), .int (zi (J 3)), .int (zi e), .int (zi (J 5)), .ref (maO 0), .int (zi (J 7)), .ref (maO 1), .ref (maO 2), .ref (maO 3), .int (zi (J 11)), .int (zi (J 12)), .int (zi (J 13)), .ref (maO 4), .ref (maO 5), .int (zi (J 16)), .ref (maO 6), .ref (maO 7), .ref (maO 8), .ref (maO 9), .int (zi (J 21)), .ref (maO 10), .ref (maO 11), .ref (maO 12), .ref (maO 13), .int (zi (J 26)), .ref (maO 14)])) i = mg σ J G i from if_neg (by omega), mg_off h]
  · obtain rfl | rfl | rfl | rfl | rfl | rfl | rfl | rfl | rfl | rfl | rfl | rfl | rfl | rfl | rfl | rfl : i = 22 ∨ i = 23 ∨ i = 24 ∨ i = 25 ∨ i = 26 ∨ i = 27 ∨ i = 28 ∨ i = 29 ∨ i = 30 ∨ i = 31 ∨ i = 32 ∨ i = 33 ∨ i = 34 ∨ i = 35 ∨ i = 36 ∨ i = 37 := by omega
    all_goals rfl
theorem mg_put_5 (σ : Nat → ax_C) (J : Nat → Int) (G : Nat → Nat → Int) (e : Int) : va_up (mg σ J G) 22 (.inr (4, [.int (zi (J 0)), .int (zi (J 1)), .int (zi (J 2)), .int (zi (J 3)), .int (zi (J 4)), .int (zi e), .ref (maO 0), .int (zi (J 7)), .ref (maO 1), .ref (maO 2), .ref (maO 3), .int (zi (J 11)), .int (zi (J 12)), .int (zi (J 13)), .ref (maO 4), .ref (maO 5), .int (zi (J 16)), .ref (maO 6), .ref (maO 7), .ref (maO 8), .ref (maO 9), .int (zi (J 21)), .ref (maO 10), .ref (maO 11), .ref (maO 12), .ref (maO 13), .int (zi (J 26)), .ref (maO 14)])) = mg σ (va_up J 5 e) G := by
  funext i
  by_cases h : i < 22 ∨ 38 ≤ i
  · rw [mg_off h, show va_up (mg σ J G) 22 (.inr (4, [.int (zi (J 0)), .int (zi (J 1)), .int (zi (J 2)), .int (zi (J 3)), .int (zi (J 4)), .int (zi e), .ref (maO 0), .int (zi (J 7)), .ref (maO 1), .ref (maO 2), .ref (maO 3), .int (zi (J 11)), .int (zi (J 12)), .int (zi (J 13)), .ref (maO 4), .ref (maO 5), .int (zi (J 16)), .ref (maO 6), .ref (maO 7), .ref (maO 8), .ref (maO 9), .int (zi (J 21)), .ref (maO 10), .ref (maO 11), .ref (maO 12), .ref (maO 13), .int (zi (J 26)), .ref (maO 14)])) i = mg σ J G i from if_neg (by omega), mg_off h]
  · obtain rfl | rfl | rfl | rfl | rfl | rfl | rfl | rfl | rfl | rfl | rfl | rfl | rfl | rfl | rfl | rfl : i = 22 ∨ i = 23 ∨ i = 24 ∨ i = 25 ∨ i = 26 ∨ i = 27 ∨ i = 28 ∨ i = 29 ∨ i = 30 ∨ i = 31 ∨ i = 32 ∨ i = 33 ∨ i = 34 ∨ i = 35 ∨ i = 36 ∨ i = 37 := by omega
    all_goals rfl
theorem mg_put_7 (σ : Nat → ax_C) (J : Nat → Int) (G : Nat → Nat → Int) (e : Int) : va_up (mg σ J G) 22 (.inr (4, [.int (zi (J 0)), .int (zi (J 1)), .int (zi (J 2)), .int (zi (J 3)), .int (zi (J 4)), .int (zi (J 5)), .ref (maO 0), .int (zi e), .ref (maO 1), .ref (maO 2), .ref (maO 3), .int (zi (J 11)), .int (zi (J 12)), .int (zi (J 13)), .ref (maO 4), .ref (maO 5), .int (zi (J 16)), .ref (maO 6), .ref (maO 7), .ref (maO 8), .ref (maO 9), .int (zi (J 21)), .ref (maO 10), .ref (maO 11), .ref (maO 12), .ref (maO 13), .int (zi (J 26)), .ref (maO 14)])) = mg σ (va_up J 7 e) G := by
  funext i
  by_cases h : i < 22 ∨ 38 ≤ i
  · rw [mg_off h, show va_up (mg σ J G) 22 (.inr (4, [.int (zi (J 0)), .int (zi (J 1)), .int (zi (J 2)), .int (zi (J 3)), .int (zi (J 4)), .int (zi (J 5)), .ref (maO 0), .int (zi e), .ref (maO 1), .ref (maO 2), .ref (maO 3), .int (zi (J 11)), .int (zi (J 12)), .int (zi (J 13)), .ref (maO 4), .ref (maO 5), .int (zi (J 16)), .ref (maO 6), .ref (maO 7), .ref (maO 8), .ref (maO 9), .int (zi (J 21)), .ref (maO 10), .ref (maO 11), .ref (maO 12), .ref (maO 13), .int (zi (J 26)), .ref (maO 14)])) i = mg σ J G i from if_neg (by omega), mg_off h]
  · obtain rfl | rfl | rfl | rfl | rfl | rfl | rfl | rfl | rfl | rfl | rfl | rfl | rfl | rfl | rfl | rfl : i = 22 ∨ i = 23 ∨ i = 24 ∨ i = 25 ∨ i = 26 ∨ i = 27 ∨ i = 28 ∨ i = 29 ∨ i = 30 ∨ i = 31 ∨ i = 32 ∨ i = 33 ∨ i = 34 ∨ i = 35 ∨ i = 36 ∨ i = 37 := by omega
    all_goals rfl
theorem mg_put_11 (σ : Nat → ax_C) (J : Nat → Int) (G : Nat → Nat → Int) (e : Int) : va_up (mg σ J G) 22 (.inr (4, [.int (zi (J 0)), .int (zi (J 1)), .int (zi (J 2)), .int (zi (J 3)), .int (zi (J 4)), .int (zi (J 5)), .ref (maO 0), .int (zi (J 7)), .ref (maO 1), .ref (maO 2), .ref (maO 3), .int (zi e), .int (zi (J 12)), .int (zi (J 13)), .ref (maO 4), .ref (maO 5), .int (zi (J 16)), .ref (maO 6), .ref (maO 7), .ref (maO 8), .ref (maO 9), .int (zi (J 21)), .ref (maO 10), .ref (maO 11), .ref (maO 12), .ref (maO 13), .int (zi (J 26)), .ref (maO 14)])) = mg σ (va_up J 11 e) G := by
  funext i
  by_cases h : i < 22 ∨ 38 ≤ i
  · rw [mg_off h, show va_up (mg σ J G) 22 (.inr (4, [.int (zi (J 0)), .int (zi (J 1)), .int (zi (J 2)), .int (zi (J 3)), .int (zi (J 4)), .int (zi (J 5)), .ref (maO 0), .int (zi (J 7)), .ref (maO 1), .ref (maO 2), .ref (maO 3), .int (zi e), .int (zi (J 12)), .int (zi (J 13)), .ref (maO 4), .ref (maO 5), .int (zi (J 16)), .ref (maO 6), .ref (maO 7), .ref (maO 8), .ref (maO 9), .int (zi (J 21)), .ref (maO 10), .ref (maO 11), .ref (maO 12), .ref (maO 13), .int (zi (J 26)), .ref (maO 14)])) i = mg σ J G i from if_neg (by omega), mg_off h]
  · obtain rfl | rfl | rfl | rfl | rfl | rfl | rfl | rfl | rfl | rfl | rfl | rfl | rfl | rfl | rfl | rfl : i = 22 ∨ i = 23 ∨ i = 24 ∨ i = 25 ∨ i = 26 ∨ i = 27 ∨ i = 28 ∨ i = 29 ∨ i = 30 ∨ i = 31 ∨ i = 32 ∨ i = 33 ∨ i = 34 ∨ i = 35 ∨ i = 36 ∨ i = 37 := by omega
    all_goals rfl
theorem mg_put_12 (σ : Nat → ax_C) (J : Nat → Int) (G : Nat → Nat → Int) (e : Int) : va_up (mg σ J G) 22 (.inr (4, [.int (zi (J 0)), .int (zi (J 1)), .int (zi (J 2)), .int (zi (J 3)), .int (zi (J 4)), .int (zi (J 5)), .ref (maO 0), .int (zi (J 7)), .ref (maO 1), .ref (maO 2), .ref (maO 3), .int (zi (J 11)), .int (zi e), .int (zi (J 13)), .ref (maO 4), .ref (maO 5), .int (zi (J 16)), .ref (maO 6), .ref (maO 7), .ref (maO 8), .ref (maO 9), .int (zi (J 21)), .ref (maO 10), .ref (maO 11), .ref (maO 12), .ref (maO 13), .int (zi (J 26)), .ref (maO 14)])) = mg σ (va_up J 12 e) G := by
  funext i
  by_cases h : i < 22 ∨ 38 ≤ i
  · rw [mg_off h, show va_up (mg σ J G) 22 (.inr (4, [.int (zi (J 0)), .int (zi (J 1)), .int (zi (J 2)), .int (zi (J 3)), .int (zi (J 4)), .int (zi (J 5)), .ref (maO 0), .int (zi (J 7)), .ref (maO 1), .ref (maO 2), .ref (maO 3), .int (zi (J 11)), .int (zi e), .int (zi (J 13)), .ref (maO 4), .ref (maO 5), .int (zi (J 16)), .ref (maO 6), .ref (maO 7), .ref (maO 8), .ref (maO 9), .int (zi (J 21)), .ref (maO 10), .ref (maO 11), .ref (maO 12), .ref (maO 13), .int (zi (J 26)), .ref (maO 14)])) i = mg σ J G i from if_neg (by omega), mg_off h]
  · obtain rfl | rfl | rfl | rfl | rfl | rfl | rfl | rfl | rfl | rfl | rfl | rfl | rfl | rfl | rfl | rfl : i = 22 ∨ i = 23 ∨ i = 24 ∨ i = 25 ∨ i = 26 ∨ i = 27 ∨ i = 28 ∨ i = 29 ∨ i = 30 ∨ i = 31 ∨ i = 32 ∨ i = 33 ∨ i = 34 ∨ i = 35 ∨ i = 36 ∨ i = 37 := by omega
    all_goals rfl
theorem mg_put_13 (σ : Nat → ax_C) (J : Nat → Int) (G : Nat → Nat → Int) (e : Int) : va_up (mg σ J G) 22 (.inr (4, [.int (zi (J 0)), .int (zi (J 1)), .int (zi (J 2)), .int (zi (J 3)), .int (zi (J 4)), .int (zi (J 5)), .ref (maO 0), .int (zi (J 7)), .ref (maO 1), .ref (maO 2), .ref (maO 3), .int (zi (J 11)), .int (zi (J 12)), .int (zi e), .ref (maO 4), .ref (maO 5), .int (zi (J 16)), .ref (maO 6), .ref (maO 7), .ref (maO 8), .ref (maO 9), .int (zi (J 21)), .ref (maO 10), .ref (maO 11), .ref (maO 12), .ref (maO 13), .int (zi (J 26)), .ref (maO 14)])) = mg σ (va_up J 13 e) G := by
  funext i
  by_cases h : i < 22 ∨ 38 ≤ i
  · rw [mg_off h, show va_up (mg σ J G) 22 (.inr (4, [.int (zi (J 0)), .int (zi (J 1)), .int (zi (J 2)), .int (zi (J 3)), .int (zi (J 4)), .int (zi (J 5)), .ref (maO 0), .int (zi (J 7)), .ref (maO 1), .ref (maO 2), .ref (maO 3), .int (zi (J 11)), .int (zi (J 12)), .int (zi e), .ref (maO 4), .ref (maO 5), .int (zi (J 16)), .ref (maO 6), .ref (maO 7), .ref (maO 8), .ref (maO 9), .int (zi (J 21)), .ref (maO 10), .ref (maO 11), .ref (maO 12), .ref (maO 13), .int (zi (J 26)), .ref (maO 14)])) i = mg σ J G i from if_neg (by omega), mg_off h]
  · obtain rfl | rfl | rfl | rfl | rfl | rfl | rfl | rfl | rfl | rfl | rfl | rfl | rfl | rfl | rfl | rfl : i = 22 ∨ i = 23 ∨ i = 24 ∨ i = 25 ∨ i = 26 ∨ i = 27 ∨ i = 28 ∨ i = 29 ∨ i = 30 ∨ i = 31 ∨ i = 32 ∨ i = 33 ∨ i = 34 ∨ i = 35 ∨ i = 36 ∨ i = 37 := by omega
    all_goals rfl
theorem mg_put_16 (σ : Nat → ax_C) (J : Nat → Int) (G : Nat → Nat → Int) (e : Int) : va_up (mg σ J G) 22 (.inr (4, [.int (zi (J 0)), .int (zi (J 1)), .int (zi (J 2)), .int (zi (J 3)), .int (zi (J 4)), .int (zi (J 5)), .ref (maO 0), .int (zi (J 7)), .ref (maO 1), .ref (maO 2), .ref (maO 3), .int (zi (J 11)), .int (zi (J 12)), .int (zi (J 13)), .ref (maO 4), .ref (maO 5), .int (zi e), .ref (maO 6), .ref (maO 7), .ref (maO 8), .ref (maO 9), .int (zi (J 21)), .ref (maO 10), .ref (maO 11), .ref (maO 12), .ref (maO 13), .int (zi (J 26)), .ref (maO 14)])) = mg σ (va_up J 16 e) G := by
  funext i
  by_cases h : i < 22 ∨ 38 ≤ i
  · rw [mg_off h, show va_up (mg σ J G) 22 (.inr (4, [.int (zi (J 0)), .int (zi (J 1)), .int (zi (J 2)), .int (zi (J 3)), .int (zi (J 4)), .int (zi (J 5)), .ref (maO 0), .int (zi (J 7)), .ref (maO 1), .ref (maO 2), .ref (maO 3), .int (zi (J 11)), .int (zi (J 12)), .int (zi (J 13)), .ref (maO 4), .ref (maO 5), .int (zi e), .ref (maO 6), .ref (maO 7), .ref (maO 8), .ref (maO 9), .int (zi (J 21)), .ref (maO 10), .ref (maO 11), .ref (maO 12), .ref (maO 13), .int (zi (J 26)), .ref (maO 14)])) i = mg σ J G i from if_neg (by omega), mg_off h]
  · obtain rfl | rfl | rfl | rfl | rfl | rfl | rfl | rfl | rfl | rfl | rfl | rfl | rfl | rfl | rfl | rfl : i = 22 ∨ i = 23 ∨ i = 24 ∨ i = 25 ∨ i = 26 ∨ i = 27 ∨ i = 28 ∨ i = 29 ∨ i = 30 ∨ i = 31 ∨ i = 32 ∨ i = 33 ∨ i = 34 ∨ i = 35 ∨ i = 36 ∨ i = 37 := by omega
    all_goals rfl
theorem mg_put_21 (σ : Nat → ax_C) (J : Nat → Int) (G : Nat → Nat → Int) (e : Int) : va_up (mg σ J G) 22 (.inr (4, [.int (zi (J 0)), .int (zi (J 1)), .int (zi (J 2)), .int (zi (J 3)), .int (zi (J 4)), .int (zi (J 5)), .ref (maO 0), .int (zi (J 7)), .ref (maO 1), .ref (maO 2), .ref (maO 3), .int (zi (J 11)), .int (zi (J 12)), .int (zi (J 13)), .ref (maO 4), .ref (maO 5), .int (zi (J 16)), .ref (maO 6), .ref (maO 7), .ref (maO 8), .ref (maO 9), .int (zi e), .ref (maO 10), .ref (maO 11), .ref (maO 12), .ref (maO 13), .int (zi (J 26)), .ref (maO 14)])) = mg σ (va_up J 21 e) G := by
  funext i
  by_cases h : i < 22 ∨ 38 ≤ i
  · rw [mg_off h, show va_up (mg σ J G) 22 (.inr (4, [.int (zi (J 0)), .int (zi (J 1)), .int (zi (J 2)), .int (zi (J 3)), .int (zi (J 4)), .int (zi (J 5)), .ref (maO 0), .int (zi (J 7)), .ref (maO 1), .ref (maO 2), .ref (maO 3), .int (zi (J 11)), .int (zi (J 12)), .int (zi (J 13)), .ref (maO 4), .ref (maO 5), .int (zi (J 16)), .ref (maO 6), .ref (maO 7), .ref (maO 8), .ref (maO 9), .int (zi e), .ref (maO 10), .ref (maO 11), .ref (maO 12), .ref (maO 13), .int (zi (J 26)), .ref (maO 14)])) i = mg σ J G i from if_neg (by omega), mg_off h]
  · obtain rfl | rfl | rfl | rfl | rfl | rfl | rfl | rfl | rfl | rfl | rfl | rfl | rfl | rfl | rfl | rfl : i = 22 ∨ i = 23 ∨ i = 24 ∨ i = 25 ∨ i = 26 ∨ i = 27 ∨ i = 28 ∨ i = 29 ∨ i = 30 ∨ i = 31 ∨ i = 32 ∨ i = 33 ∨ i = 34 ∨ i = 35 ∨ i = 36 ∨ i = 37 := by omega
    all_goals rfl
theorem mg_put_26 (σ : Nat → ax_C) (J : Nat → Int) (G : Nat → Nat → Int) (e : Int) : va_up (mg σ J G) 22 (.inr (4, [.int (zi (J 0)), .int (zi (J 1)), .int (zi (J 2)), .int (zi (J 3)), .int (zi (J 4)), .int (zi (J 5)), .ref (maO 0), .int (zi (J 7)), .ref (maO 1), .ref (maO 2), .ref (maO 3), .int (zi (J 11)), .int (zi (J 12)), .int (zi (J 13)), .ref (maO 4), .ref (maO 5), .int (zi (J 16)), .ref (maO 6), .ref (maO 7), .ref (maO 8), .ref (maO 9), .int (zi (J 21)), .ref (maO 10), .ref (maO 11), .ref (maO 12), .ref (maO 13), .int (zi e), .ref (maO 14)])) = mg σ (va_up J 26 e) G := by
  funext i
  by_cases h : i < 22 ∨ 38 ≤ i
  · rw [mg_off h, show va_up (mg σ J G) 22 (.inr (4, [.int (zi (J 0)), .int (zi (J 1)), .int (zi (J 2)), .int (zi (J 3)), .int (zi (J 4)), .int (zi (J 5)), .ref (maO 0), .int (zi (J 7)), .ref (maO 1), .ref (maO 2), .ref (maO 3), .int (zi (J 11)), .int (zi (J 12)), .int (zi (J 13)), .ref (maO 4), .ref (maO 5), .int (zi (J 16)), .ref (maO 6), .ref (maO 7), .ref (maO 8), .ref (maO 9), .int (zi (J 21)), .ref (maO 10), .ref (maO 11), .ref (maO 12), .ref (maO 13), .int (zi e), .ref (maO 14)])) i = mg σ J G i from if_neg (by omega), mg_off h]
  · obtain rfl | rfl | rfl | rfl | rfl | rfl | rfl | rfl | rfl | rfl | rfl | rfl | rfl | rfl | rfl | rfl : i = 22 ∨ i = 23 ∨ i = 24 ∨ i = 25 ∨ i = 26 ∨ i = 27 ∨ i = 28 ∨ i = 29 ∨ i = 30 ∨ i = 31 ∨ i = 32 ∨ i = 33 ∨ i = 34 ∨ i = 35 ∨ i = 36 ∨ i = 37 := by omega
    all_goals rfl
theorem mg_arr_all (σ : Nat → ax_C) (J : Nat → Int) (G : Nat → Nat → Int) (f : Nat → Int) : va_up (mg σ J G) (maO 0) (.inl (false, 808, fun j => zi (f j))) = mg σ J (va_up G 0 f) := by
  funext i
  by_cases h : i < 22 ∨ 38 ≤ i
  · rw [mg_off h, show va_up (mg σ J G) (maO 0) (.inl (false, 808, fun j => zi (f j))) i = mg σ J G i from if_neg (by unfold maO; omega), mg_off h]
  · obtain rfl | rfl | rfl | rfl | rfl | rfl | rfl | rfl | rfl | rfl | rfl | rfl | rfl | rfl | rfl | rfl : i = 22 ∨ i = 23 ∨ i = 24 ∨ i = 25 ∨ i = 26 ∨ i = 27 ∨ i = 28 ∨ i = 29 ∨ i = 30 ∨ i = 31 ∨ i = 32 ∨ i = 33 ∨ i = 34 ∨ i = 35 ∨ i = 36 ∨ i = 37 := by omega
    all_goals rfl
theorem mg_arr_barred (σ : Nat → ax_C) (J : Nat → Int) (G : Nat → Nat → Int) (f : Nat → Int) : va_up (mg σ J G) (maO 1) (.inl (true, 100, fun j => zi (f j))) = mg σ J (va_up G 1 f) := by
  funext i
  by_cases h : i < 22 ∨ 38 ≤ i
  · rw [mg_off h, show va_up (mg σ J G) (maO 1) (.inl (true, 100, fun j => zi (f j))) i = mg σ J G i from if_neg (by unfold maO; omega), mg_off h]
  · obtain rfl | rfl | rfl | rfl | rfl | rfl | rfl | rfl | rfl | rfl | rfl | rfl | rfl | rfl | rfl | rfl : i = 22 ∨ i = 23 ∨ i = 24 ∨ i = 25 ∨ i = 26 ∨ i = 27 ∨ i = 28 ∨ i = 29 ∨ i = 30 ∨ i = 31 ∨ i = 32 ∨ i = 33 ∨ i = 34 ∨ i = 35 ∨ i = 36 ∨ i = 37 := by omega
    all_goals rfl
theorem mg_arr_removed (σ : Nat → ax_C) (J : Nat → Int) (G : Nat → Nat → Int) (f : Nat → Int) : va_up (mg σ J G) (maO 2) (.inl (true, 100, fun j => zi (f j))) = mg σ J (va_up G 2 f) := by
  funext i
  by_cases h : i < 22 ∨ 38 ≤ i
  · rw [mg_off h, show va_up (mg σ J G) (maO 2) (.inl (true, 100, fun j => zi (f j))) i = mg σ J G i from if_neg (by unfold maO; omega), mg_off h]
  · obtain rfl | rfl | rfl | rfl | rfl | rfl | rfl | rfl | rfl | rfl | rfl | rfl | rfl | rfl | rfl | rfl : i = 22 ∨ i = 23 ∨ i = 24 ∨ i = 25 ∨ i = 26 ∨ i = 27 ∨ i = 28 ∨ i = 29 ∨ i = 30 ∨ i = 31 ∨ i = 32 ∨ i = 33 ∨ i = 34 ∨ i = 35 ∨ i = 36 ∨ i = 37 := by omega
    all_goals rfl
theorem mg_arr_told (σ : Nat → ax_C) (J : Nat → Int) (G : Nat → Nat → Int) (f : Nat → Int) : va_up (mg σ J G) (maO 3) (.inl (false, 100, fun j => zi (f j))) = mg σ J (va_up G 3 f) := by
  funext i
  by_cases h : i < 22 ∨ 38 ≤ i
  · rw [mg_off h, show va_up (mg σ J G) (maO 3) (.inl (false, 100, fun j => zi (f j))) i = mg σ J G i from if_neg (by unfold maO; omega), mg_off h]
  · obtain rfl | rfl | rfl | rfl | rfl | rfl | rfl | rfl | rfl | rfl | rfl | rfl | rfl | rfl | rfl | rfl : i = 22 ∨ i = 23 ∨ i = 24 ∨ i = 25 ∨ i = 26 ∨ i = 27 ∨ i = 28 ∨ i = 29 ∨ i = 30 ∨ i = 31 ∨ i = 32 ∨ i = 33 ∨ i = 34 ∨ i = 35 ∨ i = 36 ∨ i = 37 := by omega
    all_goals rfl
theorem mg_arr_levels (σ : Nat → ax_C) (J : Nat → Int) (G : Nat → Nat → Int) (f : Nat → Int) : va_up (mg σ J G) (maO 4) (.inl (false, 100, fun j => zi (f j))) = mg σ J (va_up G 4 f) := by
  funext i
  by_cases h : i < 22 ∨ 38 ≤ i
  · rw [mg_off h, show va_up (mg σ J G) (maO 4) (.inl (false, 100, fun j => zi (f j))) i = mg σ J G i from if_neg (by unfold maO; omega), mg_off h]
  · obtain rfl | rfl | rfl | rfl | rfl | rfl | rfl | rfl | rfl | rfl | rfl | rfl | rfl | rfl | rfl | rfl : i = 22 ∨ i = 23 ∨ i = 24 ∨ i = 25 ∨ i = 26 ∨ i = 27 ∨ i = 28 ∨ i = 29 ∨ i = 30 ∨ i = 31 ∨ i = 32 ∨ i = 33 ∨ i = 34 ∨ i = 35 ∨ i = 36 ∨ i = 37 := by omega
    all_goals rfl
theorem mg_arr_near (σ : Nat → ax_C) (J : Nat → Int) (G : Nat → Nat → Int) (f : Nat → Int) : va_up (mg σ J G) (maO 5) (.inl (true, 50000, fun j => zi (f j))) = mg σ J (va_up G 5 f) := by
  funext i
  by_cases h : i < 22 ∨ 38 ≤ i
  · rw [mg_off h, show va_up (mg σ J G) (maO 5) (.inl (true, 50000, fun j => zi (f j))) i = mg σ J G i from if_neg (by unfold maO; omega), mg_off h]
  · obtain rfl | rfl | rfl | rfl | rfl | rfl | rfl | rfl | rfl | rfl | rfl | rfl | rfl | rfl | rfl | rfl : i = 22 ∨ i = 23 ∨ i = 24 ∨ i = 25 ∨ i = 26 ∨ i = 27 ∨ i = 28 ∨ i = 29 ∨ i = 30 ∨ i = 31 ∨ i = 32 ∨ i = 33 ∨ i = 34 ∨ i = 35 ∨ i = 36 ∨ i = 37 := by omega
    all_goals rfl
theorem mg_arr_fars (σ : Nat → ax_C) (J : Nat → Int) (G : Nat → Nat → Int) (f : Nat → Int) : va_up (mg σ J G) (maO 6) (.inl (false, 10100, fun j => zi (f j))) = mg σ J (va_up G 6 f) := by
  funext i
  by_cases h : i < 22 ∨ 38 ≤ i
  · rw [mg_off h, show va_up (mg σ J G) (maO 6) (.inl (false, 10100, fun j => zi (f j))) i = mg σ J G i from if_neg (by unfold maO; omega), mg_off h]
  · obtain rfl | rfl | rfl | rfl | rfl | rfl | rfl | rfl | rfl | rfl | rfl | rfl | rfl | rfl | rfl | rfl : i = 22 ∨ i = 23 ∨ i = 24 ∨ i = 25 ∨ i = 26 ∨ i = 27 ∨ i = 28 ∨ i = 29 ∨ i = 30 ∨ i = 31 ∨ i = 32 ∨ i = 33 ∨ i = 34 ∨ i = 35 ∨ i = 36 ∨ i = 37 := by omega
    all_goals rfl
theorem mg_arr_met (σ : Nat → ax_C) (J : Nat → Int) (G : Nat → Nat → Int) (f : Nat → Int) : va_up (mg σ J G) (maO 7) (.inl (true, 100, fun j => zi (f j))) = mg σ J (va_up G 7 f) := by
  funext i
  by_cases h : i < 22 ∨ 38 ≤ i
  · rw [mg_off h, show va_up (mg σ J G) (maO 7) (.inl (true, 100, fun j => zi (f j))) i = mg σ J G i from if_neg (by unfold maO; omega), mg_off h]
  · obtain rfl | rfl | rfl | rfl | rfl | rfl | rfl | rfl | rfl | rfl | rfl | rfl | rfl | rfl | rfl | rfl : i = 22 ∨ i = 23 ∨ i = 24 ∨ i = 25 ∨ i = 26 ∨ i = 27 ∨ i = 28 ∨ i = 29 ∨ i = 30 ∨ i = 31 ∨ i = 32 ∨ i = 33 ∨ i = 34 ∨ i = 35 ∨ i = 36 ∨ i = 37 := by omega
    all_goals rfl
theorem mg_arr_open (σ : Nat → ax_C) (J : Nat → Int) (G : Nat → Nat → Int) (f : Nat → Int) : va_up (mg σ J G) (maO 8) (.inl (true, 100, fun j => zi (f j))) = mg σ J (va_up G 8 f) := by
  funext i
  by_cases h : i < 22 ∨ 38 ≤ i
  · rw [mg_off h, show va_up (mg σ J G) (maO 8) (.inl (true, 100, fun j => zi (f j))) i = mg σ J G i from if_neg (by unfold maO; omega), mg_off h]
  · obtain rfl | rfl | rfl | rfl | rfl | rfl | rfl | rfl | rfl | rfl | rfl | rfl | rfl | rfl | rfl | rfl : i = 22 ∨ i = 23 ∨ i = 24 ∨ i = 25 ∨ i = 26 ∨ i = 27 ∨ i = 28 ∨ i = 29 ∨ i = 30 ∨ i = 31 ∨ i = 32 ∨ i = 33 ∨ i = 34 ∨ i = 35 ∨ i = 36 ∨ i = 37 := by omega
    all_goals rfl
theorem mg_arr_found (σ : Nat → ax_C) (J : Nat → Int) (G : Nat → Nat → Int) (f : Nat → Int) : va_up (mg σ J G) (maO 9) (.inl (true, 100, fun j => zi (f j))) = mg σ J (va_up G 9 f) := by
  funext i
  by_cases h : i < 22 ∨ 38 ≤ i
  · rw [mg_off h, show va_up (mg σ J G) (maO 9) (.inl (true, 100, fun j => zi (f j))) i = mg σ J G i from if_neg (by unfold maO; omega), mg_off h]
  · obtain rfl | rfl | rfl | rfl | rfl | rfl | rfl | rfl | rfl | rfl | rfl | rfl | rfl | rfl | rfl | rfl : i = 22 ∨ i = 23 ∨ i = 24 ∨ i = 25 ∨ i = 26 ∨ i = 27 ∨ i = 28 ∨ i = 29 ∨ i = 30 ∨ i = 31 ∨ i = 32 ∨ i = 33 ∨ i = 34 ∨ i = 35 ∨ i = 36 ∨ i = 37 := by omega
    all_goals rfl
theorem mg_arr_pool (σ : Nat → ax_C) (J : Nat → Int) (G : Nat → Nat → Int) (f : Nat → Int) : va_up (mg σ J G) (maO 10) (.inl (true, 100, fun j => zi (f j))) = mg σ J (va_up G 10 f) := by
  funext i
  by_cases h : i < 22 ∨ 38 ≤ i
  · rw [mg_off h, show va_up (mg σ J G) (maO 10) (.inl (true, 100, fun j => zi (f j))) i = mg σ J G i from if_neg (by unfold maO; omega), mg_off h]
  · obtain rfl | rfl | rfl | rfl | rfl | rfl | rfl | rfl | rfl | rfl | rfl | rfl | rfl | rfl | rfl | rfl : i = 22 ∨ i = 23 ∨ i = 24 ∨ i = 25 ∨ i = 26 ∨ i = 27 ∨ i = 28 ∨ i = 29 ∨ i = 30 ∨ i = 31 ∨ i = 32 ∨ i = 33 ∨ i = 34 ∨ i = 35 ∨ i = 36 ∨ i = 37 := by omega
    all_goals rfl
theorem mg_arr_chosen (σ : Nat → ax_C) (J : Nat → Int) (G : Nat → Nat → Int) (f : Nat → Int) : va_up (mg σ J G) (maO 11) (.inl (true, 100, fun j => zi (f j))) = mg σ J (va_up G 11 f) := by
  funext i
  by_cases h : i < 22 ∨ 38 ≤ i
  · rw [mg_off h, show va_up (mg σ J G) (maO 11) (.inl (true, 100, fun j => zi (f j))) i = mg σ J G i from if_neg (by unfold maO; omega), mg_off h]
  · obtain rfl | rfl | rfl | rfl | rfl | rfl | rfl | rfl | rfl | rfl | rfl | rfl | rfl | rfl | rfl | rfl : i = 22 ∨ i = 23 ∨ i = 24 ∨ i = 25 ∨ i = 26 ∨ i = 27 ∨ i = 28 ∨ i = 29 ∨ i = 30 ∨ i = 31 ∨ i = 32 ∨ i = 33 ∨ i = 34 ∨ i = 35 ∨ i = 36 ∨ i = 37 := by omega
    all_goals rfl
theorem mg_arr_those (σ : Nat → ax_C) (J : Nat → Int) (G : Nat → Nat → Int) (f : Nat → Int) : va_up (mg σ J G) (maO 12) (.inl (true, 100, fun j => zi (f j))) = mg σ J (va_up G 12 f) := by
  funext i
  by_cases h : i < 22 ∨ 38 ≤ i
  · rw [mg_off h, show va_up (mg σ J G) (maO 12) (.inl (true, 100, fun j => zi (f j))) i = mg σ J G i from if_neg (by unfold maO; omega), mg_off h]
  · obtain rfl | rfl | rfl | rfl | rfl | rfl | rfl | rfl | rfl | rfl | rfl | rfl | rfl | rfl | rfl | rfl : i = 22 ∨ i = 23 ∨ i = 24 ∨ i = 25 ∨ i = 26 ∨ i = 27 ∨ i = 28 ∨ i = 29 ∨ i = 30 ∨ i = 31 ∨ i = 32 ∨ i = 33 ∨ i = 34 ∨ i = 35 ∨ i = 36 ∨ i = 37 := by omega
    all_goals rfl
theorem mg_arr_row (σ : Nat → ax_C) (J : Nat → Int) (G : Nat → Nat → Int) (f : Nat → Int) : va_up (mg σ J G) (maO 13) (.inl (false, 100, fun j => zi (f j))) = mg σ J (va_up G 13 f) := by
  funext i
  by_cases h : i < 22 ∨ 38 ≤ i
  · rw [mg_off h, show va_up (mg σ J G) (maO 13) (.inl (false, 100, fun j => zi (f j))) i = mg σ J G i from if_neg (by unfold maO; omega), mg_off h]
  · obtain rfl | rfl | rfl | rfl | rfl | rfl | rfl | rfl | rfl | rfl | rfl | rfl | rfl | rfl | rfl | rfl : i = 22 ∨ i = 23 ∨ i = 24 ∨ i = 25 ∨ i = 26 ∨ i = 27 ∨ i = 28 ∨ i = 29 ∨ i = 30 ∨ i = 31 ∨ i = 32 ∨ i = 33 ∨ i = 34 ∨ i = 35 ∨ i = 36 ∨ i = 37 := by omega
    all_goals rfl
theorem mg_arr_byGraph (σ : Nat → ax_C) (J : Nat → Int) (G : Nat → Nat → Int) (f : Nat → Int) : va_up (mg σ J G) (maO 14) (.inl (true, 100, fun j => zi (f j))) = mg σ J (va_up G 14 f) := by
  funext i
  by_cases h : i < 22 ∨ 38 ≤ i
  · rw [mg_off h, show va_up (mg σ J G) (maO 14) (.inl (true, 100, fun j => zi (f j))) i = mg σ J G i from if_neg (by unfold maO; omega), mg_off h]
  · obtain rfl | rfl | rfl | rfl | rfl | rfl | rfl | rfl | rfl | rfl | rfl | rfl | rfl | rfl | rfl | rfl : i = 22 ∨ i = 23 ∨ i = 24 ∨ i = 25 ∨ i = 26 ∨ i = 27 ∨ i = 28 ∨ i = 29 ∨ i = 30 ∨ i = 31 ∨ i = 32 ∨ i = 33 ∨ i = 34 ∨ i = 35 ∨ i = 36 ∨ i = 37 := by omega
    all_goals rfl
theorem yg_thrown {sc : ax_S} {k pc q idx : Nat} {ls : List (Option Value)} {st : List Value} {σ : Nat → ax_C} {J : Nat → Int} {G : Nat → Nat → Int} {n bc bs : Nat} {K : ax_K} (hn : 38 ≤ n) (g0 : decode (g_m k).2.1 pc = .ok (.getfield idx, 3)) (g1 : pc + 3 = q) (g2 : ax_fld (g_m k).1.cls idx 4 0) (p0 : Ex sc k q ls (.int (zi (J 0)) :: st) (mg σ J G, n, bc, bs) K) : Ex sc k pc ls (.ref 22 :: st) (mg σ J G, n, bc, bs) K := x_get (h := (mg σ J G, n, bc, bs)) (o := 22) g0 g1 g2 (show 22 < n by omega) rfl rfl p0
theorem yp_thrown {sc : ax_S} {k pc q idx : Nat} {ls : List (Option Value)} {st : List Value} {σ : Nat → ax_C} {J : Nat → Int} {G : Nat → Nat → Int} {n bc bs : Nat} {K : ax_K} {e : Int} (hn : 38 ≤ n) (g0 : decode (g_m k).2.1 pc = .ok (.putfield idx, 3)) (g1 : pc + 3 = q) (g2 : ax_fldW (g_m k).1.cls idx 4 0 .int false) (p0 : Ex sc k q ls st (mg σ (va_up J 0 e) G, n, bc, bs) K) : Ex sc k pc ls (.int (zi e) :: .ref 22 :: st) (mg σ J G, n, bc, bs) K := by
  refine x_put (h := (mg σ J G, n, bc, bs)) (o := 22) (ci := 4) (j := 0) (ty := .int) g0 g1 g2 (show 22 < n by omega) rfl (Nat.le_of_ble_eq_true rfl) rfl rfl ?_
  rw [← mg_put_0] at p0
  exact p0
theorem yg_parts {sc : ax_S} {k pc q idx : Nat} {ls : List (Option Value)} {st : List Value} {σ : Nat → ax_C} {J : Nat → Int} {G : Nat → Nat → Int} {n bc bs : Nat} {K : ax_K} (hn : 38 ≤ n) (g0 : decode (g_m k).2.1 pc = .ok (.getfield idx, 3)) (g1 : pc + 3 = q) (g2 : ax_fld (g_m k).1.cls idx 4 1) (p0 : Ex sc k q ls (.int (zi (J 1)) :: st) (mg σ J G, n, bc, bs) K) : Ex sc k pc ls (.ref 22 :: st) (mg σ J G, n, bc, bs) K := x_get (h := (mg σ J G, n, bc, bs)) (o := 22) g0 g1 g2 (show 22 < n by omega) rfl rfl p0
theorem yg_seed {sc : ax_S} {k pc q idx : Nat} {ls : List (Option Value)} {st : List Value} {σ : Nat → ax_C} {J : Nat → Int} {G : Nat → Nat → Int} {n bc bs : Nat} {K : ax_K} (hn : 38 ≤ n) (g0 : decode (g_m k).2.1 pc = .ok (.getfield idx, 3)) (g1 : pc + 3 = q) (g2 : ax_fld (g_m k).1.cls idx 4 2) (p0 : Ex sc k q ls (.int (zi (J 2)) :: st) (mg σ J G, n, bc, bs) K) : Ex sc k pc ls (.ref 22 :: st) (mg σ J G, n, bc, bs) K := x_get (h := (mg σ J G, n, bc, bs)) (o := 22) g0 g1 g2 (show 22 < n by omega) rfl rfl p0
theorem yg_measure {sc : ax_S} {k pc q idx : Nat} {ls : List (Option Value)} {st : List Value} {σ : Nat → ax_C} {J : Nat → Int} {G : Nat → Nat → Int} {n bc bs : Nat} {K : ax_K} (hn : 38 ≤ n) (g0 : decode (g_m k).2.1 pc = .ok (.getfield idx, 3)) (g1 : pc + 3 = q) (g2 : ax_fld (g_m k).1.cls idx 4 3) (p0 : Ex sc k q ls (.int (zi (J 3)) :: st) (mg σ J G, n, bc, bs) K) : Ex sc k pc ls (.ref 22 :: st) (mg σ J G, n, bc, bs) K := x_get (h := (mg σ J G, n, bc, bs)) (o := 22) g0 g1 g2 (show 22 < n by omega) rfl rfl p0
theorem yp_measure {sc : ax_S} {k pc q idx : Nat} {ls : List (Option Value)} {st : List Value} {σ : Nat → ax_C} {J : Nat → Int} {G : Nat → Nat → Int} {n bc bs : Nat} {K : ax_K} {e : Int} (hn : 38 ≤ n) (g0 : decode (g_m k).2.1 pc = .ok (.putfield idx, 3)) (g1 : pc + 3 = q) (g2 : ax_fldW (g_m k).1.cls idx 4 3 .int false) (p0 : Ex sc k q ls st (mg σ (va_up J 3 e) G, n, bc, bs) K) : Ex sc k pc ls (.int (zi e) :: .ref 22 :: st) (mg σ J G, n, bc, bs) K := by
  refine x_put (h := (mg σ J G, n, bc, bs)) (o := 22) (ci := 4) (j := 3) (ty := .int) g0 g1 g2 (show 22 < n by omega) rfl (Nat.le_of_ble_eq_true rfl) rfl rfl ?_
  rw [← mg_put_3] at p0
  exact p0
theorem yg_width {sc : ax_S} {k pc q idx : Nat} {ls : List (Option Value)} {st : List Value} {σ : Nat → ax_C} {J : Nat → Int} {G : Nat → Nat → Int} {n bc bs : Nat} {K : ax_K} (hn : 38 ≤ n) (g0 : decode (g_m k).2.1 pc = .ok (.getfield idx, 3)) (g1 : pc + 3 = q) (g2 : ax_fld (g_m k).1.cls idx 4 4) (p0 : Ex sc k q ls (.int (zi (J 4)) :: st) (mg σ J G, n, bc, bs) K) : Ex sc k pc ls (.ref 22 :: st) (mg σ J G, n, bc, bs) K := x_get (h := (mg σ J G, n, bc, bs)) (o := 22) g0 g1 g2 (show 22 < n by omega) rfl rfl p0
theorem yp_width {sc : ax_S} {k pc q idx : Nat} {ls : List (Option Value)} {st : List Value} {σ : Nat → ax_C} {J : Nat → Int} {G : Nat → Nat → Int} {n bc bs : Nat} {K : ax_K} {e : Int} (hn : 38 ≤ n) (g0 : decode (g_m k).2.1 pc = .ok (.putfield idx, 3)) (g1 : pc + 3 = q) (g2 : ax_fldW (g_m k).1.cls idx 4 4 .int false) (p0 : Ex sc k q ls st (mg σ (va_up J 4 e) G, n, bc, bs) K) : Ex sc k pc ls (.int (zi e) :: .ref 22 :: st) (mg σ J G, n, bc, bs) K := by
  refine x_put (h := (mg σ J G, n, bc, bs)) (o := 22) (ci := 4) (j := 4) (ty := .int) g0 g1 g2 (show 22 < n by omega) rfl (Nat.le_of_ble_eq_true rfl) rfl rfl ?_
  rw [← mg_put_4] at p0
  exact p0
theorem yg_careful {sc : ax_S} {k pc q idx : Nat} {ls : List (Option Value)} {st : List Value} {σ : Nat → ax_C} {J : Nat → Int} {G : Nat → Nat → Int} {n bc bs : Nat} {K : ax_K} (hn : 38 ≤ n) (g0 : decode (g_m k).2.1 pc = .ok (.getfield idx, 3)) (g1 : pc + 3 = q) (g2 : ax_fld (g_m k).1.cls idx 4 5) (p0 : Ex sc k q ls (.int (zi (J 5)) :: st) (mg σ J G, n, bc, bs) K) : Ex sc k pc ls (.ref 22 :: st) (mg σ J G, n, bc, bs) K := x_get (h := (mg σ J G, n, bc, bs)) (o := 22) g0 g1 g2 (show 22 < n by omega) rfl rfl p0
theorem yp_careful {sc : ax_S} {k pc q idx : Nat} {ls : List (Option Value)} {st : List Value} {σ : Nat → ax_C} {J : Nat → Int} {G : Nat → Nat → Int} {n bc bs : Nat} {K : ax_K} {e : Int} (hn : 38 ≤ n) (g0 : decode (g_m k).2.1 pc = .ok (.putfield idx, 3)) (g1 : pc + 3 = q) (g2 : ax_fldW (g_m k).1.cls idx 4 5 .int false) (p0 : Ex sc k q ls st (mg σ (va_up J 5 e) G, n, bc, bs) K) : Ex sc k pc ls (.int (zi e) :: .ref 22 :: st) (mg σ J G, n, bc, bs) K := by
  refine x_put (h := (mg σ J G, n, bc, bs)) (o := 22) (ci := 4) (j := 5) (ty := .int) g0 g1 g2 (show 22 < n by omega) rfl (Nat.le_of_ble_eq_true rfl) rfl rfl ?_
  rw [← mg_put_5] at p0
  exact p0
theorem yg_all {sc : ax_S} {k pc q idx : Nat} {ls : List (Option Value)} {st : List Value} {σ : Nat → ax_C} {J : Nat → Int} {G : Nat → Nat → Int} {n bc bs : Nat} {K : ax_K} (hn : 38 ≤ n) (g0 : decode (g_m k).2.1 pc = .ok (.getfield idx, 3)) (g1 : pc + 3 = q) (g2 : ax_fld (g_m k).1.cls idx 4 6) (p0 : Ex sc k q ls (.ref (maO 0) :: st) (mg σ J G, n, bc, bs) K) : Ex sc k pc ls (.ref 22 :: st) (mg σ J G, n, bc, bs) K := x_get (h := (mg σ J G, n, bc, bs)) (o := 22) g0 g1 g2 (show 22 < n by omega) rfl rfl p0
theorem yg_count {sc : ax_S} {k pc q idx : Nat} {ls : List (Option Value)} {st : List Value} {σ : Nat → ax_C} {J : Nat → Int} {G : Nat → Nat → Int} {n bc bs : Nat} {K : ax_K} (hn : 38 ≤ n) (g0 : decode (g_m k).2.1 pc = .ok (.getfield idx, 3)) (g1 : pc + 3 = q) (g2 : ax_fld (g_m k).1.cls idx 4 7) (p0 : Ex sc k q ls (.int (zi (J 7)) :: st) (mg σ J G, n, bc, bs) K) : Ex sc k pc ls (.ref 22 :: st) (mg σ J G, n, bc, bs) K := x_get (h := (mg σ J G, n, bc, bs)) (o := 22) g0 g1 g2 (show 22 < n by omega) rfl rfl p0
theorem yp_count {sc : ax_S} {k pc q idx : Nat} {ls : List (Option Value)} {st : List Value} {σ : Nat → ax_C} {J : Nat → Int} {G : Nat → Nat → Int} {n bc bs : Nat} {K : ax_K} {e : Int} (hn : 38 ≤ n) (g0 : decode (g_m k).2.1 pc = .ok (.putfield idx, 3)) (g1 : pc + 3 = q) (g2 : ax_fldW (g_m k).1.cls idx 4 7 .int false) (p0 : Ex sc k q ls st (mg σ (va_up J 7 e) G, n, bc, bs) K) : Ex sc k pc ls (.int (zi e) :: .ref 22 :: st) (mg σ J G, n, bc, bs) K := by
  refine x_put (h := (mg σ J G, n, bc, bs)) (o := 22) (ci := 4) (j := 7) (ty := .int) g0 g1 g2 (show 22 < n by omega) rfl (Nat.le_of_ble_eq_true rfl) rfl rfl ?_
  rw [← mg_put_7] at p0
  exact p0
theorem yg_barred {sc : ax_S} {k pc q idx : Nat} {ls : List (Option Value)} {st : List Value} {σ : Nat → ax_C} {J : Nat → Int} {G : Nat → Nat → Int} {n bc bs : Nat} {K : ax_K} (hn : 38 ≤ n) (g0 : decode (g_m k).2.1 pc = .ok (.getfield idx, 3)) (g1 : pc + 3 = q) (g2 : ax_fld (g_m k).1.cls idx 4 8) (p0 : Ex sc k q ls (.ref (maO 1) :: st) (mg σ J G, n, bc, bs) K) : Ex sc k pc ls (.ref 22 :: st) (mg σ J G, n, bc, bs) K := x_get (h := (mg σ J G, n, bc, bs)) (o := 22) g0 g1 g2 (show 22 < n by omega) rfl rfl p0
theorem yg_removed {sc : ax_S} {k pc q idx : Nat} {ls : List (Option Value)} {st : List Value} {σ : Nat → ax_C} {J : Nat → Int} {G : Nat → Nat → Int} {n bc bs : Nat} {K : ax_K} (hn : 38 ≤ n) (g0 : decode (g_m k).2.1 pc = .ok (.getfield idx, 3)) (g1 : pc + 3 = q) (g2 : ax_fld (g_m k).1.cls idx 4 9) (p0 : Ex sc k q ls (.ref (maO 2) :: st) (mg σ J G, n, bc, bs) K) : Ex sc k pc ls (.ref 22 :: st) (mg σ J G, n, bc, bs) K := x_get (h := (mg σ J G, n, bc, bs)) (o := 22) g0 g1 g2 (show 22 < n by omega) rfl rfl p0
theorem yg_told {sc : ax_S} {k pc q idx : Nat} {ls : List (Option Value)} {st : List Value} {σ : Nat → ax_C} {J : Nat → Int} {G : Nat → Nat → Int} {n bc bs : Nat} {K : ax_K} (hn : 38 ≤ n) (g0 : decode (g_m k).2.1 pc = .ok (.getfield idx, 3)) (g1 : pc + 3 = q) (g2 : ax_fld (g_m k).1.cls idx 4 10) (p0 : Ex sc k q ls (.ref (maO 3) :: st) (mg σ J G, n, bc, bs) K) : Ex sc k pc ls (.ref 22 :: st) (mg σ J G, n, bc, bs) K := x_get (h := (mg σ J G, n, bc, bs)) (o := 22) g0 g1 g2 (show 22 < n by omega) rfl rfl p0
theorem yg_toldCount {sc : ax_S} {k pc q idx : Nat} {ls : List (Option Value)} {st : List Value} {σ : Nat → ax_C} {J : Nat → Int} {G : Nat → Nat → Int} {n bc bs : Nat} {K : ax_K} (hn : 38 ≤ n) (g0 : decode (g_m k).2.1 pc = .ok (.getfield idx, 3)) (g1 : pc + 3 = q) (g2 : ax_fld (g_m k).1.cls idx 4 11) (p0 : Ex sc k q ls (.int (zi (J 11)) :: st) (mg σ J G, n, bc, bs) K) : Ex sc k pc ls (.ref 22 :: st) (mg σ J G, n, bc, bs) K := x_get (h := (mg σ J G, n, bc, bs)) (o := 22) g0 g1 g2 (show 22 < n by omega) rfl rfl p0
theorem yp_toldCount {sc : ax_S} {k pc q idx : Nat} {ls : List (Option Value)} {st : List Value} {σ : Nat → ax_C} {J : Nat → Int} {G : Nat → Nat → Int} {n bc bs : Nat} {K : ax_K} {e : Int} (hn : 38 ≤ n) (g0 : decode (g_m k).2.1 pc = .ok (.putfield idx, 3)) (g1 : pc + 3 = q) (g2 : ax_fldW (g_m k).1.cls idx 4 11 .int false) (p0 : Ex sc k q ls st (mg σ (va_up J 11 e) G, n, bc, bs) K) : Ex sc k pc ls (.int (zi e) :: .ref 22 :: st) (mg σ J G, n, bc, bs) K := by
  refine x_put (h := (mg σ J G, n, bc, bs)) (o := 22) (ci := 4) (j := 11) (ty := .int) g0 g1 g2 (show 22 < n by omega) rfl (Nat.le_of_ble_eq_true rfl) rfl rfl ?_
  rw [← mg_put_11] at p0
  exact p0
theorem yg_stepCount {sc : ax_S} {k pc q idx : Nat} {ls : List (Option Value)} {st : List Value} {σ : Nat → ax_C} {J : Nat → Int} {G : Nat → Nat → Int} {n bc bs : Nat} {K : ax_K} (hn : 38 ≤ n) (g0 : decode (g_m k).2.1 pc = .ok (.getfield idx, 3)) (g1 : pc + 3 = q) (g2 : ax_fld (g_m k).1.cls idx 4 12) (p0 : Ex sc k q ls (.int (zi (J 12)) :: st) (mg σ J G, n, bc, bs) K) : Ex sc k pc ls (.ref 22 :: st) (mg σ J G, n, bc, bs) K := x_get (h := (mg σ J G, n, bc, bs)) (o := 22) g0 g1 g2 (show 22 < n by omega) rfl rfl p0
theorem yp_stepCount {sc : ax_S} {k pc q idx : Nat} {ls : List (Option Value)} {st : List Value} {σ : Nat → ax_C} {J : Nat → Int} {G : Nat → Nat → Int} {n bc bs : Nat} {K : ax_K} {e : Int} (hn : 38 ≤ n) (g0 : decode (g_m k).2.1 pc = .ok (.putfield idx, 3)) (g1 : pc + 3 = q) (g2 : ax_fldW (g_m k).1.cls idx 4 12 .int false) (p0 : Ex sc k q ls st (mg σ (va_up J 12 e) G, n, bc, bs) K) : Ex sc k pc ls (.int (zi e) :: .ref 22 :: st) (mg σ J G, n, bc, bs) K := by
  refine x_put (h := (mg σ J G, n, bc, bs)) (o := 22) (ci := 4) (j := 12) (ty := .int) g0 g1 g2 (show 22 < n by omega) rfl (Nat.le_of_ble_eq_true rfl) rfl rfl ?_
  rw [← mg_put_12] at p0
  exact p0
theorem yg_stale {sc : ax_S} {k pc q idx : Nat} {ls : List (Option Value)} {st : List Value} {σ : Nat → ax_C} {J : Nat → Int} {G : Nat → Nat → Int} {n bc bs : Nat} {K : ax_K} (hn : 38 ≤ n) (g0 : decode (g_m k).2.1 pc = .ok (.getfield idx, 3)) (g1 : pc + 3 = q) (g2 : ax_fld (g_m k).1.cls idx 4 13) (p0 : Ex sc k q ls (.int (zi (J 13)) :: st) (mg σ J G, n, bc, bs) K) : Ex sc k pc ls (.ref 22 :: st) (mg σ J G, n, bc, bs) K := x_get (h := (mg σ J G, n, bc, bs)) (o := 22) g0 g1 g2 (show 22 < n by omega) rfl rfl p0
theorem yp_stale {sc : ax_S} {k pc q idx : Nat} {ls : List (Option Value)} {st : List Value} {σ : Nat → ax_C} {J : Nat → Int} {G : Nat → Nat → Int} {n bc bs : Nat} {K : ax_K} {e : Int} (hn : 38 ≤ n) (hb : e = 0 ∨ e = 1) (g0 : decode (g_m k).2.1 pc = .ok (.putfield idx, 3)) (g1 : pc + 3 = q) (g2 : ax_fldW (g_m k).1.cls idx 4 13 .boolean false) (p0 : Ex sc k q ls st (mg σ (va_up J 13 e) G, n, bc, bs) K) : Ex sc k pc ls (.int (zi e) :: .ref 22 :: st) (mg σ J G, n, bc, bs) K := by
  refine x_put (h := (mg σ J G, n, bc, bs)) (o := 22) (ci := 4) (j := 13) (ty := .boolean) g0 g1 g2 (show 22 < n by omega) rfl (Nat.le_of_ble_eq_true rfl) (zi_narB hb) (zi_fitB hb) ?_
  rw [← mg_put_13] at p0
  exact p0
theorem yg_levels {sc : ax_S} {k pc q idx : Nat} {ls : List (Option Value)} {st : List Value} {σ : Nat → ax_C} {J : Nat → Int} {G : Nat → Nat → Int} {n bc bs : Nat} {K : ax_K} (hn : 38 ≤ n) (g0 : decode (g_m k).2.1 pc = .ok (.getfield idx, 3)) (g1 : pc + 3 = q) (g2 : ax_fld (g_m k).1.cls idx 4 14) (p0 : Ex sc k q ls (.ref (maO 4) :: st) (mg σ J G, n, bc, bs) K) : Ex sc k pc ls (.ref 22 :: st) (mg σ J G, n, bc, bs) K := x_get (h := (mg σ J G, n, bc, bs)) (o := 22) g0 g1 g2 (show 22 < n by omega) rfl rfl p0
theorem yg_near {sc : ax_S} {k pc q idx : Nat} {ls : List (Option Value)} {st : List Value} {σ : Nat → ax_C} {J : Nat → Int} {G : Nat → Nat → Int} {n bc bs : Nat} {K : ax_K} (hn : 38 ≤ n) (g0 : decode (g_m k).2.1 pc = .ok (.getfield idx, 3)) (g1 : pc + 3 = q) (g2 : ax_fld (g_m k).1.cls idx 4 15) (p0 : Ex sc k q ls (.ref (maO 5) :: st) (mg σ J G, n, bc, bs) K) : Ex sc k pc ls (.ref 22 :: st) (mg σ J G, n, bc, bs) K := x_get (h := (mg σ J G, n, bc, bs)) (o := 22) g0 g1 g2 (show 22 < n by omega) rfl rfl p0
theorem yg_entryOf {sc : ax_S} {k pc q idx : Nat} {ls : List (Option Value)} {st : List Value} {σ : Nat → ax_C} {J : Nat → Int} {G : Nat → Nat → Int} {n bc bs : Nat} {K : ax_K} (hn : 38 ≤ n) (g0 : decode (g_m k).2.1 pc = .ok (.getfield idx, 3)) (g1 : pc + 3 = q) (g2 : ax_fld (g_m k).1.cls idx 4 16) (p0 : Ex sc k q ls (.int (zi (J 16)) :: st) (mg σ J G, n, bc, bs) K) : Ex sc k pc ls (.ref 22 :: st) (mg σ J G, n, bc, bs) K := x_get (h := (mg σ J G, n, bc, bs)) (o := 22) g0 g1 g2 (show 22 < n by omega) rfl rfl p0
theorem yp_entryOf {sc : ax_S} {k pc q idx : Nat} {ls : List (Option Value)} {st : List Value} {σ : Nat → ax_C} {J : Nat → Int} {G : Nat → Nat → Int} {n bc bs : Nat} {K : ax_K} {e : Int} (hn : 38 ≤ n) (g0 : decode (g_m k).2.1 pc = .ok (.putfield idx, 3)) (g1 : pc + 3 = q) (g2 : ax_fldW (g_m k).1.cls idx 4 16 .int false) (p0 : Ex sc k q ls st (mg σ (va_up J 16 e) G, n, bc, bs) K) : Ex sc k pc ls (.int (zi e) :: .ref 22 :: st) (mg σ J G, n, bc, bs) K := by
  refine x_put (h := (mg σ J G, n, bc, bs)) (o := 22) (ci := 4) (j := 16) (ty := .int) g0 g1 g2 (show 22 < n by omega) rfl (Nat.le_of_ble_eq_true rfl) rfl rfl ?_
  rw [← mg_put_16] at p0
  exact p0
theorem yg_fars {sc : ax_S} {k pc q idx : Nat} {ls : List (Option Value)} {st : List Value} {σ : Nat → ax_C} {J : Nat → Int} {G : Nat → Nat → Int} {n bc bs : Nat} {K : ax_K} (hn : 38 ≤ n) (g0 : decode (g_m k).2.1 pc = .ok (.getfield idx, 3)) (g1 : pc + 3 = q) (g2 : ax_fld (g_m k).1.cls idx 4 17) (p0 : Ex sc k q ls (.ref (maO 6) :: st) (mg σ J G, n, bc, bs) K) : Ex sc k pc ls (.ref 22 :: st) (mg σ J G, n, bc, bs) K := x_get (h := (mg σ J G, n, bc, bs)) (o := 22) g0 g1 g2 (show 22 < n by omega) rfl rfl p0
theorem yg_met {sc : ax_S} {k pc q idx : Nat} {ls : List (Option Value)} {st : List Value} {σ : Nat → ax_C} {J : Nat → Int} {G : Nat → Nat → Int} {n bc bs : Nat} {K : ax_K} (hn : 38 ≤ n) (g0 : decode (g_m k).2.1 pc = .ok (.getfield idx, 3)) (g1 : pc + 3 = q) (g2 : ax_fld (g_m k).1.cls idx 4 18) (p0 : Ex sc k q ls (.ref (maO 7) :: st) (mg σ J G, n, bc, bs) K) : Ex sc k pc ls (.ref 22 :: st) (mg σ J G, n, bc, bs) K := x_get (h := (mg σ J G, n, bc, bs)) (o := 22) g0 g1 g2 (show 22 < n by omega) rfl rfl p0
theorem yg_open {sc : ax_S} {k pc q idx : Nat} {ls : List (Option Value)} {st : List Value} {σ : Nat → ax_C} {J : Nat → Int} {G : Nat → Nat → Int} {n bc bs : Nat} {K : ax_K} (hn : 38 ≤ n) (g0 : decode (g_m k).2.1 pc = .ok (.getfield idx, 3)) (g1 : pc + 3 = q) (g2 : ax_fld (g_m k).1.cls idx 4 19) (p0 : Ex sc k q ls (.ref (maO 8) :: st) (mg σ J G, n, bc, bs) K) : Ex sc k pc ls (.ref 22 :: st) (mg σ J G, n, bc, bs) K := x_get (h := (mg σ J G, n, bc, bs)) (o := 22) g0 g1 g2 (show 22 < n by omega) rfl rfl p0
theorem yg_found {sc : ax_S} {k pc q idx : Nat} {ls : List (Option Value)} {st : List Value} {σ : Nat → ax_C} {J : Nat → Int} {G : Nat → Nat → Int} {n bc bs : Nat} {K : ax_K} (hn : 38 ≤ n) (g0 : decode (g_m k).2.1 pc = .ok (.getfield idx, 3)) (g1 : pc + 3 = q) (g2 : ax_fld (g_m k).1.cls idx 4 20) (p0 : Ex sc k q ls (.ref (maO 9) :: st) (mg σ J G, n, bc, bs) K) : Ex sc k pc ls (.ref 22 :: st) (mg σ J G, n, bc, bs) K := x_get (h := (mg σ J G, n, bc, bs)) (o := 22) g0 g1 g2 (show 22 < n by omega) rfl rfl p0
theorem yg_foundCount {sc : ax_S} {k pc q idx : Nat} {ls : List (Option Value)} {st : List Value} {σ : Nat → ax_C} {J : Nat → Int} {G : Nat → Nat → Int} {n bc bs : Nat} {K : ax_K} (hn : 38 ≤ n) (g0 : decode (g_m k).2.1 pc = .ok (.getfield idx, 3)) (g1 : pc + 3 = q) (g2 : ax_fld (g_m k).1.cls idx 4 21) (p0 : Ex sc k q ls (.int (zi (J 21)) :: st) (mg σ J G, n, bc, bs) K) : Ex sc k pc ls (.ref 22 :: st) (mg σ J G, n, bc, bs) K := x_get (h := (mg σ J G, n, bc, bs)) (o := 22) g0 g1 g2 (show 22 < n by omega) rfl rfl p0
theorem yp_foundCount {sc : ax_S} {k pc q idx : Nat} {ls : List (Option Value)} {st : List Value} {σ : Nat → ax_C} {J : Nat → Int} {G : Nat → Nat → Int} {n bc bs : Nat} {K : ax_K} {e : Int} (hn : 38 ≤ n) (g0 : decode (g_m k).2.1 pc = .ok (.putfield idx, 3)) (g1 : pc + 3 = q) (g2 : ax_fldW (g_m k).1.cls idx 4 21 .int false) (p0 : Ex sc k q ls st (mg σ (va_up J 21 e) G, n, bc, bs) K) : Ex sc k pc ls (.int (zi e) :: .ref 22 :: st) (mg σ J G, n, bc, bs) K := by
  refine x_put (h := (mg σ J G, n, bc, bs)) (o := 22) (ci := 4) (j := 21) (ty := .int) g0 g1 g2 (show 22 < n by omega) rfl (Nat.le_of_ble_eq_true rfl) rfl rfl ?_
  rw [← mg_put_21] at p0
  exact p0
theorem yg_pool {sc : ax_S} {k pc q idx : Nat} {ls : List (Option Value)} {st : List Value} {σ : Nat → ax_C} {J : Nat → Int} {G : Nat → Nat → Int} {n bc bs : Nat} {K : ax_K} (hn : 38 ≤ n) (g0 : decode (g_m k).2.1 pc = .ok (.getfield idx, 3)) (g1 : pc + 3 = q) (g2 : ax_fld (g_m k).1.cls idx 4 22) (p0 : Ex sc k q ls (.ref (maO 10) :: st) (mg σ J G, n, bc, bs) K) : Ex sc k pc ls (.ref 22 :: st) (mg σ J G, n, bc, bs) K := x_get (h := (mg σ J G, n, bc, bs)) (o := 22) g0 g1 g2 (show 22 < n by omega) rfl rfl p0
theorem yg_chosen {sc : ax_S} {k pc q idx : Nat} {ls : List (Option Value)} {st : List Value} {σ : Nat → ax_C} {J : Nat → Int} {G : Nat → Nat → Int} {n bc bs : Nat} {K : ax_K} (hn : 38 ≤ n) (g0 : decode (g_m k).2.1 pc = .ok (.getfield idx, 3)) (g1 : pc + 3 = q) (g2 : ax_fld (g_m k).1.cls idx 4 23) (p0 : Ex sc k q ls (.ref (maO 11) :: st) (mg σ J G, n, bc, bs) K) : Ex sc k pc ls (.ref 22 :: st) (mg σ J G, n, bc, bs) K := x_get (h := (mg σ J G, n, bc, bs)) (o := 22) g0 g1 g2 (show 22 < n by omega) rfl rfl p0
theorem yg_those {sc : ax_S} {k pc q idx : Nat} {ls : List (Option Value)} {st : List Value} {σ : Nat → ax_C} {J : Nat → Int} {G : Nat → Nat → Int} {n bc bs : Nat} {K : ax_K} (hn : 38 ≤ n) (g0 : decode (g_m k).2.1 pc = .ok (.getfield idx, 3)) (g1 : pc + 3 = q) (g2 : ax_fld (g_m k).1.cls idx 4 24) (p0 : Ex sc k q ls (.ref (maO 12) :: st) (mg σ J G, n, bc, bs) K) : Ex sc k pc ls (.ref 22 :: st) (mg σ J G, n, bc, bs) K := x_get (h := (mg σ J G, n, bc, bs)) (o := 22) g0 g1 g2 (show 22 < n by omega) rfl rfl p0
theorem yg_row {sc : ax_S} {k pc q idx : Nat} {ls : List (Option Value)} {st : List Value} {σ : Nat → ax_C} {J : Nat → Int} {G : Nat → Nat → Int} {n bc bs : Nat} {K : ax_K} (hn : 38 ≤ n) (g0 : decode (g_m k).2.1 pc = .ok (.getfield idx, 3)) (g1 : pc + 3 = q) (g2 : ax_fld (g_m k).1.cls idx 4 25) (p0 : Ex sc k q ls (.ref (maO 13) :: st) (mg σ J G, n, bc, bs) K) : Ex sc k pc ls (.ref 22 :: st) (mg σ J G, n, bc, bs) K := x_get (h := (mg σ J G, n, bc, bs)) (o := 22) g0 g1 g2 (show 22 < n by omega) rfl rfl p0
theorem yg_rowCount {sc : ax_S} {k pc q idx : Nat} {ls : List (Option Value)} {st : List Value} {σ : Nat → ax_C} {J : Nat → Int} {G : Nat → Nat → Int} {n bc bs : Nat} {K : ax_K} (hn : 38 ≤ n) (g0 : decode (g_m k).2.1 pc = .ok (.getfield idx, 3)) (g1 : pc + 3 = q) (g2 : ax_fld (g_m k).1.cls idx 4 26) (p0 : Ex sc k q ls (.int (zi (J 26)) :: st) (mg σ J G, n, bc, bs) K) : Ex sc k pc ls (.ref 22 :: st) (mg σ J G, n, bc, bs) K := x_get (h := (mg σ J G, n, bc, bs)) (o := 22) g0 g1 g2 (show 22 < n by omega) rfl rfl p0
theorem yp_rowCount {sc : ax_S} {k pc q idx : Nat} {ls : List (Option Value)} {st : List Value} {σ : Nat → ax_C} {J : Nat → Int} {G : Nat → Nat → Int} {n bc bs : Nat} {K : ax_K} {e : Int} (hn : 38 ≤ n) (g0 : decode (g_m k).2.1 pc = .ok (.putfield idx, 3)) (g1 : pc + 3 = q) (g2 : ax_fldW (g_m k).1.cls idx 4 26 .int false) (p0 : Ex sc k q ls st (mg σ (va_up J 26 e) G, n, bc, bs) K) : Ex sc k pc ls (.int (zi e) :: .ref 22 :: st) (mg σ J G, n, bc, bs) K := by
  refine x_put (h := (mg σ J G, n, bc, bs)) (o := 22) (ci := 4) (j := 26) (ty := .int) g0 g1 g2 (show 22 < n by omega) rfl (Nat.le_of_ble_eq_true rfl) rfl rfl ?_
  rw [← mg_put_26] at p0
  exact p0
theorem yg_byGraph {sc : ax_S} {k pc q idx : Nat} {ls : List (Option Value)} {st : List Value} {σ : Nat → ax_C} {J : Nat → Int} {G : Nat → Nat → Int} {n bc bs : Nat} {K : ax_K} (hn : 38 ≤ n) (g0 : decode (g_m k).2.1 pc = .ok (.getfield idx, 3)) (g1 : pc + 3 = q) (g2 : ax_fld (g_m k).1.cls idx 4 27) (p0 : Ex sc k q ls (.ref (maO 14) :: st) (mg σ J G, n, bc, bs) K) : Ex sc k pc ls (.ref 22 :: st) (mg σ J G, n, bc, bs) K := x_get (h := (mg σ J G, n, bc, bs)) (o := 22) g0 g1 g2 (show 22 < n by omega) rfl rfl p0
theorem yl_all {sc : ax_S} {k pc q : Nat} {ls : List (Option Value)} {st : List Value} {σ : Nat → ax_C} {J : Nat → Int} {G : Nat → Nat → Int} {n bc bs : Nat} {K : ax_K} {a : Int} (hn : 38 ≤ n) (g0 : decode (g_m k).2.1 pc = .ok (.iaload, 1)) (g1 : pc + 1 = q) (h1 : 0 ≤ a) (h2 : a < 808) (p0 : Ex sc k q ls (.int (zi (G 0 a.toNat)) :: st) (mg σ J G, n, bc, bs) K) : Ex sc k pc ls (.int (zi a) :: .ref (maO 0) :: st) (mg σ J G, n, bc, bs) K := by
  refine x_iald (h := (mg σ J G, n, bc, bs)) (o := maO 0) (n := 808) (f := fun j => zi (G 0 j)) g0 g1 (show maO 0 < n by unfold maO; omega) rfl (zi_in h1 (by omega) (by omega)) ?_
  show Ex sc k q ls (.int (zi (G 0 (zi a).toNatClampNeg)) :: st) (mg σ J G, n, bc, bs) K
  rw [zi_c h1 (by omega)]
  exact p0
theorem ys_all {sc : ax_S} {k pc q : Nat} {ls : List (Option Value)} {st : List Value} {σ : Nat → ax_C} {J : Nat → Int} {G : Nat → Nat → Int} {n bc bs : Nat} {K : ax_K} {a e : Int} (hn : 38 ≤ n) (g0 : decode (g_m k).2.1 pc = .ok (.iastore, 1)) (g1 : pc + 1 = q) (h1 : 0 ≤ a) (h2 : a < 808) (p0 : Ex sc k q ls st (mg σ J (va_up G 0 (va_up (G 0) a.toNat e)), n, bc, bs) K) : Ex sc k pc ls (.int (zi e) :: .int (zi a) :: .ref (maO 0) :: st) (mg σ J G, n, bc, bs) K := by
  refine x_iast (h := (mg σ J G, n, bc, bs)) (o := maO 0) (n := 808) (f := fun j => zi (G 0 j)) g0 g1 (show maO 0 < n by unfold maO; omega) rfl (zi_in h1 (by omega) (by omega)) ?_
  rw [zi_c h1 (by omega), upd_zi]
  rw [← mg_arr_all] at p0
  exact p0
theorem yl_barred {sc : ax_S} {k pc q : Nat} {ls : List (Option Value)} {st : List Value} {σ : Nat → ax_C} {J : Nat → Int} {G : Nat → Nat → Int} {n bc bs : Nat} {K : ax_K} {a : Int} (hn : 38 ≤ n) (g0 : decode (g_m k).2.1 pc = .ok (.baload, 1)) (g1 : pc + 1 = q) (h1 : 0 ≤ a) (h2 : a < 100) (p0 : Ex sc k q ls (.int (zi (G 1 a.toNat)) :: st) (mg σ J G, n, bc, bs) K) : Ex sc k pc ls (.int (zi a) :: .ref (maO 1) :: st) (mg σ J G, n, bc, bs) K := by
  refine x_zald (h := (mg σ J G, n, bc, bs)) (o := maO 1) (n := 100) (f := fun j => zi (G 1 j)) g0 g1 (show maO 1 < n by unfold maO; omega) rfl (zi_in h1 (by omega) (by omega)) ?_
  show Ex sc k q ls (.int (zi (G 1 (zi a).toNatClampNeg)) :: st) (mg σ J G, n, bc, bs) K
  rw [zi_c h1 (by omega)]
  exact p0
theorem ys_barred {sc : ax_S} {k pc q : Nat} {ls : List (Option Value)} {st : List Value} {σ : Nat → ax_C} {J : Nat → Int} {G : Nat → Nat → Int} {n bc bs : Nat} {K : ax_K} {a e : Int} (hn : 38 ≤ n) (hb : e = 0 ∨ e = 1) (g0 : decode (g_m k).2.1 pc = .ok (.bastore, 1)) (g1 : pc + 1 = q) (h1 : 0 ≤ a) (h2 : a < 100) (p0 : Ex sc k q ls st (mg σ J (va_up G 1 (va_up (G 1) a.toNat e)), n, bc, bs) K) : Ex sc k pc ls (.int (zi e) :: .int (zi a) :: .ref (maO 1) :: st) (mg σ J G, n, bc, bs) K := by
  refine x_zast (h := (mg σ J G, n, bc, bs)) (o := maO 1) (n := 100) (f := fun j => zi (G 1 j)) g0 g1 (show maO 1 < n by unfold maO; omega) rfl (zi_in h1 (by omega) (by omega)) ?_
  rw [zi_nar hb, zi_c h1 (by omega), upd_zi]
  rw [← mg_arr_barred] at p0
  exact p0
theorem yl_removed {sc : ax_S} {k pc q : Nat} {ls : List (Option Value)} {st : List Value} {σ : Nat → ax_C} {J : Nat → Int} {G : Nat → Nat → Int} {n bc bs : Nat} {K : ax_K} {a : Int} (hn : 38 ≤ n) (g0 : decode (g_m k).2.1 pc = .ok (.baload, 1)) (g1 : pc + 1 = q) (h1 : 0 ≤ a) (h2 : a < 100) (p0 : Ex sc k q ls (.int (zi (G 2 a.toNat)) :: st) (mg σ J G, n, bc, bs) K) : Ex sc k pc ls (.int (zi a) :: .ref (maO 2) :: st) (mg σ J G, n, bc, bs) K := by
  refine x_zald (h := (mg σ J G, n, bc, bs)) (o := maO 2) (n := 100) (f := fun j => zi (G 2 j)) g0 g1 (show maO 2 < n by unfold maO; omega) rfl (zi_in h1 (by omega) (by omega)) ?_
  show Ex sc k q ls (.int (zi (G 2 (zi a).toNatClampNeg)) :: st) (mg σ J G, n, bc, bs) K
  rw [zi_c h1 (by omega)]
  exact p0
theorem ys_removed {sc : ax_S} {k pc q : Nat} {ls : List (Option Value)} {st : List Value} {σ : Nat → ax_C} {J : Nat → Int} {G : Nat → Nat → Int} {n bc bs : Nat} {K : ax_K} {a e : Int} (hn : 38 ≤ n) (hb : e = 0 ∨ e = 1) (g0 : decode (g_m k).2.1 pc = .ok (.bastore, 1)) (g1 : pc + 1 = q) (h1 : 0 ≤ a) (h2 : a < 100) (p0 : Ex sc k q ls st (mg σ J (va_up G 2 (va_up (G 2) a.toNat e)), n, bc, bs) K) : Ex sc k pc ls (.int (zi e) :: .int (zi a) :: .ref (maO 2) :: st) (mg σ J G, n, bc, bs) K := by
  refine x_zast (h := (mg σ J G, n, bc, bs)) (o := maO 2) (n := 100) (f := fun j => zi (G 2 j)) g0 g1 (show maO 2 < n by unfold maO; omega) rfl (zi_in h1 (by omega) (by omega)) ?_
  rw [zi_nar hb, zi_c h1 (by omega), upd_zi]
  rw [← mg_arr_removed] at p0
  exact p0
theorem yl_told {sc : ax_S} {k pc q : Nat} {ls : List (Option Value)} {st : List Value} {σ : Nat → ax_C} {J : Nat → Int} {G : Nat → Nat → Int} {n bc bs : Nat} {K : ax_K} {a : Int} (hn : 38 ≤ n) (g0 : decode (g_m k).2.1 pc = .ok (.iaload, 1)) (g1 : pc + 1 = q) (h1 : 0 ≤ a) (h2 : a < 100) (p0 : Ex sc k q ls (.int (zi (G 3 a.toNat)) :: st) (mg σ J G, n, bc, bs) K) : Ex sc k pc ls (.int (zi a) :: .ref (maO 3) :: st) (mg σ J G, n, bc, bs) K := by
  refine x_iald (h := (mg σ J G, n, bc, bs)) (o := maO 3) (n := 100) (f := fun j => zi (G 3 j)) g0 g1 (show maO 3 < n by unfold maO; omega) rfl (zi_in h1 (by omega) (by omega)) ?_
  show Ex sc k q ls (.int (zi (G 3 (zi a).toNatClampNeg)) :: st) (mg σ J G, n, bc, bs) K
  rw [zi_c h1 (by omega)]
  exact p0
theorem ys_told {sc : ax_S} {k pc q : Nat} {ls : List (Option Value)} {st : List Value} {σ : Nat → ax_C} {J : Nat → Int} {G : Nat → Nat → Int} {n bc bs : Nat} {K : ax_K} {a e : Int} (hn : 38 ≤ n) (g0 : decode (g_m k).2.1 pc = .ok (.iastore, 1)) (g1 : pc + 1 = q) (h1 : 0 ≤ a) (h2 : a < 100) (p0 : Ex sc k q ls st (mg σ J (va_up G 3 (va_up (G 3) a.toNat e)), n, bc, bs) K) : Ex sc k pc ls (.int (zi e) :: .int (zi a) :: .ref (maO 3) :: st) (mg σ J G, n, bc, bs) K := by
  refine x_iast (h := (mg σ J G, n, bc, bs)) (o := maO 3) (n := 100) (f := fun j => zi (G 3 j)) g0 g1 (show maO 3 < n by unfold maO; omega) rfl (zi_in h1 (by omega) (by omega)) ?_
  rw [zi_c h1 (by omega), upd_zi]
  rw [← mg_arr_told] at p0
  exact p0
theorem yl_levels {sc : ax_S} {k pc q : Nat} {ls : List (Option Value)} {st : List Value} {σ : Nat → ax_C} {J : Nat → Int} {G : Nat → Nat → Int} {n bc bs : Nat} {K : ax_K} {a : Int} (hn : 38 ≤ n) (g0 : decode (g_m k).2.1 pc = .ok (.iaload, 1)) (g1 : pc + 1 = q) (h1 : 0 ≤ a) (h2 : a < 100) (p0 : Ex sc k q ls (.int (zi (G 4 a.toNat)) :: st) (mg σ J G, n, bc, bs) K) : Ex sc k pc ls (.int (zi a) :: .ref (maO 4) :: st) (mg σ J G, n, bc, bs) K := by
  refine x_iald (h := (mg σ J G, n, bc, bs)) (o := maO 4) (n := 100) (f := fun j => zi (G 4 j)) g0 g1 (show maO 4 < n by unfold maO; omega) rfl (zi_in h1 (by omega) (by omega)) ?_
  show Ex sc k q ls (.int (zi (G 4 (zi a).toNatClampNeg)) :: st) (mg σ J G, n, bc, bs) K
  rw [zi_c h1 (by omega)]
  exact p0
theorem ys_levels {sc : ax_S} {k pc q : Nat} {ls : List (Option Value)} {st : List Value} {σ : Nat → ax_C} {J : Nat → Int} {G : Nat → Nat → Int} {n bc bs : Nat} {K : ax_K} {a e : Int} (hn : 38 ≤ n) (g0 : decode (g_m k).2.1 pc = .ok (.iastore, 1)) (g1 : pc + 1 = q) (h1 : 0 ≤ a) (h2 : a < 100) (p0 : Ex sc k q ls st (mg σ J (va_up G 4 (va_up (G 4) a.toNat e)), n, bc, bs) K) : Ex sc k pc ls (.int (zi e) :: .int (zi a) :: .ref (maO 4) :: st) (mg σ J G, n, bc, bs) K := by
  refine x_iast (h := (mg σ J G, n, bc, bs)) (o := maO 4) (n := 100) (f := fun j => zi (G 4 j)) g0 g1 (show maO 4 < n by unfold maO; omega) rfl (zi_in h1 (by omega) (by omega)) ?_
  rw [zi_c h1 (by omega), upd_zi]
  rw [← mg_arr_levels] at p0
  exact p0
theorem yl_near {sc : ax_S} {k pc q : Nat} {ls : List (Option Value)} {st : List Value} {σ : Nat → ax_C} {J : Nat → Int} {G : Nat → Nat → Int} {n bc bs : Nat} {K : ax_K} {a : Int} (hn : 38 ≤ n) (g0 : decode (g_m k).2.1 pc = .ok (.baload, 1)) (g1 : pc + 1 = q) (h1 : 0 ≤ a) (h2 : a < 50000) (p0 : Ex sc k q ls (.int (zi (G 5 a.toNat)) :: st) (mg σ J G, n, bc, bs) K) : Ex sc k pc ls (.int (zi a) :: .ref (maO 5) :: st) (mg σ J G, n, bc, bs) K := by
  refine x_zald (h := (mg σ J G, n, bc, bs)) (o := maO 5) (n := 50000) (f := fun j => zi (G 5 j)) g0 g1 (show maO 5 < n by unfold maO; omega) rfl (zi_in h1 (by omega) (by omega)) ?_
  show Ex sc k q ls (.int (zi (G 5 (zi a).toNatClampNeg)) :: st) (mg σ J G, n, bc, bs) K
  rw [zi_c h1 (by omega)]
  exact p0
theorem ys_near {sc : ax_S} {k pc q : Nat} {ls : List (Option Value)} {st : List Value} {σ : Nat → ax_C} {J : Nat → Int} {G : Nat → Nat → Int} {n bc bs : Nat} {K : ax_K} {a e : Int} (hn : 38 ≤ n) (hb : e = 0 ∨ e = 1) (g0 : decode (g_m k).2.1 pc = .ok (.bastore, 1)) (g1 : pc + 1 = q) (h1 : 0 ≤ a) (h2 : a < 50000) (p0 : Ex sc k q ls st (mg σ J (va_up G 5 (va_up (G 5) a.toNat e)), n, bc, bs) K) : Ex sc k pc ls (.int (zi e) :: .int (zi a) :: .ref (maO 5) :: st) (mg σ J G, n, bc, bs) K := by
  refine x_zast (h := (mg σ J G, n, bc, bs)) (o := maO 5) (n := 50000) (f := fun j => zi (G 5 j)) g0 g1 (show maO 5 < n by unfold maO; omega) rfl (zi_in h1 (by omega) (by omega)) ?_
  rw [zi_nar hb, zi_c h1 (by omega), upd_zi]
  rw [← mg_arr_near] at p0
  exact p0
theorem yl_fars {sc : ax_S} {k pc q : Nat} {ls : List (Option Value)} {st : List Value} {σ : Nat → ax_C} {J : Nat → Int} {G : Nat → Nat → Int} {n bc bs : Nat} {K : ax_K} {a : Int} (hn : 38 ≤ n) (g0 : decode (g_m k).2.1 pc = .ok (.iaload, 1)) (g1 : pc + 1 = q) (h1 : 0 ≤ a) (h2 : a < 10100) (p0 : Ex sc k q ls (.int (zi (G 6 a.toNat)) :: st) (mg σ J G, n, bc, bs) K) : Ex sc k pc ls (.int (zi a) :: .ref (maO 6) :: st) (mg σ J G, n, bc, bs) K := by
  refine x_iald (h := (mg σ J G, n, bc, bs)) (o := maO 6) (n := 10100) (f := fun j => zi (G 6 j)) g0 g1 (show maO 6 < n by unfold maO; omega) rfl (zi_in h1 (by omega) (by omega)) ?_
  show Ex sc k q ls (.int (zi (G 6 (zi a).toNatClampNeg)) :: st) (mg σ J G, n, bc, bs) K
  rw [zi_c h1 (by omega)]
  exact p0
theorem ys_fars {sc : ax_S} {k pc q : Nat} {ls : List (Option Value)} {st : List Value} {σ : Nat → ax_C} {J : Nat → Int} {G : Nat → Nat → Int} {n bc bs : Nat} {K : ax_K} {a e : Int} (hn : 38 ≤ n) (g0 : decode (g_m k).2.1 pc = .ok (.iastore, 1)) (g1 : pc + 1 = q) (h1 : 0 ≤ a) (h2 : a < 10100) (p0 : Ex sc k q ls st (mg σ J (va_up G 6 (va_up (G 6) a.toNat e)), n, bc, bs) K) : Ex sc k pc ls (.int (zi e) :: .int (zi a) :: .ref (maO 6) :: st) (mg σ J G, n, bc, bs) K := by
  refine x_iast (h := (mg σ J G, n, bc, bs)) (o := maO 6) (n := 10100) (f := fun j => zi (G 6 j)) g0 g1 (show maO 6 < n by unfold maO; omega) rfl (zi_in h1 (by omega) (by omega)) ?_
  rw [zi_c h1 (by omega), upd_zi]
  rw [← mg_arr_fars] at p0
  exact p0
theorem yl_met {sc : ax_S} {k pc q : Nat} {ls : List (Option Value)} {st : List Value} {σ : Nat → ax_C} {J : Nat → Int} {G : Nat → Nat → Int} {n bc bs : Nat} {K : ax_K} {a : Int} (hn : 38 ≤ n) (g0 : decode (g_m k).2.1 pc = .ok (.baload, 1)) (g1 : pc + 1 = q) (h1 : 0 ≤ a) (h2 : a < 100) (p0 : Ex sc k q ls (.int (zi (G 7 a.toNat)) :: st) (mg σ J G, n, bc, bs) K) : Ex sc k pc ls (.int (zi a) :: .ref (maO 7) :: st) (mg σ J G, n, bc, bs) K := by
  refine x_zald (h := (mg σ J G, n, bc, bs)) (o := maO 7) (n := 100) (f := fun j => zi (G 7 j)) g0 g1 (show maO 7 < n by unfold maO; omega) rfl (zi_in h1 (by omega) (by omega)) ?_
  show Ex sc k q ls (.int (zi (G 7 (zi a).toNatClampNeg)) :: st) (mg σ J G, n, bc, bs) K
  rw [zi_c h1 (by omega)]
  exact p0
theorem ys_met {sc : ax_S} {k pc q : Nat} {ls : List (Option Value)} {st : List Value} {σ : Nat → ax_C} {J : Nat → Int} {G : Nat → Nat → Int} {n bc bs : Nat} {K : ax_K} {a e : Int} (hn : 38 ≤ n) (hb : e = 0 ∨ e = 1) (g0 : decode (g_m k).2.1 pc = .ok (.bastore, 1)) (g1 : pc + 1 = q) (h1 : 0 ≤ a) (h2 : a < 100) (p0 : Ex sc k q ls st (mg σ J (va_up G 7 (va_up (G 7) a.toNat e)), n, bc, bs) K) : Ex sc k pc ls (.int (zi e) :: .int (zi a) :: .ref (maO 7) :: st) (mg σ J G, n, bc, bs) K := by
  refine x_zast (h := (mg σ J G, n, bc, bs)) (o := maO 7) (n := 100) (f := fun j => zi (G 7 j)) g0 g1 (show maO 7 < n by unfold maO; omega) rfl (zi_in h1 (by omega) (by omega)) ?_
  rw [zi_nar hb, zi_c h1 (by omega), upd_zi]
  rw [← mg_arr_met] at p0
  exact p0
theorem yl_open {sc : ax_S} {k pc q : Nat} {ls : List (Option Value)} {st : List Value} {σ : Nat → ax_C} {J : Nat → Int} {G : Nat → Nat → Int} {n bc bs : Nat} {K : ax_K} {a : Int} (hn : 38 ≤ n) (g0 : decode (g_m k).2.1 pc = .ok (.baload, 1)) (g1 : pc + 1 = q) (h1 : 0 ≤ a) (h2 : a < 100) (p0 : Ex sc k q ls (.int (zi (G 8 a.toNat)) :: st) (mg σ J G, n, bc, bs) K) : Ex sc k pc ls (.int (zi a) :: .ref (maO 8) :: st) (mg σ J G, n, bc, bs) K := by
  refine x_zald (h := (mg σ J G, n, bc, bs)) (o := maO 8) (n := 100) (f := fun j => zi (G 8 j)) g0 g1 (show maO 8 < n by unfold maO; omega) rfl (zi_in h1 (by omega) (by omega)) ?_
  show Ex sc k q ls (.int (zi (G 8 (zi a).toNatClampNeg)) :: st) (mg σ J G, n, bc, bs) K
  rw [zi_c h1 (by omega)]
  exact p0
theorem ys_open {sc : ax_S} {k pc q : Nat} {ls : List (Option Value)} {st : List Value} {σ : Nat → ax_C} {J : Nat → Int} {G : Nat → Nat → Int} {n bc bs : Nat} {K : ax_K} {a e : Int} (hn : 38 ≤ n) (hb : e = 0 ∨ e = 1) (g0 : decode (g_m k).2.1 pc = .ok (.bastore, 1)) (g1 : pc + 1 = q) (h1 : 0 ≤ a) (h2 : a < 100) (p0 : Ex sc k q ls st (mg σ J (va_up G 8 (va_up (G 8) a.toNat e)), n, bc, bs) K) : Ex sc k pc ls (.int (zi e) :: .int (zi a) :: .ref (maO 8) :: st) (mg σ J G, n, bc, bs) K := by
  refine x_zast (h := (mg σ J G, n, bc, bs)) (o := maO 8) (n := 100) (f := fun j => zi (G 8 j)) g0 g1 (show maO 8 < n by unfold maO; omega) rfl (zi_in h1 (by omega) (by omega)) ?_
  rw [zi_nar hb, zi_c h1 (by omega), upd_zi]
  rw [← mg_arr_open] at p0
  exact p0
theorem yl_found {sc : ax_S} {k pc q : Nat} {ls : List (Option Value)} {st : List Value} {σ : Nat → ax_C} {J : Nat → Int} {G : Nat → Nat → Int} {n bc bs : Nat} {K : ax_K} {a : Int} (hn : 38 ≤ n) (g0 : decode (g_m k).2.1 pc = .ok (.baload, 1)) (g1 : pc + 1 = q) (h1 : 0 ≤ a) (h2 : a < 100) (p0 : Ex sc k q ls (.int (zi (G 9 a.toNat)) :: st) (mg σ J G, n, bc, bs) K) : Ex sc k pc ls (.int (zi a) :: .ref (maO 9) :: st) (mg σ J G, n, bc, bs) K := by
  refine x_zald (h := (mg σ J G, n, bc, bs)) (o := maO 9) (n := 100) (f := fun j => zi (G 9 j)) g0 g1 (show maO 9 < n by unfold maO; omega) rfl (zi_in h1 (by omega) (by omega)) ?_
  show Ex sc k q ls (.int (zi (G 9 (zi a).toNatClampNeg)) :: st) (mg σ J G, n, bc, bs) K
  rw [zi_c h1 (by omega)]
  exact p0
theorem ys_found {sc : ax_S} {k pc q : Nat} {ls : List (Option Value)} {st : List Value} {σ : Nat → ax_C} {J : Nat → Int} {G : Nat → Nat → Int} {n bc bs : Nat} {K : ax_K} {a e : Int} (hn : 38 ≤ n) (hb : e = 0 ∨ e = 1) (g0 : decode (g_m k).2.1 pc = .ok (.bastore, 1)) (g1 : pc + 1 = q) (h1 : 0 ≤ a) (h2 : a < 100) (p0 : Ex sc k q ls st (mg σ J (va_up G 9 (va_up (G 9) a.toNat e)), n, bc, bs) K) : Ex sc k pc ls (.int (zi e) :: .int (zi a) :: .ref (maO 9) :: st) (mg σ J G, n, bc, bs) K := by
  refine x_zast (h := (mg σ J G, n, bc, bs)) (o := maO 9) (n := 100) (f := fun j => zi (G 9 j)) g0 g1 (show maO 9 < n by unfold maO; omega) rfl (zi_in h1 (by omega) (by omega)) ?_
  rw [zi_nar hb, zi_c h1 (by omega), upd_zi]
  rw [← mg_arr_found] at p0
  exact p0
theorem yl_pool {sc : ax_S} {k pc q : Nat} {ls : List (Option Value)} {st : List Value} {σ : Nat → ax_C} {J : Nat → Int} {G : Nat → Nat → Int} {n bc bs : Nat} {K : ax_K} {a : Int} (hn : 38 ≤ n) (g0 : decode (g_m k).2.1 pc = .ok (.baload, 1)) (g1 : pc + 1 = q) (h1 : 0 ≤ a) (h2 : a < 100) (p0 : Ex sc k q ls (.int (zi (G 10 a.toNat)) :: st) (mg σ J G, n, bc, bs) K) : Ex sc k pc ls (.int (zi a) :: .ref (maO 10) :: st) (mg σ J G, n, bc, bs) K := by
  refine x_zald (h := (mg σ J G, n, bc, bs)) (o := maO 10) (n := 100) (f := fun j => zi (G 10 j)) g0 g1 (show maO 10 < n by unfold maO; omega) rfl (zi_in h1 (by omega) (by omega)) ?_
  show Ex sc k q ls (.int (zi (G 10 (zi a).toNatClampNeg)) :: st) (mg σ J G, n, bc, bs) K
  rw [zi_c h1 (by omega)]
  exact p0
theorem ys_pool {sc : ax_S} {k pc q : Nat} {ls : List (Option Value)} {st : List Value} {σ : Nat → ax_C} {J : Nat → Int} {G : Nat → Nat → Int} {n bc bs : Nat} {K : ax_K} {a e : Int} (hn : 38 ≤ n) (hb : e = 0 ∨ e = 1) (g0 : decode (g_m k).2.1 pc = .ok (.bastore, 1)) (g1 : pc + 1 = q) (h1 : 0 ≤ a) (h2 : a < 100) (p0 : Ex sc k q ls st (mg σ J (va_up G 10 (va_up (G 10) a.toNat e)), n, bc, bs) K) : Ex sc k pc ls (.int (zi e) :: .int (zi a) :: .ref (maO 10) :: st) (mg σ J G, n, bc, bs) K := by
  refine x_zast (h := (mg σ J G, n, bc, bs)) (o := maO 10) (n := 100) (f := fun j => zi (G 10 j)) g0 g1 (show maO 10 < n by unfold maO; omega) rfl (zi_in h1 (by omega) (by omega)) ?_
  rw [zi_nar hb, zi_c h1 (by omega), upd_zi]
  rw [← mg_arr_pool] at p0
  exact p0
theorem yl_chosen {sc : ax_S} {k pc q : Nat} {ls : List (Option Value)} {st : List Value} {σ : Nat → ax_C} {J : Nat → Int} {G : Nat → Nat → Int} {n bc bs : Nat} {K : ax_K} {a : Int} (hn : 38 ≤ n) (g0 : decode (g_m k).2.1 pc = .ok (.baload, 1)) (g1 : pc + 1 = q) (h1 : 0 ≤ a) (h2 : a < 100) (p0 : Ex sc k q ls (.int (zi (G 11 a.toNat)) :: st) (mg σ J G, n, bc, bs) K) : Ex sc k pc ls (.int (zi a) :: .ref (maO 11) :: st) (mg σ J G, n, bc, bs) K := by
  refine x_zald (h := (mg σ J G, n, bc, bs)) (o := maO 11) (n := 100) (f := fun j => zi (G 11 j)) g0 g1 (show maO 11 < n by unfold maO; omega) rfl (zi_in h1 (by omega) (by omega)) ?_
  show Ex sc k q ls (.int (zi (G 11 (zi a).toNatClampNeg)) :: st) (mg σ J G, n, bc, bs) K
  rw [zi_c h1 (by omega)]
  exact p0
theorem ys_chosen {sc : ax_S} {k pc q : Nat} {ls : List (Option Value)} {st : List Value} {σ : Nat → ax_C} {J : Nat → Int} {G : Nat → Nat → Int} {n bc bs : Nat} {K : ax_K} {a e : Int} (hn : 38 ≤ n) (hb : e = 0 ∨ e = 1) (g0 : decode (g_m k).2.1 pc = .ok (.bastore, 1)) (g1 : pc + 1 = q) (h1 : 0 ≤ a) (h2 : a < 100) (p0 : Ex sc k q ls st (mg σ J (va_up G 11 (va_up (G 11) a.toNat e)), n, bc, bs) K) : Ex sc k pc ls (.int (zi e) :: .int (zi a) :: .ref (maO 11) :: st) (mg σ J G, n, bc, bs) K := by
  refine x_zast (h := (mg σ J G, n, bc, bs)) (o := maO 11) (n := 100) (f := fun j => zi (G 11 j)) g0 g1 (show maO 11 < n by unfold maO; omega) rfl (zi_in h1 (by omega) (by omega)) ?_
  rw [zi_nar hb, zi_c h1 (by omega), upd_zi]
  rw [← mg_arr_chosen] at p0
  exact p0
theorem yl_those {sc : ax_S} {k pc q : Nat} {ls : List (Option Value)} {st : List Value} {σ : Nat → ax_C} {J : Nat → Int} {G : Nat → Nat → Int} {n bc bs : Nat} {K : ax_K} {a : Int} (hn : 38 ≤ n) (g0 : decode (g_m k).2.1 pc = .ok (.baload, 1)) (g1 : pc + 1 = q) (h1 : 0 ≤ a) (h2 : a < 100) (p0 : Ex sc k q ls (.int (zi (G 12 a.toNat)) :: st) (mg σ J G, n, bc, bs) K) : Ex sc k pc ls (.int (zi a) :: .ref (maO 12) :: st) (mg σ J G, n, bc, bs) K := by
  refine x_zald (h := (mg σ J G, n, bc, bs)) (o := maO 12) (n := 100) (f := fun j => zi (G 12 j)) g0 g1 (show maO 12 < n by unfold maO; omega) rfl (zi_in h1 (by omega) (by omega)) ?_
  show Ex sc k q ls (.int (zi (G 12 (zi a).toNatClampNeg)) :: st) (mg σ J G, n, bc, bs) K
  rw [zi_c h1 (by omega)]
  exact p0
theorem ys_those {sc : ax_S} {k pc q : Nat} {ls : List (Option Value)} {st : List Value} {σ : Nat → ax_C} {J : Nat → Int} {G : Nat → Nat → Int} {n bc bs : Nat} {K : ax_K} {a e : Int} (hn : 38 ≤ n) (hb : e = 0 ∨ e = 1) (g0 : decode (g_m k).2.1 pc = .ok (.bastore, 1)) (g1 : pc + 1 = q) (h1 : 0 ≤ a) (h2 : a < 100) (p0 : Ex sc k q ls st (mg σ J (va_up G 12 (va_up (G 12) a.toNat e)), n, bc, bs) K) : Ex sc k pc ls (.int (zi e) :: .int (zi a) :: .ref (maO 12) :: st) (mg σ J G, n, bc, bs) K := by
  refine x_zast (h := (mg σ J G, n, bc, bs)) (o := maO 12) (n := 100) (f := fun j => zi (G 12 j)) g0 g1 (show maO 12 < n by unfold maO; omega) rfl (zi_in h1 (by omega) (by omega)) ?_
  rw [zi_nar hb, zi_c h1 (by omega), upd_zi]
  rw [← mg_arr_those] at p0
  exact p0
theorem yl_row {sc : ax_S} {k pc q : Nat} {ls : List (Option Value)} {st : List Value} {σ : Nat → ax_C} {J : Nat → Int} {G : Nat → Nat → Int} {n bc bs : Nat} {K : ax_K} {a : Int} (hn : 38 ≤ n) (g0 : decode (g_m k).2.1 pc = .ok (.iaload, 1)) (g1 : pc + 1 = q) (h1 : 0 ≤ a) (h2 : a < 100) (p0 : Ex sc k q ls (.int (zi (G 13 a.toNat)) :: st) (mg σ J G, n, bc, bs) K) : Ex sc k pc ls (.int (zi a) :: .ref (maO 13) :: st) (mg σ J G, n, bc, bs) K := by
  refine x_iald (h := (mg σ J G, n, bc, bs)) (o := maO 13) (n := 100) (f := fun j => zi (G 13 j)) g0 g1 (show maO 13 < n by unfold maO; omega) rfl (zi_in h1 (by omega) (by omega)) ?_
  show Ex sc k q ls (.int (zi (G 13 (zi a).toNatClampNeg)) :: st) (mg σ J G, n, bc, bs) K
  rw [zi_c h1 (by omega)]
  exact p0
theorem ys_row {sc : ax_S} {k pc q : Nat} {ls : List (Option Value)} {st : List Value} {σ : Nat → ax_C} {J : Nat → Int} {G : Nat → Nat → Int} {n bc bs : Nat} {K : ax_K} {a e : Int} (hn : 38 ≤ n) (g0 : decode (g_m k).2.1 pc = .ok (.iastore, 1)) (g1 : pc + 1 = q) (h1 : 0 ≤ a) (h2 : a < 100) (p0 : Ex sc k q ls st (mg σ J (va_up G 13 (va_up (G 13) a.toNat e)), n, bc, bs) K) : Ex sc k pc ls (.int (zi e) :: .int (zi a) :: .ref (maO 13) :: st) (mg σ J G, n, bc, bs) K := by
  refine x_iast (h := (mg σ J G, n, bc, bs)) (o := maO 13) (n := 100) (f := fun j => zi (G 13 j)) g0 g1 (show maO 13 < n by unfold maO; omega) rfl (zi_in h1 (by omega) (by omega)) ?_
  rw [zi_c h1 (by omega), upd_zi]
  rw [← mg_arr_row] at p0
  exact p0
theorem yl_byGraph {sc : ax_S} {k pc q : Nat} {ls : List (Option Value)} {st : List Value} {σ : Nat → ax_C} {J : Nat → Int} {G : Nat → Nat → Int} {n bc bs : Nat} {K : ax_K} {a : Int} (hn : 38 ≤ n) (g0 : decode (g_m k).2.1 pc = .ok (.baload, 1)) (g1 : pc + 1 = q) (h1 : 0 ≤ a) (h2 : a < 100) (p0 : Ex sc k q ls (.int (zi (G 14 a.toNat)) :: st) (mg σ J G, n, bc, bs) K) : Ex sc k pc ls (.int (zi a) :: .ref (maO 14) :: st) (mg σ J G, n, bc, bs) K := by
  refine x_zald (h := (mg σ J G, n, bc, bs)) (o := maO 14) (n := 100) (f := fun j => zi (G 14 j)) g0 g1 (show maO 14 < n by unfold maO; omega) rfl (zi_in h1 (by omega) (by omega)) ?_
  show Ex sc k q ls (.int (zi (G 14 (zi a).toNatClampNeg)) :: st) (mg σ J G, n, bc, bs) K
  rw [zi_c h1 (by omega)]
  exact p0
theorem ys_byGraph {sc : ax_S} {k pc q : Nat} {ls : List (Option Value)} {st : List Value} {σ : Nat → ax_C} {J : Nat → Int} {G : Nat → Nat → Int} {n bc bs : Nat} {K : ax_K} {a e : Int} (hn : 38 ≤ n) (hb : e = 0 ∨ e = 1) (g0 : decode (g_m k).2.1 pc = .ok (.bastore, 1)) (g1 : pc + 1 = q) (h1 : 0 ≤ a) (h2 : a < 100) (p0 : Ex sc k q ls st (mg σ J (va_up G 14 (va_up (G 14) a.toNat e)), n, bc, bs) K) : Ex sc k pc ls (.int (zi e) :: .int (zi a) :: .ref (maO 14) :: st) (mg σ J G, n, bc, bs) K := by
  refine x_zast (h := (mg σ J G, n, bc, bs)) (o := maO 14) (n := 100) (f := fun j => zi (G 14 j)) g0 g1 (show maO 14 < n by unfold maO; omega) rfl (zi_in h1 (by omega) (by omega)) ?_
  rw [zi_nar hb, zi_c h1 (by omega), upd_zi]
  rw [← mg_arr_byGraph] at p0
  exact p0
def mBool (a : Nat) : Prop := a = 8 ∨ a = 9 ∨ a = 10 ∨ a = 12
theorem mg_bool {σ : Nat → ax_C} {J : Nat → Int} {G : Nat → Nat → Int} {a : Nat} (h : mBool a) : mg σ J G (maO a) = .inl (true, 100, fun j => zi (G a j)) := by
  rcases h with rfl | rfl | rfl | rfl <;> rfl
theorem yl_b {sc : ax_S} {k pc q : Nat} {ls : List (Option Value)} {st : List Value} {σ : Nat → ax_C} {J : Nat → Int} {G : Nat → Nat → Int} {n bc bs : Nat} {K : ax_K} {r : Nat} {a : Int} (hr : mBool r) (hn : 38 ≤ n) (g0 : decode (g_m k).2.1 pc = .ok (.baload, 1)) (g1 : pc + 1 = q) (h1 : 0 ≤ a) (h2 : a < 100) (p0 : Ex sc k q ls (.int (zi (G r a.toNat)) :: st) (mg σ J G, n, bc, bs) K) : Ex sc k pc ls (.int (zi a) :: .ref (maO r) :: st) (mg σ J G, n, bc, bs) K := by
  refine x_zald (h := (mg σ J G, n, bc, bs)) (o := maO r) (n := 100) (f := fun j => zi (G r j)) g0 g1 (show maO r < n by unfold maO; rcases hr with rfl | rfl | rfl | rfl <;> omega) (mg_bool hr) (zi_in h1 (by omega) (by omega)) ?_
  show Ex sc k q ls (.int (zi (G r (zi a).toNatClampNeg)) :: st) (mg σ J G, n, bc, bs) K
  rw [zi_c h1 (by omega)]
  exact p0
theorem vg_off {σ : Nat → ax_C} {I : Nat → Int} {F : Nat → Nat → Int} {i : Nat} (h : 22 ≤ i) : vg σ I F i = σ i := by
  obtain ⟨d, rfl⟩ : ∃ d, i = d + 22 := ⟨i - 22, by omega⟩
  rfl
theorem vg_on {σ σ2 : Nat → ax_C} {I : Nat → Int} {F : Nat → Nat → Int} {i : Nat} (h : i < 22) : vg σ I F i = vg σ2 I F i := by
  obtain rfl | rfl | rfl | rfl | rfl | rfl | rfl | rfl | rfl | rfl | rfl | rfl | rfl | rfl | rfl | rfl | rfl | rfl | rfl | rfl | rfl | rfl : i = 0 ∨ i = 1 ∨ i = 2 ∨ i = 3 ∨ i = 4 ∨ i = 5 ∨ i = 6 ∨ i = 7 ∨ i = 8 ∨ i = 9 ∨ i = 10 ∨ i = 11 ∨ i = 12 ∨ i = 13 ∨ i = 14 ∨ i = 15 ∨ i = 16 ∨ i = 17 ∨ i = 18 ∨ i = 19 ∨ i = 20 ∨ i = 21 := by omega
  all_goals rfl
theorem mg_on {σ σ2 : Nat → ax_C} {J : Nat → Int} {G : Nat → Nat → Int} {i : Nat} (h1 : 22 ≤ i) (h2 : i < 38) : mg σ J G i = mg σ2 J G i := by
  obtain rfl | rfl | rfl | rfl | rfl | rfl | rfl | rfl | rfl | rfl | rfl | rfl | rfl | rfl | rfl | rfl : i = 22 ∨ i = 23 ∨ i = 24 ∨ i = 25 ∨ i = 26 ∨ i = 27 ∨ i = 28 ∨ i = 29 ∨ i = 30 ∨ i = 31 ∨ i = 32 ∨ i = 33 ∨ i = 34 ∨ i = 35 ∨ i = 36 ∨ i = 37 := by omega
  all_goals rfl
theorem vg_mg (σ : Nat → ax_C) (I : Nat → Int) (F : Nat → Nat → Int) (J : Nat → Int) (G : Nat → Nat → Int) : vg (mg σ J G) I F = mg (vg σ I F) J G := by
  funext i
  by_cases h1 : i < 22
  · rw [mg_off (Or.inl h1), vg_on h1]
  · rw [vg_off (by omega)]
    by_cases h2 : i < 38
    · exact mg_on (by omega) h2
    · rw [mg_off (Or.inr (by omega)), mg_off (Or.inr (by omega)), vg_off (by omega)]
