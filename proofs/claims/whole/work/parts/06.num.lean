/-! numbers: an int is written zi e, e a whole number -/
def zi (z : Int) : Int32 := Int32.ofInt z
theorem zi_add (a b : Int) : zi a + zi b = zi (a + b) := (Int32.ofInt_add a b).symm
theorem zi_sub (a b : Int) : zi a - zi b = zi (a - b) := (Int32.ofInt_sub a b).symm
theorem zi_mul (a b : Int) : zi a * zi b = zi (a * b) := (Int32.ofInt_mul a b).symm
theorem zi_neg (a : Int) : -zi a = zi (-a) := (Int32.ofInt_neg a).symm
theorem zi_nI (n : Nat) : nI n = zi n := (Int32.ofInt_eq_ofNat (n := n)).symm
theorem zi_t {a : Int} (h1 : -2147483648 ≤ a) (h2 : a ≤ 2147483647) : (zi a).toInt = a := Int32.toInt_ofInt_of_le (by omega) (by omega)
theorem zi_of (x : Int32) : ∃ a : Int, -2147483648 ≤ a ∧ a ≤ 2147483647 ∧ x = zi a := by
  refine ⟨x.toInt, ?_, ?_, (Int32.ofInt_toInt x).symm⟩
  · have h := x.minValue_le_toInt
    have h5 : Int32.minValue.toInt = -2147483648 := by decide
    omega
  · have h := x.toInt_le
    have h5 : Int32.maxValue.toInt = 2147483647 := by decide
    omega
theorem zi_lt {a b : Int} (h1 : -2147483648 ≤ a) (h2 : a ≤ 2147483647) (h3 : -2147483648 ≤ b) (h4 : b ≤ 2147483647) : zi a < zi b ↔ a < b := by rw [Int32.lt_iff_toInt_lt, zi_t h1 h2, zi_t h3 h4]
theorem zi_le {a b : Int} (h1 : -2147483648 ≤ a) (h2 : a ≤ 2147483647) (h3 : -2147483648 ≤ b) (h4 : b ≤ 2147483647) : zi a ≤ zi b ↔ a ≤ b := by rw [Int32.le_iff_toInt_le, zi_t h1 h2, zi_t h3 h4]
theorem zi_eq {a b : Int} (h1 : -2147483648 ≤ a) (h2 : a ≤ 2147483647) (h3 : -2147483648 ≤ b) (h4 : b ≤ 2147483647) : zi a = zi b ↔ a = b := by rw [← Int32.toInt_inj, zi_t h1 h2, zi_t h3 h4]
theorem zi_0 : (0 : Int32) = zi 0 := rfl
theorem zi_lt0 {a : Int} (h1 : -2147483648 ≤ a) (h2 : a ≤ 2147483647) : zi a < 0 ↔ a < 0 := by rw [zi_0]; exact zi_lt h1 h2 (by decide) (by decide)
theorem zi_ge0 {a : Int} (h1 : -2147483648 ≤ a) (h2 : a ≤ 2147483647) : 0 ≤ zi a ↔ 0 ≤ a := by rw [zi_0]; exact zi_le (by decide) (by decide) h1 h2
theorem zi_gt0 {a : Int} (h1 : -2147483648 ≤ a) (h2 : a ≤ 2147483647) : 0 < zi a ↔ 0 < a := by rw [zi_0]; exact zi_lt (by decide) (by decide) h1 h2
theorem zi_le0 {a : Int} (h1 : -2147483648 ≤ a) (h2 : a ≤ 2147483647) : zi a ≤ 0 ↔ a ≤ 0 := by rw [zi_0]; exact zi_le h1 h2 (by decide) (by decide)
theorem zi_eq0 {a : Int} (h1 : -2147483648 ≤ a) (h2 : a ≤ 2147483647) : zi a = 0 ↔ a = 0 := by rw [zi_0]; exact zi_eq h1 h2 (by decide) (by decide)
theorem zi_div {a b : Int} (h1 : -2147483648 < a) (h2 : a ≤ 2147483647) (h3 : -2147483648 ≤ b) (h4 : b ≤ 2147483647) : zi a / zi b = zi (a.tdiv b) := by
  apply Int32.toInt_inj.mp
  have hne : zi a ≠ Int32.minValue := by
    intro h
    have := congrArg Int32.toInt h
    rw [zi_t (by omega) h2] at this
    have h5 : Int32.minValue.toInt = -2147483648 := by decide
    omega
  rw [Int32.toInt_div_of_ne_left _ _ hne, zi_t (by omega) h2, zi_t h3 h4]
  have hb : (a.tdiv b).natAbs ≤ a.natAbs := by
    rw [Int.natAbs_tdiv]
    exact Nat.div_le_self _ _
  rw [zi_t (by omega) (by omega)]
theorem zi_rem {a b : Int} (h1 : -2147483648 < a) (h2 : a ≤ 2147483647) (h3 : -2147483648 ≤ b) (h4 : b ≤ 2147483647) : zi a - zi a / zi b * zi b = zi (a.tmod b) := by
  rw [zi_div h1 h2 h3 h4, zi_mul, zi_sub]
  congr 1
  have := Int.tmod_add_tdiv_mul a b
  omega
theorem zi_c {a : Int} (h1 : 0 ≤ a) (h2 : a ≤ 2147483647) : (zi a).toNatClampNeg = a.toNat := by
  show (zi a).toInt.toNat = a.toNat
  rw [zi_t (by omega) h2]
theorem zi_in {a : Int} {n : Nat} (h1 : 0 ≤ a) (h2 : a < n) (h3 : n ≤ 2147483647) : vp_in (zi a) n := by
  rw [vp_in_iff, zi_t (by omega) (by omega)]
  exact ⟨h1, h2⟩
theorem zi_nar {a : Int} (h : a = 0 ∨ a = 1) : vp_nar .boolean (zi a) = zi a := by rcases h with rfl | rfl <;> rfl
theorem zi_narB {a : Int} (h : a = 0 ∨ a = 1) : narrow .boolean (.int (zi a)) = .int (zi a) := by rcases h with rfl | rfl <;> rfl
theorem zi_fitB {a : Int} (h : a = 0 ∨ a = 1) : fits .boolean (.int (zi a)) = true := by rcases h with rfl | rfl <;> rfl
section ZR
variable {sc : ax_S} {k pc q : Nat} {ls : List (Option Value)} {st : List Value} {h : ax_H} {K : ax_K}
theorem z_iadd {a b : Int} (g0 : decode (g_m k).2.1 pc = .ok (.iadd, 1)) (g1 : pc + 1 = q) (p0 : Ex sc k q ls (.int (zi (a + b)) :: st) h K) : Ex sc k pc ls (.int (zi b) :: .int (zi a) :: st) h K := x_iadd g0 g1 (by rw [zi_add]; exact p0)
theorem z_isub {a b : Int} (g0 : decode (g_m k).2.1 pc = .ok (.isub, 1)) (g1 : pc + 1 = q) (p0 : Ex sc k q ls (.int (zi (a - b)) :: st) h K) : Ex sc k pc ls (.int (zi b) :: .int (zi a) :: st) h K := x_isub g0 g1 (by rw [zi_sub]; exact p0)
theorem z_imul {a b : Int} (g0 : decode (g_m k).2.1 pc = .ok (.imul, 1)) (g1 : pc + 1 = q) (p0 : Ex sc k q ls (.int (zi (a * b)) :: st) h K) : Ex sc k pc ls (.int (zi b) :: .int (zi a) :: st) h K := x_imul g0 g1 (by rw [zi_mul]; exact p0)
theorem z_ineg {a : Int} (g0 : decode (g_m k).2.1 pc = .ok (.ineg, 1)) (g1 : pc + 1 = q) (p0 : Ex sc k q ls (.int (zi (-a)) :: st) h K) : Ex sc k pc ls (.int (zi a) :: st) h K := x_ineg g0 g1 (by rw [zi_neg]; exact p0)
theorem z_idiv {a b : Int} (g0 : decode (g_m k).2.1 pc = .ok (.idiv, 1)) (g1 : pc + 1 = q) (h1 : -2147483648 < a) (h2 : a ≤ 2147483647) (h3 : 0 < b) (h4 : b ≤ 2147483647) (p0 : Ex sc k q ls (.int (zi (a.tdiv b)) :: st) h K) : Ex sc k pc ls (.int (zi b) :: .int (zi a) :: st) h K := x_idiv g0 g1 (by rw [zi_eq0 (by omega) h4]; omega) (by rw [zi_div h1 h2 (by omega) h4]; exact p0)
theorem z_irem {a b : Int} (g0 : decode (g_m k).2.1 pc = .ok (.irem, 1)) (g1 : pc + 1 = q) (h1 : -2147483648 < a) (h2 : a ≤ 2147483647) (h3 : 0 < b) (h4 : b ≤ 2147483647) (p0 : Ex sc k q ls (.int (zi (a.tmod b)) :: st) h K) : Ex sc k pc ls (.int (zi b) :: .int (zi a) :: st) h K := x_irem g0 g1 (by rw [zi_eq0 (by omega) h4]; omega) (by rw [zi_rem h1 h2 (by omega) h4]; exact p0)
end ZR
theorem xincz_0 {sc : ax_S} {k pc q : Nat} {st : List Value} {h : ax_H} {K : ax_K} {tl : List (Option Value)} {a n : Int} (g0 : decode (g_m k).2.1 pc = .ok (.iinc 0 n, 3)) (g1 : pc + 3 = q) (p0 : Ex sc k q (some (.int (zi (a + n))) :: tl) st h K) : Ex sc k pc (some (.int (zi a)) :: tl) st h K := xinc_0 g0 g1 (zi_add a n) p0
theorem xincz_1 {sc : ax_S} {k pc q : Nat} {st : List Value} {h : ax_H} {K : ax_K} {tl : List (Option Value)} {a0 : Option Value} {a n : Int} (g0 : decode (g_m k).2.1 pc = .ok (.iinc 1 n, 3)) (g1 : pc + 3 = q) (p0 : Ex sc k q (a0 :: some (.int (zi (a + n))) :: tl) st h K) : Ex sc k pc (a0 :: some (.int (zi a)) :: tl) st h K := xinc_1 g0 g1 (zi_add a n) p0
theorem xincz_2 {sc : ax_S} {k pc q : Nat} {st : List Value} {h : ax_H} {K : ax_K} {tl : List (Option Value)} {a0 a1 : Option Value} {a n : Int} (g0 : decode (g_m k).2.1 pc = .ok (.iinc 2 n, 3)) (g1 : pc + 3 = q) (p0 : Ex sc k q (a0 :: a1 :: some (.int (zi (a + n))) :: tl) st h K) : Ex sc k pc (a0 :: a1 :: some (.int (zi a)) :: tl) st h K := xinc_2 g0 g1 (zi_add a n) p0
theorem xincz_3 {sc : ax_S} {k pc q : Nat} {st : List Value} {h : ax_H} {K : ax_K} {tl : List (Option Value)} {a0 a1 a2 : Option Value} {a n : Int} (g0 : decode (g_m k).2.1 pc = .ok (.iinc 3 n, 3)) (g1 : pc + 3 = q) (p0 : Ex sc k q (a0 :: a1 :: a2 :: some (.int (zi (a + n))) :: tl) st h K) : Ex sc k pc (a0 :: a1 :: a2 :: some (.int (zi a)) :: tl) st h K := xinc_3 g0 g1 (zi_add a n) p0
theorem xincz_4 {sc : ax_S} {k pc q : Nat} {st : List Value} {h : ax_H} {K : ax_K} {tl : List (Option Value)} {a0 a1 a2 a3 : Option Value} {a n : Int} (g0 : decode (g_m k).2.1 pc = .ok (.iinc 4 n, 3)) (g1 : pc + 3 = q) (p0 : Ex sc k q (a0 :: a1 :: a2 :: a3 :: some (.int (zi (a + n))) :: tl) st h K) : Ex sc k pc (a0 :: a1 :: a2 :: a3 :: some (.int (zi a)) :: tl) st h K := xinc_4 g0 g1 (zi_add a n) p0
theorem xincz_5 {sc : ax_S} {k pc q : Nat} {st : List Value} {h : ax_H} {K : ax_K} {tl : List (Option Value)} {a0 a1 a2 a3 a4 : Option Value} {a n : Int} (g0 : decode (g_m k).2.1 pc = .ok (.iinc 5 n, 3)) (g1 : pc + 3 = q) (p0 : Ex sc k q (a0 :: a1 :: a2 :: a3 :: a4 :: some (.int (zi (a + n))) :: tl) st h K) : Ex sc k pc (a0 :: a1 :: a2 :: a3 :: a4 :: some (.int (zi a)) :: tl) st h K := xinc_5 g0 g1 (zi_add a n) p0
theorem xincz_6 {sc : ax_S} {k pc q : Nat} {st : List Value} {h : ax_H} {K : ax_K} {tl : List (Option Value)} {a0 a1 a2 a3 a4 a5 : Option Value} {a n : Int} (g0 : decode (g_m k).2.1 pc = .ok (.iinc 6 n, 3)) (g1 : pc + 3 = q) (p0 : Ex sc k q (a0 :: a1 :: a2 :: a3 :: a4 :: a5 :: some (.int (zi (a + n))) :: tl) st h K) : Ex sc k pc (a0 :: a1 :: a2 :: a3 :: a4 :: a5 :: some (.int (zi a)) :: tl) st h K := xinc_6 g0 g1 (zi_add a n) p0
theorem xincz_7 {sc : ax_S} {k pc q : Nat} {st : List Value} {h : ax_H} {K : ax_K} {tl : List (Option Value)} {a0 a1 a2 a3 a4 a5 a6 : Option Value} {a n : Int} (g0 : decode (g_m k).2.1 pc = .ok (.iinc 7 n, 3)) (g1 : pc + 3 = q) (p0 : Ex sc k q (a0 :: a1 :: a2 :: a3 :: a4 :: a5 :: a6 :: some (.int (zi (a + n))) :: tl) st h K) : Ex sc k pc (a0 :: a1 :: a2 :: a3 :: a4 :: a5 :: a6 :: some (.int (zi a)) :: tl) st h K := xinc_7 g0 g1 (zi_add a n) p0
theorem xincz_8 {sc : ax_S} {k pc q : Nat} {st : List Value} {h : ax_H} {K : ax_K} {tl : List (Option Value)} {a0 a1 a2 a3 a4 a5 a6 a7 : Option Value} {a n : Int} (g0 : decode (g_m k).2.1 pc = .ok (.iinc 8 n, 3)) (g1 : pc + 3 = q) (p0 : Ex sc k q (a0 :: a1 :: a2 :: a3 :: a4 :: a5 :: a6 :: a7 :: some (.int (zi (a + n))) :: tl) st h K) : Ex sc k pc (a0 :: a1 :: a2 :: a3 :: a4 :: a5 :: a6 :: a7 :: some (.int (zi a)) :: tl) st h K := xinc_8 g0 g1 (zi_add a n) p0
theorem xincz_9 {sc : ax_S} {k pc q : Nat} {st : List Value} {h : ax_H} {K : ax_K} {tl : List (Option Value)} {a0 a1 a2 a3 a4 a5 a6 a7 a8 : Option Value} {a n : Int} (g0 : decode (g_m k).2.1 pc = .ok (.iinc 9 n, 3)) (g1 : pc + 3 = q) (p0 : Ex sc k q (a0 :: a1 :: a2 :: a3 :: a4 :: a5 :: a6 :: a7 :: a8 :: some (.int (zi (a + n))) :: tl) st h K) : Ex sc k pc (a0 :: a1 :: a2 :: a3 :: a4 :: a5 :: a6 :: a7 :: a8 :: some (.int (zi a)) :: tl) st h K := xinc_9 g0 g1 (zi_add a n) p0
theorem xincz_10 {sc : ax_S} {k pc q : Nat} {st : List Value} {h : ax_H} {K : ax_K} {tl : List (Option Value)} {a0 a1 a2 a3 a4 a5 a6 a7 a8 a9 : Option Value} {a n : Int} (g0 : decode (g_m k).2.1 pc = .ok (.iinc 10 n, 3)) (g1 : pc + 3 = q) (p0 : Ex sc k q (a0 :: a1 :: a2 :: a3 :: a4 :: a5 :: a6 :: a7 :: a8 :: a9 :: some (.int (zi (a + n))) :: tl) st h K) : Ex sc k pc (a0 :: a1 :: a2 :: a3 :: a4 :: a5 :: a6 :: a7 :: a8 :: a9 :: some (.int (zi a)) :: tl) st h K := xinc_10 g0 g1 (zi_add a n) p0
theorem xincz_11 {sc : ax_S} {k pc q : Nat} {st : List Value} {h : ax_H} {K : ax_K} {tl : List (Option Value)} {a0 a1 a2 a3 a4 a5 a6 a7 a8 a9 a10 : Option Value} {a n : Int} (g0 : decode (g_m k).2.1 pc = .ok (.iinc 11 n, 3)) (g1 : pc + 3 = q) (p0 : Ex sc k q (a0 :: a1 :: a2 :: a3 :: a4 :: a5 :: a6 :: a7 :: a8 :: a9 :: a10 :: some (.int (zi (a + n))) :: tl) st h K) : Ex sc k pc (a0 :: a1 :: a2 :: a3 :: a4 :: a5 :: a6 :: a7 :: a8 :: a9 :: a10 :: some (.int (zi a)) :: tl) st h K := xinc_11 g0 g1 (zi_add a n) p0
theorem xincz_12 {sc : ax_S} {k pc q : Nat} {st : List Value} {h : ax_H} {K : ax_K} {tl : List (Option Value)} {a0 a1 a2 a3 a4 a5 a6 a7 a8 a9 a10 a11 : Option Value} {a n : Int} (g0 : decode (g_m k).2.1 pc = .ok (.iinc 12 n, 3)) (g1 : pc + 3 = q) (p0 : Ex sc k q (a0 :: a1 :: a2 :: a3 :: a4 :: a5 :: a6 :: a7 :: a8 :: a9 :: a10 :: a11 :: some (.int (zi (a + n))) :: tl) st h K) : Ex sc k pc (a0 :: a1 :: a2 :: a3 :: a4 :: a5 :: a6 :: a7 :: a8 :: a9 :: a10 :: a11 :: some (.int (zi a)) :: tl) st h K := xinc_12 g0 g1 (zi_add a n) p0
theorem xincz_13 {sc : ax_S} {k pc q : Nat} {st : List Value} {h : ax_H} {K : ax_K} {tl : List (Option Value)} {a0 a1 a2 a3 a4 a5 a6 a7 a8 a9 a10 a11 a12 : Option Value} {a n : Int} (g0 : decode (g_m k).2.1 pc = .ok (.iinc 13 n, 3)) (g1 : pc + 3 = q) (p0 : Ex sc k q (a0 :: a1 :: a2 :: a3 :: a4 :: a5 :: a6 :: a7 :: a8 :: a9 :: a10 :: a11 :: a12 :: some (.int (zi (a + n))) :: tl) st h K) : Ex sc k pc (a0 :: a1 :: a2 :: a3 :: a4 :: a5 :: a6 :: a7 :: a8 :: a9 :: a10 :: a11 :: a12 :: some (.int (zi a)) :: tl) st h K := xinc_13 g0 g1 (zi_add a n) p0
theorem xincz_14 {sc : ax_S} {k pc q : Nat} {st : List Value} {h : ax_H} {K : ax_K} {tl : List (Option Value)} {a0 a1 a2 a3 a4 a5 a6 a7 a8 a9 a10 a11 a12 a13 : Option Value} {a n : Int} (g0 : decode (g_m k).2.1 pc = .ok (.iinc 14 n, 3)) (g1 : pc + 3 = q) (p0 : Ex sc k q (a0 :: a1 :: a2 :: a3 :: a4 :: a5 :: a6 :: a7 :: a8 :: a9 :: a10 :: a11 :: a12 :: a13 :: some (.int (zi (a + n))) :: tl) st h K) : Ex sc k pc (a0 :: a1 :: a2 :: a3 :: a4 :: a5 :: a6 :: a7 :: a8 :: a9 :: a10 :: a11 :: a12 :: a13 :: some (.int (zi a)) :: tl) st h K := xinc_14 g0 g1 (zi_add a n) p0
theorem xincz_15 {sc : ax_S} {k pc q : Nat} {st : List Value} {h : ax_H} {K : ax_K} {tl : List (Option Value)} {a0 a1 a2 a3 a4 a5 a6 a7 a8 a9 a10 a11 a12 a13 a14 : Option Value} {a n : Int} (g0 : decode (g_m k).2.1 pc = .ok (.iinc 15 n, 3)) (g1 : pc + 3 = q) (p0 : Ex sc k q (a0 :: a1 :: a2 :: a3 :: a4 :: a5 :: a6 :: a7 :: a8 :: a9 :: a10 :: a11 :: a12 :: a13 :: a14 :: some (.int (zi (a + n))) :: tl) st h K) : Ex sc k pc (a0 :: a1 :: a2 :: a3 :: a4 :: a5 :: a6 :: a7 :: a8 :: a9 :: a10 :: a11 :: a12 :: a13 :: a14 :: some (.int (zi a)) :: tl) st h K := xinc_15 g0 g1 (zi_add a n) p0
theorem xincz_16 {sc : ax_S} {k pc q : Nat} {st : List Value} {h : ax_H} {K : ax_K} {tl : List (Option Value)} {a0 a1 a2 a3 a4 a5 a6 a7 a8 a9 a10 a11 a12 a13 a14 a15 : Option Value} {a n : Int} (g0 : decode (g_m k).2.1 pc = .ok (.iinc 16 n, 3)) (g1 : pc + 3 = q) (p0 : Ex sc k q (a0 :: a1 :: a2 :: a3 :: a4 :: a5 :: a6 :: a7 :: a8 :: a9 :: a10 :: a11 :: a12 :: a13 :: a14 :: a15 :: some (.int (zi (a + n))) :: tl) st h K) : Ex sc k pc (a0 :: a1 :: a2 :: a3 :: a4 :: a5 :: a6 :: a7 :: a8 :: a9 :: a10 :: a11 :: a12 :: a13 :: a14 :: a15 :: some (.int (zi a)) :: tl) st h K := xinc_16 g0 g1 (zi_add a n) p0
theorem xincz_17 {sc : ax_S} {k pc q : Nat} {st : List Value} {h : ax_H} {K : ax_K} {tl : List (Option Value)} {a0 a1 a2 a3 a4 a5 a6 a7 a8 a9 a10 a11 a12 a13 a14 a15 a16 : Option Value} {a n : Int} (g0 : decode (g_m k).2.1 pc = .ok (.iinc 17 n, 3)) (g1 : pc + 3 = q) (p0 : Ex sc k q (a0 :: a1 :: a2 :: a3 :: a4 :: a5 :: a6 :: a7 :: a8 :: a9 :: a10 :: a11 :: a12 :: a13 :: a14 :: a15 :: a16 :: some (.int (zi (a + n))) :: tl) st h K) : Ex sc k pc (a0 :: a1 :: a2 :: a3 :: a4 :: a5 :: a6 :: a7 :: a8 :: a9 :: a10 :: a11 :: a12 :: a13 :: a14 :: a15 :: a16 :: some (.int (zi a)) :: tl) st h K := xinc_17 g0 g1 (zi_add a n) p0
theorem xincz_18 {sc : ax_S} {k pc q : Nat} {st : List Value} {h : ax_H} {K : ax_K} {tl : List (Option Value)} {a0 a1 a2 a3 a4 a5 a6 a7 a8 a9 a10 a11 a12 a13 a14 a15 a16 a17 : Option Value} {a n : Int} (g0 : decode (g_m k).2.1 pc = .ok (.iinc 18 n, 3)) (g1 : pc + 3 = q) (p0 : Ex sc k q (a0 :: a1 :: a2 :: a3 :: a4 :: a5 :: a6 :: a7 :: a8 :: a9 :: a10 :: a11 :: a12 :: a13 :: a14 :: a15 :: a16 :: a17 :: some (.int (zi (a + n))) :: tl) st h K) : Ex sc k pc (a0 :: a1 :: a2 :: a3 :: a4 :: a5 :: a6 :: a7 :: a8 :: a9 :: a10 :: a11 :: a12 :: a13 :: a14 :: a15 :: a16 :: a17 :: some (.int (zi a)) :: tl) st h K := xinc_18 g0 g1 (zi_add a n) p0
theorem xincz_19 {sc : ax_S} {k pc q : Nat} {st : List Value} {h : ax_H} {K : ax_K} {tl : List (Option Value)} {a0 a1 a2 a3 a4 a5 a6 a7 a8 a9 a10 a11 a12 a13 a14 a15 a16 a17 a18 : Option Value} {a n : Int} (g0 : decode (g_m k).2.1 pc = .ok (.iinc 19 n, 3)) (g1 : pc + 3 = q) (p0 : Ex sc k q (a0 :: a1 :: a2 :: a3 :: a4 :: a5 :: a6 :: a7 :: a8 :: a9 :: a10 :: a11 :: a12 :: a13 :: a14 :: a15 :: a16 :: a17 :: a18 :: some (.int (zi (a + n))) :: tl) st h K) : Ex sc k pc (a0 :: a1 :: a2 :: a3 :: a4 :: a5 :: a6 :: a7 :: a8 :: a9 :: a10 :: a11 :: a12 :: a13 :: a14 :: a15 :: a16 :: a17 :: a18 :: some (.int (zi a)) :: tl) st h K := xinc_19 g0 g1 (zi_add a n) p0
