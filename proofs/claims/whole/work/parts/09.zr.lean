/-! rules in whole numbers: min, max; arrays copied; small facts of va_up -/
theorem va_us {α : Type} (f : Nat → α) (k : Nat) (v : α) : va_up f k v k = v := if_pos rfl
theorem va_un {α : Type} (f : Nat → α) (k : Nat) (v : α) {j : Nat} (h : j ≠ k) : va_up f k v j = f j := if_neg h
theorem z_mmin {sc : ax_S} {k pc q idx : Nat} {ls : List (Option Value)} {st : List Value} {h : ax_H} {K : ax_K} {a b : Int} (h1 : -2147483648 ≤ a ∧ a ≤ 2147483647) (h2 : -2147483648 ≤ b ∧ b ≤ 2147483647) (g0 : decode (g_m k).2.1 pc = .ok (.invokestatic idx, 3)) (g1 : pc + 3 = q) (g2 : (Cond.methodLink (g_m k).1.cls idx Lib.Math.min.name) ∈ gw) (g6 : 1 ≤ g_fr k ∧ 30 ≤ g_lo k) (g7 : (st.map fun v => v.category).sum ≤ 8) (p0 : Ex sc k q ls (.int (zi (if b < a then b else a)) :: st) h K) : Ex sc k pc ls (.int (zi b) :: .int (zi a) :: st) h K := by
  refine x_mmin g0 g1 g2 wm_min_s wm_i wm_min_c g6 g7 ?_
  have e : (if zi b < zi a then zi b else zi a) = zi (if b < a then b else a) := by
    by_cases hc : b < a
    · rw [if_pos hc, if_pos ((zi_lt h2.1 h2.2 h1.1 h1.2).mpr hc)]
    · rw [if_neg hc, if_neg (fun z => hc ((zi_lt h2.1 h2.2 h1.1 h1.2).mp z))]
  rw [e]
  exact p0
theorem z_mmax {sc : ax_S} {k pc q idx : Nat} {ls : List (Option Value)} {st : List Value} {h : ax_H} {K : ax_K} {a b : Int} (h1 : -2147483648 ≤ a ∧ a ≤ 2147483647) (h2 : -2147483648 ≤ b ∧ b ≤ 2147483647) (g0 : decode (g_m k).2.1 pc = .ok (.invokestatic idx, 3)) (g1 : pc + 3 = q) (g2 : (Cond.methodLink (g_m k).1.cls idx Lib.Math.max.name) ∈ gw) (g6 : 1 ≤ g_fr k ∧ 30 ≤ g_lo k) (g7 : (st.map fun v => v.category).sum ≤ 8) (p0 : Ex sc k q ls (.int (zi (if a < b then b else a)) :: st) h K) : Ex sc k pc ls (.int (zi b) :: .int (zi a) :: st) h K := by
  refine x_mmax g0 g1 g2 wm_max_s wm_i wm_max_c g6 g7 ?_
  have e : (if zi a < zi b then zi b else zi a) = zi (if a < b then b else a) := by
    by_cases hc : a < b
    · rw [if_pos hc, if_pos ((zi_lt h1.1 h1.2 h2.1 h2.2).mpr hc)]
    · rw [if_neg hc, if_neg (fun z => hc ((zi_lt h1.1 h1.2 h2.1 h2.2).mp z))]
  rw [e]
  exact p0
/-- arraycopy within the keys of Ranks r -/
theorem z_cpyR {sc : ax_S} {k pc q idx : Nat} {ls : List (Option Value)} {st : List Value} {σ : Nat → ax_C} {I : Nat → Int} {F : Nat → Nat → Int} {n bc bs : Nat} {K : ax_K} {r : Nat} {a b m : Int} (hr : r < 6) (hn : 22 ≤ n) (g0 : decode (g_m k).2.1 pc = .ok (.invokestatic idx, 3)) (g1 : pc + 3 = q) (g2 : (Cond.methodLink (g_m k).1.cls idx arraycopyName) ∈ gw) (g6 : 1 ≤ g_fr k ∧ 8 + (nativeFrameWords "java/lang/System" "arraycopy" 5 + 11) ≤ g_lo k) (g7 : (st.map fun v => v.category).sum ≤ 8)
    (h1 : 0 ≤ a) (h2 : 0 ≤ b) (h3 : 0 ≤ m) (h4 : a + m ≤ (rkC r : Nat)) (h5 : b + m ≤ (rkC r : Nat)) (p0 : Ex sc k q ls st (vg σ I (va_up F (10 + r) (va_cpy (F (10 + r)) (F (10 + r)) a.toNat b.toNat m.toNat)), n, bc, bs) K) :
    Ex sc k pc ls (.int (zi m) :: .int (zi b) :: .ref (rkK r) :: .int (zi a) :: .ref (rkK r) :: st) (vg σ I F, n, bc, bs) K := by
  have hc := rkC_le r
  have hlt := (rk_lt hr hn).2
  refine x_acopy (h := (vg σ I F, n, bc, bs)) (o0 := rkK r) (o1 := rkK r) g0 g1 g2 ws_n ws_s ws_i g6 g7 hlt hlt (vg_rkK hr) (vg_rkK hr) (by rw [zi_lt0] <;> omega) (by rw [zi_lt0] <;> omega) (by rw [zi_lt0] <;> omega) (by rw [zi_c h1 (by omega), zi_c h3 (by omega)]; omega) (by rw [zi_c h2 (by omega), zi_c h3 (by omega)]; omega) ?_
  rw [zi_c h1 (by omega), zi_c h2 (by omega), zi_c h3 (by omega), cpy_zi]
  rw [← vg_arr_rk σ I F _ hr] at p0
  exact p0
/-- arraycopy within the values -/
theorem z_cpyV {sc : ax_S} {k pc q idx : Nat} {ls : List (Option Value)} {st : List Value} {σ : Nat → ax_C} {I : Nat → Int} {F : Nat → Nat → Int} {n bc bs : Nat} {K : ax_K} {a b m : Int} (hn : 22 ≤ n) (hp : (I 7).toNat ≤ 8) (g0 : decode (g_m k).2.1 pc = .ok (.invokestatic idx, 3)) (g1 : pc + 3 = q) (g2 : (Cond.methodLink (g_m k).1.cls idx arraycopyName) ∈ gw) (g6 : 1 ≤ g_fr k ∧ 8 + (nativeFrameWords "java/lang/System" "arraycopy" 5 + 11) ≤ g_lo k) (g7 : (st.map fun v => v.category).sum ≤ 8)
    (h1 : 0 ≤ a) (h2 : 0 ≤ b) (h3 : 0 ≤ m) (h4 : a + m ≤ (101 * (I 7).toNat : Nat)) (h5 : b + m ≤ (101 * (I 7).toNat : Nat)) (p0 : Ex sc k q ls st (vg σ I (va_up F 2 (va_cpy (F 2) (F 2) a.toNat b.toNat m.toNat)), n, bc, bs) K) :
    Ex sc k pc ls (.int (zi m) :: .int (zi b) :: .ref 4 :: .int (zi a) :: .ref 4 :: st) (vg σ I F, n, bc, bs) K := by
  have hlt : 4 < n := by omega
  refine x_acopy (h := (vg σ I F, n, bc, bs)) (o0 := 4) (o1 := 4) (n0 := 101 * (I 7).toNat) (n1 := 101 * (I 7).toNat) (f := fun j => zi (F 2 j)) (g := fun j => zi (F 2 j)) g0 g1 g2 ws_n ws_s ws_i g6 g7 hlt hlt rfl rfl (by rw [zi_lt0] <;> omega) (by rw [zi_lt0] <;> omega) (by rw [zi_lt0] <;> omega) (by rw [zi_c h1 (by omega), zi_c h3 (by omega)]; omega) (by rw [zi_c h2 (by omega), zi_c h3 (by omega)]; omega) ?_
  rw [zi_c h1 (by omega), zi_c h2 (by omega), zi_c h3 (by omega), cpy_zi]
  rw [← vg_arr_values] at p0
  exact p0
