/-! THE REFERENCE: what is called, first half -/
theorem in_0 {a lo hi : Int} : zi (inI a lo hi) = 0 ↔ ¬ (lo ≤ a ∧ a ≤ hi) := by
  unfold inI
  split
  next h => exact ⟨fun z => absurd z (by decide), fun z => absurd h z⟩
  next h => exact ⟨fun _ => h, fun _ => rfl⟩
theorem nv_0 {N : Nat} {i : Int} : zi (1 - hasI N i) = 0 ↔ (0 ≤ i ∧ i < N) := by
  unfold hasI
  split
  next h => exact ⟨fun _ => h, fun _ => rfl⟩
  next h => exact ⟨fun z => absurd z (by decide), fun z => absurd z h⟩

set_option maxHeartbeats 2000000 in
theorem lt_copy {sc : ax_S} {σ : Nat → ax_C} {J : Nat → Int} {G0 : Nat → Nat → Int} {n bc bs : Nat} {K : ax_K} (hn : 38 ≤ n) {a b : Nat} (ha : a ≤ 100) (hb : b ≤ 100)
    (k : ∀ G', (∀ r, r ≠ 0 → G' r = G0 r) → (∀ p, p < 8 * b ∨ 8 * b + 8 ≤ p → G' 0 p = G0 0 p) → (∀ q, q < 8 → G' 0 (8 * b + q) = G0 0 (8 * a + q)) → K none (mg σ J G', n, bc, bs)) :
    ∀ (d j : Nat) (G : Nat → Nat → Int), j + d = 8 → (∀ r, r ≠ 0 → G r = G0 r) → (∀ p, p < 8 * b ∨ 8 * b + j ≤ p → G 0 p = G0 0 p) → (∀ q, q < j → G 0 (8 * b + q) = G0 0 (8 * a + q)) → Ex sc 68 2 [some (.ref 22), some (.int (zi a)), some (.int (zi b)), some (.int (zi j))] [] (mg σ J G, n, bc, bs) K := by
  intro d
  induction d with
  | zero =>
    intro j G hj h1 h2 h3
    have hj1 : j = 8 := by omega
    subst hj1
    refine xild_3 (q := 3) d_68_2 rfl ?_
    refine x_bipush (q := 5) (v := zi (8)) d_68_3 rfl (by decide) ?_
    refine x_icmp_ge (q := 8) (t := 36) d_68_5 (by decide) rfl (fun c5 => ?_) (fun c5 => ?_)
    · rw [zi_le (by omega) (by omega) (by omega) (by omega)] at c5
      refine x_vret d_68_36 rfl ?_
      exact k G h1 h2 h3
    · rw [zi_le (by omega) (by omega) (by omega) (by omega)] at c5
      exact absurd c5 (by omega)
  | succ d ih =>
    intro j G hj h1 h2 h3
    have hrd : G 0 (8 * a + j) = G0 0 (8 * a + j) := h2 _ (by omega)
    refine xild_3 (q := 3) d_68_2 rfl ?_
    refine x_bipush (q := 5) (v := zi (8)) d_68_3 rfl (by decide) ?_
    refine x_icmp_ge (q := 8) (t := 36) d_68_5 (by decide) rfl (fun c5 => ?_) (fun c5 => ?_)
    · rw [zi_le (by omega) (by omega) (by omega) (by omega)] at c5
      exact absurd c5 (by omega)
    · rw [zi_le (by omega) (by omega) (by omega) (by omega)] at c5
      refine xald_0 (q := 9) d_68_8 rfl ?_
      refine yg_all hn (q := 12) d_68_9 rfl fl_M_19 ?_
      refine x_bipush (q := 14) (v := zi (8)) d_68_12 rfl (by decide) ?_
      refine xild_2 (q := 15) d_68_14 rfl ?_
      refine z_imul (q := 16) d_68_15 rfl ?_
      refine xild_3 (q := 17) d_68_16 rfl ?_
      refine z_iadd (q := 18) d_68_17 rfl ?_
      refine xald_0 (q := 19) d_68_18 rfl ?_
      refine yg_all hn (q := 22) d_68_19 rfl fl_M_19 ?_
      refine x_bipush (q := 24) (v := zi (8)) d_68_22 rfl (by decide) ?_
      refine xild_1 (q := 25) d_68_24 rfl ?_
      refine z_imul (q := 26) d_68_25 rfl ?_
      refine xild_3 (q := 27) d_68_26 rfl ?_
      refine z_iadd (q := 28) d_68_27 rfl ?_
      refine yl_all (q := 29) hn d_68_28 rfl (by omega) (by omega) ?_
      rw [show (8 * (a : Int) + (j : Int)).toNat = 8 * a + j by omega, hrd]
      refine ys_all (q := 30) hn d_68_29 rfl (by omega) (by omega) ?_
      refine xincz_3 (q := 33) d_68_30 rfl ?_
      refine x_goto (t := 2) d_68_33 (by decide) ?_
      rw [show (j : Int) + 1 = ((j + 1 : Nat) : Int) by omega, show (8 * (b : Int) + (j : Int)).toNat = 8 * b + j by omega]
      refine ih (j + 1) _ (by omega) (fun r hr => by rw [va_un _ _ _ hr]; exact h1 r hr) (fun p hp => by rw [va_us, va_un _ _ _ (by omega)]; exact h2 p (by omega)) (fun q hq => ?_)
      rw [va_us]
      by_cases e : q = j
      · rw [e, va_us]
      · rw [va_un _ _ _ (by omega)]; exact h3 q (by omega)
set_option maxHeartbeats 2000000 in
theorem t_copy {sc : ax_S} {σ : Nat → ax_C} {J : Nat → Int} {G : Nat → Nat → Int} {n bc bs : Nat} {K : ax_K} (hn : 38 ≤ n) {a b : Nat} (ha : a ≤ 100) (hb : b ≤ 100) (k : ∀ G', (∀ r, r ≠ 0 → G' r = G r) → (∀ p, p < 8 * b ∨ 8 * b + 8 ≤ p → G' 0 p = G 0 p) → (∀ q, q < 8 → G' 0 (8 * b + q) = G 0 (8 * a + q)) → K none (mg σ J G', n, bc, bs)) : Ex sc 68 0 (ax_en 68 [.ref 22, .int (zi a), .int (zi b)]) [] (mg σ J G, n, bc, bs) K := by
  show Ex sc 68 0 [some (.ref 22), some (.int (zi a)), some (.int (zi b)), none] [] (mg σ J G, n, bc, bs) K
  refine x_iconst (q := 1) (v := zi (0)) d_68_0 rfl rfl ?_
  refine xist_3 (q := 2) d_68_1 rfl ?_
  exact lt_copy hn ha hb k 8 0 G (by omega) (fun _ _ => rfl) (fun _ _ => rfl) (fun q hq => absurd hq (Nat.not_lt_zero _))
set_option maxHeartbeats 2000000 in
theorem t_part {sc : ax_S} {σ : Nat → ax_C} {J : Nat → Int} {G : Nat → Nat → Int} {n bc bs : Nat} {K : ax_K} (hn : 38 ≤ n) {P N M : Nat} (hT : TW J G P N M) {i v : Int} (hi : I32 i) (hv3 : I32 v)
    (k1 : 0 ≤ i ∧ i < P ∧ -100 ≤ v ∧ v ≤ 100 → K (some (.int (zi (tv G 100 i.toNat)))) (mg σ (va_up J 0 0) (va_up G 0 (va_up (G 0) (800 + i.toNat) v)), n, bc, bs)) (k2 : ¬ (0 ≤ i ∧ i < P ∧ -100 ≤ v ∧ v ≤ 100) → K (some (.int (zi (-1000)))) (mg σ (va_up J 0 0) G, n, bc, bs)) : Ex sc 65 0 (ax_en 65 [.ref 22, .int (zi i), .int (zi v)]) [] (mg σ J G, n, bc, bs) K := by
  obtain ⟨hP, hP1, hP2, hN, hN2, hM, hM2, hv, hbr, hrm⟩ := id hT
  have hP' : (va_up J 0 0) 1 = P := hP
  show Ex sc 65 0 [some (.ref 22), some (.int (zi i)), some (.int (zi v)), none] [] (mg σ J G, n, bc, bs) K
  refine xald_0 (q := 1) d_65_0 rfl ?_
  refine x_iconst (q := 2) (v := zi (0)) d_65_1 rfl rfl ?_
  refine yp_thrown hn (q := 5) d_65_2 rfl fw_M_1 ?_
  refine xild_1 (q := 6) d_65_5 rfl ?_
  refine z_i2l (by omega) (by omega) (q := 7) d_65_6 rfl ?_
  refine x_lconst (q := 8) (v := zl (0)) d_65_7 rfl rfl ?_
  refine xald_0 (q := 9) d_65_8 rfl ?_
  refine yg_parts hn (q := 12) d_65_9 rfl fl_M_70 ?_
  refine x_iconst (q := 13) (v := zi (1)) d_65_12 rfl rfl ?_
  refine z_isub (q := 14) d_65_13 rfl ?_
  refine z_i2l (by omega) (by omega) (q := 15) d_65_14 rfl ?_
  refine z_in (by omega) (by omega) (by omega) (by omega) (by omega) (by omega) (q := 18) d_65_15 rfl lk_M_79 ⟨by decide +kernel, by decide +kernel⟩ (by simp [Value.category]) ?_
  refine x_if_eq (q := 21) (t := 35) d_65_18 (by decide) rfl (fun c18 => ?_) (fun c18 => ?_)
  · rw [in_0] at c18
    refine x_sipush (q := 38) (v := zi (-1000)) d_65_35 rfl (by decide) ?_
    refine x_iret d_65_38 rfl rfl ?_
    first
      | (exact k2 (by omega))
      | (exact k1 (by omega))
  · rw [in_0] at c18
    refine xild_2 (q := 22) d_65_21 rfl ?_
    refine z_i2l (by omega) (by omega) (q := 23) d_65_22 rfl ?_
    refine x_ldc2 (q := 26) (v := zl (-100)) d_65_23 rfl (by rw [show zl (-100) = (-100 : Int64) from by decide]; exact kc_M_153) ?_
    refine x_ldc2 (q := 29) (v := zl (100)) d_65_26 rfl kc_M_155 ?_
    refine z_in (by omega) (by omega) (by omega) (by omega) (by omega) (by omega) (q := 32) d_65_29 rfl lk_M_79 ⟨by decide +kernel, by decide +kernel⟩ (by simp [Value.category]) ?_
    refine x_if_ne (q := 35) (t := 39) d_65_32 (by decide) rfl (fun c32 => ?_) (fun c32 => ?_)
    · rw [in_0] at c32
      refine xald_0 (q := 40) d_65_39 rfl ?_
      refine yg_all hn (q := 43) d_65_40 rfl fl_M_19 ?_
      refine x_sipush (q := 46) (v := zi (800)) d_65_43 rfl (by decide) ?_
      refine xild_1 (q := 47) d_65_46 rfl ?_
      refine z_iadd (q := 48) d_65_47 rfl ?_
      refine yl_all (q := 49) hn d_65_48 rfl (by omega) (by omega) ?_
      rw [show (800 + i).toNat = 8 * 100 + i.toNat by omega]
      refine xist_3 (q := 50) d_65_49 rfl ?_
      refine xald_0 (q := 51) d_65_50 rfl ?_
      refine yg_all hn (q := 54) d_65_51 rfl fl_M_19 ?_
      refine x_sipush (q := 57) (v := zi (800)) d_65_54 rfl (by decide) ?_
      refine xild_1 (q := 58) d_65_57 rfl ?_
      refine z_iadd (q := 59) d_65_58 rfl ?_
      refine xild_2 (q := 60) d_65_59 rfl ?_
      refine ys_all (q := 61) hn d_65_60 rfl (by omega) (by omega) ?_
      rw [show (800 + i).toNat = 800 + i.toNat by omega]
      refine xild_3 (q := 62) d_65_61 rfl ?_
      refine x_iret d_65_62 rfl rfl ?_
      first
        | (exact k2 (by omega))
        | (exact k1 (by omega))
    · rw [in_0] at c32
      refine x_sipush (q := 38) (v := zi (-1000)) d_65_35 rfl (by decide) ?_
      refine x_iret d_65_38 rfl rfl ?_
      first
        | (exact k2 (by omega))
        | (exact k1 (by omega))
theorem ad_fin {σ : Nat → ax_C} {J : Nat → Int} {G G1 : Nat → Nat → Int} {n bc bs N : Nat} {K : ax_K} (hN' : (va_up J 0 0) 7 = N) (k1 : ∀ (J' : Nat → Int) (G' : Nat → Nat → Int), (∀ r, r ≠ 0 → r ≠ 7 → r ≠ 13 → J' r = J r) → J' 7 = ((N + 1 : Nat) : Int) → J' 13 = 1 → (∀ r, 2 < r → G' r = G r) → (∀ p, p < 8 * N ∨ 8 * N + 8 ≤ p → G' 0 p = G 0 p) → (∀ q, q < 8 → G' 0 (8 * N + q) = G 0 (800 + q)) → G' 1 = va_up (G 1) N 0 → G' 2 = va_up (G 2) N 0 → K (some (.int (zi N))) (mg σ J' G', n, bc, bs)) (a1 : ∀ r, r ≠ 0 → G1 r = G r) (a2 : ∀ p, p < 8 * N ∨ 8 * N + 8 ≤ p → G1 0 p = G 0 p) (a3 : ∀ q, q < 8 → G1 0 (8 * N + q) = G 0 (8 * 100 + q)) : K (some (.int (zi (va_up (va_up (va_up J 0 0) 7 ((N : Int) + 1)) 13 1 7 - 1)))) (mg σ (va_up (va_up (va_up J 0 0) 7 ((N : Int) + 1)) 13 1) (va_up (va_up G1 1 (va_up (G1 1) N 0)) 2 (va_up (va_up G1 1 (va_up (G1 1) N 0) 2) N 0)), n, bc, bs) := by
  rw [show va_up (va_up (va_up J 0 0) 7 ((N : Int) + 1)) 13 1 7 = (N : Int) + 1 from rfl, show (N : Int) + 1 - 1 = N by omega]
  refine k1 _ _ (fun r a b c => by rw [va_un _ _ _ c, va_un _ _ _ b, va_un _ _ _ a]) rfl rfl (fun r hr => by rw [va_un _ _ _ (by omega), va_un _ _ _ (by omega)]; exact a1 r (by omega)) a2 a3 ?_ ?_
  · show va_up (G1 1) N 0 = _
    rw [a1 1 (by decide)]
  · show va_up (G1 2) N 0 = _
    rw [a1 2 (by decide)]
set_option maxHeartbeats 2000000 in
theorem t_add {sc : ax_S} {σ : Nat → ax_C} {J : Nat → Int} {G : Nat → Nat → Int} {n bc bs : Nat} {K : ax_K} (hn : 38 ≤ n) {P N M : Nat} (hT : TW J G P N M)
    (k1 : N < 100 → ∀ (J' : Nat → Int) (G' : Nat → Nat → Int), (∀ r, r ≠ 0 → r ≠ 7 → r ≠ 13 → J' r = J r) → J' 7 = ((N + 1 : Nat) : Int) → J' 13 = 1 → (∀ r, 2 < r → G' r = G r) → (∀ p, p < 8 * N ∨ 8 * N + 8 ≤ p → G' 0 p = G 0 p) → (∀ q, q < 8 → G' 0 (8 * N + q) = G 0 (800 + q)) → G' 1 = va_up (G 1) N 0 → G' 2 = va_up (G 2) N 0 → K (some (.int (zi N))) (mg σ J' G', n, bc, bs)) (k2 : ¬ N < 100 → K (some (.int (zi (-3)))) (mg σ (va_up J 0 0) G, n, bc, bs)) : Ex sc 67 0 (ax_en 67 [.ref 22]) [] (mg σ J G, n, bc, bs) K := by
  obtain ⟨hP, hP1, hP2, hN, hN2, hM, hM2, hv, hbr, hrm⟩ := id hT
  have hN' : (va_up J 0 0) 7 = N := hN
  show Ex sc 67 0 [some (.ref 22)] [] (mg σ J G, n, bc, bs) K
  refine xald_0 (q := 1) d_67_0 rfl ?_
  refine x_iconst (q := 2) (v := zi (0)) d_67_1 rfl rfl ?_
  refine yp_thrown hn (q := 5) d_67_2 rfl fw_M_1 ?_
  refine xald_0 (q := 6) d_67_5 rfl ?_
  refine yg_count hn (q := 9) d_67_6 rfl fl_M_76 ?_
  refine x_bipush (q := 11) (v := zi (100)) d_67_9 rfl (by decide) ?_
  refine x_icmp_ne (q := 14) (t := 17) d_67_11 (by decide) rfl (fun c11 => ?_) (fun c11 => ?_)
  · rw [zi_eq (by omega) (by omega) (by omega) (by omega)] at c11
    refine xald_0 (q := 18) d_67_17 rfl ?_
    refine x_bipush (q := 20) (v := zi (100)) d_67_18 rfl (by decide) ?_
    refine xald_0 (q := 21) d_67_20 rfl ?_
    refine yg_count hn (q := 24) d_67_21 rfl fl_M_76 ?_
    rw [hN']
    refine xcV2 (q := 27) d_67_24 rfl lk_M_157 mo_68 ⟨by decide +kernel, by decide +kernel⟩ (by simp [Value.category]) (by decide +kernel) (by simp [Value.category]) (by omega) rfl ?_
    refine t_copy (a := 100) (b := N) hn (by decide) (by omega) ?_
    intro G1 a1 a2 a3
    dsimp only [ax_ps]
    refine xald_0 (q := 28) d_67_27 rfl ?_
    refine yg_barred hn (q := 31) d_67_28 rfl fl_M_23 ?_
    refine xald_0 (q := 32) d_67_31 rfl ?_
    refine yg_count hn (q := 35) d_67_32 rfl fl_M_76 ?_
    refine x_iconst (q := 36) (v := zi (0)) d_67_35 rfl rfl ?_
    refine ys_barred (q := 37) hn (Or.inl rfl) d_67_36 rfl (by omega) (by omega) ?_
    refine xald_0 (q := 38) d_67_37 rfl ?_
    refine yg_removed hn (q := 41) d_67_38 rfl fl_M_27 ?_
    refine xald_0 (q := 42) d_67_41 rfl ?_
    refine yg_count hn (q := 45) d_67_42 rfl fl_M_76 ?_
    refine x_iconst (q := 46) (v := zi (0)) d_67_45 rfl rfl ?_
    refine ys_removed (q := 47) hn (Or.inl rfl) d_67_46 rfl (by omega) (by omega) ?_
    refine xald_0 (q := 48) d_67_47 rfl ?_
    refine x_dup (q := 49) d_67_48 rfl rfl ?_
    refine yg_count hn (q := 52) d_67_49 rfl fl_M_76 ?_
    refine x_iconst (q := 53) (v := zi (1)) d_67_52 rfl rfl ?_
    refine z_iadd (q := 54) d_67_53 rfl ?_
    refine yp_count hn (q := 57) d_67_54 rfl fw_M_76 ?_
    refine xald_0 (q := 58) d_67_57 rfl ?_
    refine x_iconst (q := 59) (v := zi (1)) d_67_58 rfl rfl ?_
    refine yp_stale hn (Or.inr rfl) (q := 62) d_67_59 rfl fw_M_139 ?_
    refine xald_0 (q := 63) d_67_62 rfl ?_
    refine yg_count hn (q := 66) d_67_63 rfl fl_M_76 ?_
    refine x_iconst (q := 67) (v := zi (1)) d_67_66 rfl rfl ?_
    refine z_isub (q := 68) d_67_67 rfl ?_
    refine x_iret d_67_68 rfl rfl ?_
    first
      | (exact k2 (by omega))
      | (rw [hN', show ((N : Int)).toNat = N by omega]; refine ad_fin hN' (k1 (by omega)) a1 a2 a3)
  · rw [zi_eq (by omega) (by omega) (by omega) (by omega)] at c11
    refine x_bipush (q := 16) (v := zi (-3)) d_67_14 rfl (by decide) ?_
    refine x_iret d_67_16 rfl rfl ?_
    first
      | (exact k2 (by omega))
      | (rw [hN', show ((N : Int)).toNat = N by omega]; refine ad_fin hN' (k1 (by omega)) a1 a2 a3)
set_option maxHeartbeats 2000000 in
theorem t_take {sc : ax_S} {σ : Nat → ax_C} {J : Nat → Int} {G : Nat → Nat → Int} {n bc bs : Nat} {K : ax_K} (hn : 38 ≤ n) {P N M : Nat} (hT : TW J G P N M) {i : Int} (hi : I32 i) (k1 : 0 ≤ i ∧ i < N → ∀ G', (∀ r, r ≠ 0 → G' r = G r) → (∀ p, p < 800 → G' 0 p = G 0 p) → (∀ q, q < 8 → G' 0 (8 * 100 + q) = G 0 (8 * i.toNat + q)) → K (some (.int (zi 1))) (mg σ (va_up J 0 0) G', n, bc, bs)) (k2 : ¬ (0 ≤ i ∧ i < N) → K (some (.int (zi (-1)))) (mg σ (va_up J 0 0) G, n, bc, bs)) : Ex sc 69 0 (ax_en 69 [.ref 22, .int (zi i)]) [] (mg σ J G, n, bc, bs) K := by
  obtain ⟨hP, hP1, hP2, hN, hN2, hM, hM2, hv, hbr, hrm⟩ := id hT
  show Ex sc 69 0 [some (.ref 22), some (.int (zi i))] [] (mg σ J G, n, bc, bs) K
  refine xald_0 (q := 1) d_69_0 rfl ?_
  refine x_iconst (q := 2) (v := zi (0)) d_69_1 rfl rfl ?_
  refine yp_thrown hn (q := 5) d_69_2 rfl fw_M_1 ?_
  refine xald_0 (q := 6) d_69_5 rfl ?_
  refine xild_1 (q := 7) d_69_6 rfl ?_
  refine xcV1 (q := 10) d_69_7 rfl lk_M_160 mo_70 ⟨by decide +kernel, by decide +kernel⟩ (by simp [Value.category]) (by decide +kernel) (by simp [Value.category]) (by omega) rfl ?_
  refine t_noVector (J := (va_up J 0 0)) hn (hT.same rfl rfl rfl rfl rfl rfl) (i := i) hi ?_
  dsimp only [ax_ps]
  refine x_if_eq (q := 13) (t := 15) d_69_10 (by decide) rfl (fun c10 => ?_) (fun c10 => ?_)
  · rw [nv_0] at c10
    refine xald_0 (q := 16) d_69_15 rfl ?_
    refine xild_1 (q := 17) d_69_16 rfl ?_
    refine x_bipush (q := 19) (v := zi (100)) d_69_17 rfl (by decide) ?_
    obtain ⟨u, rfl⟩ : ∃ u : Nat, i = u := ⟨i.toNat, by omega⟩
    refine xcV2 (q := 22) d_69_19 rfl lk_M_157 mo_68 ⟨by decide +kernel, by decide +kernel⟩ (by simp [Value.category]) (by decide +kernel) (by simp [Value.category]) (by omega) rfl ?_
    refine t_copy (a := u) (b := 100) hn (by omega) (by decide) ?_
    intro G1 a1 a2 a3
    dsimp only [ax_ps]
    refine x_iconst (q := 23) (v := zi (1)) d_69_22 rfl rfl ?_
    refine x_iret d_69_23 rfl rfl ?_
    first
      | (exact k1 c10 G1 a1 (fun p hp => a2 p (by omega)) a3)
      | (exact k2 c10)
  · rw [nv_0] at c10
    refine x_iconst (q := 14) (v := zi (-1)) d_69_13 rfl rfl ?_
    refine x_iret d_69_14 rfl rfl ?_
    first
      | (exact k1 c10 G1 a1 (fun p hp => a2 p (by omega)) a3)
      | (exact k2 c10)
set_option maxHeartbeats 2000000 in
theorem t_remove {sc : ax_S} {σ : Nat → ax_C} {J : Nat → Int} {G : Nat → Nat → Int} {n bc bs : Nat} {K : ax_K} (hn : 38 ≤ n) {P N M : Nat} (hT : TW J G P N M) {i : Int} (hi : I32 i) (k1 : 0 ≤ i ∧ i < N → K (some (.int (zi (1 - G 2 i.toNat)))) (mg σ (va_up J 0 0) (va_up G 2 (va_up (G 2) i.toNat 1)), n, bc, bs)) (k2 : ¬ (0 ≤ i ∧ i < N) → K (some (.int (zi (-1)))) (mg σ (va_up J 0 0) G, n, bc, bs)) : Ex sc 71 0 (ax_en 71 [.ref 22, .int (zi i)]) [] (mg σ J G, n, bc, bs) K := by
  obtain ⟨hP, hP1, hP2, hN, hN2, hM, hM2, hv, hbr, hrm⟩ := id hT
  show Ex sc 71 0 [some (.ref 22), some (.int (zi i)), none] [] (mg σ J G, n, bc, bs) K
  refine xald_0 (q := 1) d_71_0 rfl ?_
  refine x_iconst (q := 2) (v := zi (0)) d_71_1 rfl rfl ?_
  refine yp_thrown hn (q := 5) d_71_2 rfl fw_M_1 ?_
  refine xald_0 (q := 6) d_71_5 rfl ?_
  refine xild_1 (q := 7) d_71_6 rfl ?_
  refine xcV1 (q := 10) d_71_7 rfl lk_M_160 mo_70 ⟨by decide +kernel, by decide +kernel⟩ (by simp [Value.category]) (by decide +kernel) (by simp [Value.category]) (by omega) rfl ?_
  refine t_noVector (J := (va_up J 0 0)) hn (hT.same rfl rfl rfl rfl rfl rfl) (i := i) hi ?_
  dsimp only [ax_ps]
  refine x_if_eq (q := 13) (t := 15) d_71_10 (by decide) rfl (fun c10 => ?_) (fun c10 => ?_)
  · rw [nv_0] at c10
    refine xald_0 (q := 16) d_71_15 rfl ?_
    refine yg_removed hn (q := 19) d_71_16 rfl fl_M_27 ?_
    refine xild_1 (q := 20) d_71_19 rfl ?_
    refine yl_removed (q := 21) hn d_71_20 rfl (by omega) (by omega) ?_
    refine xist_2 (q := 22) d_71_21 rfl ?_
    refine xald_0 (q := 23) d_71_22 rfl ?_
    refine yg_removed hn (q := 26) d_71_23 rfl fl_M_27 ?_
    refine xild_1 (q := 27) d_71_26 rfl ?_
    refine x_iconst (q := 28) (v := zi (1)) d_71_27 rfl rfl ?_
    refine ys_removed (q := 29) hn (Or.inr rfl) d_71_28 rfl (by omega) (by omega) ?_
    refine xild_2 (q := 30) d_71_29 rfl ?_
    refine x_if_eq (q := 33) (t := 37) d_71_30 (by decide) rfl (fun c30 => ?_) (fun c30 => ?_)
    · have hbit := hrm i.toNat (by omega)
      rw [zi_eq0 (by omega) (by omega)] at c30
      refine x_iconst (q := 38) (v := zi (1)) d_71_37 rfl rfl ?_
      refine x_iret d_71_38 rfl rfl ?_
      first
        | (exact k2 c10)
        | (have e9 : 1 - G 2 i.toNat = 0 := (by omega); rw [e9] at k1; exact k1 c10)
        | (have e9 : 1 - G 2 i.toNat = 1 := (by omega); rw [e9] at k1; exact k1 c10)
    · have hbit := hrm i.toNat (by omega)
      rw [zi_eq0 (by omega) (by omega)] at c30
      refine x_iconst (q := 34) (v := zi (0)) d_71_33 rfl rfl ?_
      refine x_goto (t := 38) d_71_34 (by decide) ?_
      refine x_iret d_71_38 rfl rfl ?_
      first
        | (exact k2 c10)
        | (have e9 : 1 - G 2 i.toNat = 0 := (by omega); rw [e9] at k1; exact k1 c10)
        | (have e9 : 1 - G 2 i.toNat = 1 := (by omega); rw [e9] at k1; exact k1 c10)
  · rw [nv_0] at c10
    refine x_iconst (q := 14) (v := zi (-1)) d_71_13 rfl rfl ?_
    refine x_iret d_71_14 rfl rfl ?_
    first
      | (exact k2 c10)
      | (have e9 : 1 - G 2 i.toNat = 0 := (by omega); rw [e9] at k1; exact k1 c10)
      | (have e9 : 1 - G 2 i.toNat = 1 := (by omega); rw [e9] at k1; exact k1 c10)
set_option maxHeartbeats 2000000 in
theorem t_bar {sc : ax_S} {σ : Nat → ax_C} {J : Nat → Int} {G : Nat → Nat → Int} {n bc bs : Nat} {K : ax_K} (hn : 38 ≤ n) {P N M : Nat} (hT : TW J G P N M) {i : Int} (hi : I32 i) {b : Int} (hb : b = 0 ∨ b = 1) (k1 : 0 ≤ i ∧ i < N → K (some (.int (zi (G 1 i.toNat)))) (mg σ (va_up J 0 0) (va_up G 1 (va_up (G 1) i.toNat b)), n, bc, bs)) (k2 : ¬ (0 ≤ i ∧ i < N) → K (some (.int (zi (-1)))) (mg σ (va_up J 0 0) G, n, bc, bs)) : Ex sc 72 0 (ax_en 72 [.ref 22, .int (zi i), .int (zi b)]) [] (mg σ J G, n, bc, bs) K := by
  obtain ⟨hP, hP1, hP2, hN, hN2, hM, hM2, hv, hbr, hrm⟩ := id hT
  show Ex sc 72 0 [some (.ref 22), some (.int (zi i)), some (.int (zi b)), none] [] (mg σ J G, n, bc, bs) K
  refine xald_0 (q := 1) d_72_0 rfl ?_
  refine x_iconst (q := 2) (v := zi (0)) d_72_1 rfl rfl ?_
  refine yp_thrown hn (q := 5) d_72_2 rfl fw_M_1 ?_
  refine xald_0 (q := 6) d_72_5 rfl ?_
  refine xild_1 (q := 7) d_72_6 rfl ?_
  refine xcV1 (q := 10) d_72_7 rfl lk_M_160 mo_70 ⟨by decide +kernel, by decide +kernel⟩ (by simp [Value.category]) (by decide +kernel) (by simp [Value.category]) (by omega) rfl ?_
  refine t_noVector (J := (va_up J 0 0)) hn (hT.same rfl rfl rfl rfl rfl rfl) (i := i) hi ?_
  dsimp only [ax_ps]
  refine x_if_eq (q := 13) (t := 15) d_72_10 (by decide) rfl (fun c10 => ?_) (fun c10 => ?_)
  · rw [nv_0] at c10
    refine xald_0 (q := 16) d_72_15 rfl ?_
    refine yg_barred hn (q := 19) d_72_16 rfl fl_M_23 ?_
    refine xild_1 (q := 20) d_72_19 rfl ?_
    refine yl_barred (q := 21) hn d_72_20 rfl (by omega) (by omega) ?_
    refine xist_3 (q := 22) d_72_21 rfl ?_
    refine xald_0 (q := 23) d_72_22 rfl ?_
    refine yg_barred hn (q := 26) d_72_23 rfl fl_M_23 ?_
    refine xild_1 (q := 27) d_72_26 rfl ?_
    refine xild_2 (q := 28) d_72_27 rfl ?_
    refine ys_barred (q := 29) hn hb d_72_28 rfl (by omega) (by omega) ?_
    refine xild_3 (q := 30) d_72_29 rfl ?_
    refine x_if_eq (q := 33) (t := 37) d_72_30 (by decide) rfl (fun c30 => ?_) (fun c30 => ?_)
    · have hbit := hbr i.toNat (by omega)
      rw [zi_eq0 (by omega) (by omega)] at c30
      refine x_iconst (q := 38) (v := zi (0)) d_72_37 rfl rfl ?_
      refine x_iret d_72_38 rfl rfl ?_
      first
        | (exact k2 c10)
        | (have e9 : G 1 i.toNat = 0 := (by omega); rw [e9] at k1; exact k1 c10)
        | (have e9 : G 1 i.toNat = 1 := (by omega); rw [e9] at k1; exact k1 c10)
    · have hbit := hbr i.toNat (by omega)
      rw [zi_eq0 (by omega) (by omega)] at c30
      refine x_iconst (q := 34) (v := zi (1)) d_72_33 rfl rfl ?_
      refine x_goto (t := 38) d_72_34 (by decide) ?_
      refine x_iret d_72_38 rfl rfl ?_
      first
        | (exact k2 c10)
        | (have e9 : G 1 i.toNat = 0 := (by omega); rw [e9] at k1; exact k1 c10)
        | (have e9 : G 1 i.toNat = 1 := (by omega); rw [e9] at k1; exact k1 c10)
  · rw [nv_0] at c10
    refine x_iconst (q := 14) (v := zi (-1)) d_72_13 rfl rfl ?_
    refine x_iret d_72_14 rfl rfl ?_
    first
      | (exact k2 c10)
      | (have e9 : G 1 i.toNat = 0 := (by omega); rw [e9] at k1; exact k1 c10)
      | (have e9 : G 1 i.toNat = 1 := (by omega); rw [e9] at k1; exact k1 c10)
set_option maxHeartbeats 2000000 in
theorem t_at {sc : ax_S} {σ : Nat → ax_C} {J : Nat → Int} {G : Nat → Nat → Int} {n bc bs : Nat} {K : ax_K} (hn : 38 ≤ n) {L : List Nat} (hl : L.length ≤ 100) (h11 : J 11 = L.length) (h3 : ∀ j, j < L.length → G 3 j = ((L.getD j 0 % 100 : Nat) : Int)) {i : Int} (hi : I32 i) (k : K (some (.int (zi (rkNum L i)))) (mg σ (va_up J 0 0) G, n, bc, bs)) : Ex sc 100 0 (ax_en 100 [.ref 22, .int (zi i)]) [] (mg σ J G, n, bc, bs) K := by
  have h11' : (va_up J 0 0) 11 = L.length := h11
  show Ex sc 100 0 [some (.ref 22), some (.int (zi i))] [] (mg σ J G, n, bc, bs) K
  refine xald_0 (q := 1) d_100_0 rfl ?_
  refine x_iconst (q := 2) (v := zi (0)) d_100_1 rfl rfl ?_
  refine yp_thrown hn (q := 5) d_100_2 rfl fw_M_1 ?_
  refine xild_1 (q := 6) d_100_5 rfl ?_
  refine z_i2l (by omega) (by omega) (q := 7) d_100_6 rfl ?_
  refine x_lconst (q := 8) (v := zl (0)) d_100_7 rfl rfl ?_
  refine xald_0 (q := 9) d_100_8 rfl ?_
  refine yg_toldCount hn (q := 12) d_100_9 rfl fl_M_164 ?_
  refine x_iconst (q := 13) (v := zi (1)) d_100_12 rfl rfl ?_
  refine z_isub (q := 14) d_100_13 rfl ?_
  refine z_i2l (by omega) (by omega) (q := 15) d_100_14 rfl ?_
  refine z_in (by omega) (by omega) (by omega) (by omega) (by omega) (by omega) (q := 18) d_100_15 rfl lk_M_79 ⟨by decide +kernel, by decide +kernel⟩ (by simp [Value.category]) ?_
  refine x_if_eq (q := 21) (t := 30) d_100_18 (by decide) rfl (fun c18 => ?_) (fun c18 => ?_)
  · rw [in_0] at c18
    refine x_iconst (q := 31) (v := zi (-1)) d_100_30 rfl rfl ?_
    refine x_iret d_100_31 rfl rfl ?_
    first
      | (have e1 : rkNum L i = G 3 i.toNat := (by unfold rkNum; rw [if_pos (by omega), h3 _ (by omega)]); rw [e1] at k; exact k)
      | (have e1 : rkNum L i = -1 := (by unfold rkNum; rw [if_neg (by omega)]); rw [e1] at k; exact k)
  · rw [in_0] at c18
    refine xald_0 (q := 22) d_100_21 rfl ?_
    refine yg_told hn (q := 25) d_100_22 rfl fl_M_30 ?_
    refine xild_1 (q := 26) d_100_25 rfl ?_
    refine yl_told (q := 27) hn d_100_26 rfl (by omega) (by omega) ?_
    refine x_goto (t := 31) d_100_27 (by decide) ?_
    refine x_iret d_100_31 rfl rfl ?_
    first
      | (have e1 : rkNum L i = G 3 i.toNat := (by unfold rkNum; rw [if_pos (by omega), h3 _ (by omega)]); rw [e1] at k; exact k)
      | (have e1 : rkNum L i = -1 := (by unfold rkNum; rw [if_neg (by omega)]); rw [e1] at k; exact k)
set_option maxHeartbeats 2000000 in
theorem t_far {sc : ax_S} {σ : Nat → ax_C} {J : Nat → Int} {G : Nat → Nat → Int} {n bc bs : Nat} {K : ax_K} (hn : 38 ≤ n) {P N M : Nat} (hT : TW J G P N M) {i : Int} (hi : I32 i) (k1 : 0 ≤ i ∧ i < N → K (some (.int (zi (farT G P M 100 100 i.toNat)))) (mg σ (va_up J 0 0) G, n, bc, bs)) (k2 : ¬ (0 ≤ i ∧ i < N) → K (some (.int (zi (-1)))) (mg σ (va_up J 0 0) G, n, bc, bs)) : Ex sc 101 0 (ax_en 101 [.ref 22, .int (zi i)]) [] (mg σ J G, n, bc, bs) K := by
  obtain ⟨hP, hP1, hP2, hN, hN2, hM, hM2, hv, hbr, hrm⟩ := id hT
  show Ex sc 101 0 [some (.ref 22), some (.int (zi i))] [] (mg σ J G, n, bc, bs) K
  refine xald_0 (q := 1) d_101_0 rfl ?_
  refine x_iconst (q := 2) (v := zi (0)) d_101_1 rfl rfl ?_
  refine yp_thrown hn (q := 5) d_101_2 rfl fw_M_1 ?_
  refine xald_0 (q := 6) d_101_5 rfl ?_
  refine xild_1 (q := 7) d_101_6 rfl ?_
  refine xcV1 (q := 10) d_101_7 rfl lk_M_160 mo_70 ⟨by decide +kernel, by decide +kernel⟩ (by simp [Value.category]) (by decide +kernel) (by simp [Value.category]) (by omega) rfl ?_
  refine t_noVector (J := (va_up J 0 0)) hn (hT.same rfl rfl rfl rfl rfl rfl) (i := i) hi ?_
  dsimp only [ax_ps]
  refine x_if_eq (q := 13) (t := 17) d_101_10 (by decide) rfl (fun c10 => ?_) (fun c10 => ?_)
  · rw [nv_0] at c10
    refine xald_0 (q := 18) d_101_17 rfl ?_
    refine x_bipush (q := 20) (v := zi (100)) d_101_18 rfl (by decide) ?_
    refine xild_1 (q := 21) d_101_20 rfl ?_
    refine x_bipush (q := 23) (v := zi (100)) d_101_21 rfl (by decide) ?_
    obtain ⟨u, rfl⟩ : ∃ u : Nat, i = u := ⟨i.toNat, by omega⟩
    refine xcV3 (q := 26) d_101_23 rfl lk_M_90 mo_79 ⟨by decide +kernel, by decide +kernel⟩ (by simp [Value.category]) (by decide +kernel) (by simp [Value.category]) (by omega) rfl ?_
    refine t_farOf (J := (va_up J 0 0)) (a := 100) (b := u) (q := 100) hn (hT.same rfl rfl rfl rfl rfl rfl) (by decide) (by omega) (by decide) ?_
    dsimp only [ax_ps]
    refine x_iret d_101_26 rfl rfl ?_
    first
      | (exact k1 c10)
      | (exact k2 c10)
  · rw [nv_0] at c10
    refine x_iconst (q := 14) (v := zi (-1)) d_101_13 rfl rfl ?_
    refine x_goto (t := 26) d_101_14 (by decide) ?_
    refine x_iret d_101_26 rfl rfl ?_
    first
      | (exact k1 c10)
      | (exact k2 c10)
set_option maxHeartbeats 2000000 in
theorem t_between {sc : ax_S} {σ : Nat → ax_C} {J : Nat → Int} {G : Nat → Nat → Int} {n bc bs : Nat} {K : ax_K} (hn : 38 ≤ n) {P N M : Nat} (hT : TW J G P N M) {i j : Int} (hi : I32 i) (hj : I32 j) (k1 : (0 ≤ i ∧ i < N) ∧ (0 ≤ j ∧ j < N) → K (some (.int (zi (farT G P M 100 i.toNat j.toNat)))) (mg σ (va_up J 0 0) G, n, bc, bs)) (k2 : ¬ ((0 ≤ i ∧ i < N) ∧ (0 ≤ j ∧ j < N)) → K (some (.int (zi (-1)))) (mg σ (va_up J 0 0) G, n, bc, bs)) : Ex sc 102 0 (ax_en 102 [.ref 22, .int (zi i), .int (zi j)]) [] (mg σ J G, n, bc, bs) K := by
  obtain ⟨hP, hP1, hP2, hN, hN2, hM, hM2, hv, hbr, hrm⟩ := id hT
  show Ex sc 102 0 [some (.ref 22), some (.int (zi i)), some (.int (zi j))] [] (mg σ J G, n, bc, bs) K
  refine xald_0 (q := 1) d_102_0 rfl ?_
  refine x_iconst (q := 2) (v := zi (0)) d_102_1 rfl rfl ?_
  refine yp_thrown hn (q := 5) d_102_2 rfl fw_M_1 ?_
  refine xald_0 (q := 6) d_102_5 rfl ?_
  refine xild_1 (q := 7) d_102_6 rfl ?_
  refine xcV1 (q := 10) d_102_7 rfl lk_M_160 mo_70 ⟨by decide +kernel, by decide +kernel⟩ (by simp [Value.category]) (by decide +kernel) (by simp [Value.category]) (by omega) rfl ?_
  refine t_noVector (J := (va_up J 0 0)) hn (hT.same rfl rfl rfl rfl rfl rfl) (i := i) hi ?_
  dsimp only [ax_ps]
  refine x_if_ne (q := 13) (t := 21) d_102_10 (by decide) rfl (fun c10 => ?_) (fun c10 => ?_)
  · rw [nv_0] at c10
    refine x_iconst (q := 22) (v := zi (-1)) d_102_21 rfl rfl ?_
    refine x_goto (t := 33) d_102_22 (by decide) ?_
    refine x_iret d_102_33 rfl rfl ?_
    first
      | (exact k1 (by omega))
      | (exact k2 (by omega))
  · rw [nv_0] at c10
    refine xald_0 (q := 14) d_102_13 rfl ?_
    refine xild_2 (q := 15) d_102_14 rfl ?_
    refine xcV1 (q := 18) d_102_15 rfl lk_M_160 mo_70 ⟨by decide +kernel, by decide +kernel⟩ (by simp [Value.category]) (by decide +kernel) (by simp [Value.category]) (by omega) rfl ?_
    refine t_noVector (J := (va_up J 0 0)) hn (hT.same rfl rfl rfl rfl rfl rfl) (i := j) hj ?_
    dsimp only [ax_ps]
    refine x_if_eq (q := 21) (t := 25) d_102_18 (by decide) rfl (fun c18 => ?_) (fun c18 => ?_)
    · rw [nv_0] at c18
      refine xald_0 (q := 26) d_102_25 rfl ?_
      refine xild_1 (q := 27) d_102_26 rfl ?_
      refine xild_2 (q := 28) d_102_27 rfl ?_
      refine x_bipush (q := 30) (v := zi (100)) d_102_28 rfl (by decide) ?_
      obtain ⟨u, rfl⟩ : ∃ u : Nat, i = u := ⟨i.toNat, by omega⟩
      obtain ⟨u2, rfl⟩ : ∃ u : Nat, j = u := ⟨j.toNat, by omega⟩
      refine xcV3 (q := 33) d_102_30 rfl lk_M_90 mo_79 ⟨by decide +kernel, by decide +kernel⟩ (by simp [Value.category]) (by decide +kernel) (by simp [Value.category]) (by omega) rfl ?_
      refine t_farOf (J := (va_up J 0 0)) (a := u) (b := u2) (q := 100) hn (hT.same rfl rfl rfl rfl rfl rfl) (by omega) (by omega) (by decide) ?_
      dsimp only [ax_ps]
      refine x_iret d_102_33 rfl rfl ?_
      first
        | (exact k1 (by omega))
        | (exact k2 (by omega))
    · rw [nv_0] at c18
      refine x_iconst (q := 22) (v := zi (-1)) d_102_21 rfl rfl ?_
      refine x_goto (t := 33) d_102_22 (by decide) ?_
      refine x_iret d_102_33 rfl rfl ?_
      first
        | (exact k1 (by omega))
        | (exact k2 (by omega))
set_option maxHeartbeats 2000000 in
theorem t_steps {sc : ax_S} {σ : Nat → ax_C} {J : Nat → Int} {G : Nat → Nat → Int} {n bc bs : Nat} {K : ax_K} (hn : 38 ≤ n) (k : K (some (.int (zi (J 12)))) (mg σ (va_up J 0 0) G, n, bc, bs)) : Ex sc 103 0 (ax_en 103 [.ref 22]) [] (mg σ J G, n, bc, bs) K := by
  show Ex sc 103 0 [some (.ref 22)] [] (mg σ J G, n, bc, bs) K
  refine xald_0 (q := 1) d_103_0 rfl ?_
  refine x_iconst (q := 2) (v := zi (0)) d_103_1 rfl rfl ?_
  refine yp_thrown hn (q := 5) d_103_2 rfl fw_M_1 ?_
  refine xald_0 (q := 6) d_103_5 rfl ?_
  refine yg_stepCount hn (q := 9) d_103_6 rfl fl_M_106 ?_
  refine x_iret d_103_9 rfl rfl ?_
  exact k
set_option maxHeartbeats 2000000 in
theorem t_level {sc : ax_S} {σ : Nat → ax_C} {J : Nat → Int} {G : Nat → Nat → Int} {n bc bs : Nat} {K : ax_K} (hn : 38 ≤ n) {P N M : Nat} (hT : TW J G P N M) {s : Int} (hs : J 2 = s) {i : Int} (hi : I32 i) (k1 : 0 ≤ i ∧ i < N → K (some (.int (zi (lev s i.toNat)))) (mg σ (va_up J 0 0) G, n, bc, bs)) (k2 : ¬ (0 ≤ i ∧ i < N) → K (some (.int (zi (-1)))) (mg σ (va_up J 0 0) G, n, bc, bs)) : Ex sc 104 0 (ax_en 104 [.ref 22, .int (zi i)]) [] (mg σ J G, n, bc, bs) K := by
  obtain ⟨hP, hP1, hP2, hN, hN2, hM, hM2, hv, hbr, hrm⟩ := id hT
  show Ex sc 104 0 [some (.ref 22), some (.int (zi i))] [] (mg σ J G, n, bc, bs) K
  refine xald_0 (q := 1) d_104_0 rfl ?_
  refine x_iconst (q := 2) (v := zi (0)) d_104_1 rfl rfl ?_
  refine yp_thrown hn (q := 5) d_104_2 rfl fw_M_1 ?_
  refine xald_0 (q := 6) d_104_5 rfl ?_
  refine xild_1 (q := 7) d_104_6 rfl ?_
  refine xcV1 (q := 10) d_104_7 rfl lk_M_160 mo_70 ⟨by decide +kernel, by decide +kernel⟩ (by simp [Value.category]) (by decide +kernel) (by simp [Value.category]) (by omega) rfl ?_
  refine t_noVector (J := (va_up J 0 0)) hn (hT.same rfl rfl rfl rfl rfl rfl) (i := i) hi ?_
  dsimp only [ax_ps]
  refine x_if_eq (q := 13) (t := 17) d_104_10 (by decide) rfl (fun c10 => ?_) (fun c10 => ?_)
  · rw [nv_0] at c10
    refine xild_1 (q := 18) d_104_17 rfl ?_
    refine xald_0 (q := 19) d_104_18 rfl ?_
    refine yg_seed hn (q := 22) d_104_19 rfl fl_M_73 ?_
    obtain ⟨u, rfl⟩ : ∃ u : Nat, i = u := ⟨i.toNat, by omega⟩
    rw [show (va_up J 0 0) 2 = s from hs]
    refine xcS2 (q := 25) d_104_22 rfl lk_M_143 mo_88 ⟨by decide +kernel, by decide +kernel⟩ (by simp [Value.category]) (by decide +kernel) (by simp [Value.category])  ?_
    refine t_levelOf (i := u) (s := s) ?_
    dsimp only [ax_ps]
    rw [lev_T]
    refine x_iret d_104_25 rfl rfl ?_
    first
      | (exact k1 c10)
      | (exact k2 c10)
  · rw [nv_0] at c10
    refine x_iconst (q := 14) (v := zi (-1)) d_104_13 rfl rfl ?_
    refine x_goto (t := 25) d_104_14 (by decide) ?_
    refine x_iret d_104_25 rfl rfl ?_
    first
      | (exact k1 c10)
      | (exact k2 c10)
set_option maxHeartbeats 2000000 in
theorem t_entry {sc : ax_S} {σ : Nat → ax_C} {J : Nat → Int} {G : Nat → Nat → Int} {n bc bs : Nat} {K : ax_K} (hn : 38 ≤ n) {P N M : Nat} (hT : TW J G P N M) {s : Int} (hs : J 2 = s) {wd : Nat} (hwd : J 4 = wd) (hwd6 : wd ≤ 6) {car : Bool} (hcar : J 5 = if car = true then 1 else 0) (hst : J 13 = 0 ∨ J 13 = 1) {V : Nat → Nat → Int} (hV : ∀ i, i < N → ∀ k, k < P → tv G i k = V i k) {g : mSt} (hg : g = mBuild (kfV V P M) (fbV V P M) car wd (lev s) N) (hB : J 13 = 0 → TB J G P N M s g)
    (k : ∀ (J' : Nat → Int) (G' : Nat → Nat → Int), (∀ r, r ≠ 0 → r ≠ 13 → r ≠ 16 → r ≠ 21 → J' r = J r) → (∀ r, r < 4 ∨ 11 < r → G' r = G r) → J' 13 = 0 → TB J' G' P N M s g → K (some (.int (zi (entI g.2)))) (mg σ J' G', n, bc, bs)) : Ex sc 105 0 (ax_en 105 [.ref 22]) [] (mg σ J G, n, bc, bs) K := by
  obtain ⟨hP, hP1, hP2, hN, hN2, hM, hM2, hv, hbr, hrm⟩ := id hT
  show Ex sc 105 0 [some (.ref 22)] [] (mg σ J G, n, bc, bs) K
  refine xald_0 (q := 1) d_105_0 rfl ?_
  refine x_iconst (q := 2) (v := zi (0)) d_105_1 rfl rfl ?_
  refine yp_thrown hn (q := 5) d_105_2 rfl fw_M_1 ?_
  refine xald_0 (q := 6) d_105_5 rfl ?_
  refine xcV0 (q := 9) d_105_6 rfl lk_M_180 mo_87 ⟨by decide +kernel, by decide +kernel⟩  (by decide +kernel) (by simp [Value.category]) (by omega) rfl ?_
  refine t_need (J := (va_up J 0 0)) hn (hT.same rfl rfl rfl rfl rfl rfl) hs hwd hwd6 hcar hst hV hg (fun h => (hB h).keep hN2 (fun _ _ _ _ => rfl) rfl rfl (fun _ _ => rfl) rfl) ?_
  intro J1 G1 f1 z1 tb1
  dsimp only [ax_ps]
  have hT1 : TW J1 G1 P N M := hT.same (f1.1 1 (by decide) (by decide) (by decide)) (f1.1 7 (by decide) (by decide) (by decide)) (f1.1 3 (by decide) (by decide) (by decide)) (f1.2 0 (by decide)) (f1.2 1 (by decide)) (f1.2 2 (by decide))
  have hJN1 : J1 7 = N := hT1.2.2.2.1
  refine xald_0 (q := 10) d_105_9 rfl ?_
  refine yg_count hn (q := 13) d_105_10 rfl fl_M_76 ?_
  refine x_if_ne (q := 16) (t := 21) d_105_13 (by decide) rfl (fun c13 => ?_) (fun c13 => ?_)
  · rw [zi_eq0 (by omega) (by omega)] at c13
    refine xald_0 (q := 22) d_105_21 rfl ?_
    refine yg_entryOf hn (q := 25) d_105_22 rfl fl_M_40 ?_
    refine x_iret d_105_25 rfl rfl ?_
    first
      | (have hN0 : N = 0 := (by omega); subst hN0; subst hg; exact k J1 G1 (fun r a b c d => (f1.1 r b c d).trans (va_un _ _ _ a)) f1.2 z1 tb1)
      | (have b3 := (mBuild_lt (kfs := kfV V P M) (fb := fbV V P M) (car := car) (wd := wd) (lv := lev s) N (fun o y _ hy => kfV_mod (by omega))).2.2 (by omega); rw [← hg] at b3; have e9 : J1 16 = entI g.2 := (by (rw [tb1.2.2.2]; obtain ⟨R, ent⟩ := g; cases ent with | none => exact absurd rfl b3 | some x => rfl)); rw [e9]; exact k J1 G1 (fun r a b c d => (f1.1 r b c d).trans (va_un _ _ _ a)) f1.2 z1 tb1)
  · rw [zi_eq0 (by omega) (by omega)] at c13
    refine x_bipush (q := 18) (v := zi (-2)) d_105_16 rfl (by decide) ?_
    refine x_goto (t := 25) d_105_18 (by decide) ?_
    refine x_iret d_105_25 rfl rfl ?_
    first
      | (have hN0 : N = 0 := (by omega); subst hN0; subst hg; exact k J1 G1 (fun r a b c d => (f1.1 r b c d).trans (va_un _ _ _ a)) f1.2 z1 tb1)
      | (have b3 := (mBuild_lt (kfs := kfV V P M) (fb := fbV V P M) (car := car) (wd := wd) (lv := lev s) N (fun o y _ hy => kfV_mod (by omega))).2.2 (by omega); rw [← hg] at b3; have e9 : J1 16 = entI g.2 := (by (rw [tb1.2.2.2]; obtain ⟨R, ent⟩ := g; cases ent with | none => exact absurd rfl b3 | some x => rfl)); rw [e9]; exact k J1 G1 (fun r a b c d => (f1.1 r b c d).trans (va_un _ _ _ a)) f1.2 z1 tb1)
theorem nb_kg {J J1 : Nat → Int} {G G1 V : Nat → Nat → Int} {P N M : Nat} {s : Int} {g : mSt} (hV : ∀ i, i < N → ∀ k, k < P → tv G i k = V i k) (f1 : FN (va_up J 0 0) G J1 G1) (tb1 : TB J1 G1 P N M s g) {o y : Nat} (ho : o < N) (hy : y < N) : kg G1 o y = kfV V P M o y := by
  unfold kg kfV
  rw [tb1.1 o y ho hy, farT_V (V := V) (N := N) (fun i hi k hk => ?_) ho hy]
  unfold tv
  rw [f1.2 0 (by decide)]
  exact hV i hi k hk
set_option maxHeartbeats 2000000 in
theorem t_neighbour {sc : ax_S} {σ : Nat → ax_C} {J : Nat → Int} {G : Nat → Nat → Int} {n bc bs : Nat} {K : ax_K} (hn : 38 ≤ n) {P N M : Nat} (hT : TW J G P N M) {s : Int} (hs : J 2 = s) {wd : Nat} (hwd : J 4 = wd) (hwd6 : wd ≤ 6) {car : Bool} (hcar : J 5 = if car = true then 1 else 0) (hst : J 13 = 0 ∨ J 13 = 1) {V : Nat → Nat → Int} (hV : ∀ i, i < N → ∀ k, k < P → tv G i k = V i k) {g : mSt} (hg : g = mBuild (kfV V P M) (fbV V P M) car wd (lev s) N) (hB : J 13 = 0 → TB J G P N M s g) {i l j : Int} (hi : I32 i) (hl : I32 l) (hj : I32 j)
    (k : ∀ (J' : Nat → Int) (G' : Nat → Nat → Int), (∀ r, r ≠ 0 → r ≠ 13 → r ≠ 16 → r ≠ 21 → J' r = J r) → (∀ r, r < 4 ∨ 11 < r → G' r = G r) → J' 13 = 0 → TB J' G' P N M s g → K (some (.int (zi (nbI g.1 N s i l j)))) (mg σ J' G', n, bc, bs)) : Ex sc 106 0 (ax_en 106 [.ref 22, .int (zi i), .int (zi l), .int (zi j)]) [] (mg σ J G, n, bc, bs) K := by
  obtain ⟨hP, hP1, hP2, hN, hN2, hM, hM2, hv, hbr, hrm⟩ := id hT
  have hkV : ∀ o y, o < N → y < N → kfV V P M o y % 100 = y := fun o y _ hy => kfV_mod (by omega)
  have b4 := mBuild_RS (kfs := kfV V P M) (fb := fbV V P M) (car := car) (wd := wd) (lv := lev s) hkV N (Nat.le_refl _)
  rw [← hg] at b4
  show Ex sc 106 0 [some (.ref 22), some (.int (zi i)), some (.int (zi l)), some (.int (zi j))] [] (mg σ J G, n, bc, bs) K
  refine xald_0 (q := 1) d_106_0 rfl ?_
  refine x_iconst (q := 2) (v := zi (0)) d_106_1 rfl rfl ?_
  refine yp_thrown hn (q := 5) d_106_2 rfl fw_M_1 ?_
  refine xald_0 (q := 6) d_106_5 rfl ?_
  refine xcV0 (q := 9) d_106_6 rfl lk_M_180 mo_87 ⟨by decide +kernel, by decide +kernel⟩  (by decide +kernel) (by simp [Value.category]) (by omega) rfl ?_
  refine t_need (J := (va_up J 0 0)) hn (hT.same rfl rfl rfl rfl rfl rfl) hs hwd hwd6 hcar hst hV hg (fun h => (hB h).keep hN2 (fun _ _ _ _ => rfl) rfl rfl (fun _ _ => rfl) rfl) ?_
  intro J1 G1 f1 z1 tb1
  dsimp only [ax_ps]
  have hT1 : TW J1 G1 P N M := hT.same (f1.1 1 (by decide) (by decide) (by decide)) (f1.1 7 (by decide) (by decide) (by decide)) (f1.1 3 (by decide) (by decide) (by decide)) (f1.2 0 (by decide)) (f1.2 1 (by decide)) (f1.2 2 (by decide))
  have hJN1 : J1 7 = N := hT1.2.2.2.1
  refine xald_0 (q := 10) d_106_9 rfl ?_
  refine xild_1 (q := 11) d_106_10 rfl ?_
  refine xcV1 (q := 14) d_106_11 rfl lk_M_160 mo_70 ⟨by decide +kernel, by decide +kernel⟩ (by simp [Value.category]) (by decide +kernel) (by simp [Value.category]) (by omega) rfl ?_
  refine t_noVector hn hT1 (i := i) hi ?_
  dsimp only [ax_ps]
  refine x_if_ne (q := 17) (t := 53) d_106_14 (by decide) rfl (fun c14 => ?_) (fun c14 => ?_)
  · rw [nv_0] at c14
    refine x_iconst (q := 54) (v := zi (-1)) d_106_53 rfl rfl ?_
    refine x_iret d_106_54 rfl rfl ?_
    first
      | (rw [show nbI g.1 N s i l j = -1 from if_neg (by omega)] at k; exact k J1 G1 (fun r a b c d => (f1.1 r b c d).trans (va_un _ _ _ a)) f1.2 z1 tb1)
      | (rw [show nbI g.1 N s (iu : Int) l j = -1 from if_neg (fun z => by (have q1 := z.2.1; have q2 := z.2.2.1; simp only [Int.toNat_natCast] at q2; omega))] at k; exact k J1 G1 (fun r a b c d => (f1.1 r b c d).trans (va_un _ _ _ a)) f1.2 z1 tb1)
      | (rw [show nbI g.1 N s (iu : Int) (lu : Int) j = -1 from if_neg (fun z => by (have q1 := z.2.2.2; simp only [Int.toNat_natCast] at q1; omega))] at k; exact k J1 G1 (fun r a b c d => (f1.1 r b c d).trans (va_un _ _ _ a)) f1.2 z1 tb1)
      | (rw [show nbI g.1 N s (iu : Int) (lu : Int) j = (g.1 iu lu).length from (by (unfold nbI; simp only [Int.toNat_natCast]; rw [if_pos (by omega), if_pos (by omega)]))] at k; exact k J1 G1 (fun r a b c d => (f1.1 r b c d).trans (va_un _ _ _ a)) f1.2 z1 tb1)
      | (rw [show nbI g.1 N s (iu : Int) (lu : Int) (ju : Int) = ((g.1 iu lu).getD ju 0 : Nat) from (by (unfold nbI; simp only [Int.toNat_natCast]; rw [if_pos (by omega), if_neg (by omega)]))] at k; exact k J1 G1 (fun r a b c d => (f1.1 r b c d).trans (va_un _ _ _ a)) f1.2 z1 tb1)
  · rw [nv_0] at c14
    obtain ⟨iu, rfl⟩ : ∃ u : Nat, i = u := ⟨i.toNat, by omega⟩
    have hlv := tb1.2.1 iu (by omega)
    have hl4 := lev_le s iu
    refine xild_2 (q := 18) d_106_17 rfl ?_
    refine z_i2l (by omega) (by omega) (q := 19) d_106_18 rfl ?_
    refine x_lconst (q := 20) (v := zl (0)) d_106_19 rfl rfl ?_
    refine xald_0 (q := 21) d_106_20 rfl ?_
    refine yg_levels hn (q := 24) d_106_21 rfl fl_M_33 ?_
    refine xild_1 (q := 25) d_106_24 rfl ?_
    refine yl_levels (q := 26) hn d_106_25 rfl (by omega) (by omega) ?_
    rw [show ((iu : Int)).toNat = iu by omega, hlv]
    refine z_i2l (by omega) (by omega) (q := 27) d_106_26 rfl ?_
    refine z_in (by omega) (by omega) (by omega) (by omega) (by omega) (by omega) (q := 30) d_106_27 rfl lk_M_79 ⟨by decide +kernel, by decide +kernel⟩ (by simp [Value.category]) ?_
    refine x_if_eq (q := 33) (t := 53) d_106_30 (by decide) rfl (fun c30 => ?_) (fun c30 => ?_)
    · rw [in_0] at c30
      refine x_iconst (q := 54) (v := zi (-1)) d_106_53 rfl rfl ?_
      refine x_iret d_106_54 rfl rfl ?_
      first
        | (rw [show nbI g.1 N s i l j = -1 from if_neg (by omega)] at k; exact k J1 G1 (fun r a b c d => (f1.1 r b c d).trans (va_un _ _ _ a)) f1.2 z1 tb1)
        | (rw [show nbI g.1 N s (iu : Int) l j = -1 from if_neg (fun z => by (have q1 := z.2.1; have q2 := z.2.2.1; simp only [Int.toNat_natCast] at q2; omega))] at k; exact k J1 G1 (fun r a b c d => (f1.1 r b c d).trans (va_un _ _ _ a)) f1.2 z1 tb1)
        | (rw [show nbI g.1 N s (iu : Int) (lu : Int) j = -1 from if_neg (fun z => by (have q1 := z.2.2.2; simp only [Int.toNat_natCast] at q1; omega))] at k; exact k J1 G1 (fun r a b c d => (f1.1 r b c d).trans (va_un _ _ _ a)) f1.2 z1 tb1)
        | (rw [show nbI g.1 N s (iu : Int) (lu : Int) j = (g.1 iu lu).length from (by (unfold nbI; simp only [Int.toNat_natCast]; rw [if_pos (by omega), if_pos (by omega)]))] at k; exact k J1 G1 (fun r a b c d => (f1.1 r b c d).trans (va_un _ _ _ a)) f1.2 z1 tb1)
        | (rw [show nbI g.1 N s (iu : Int) (lu : Int) (ju : Int) = ((g.1 iu lu).getD ju 0 : Nat) from (by (unfold nbI; simp only [Int.toNat_natCast]; rw [if_pos (by omega), if_neg (by omega)]))] at k; exact k J1 G1 (fun r a b c d => (f1.1 r b c d).trans (va_un _ _ _ a)) f1.2 z1 tb1)
    · rw [in_0] at c30
      refine xild_3 (q := 34) d_106_33 rfl ?_
      refine z_i2l (by omega) (by omega) (q := 35) d_106_34 rfl ?_
      refine x_ldc2 (q := 38) (v := zl (-1)) d_106_35 rfl (by rw [show zl (-1) = (-1 : Int64) from by decide]; exact kc_M_195) ?_
      refine xald_0 (q := 39) d_106_38 rfl ?_
      refine xild_2 (q := 40) d_106_39 rfl ?_
      refine xild_1 (q := 41) d_106_40 rfl ?_
      obtain ⟨lu, rfl⟩ : ∃ u : Nat, l = u := ⟨l.toNat, by omega⟩
      have hRSi := b4 lu iu (by omega)
      have hlen := nodup_le N _ hRSi.nodup hRSi.2
      refine xcV2 (q := 44) d_106_41 rfl lk_M_113 mo_91 ⟨by decide +kernel, by decide +kernel⟩ (by simp [Value.category]) (by decide +kernel) (by simp [Value.category]) (by omega) rfl ?_
      refine t_nearCount (R := g.1) (l := lu) (i := iu) hn hJN1 hN2 tb1.2.2.1 (by omega) (by omega) hRSi.nodup hRSi.2 ?_
      dsimp only [ax_ps]
      refine x_iconst (q := 45) (v := zi (1)) d_106_44 rfl rfl ?_
      refine z_isub (q := 46) d_106_45 rfl ?_
      refine z_i2l (by omega) (by omega) (q := 47) d_106_46 rfl ?_
      refine z_in (by omega) (by omega) (by omega) (by omega) (by omega) (by omega) (q := 50) d_106_47 rfl lk_M_79 ⟨by decide +kernel, by decide +kernel⟩ (by simp [Value.category]) ?_
      refine x_if_ne (q := 53) (t := 55) d_106_50 (by decide) rfl (fun c50 => ?_) (fun c50 => ?_)
      · rw [in_0] at c50
        refine xild_3 (q := 56) d_106_55 rfl ?_
        refine x_if_ge (q := 59) (t := 68) d_106_56 (by decide) rfl (fun c56 => ?_) (fun c56 => ?_)
        · rw [zi_ge0 (by omega) (by omega)] at c56
          refine xald_0 (q := 69) d_106_68 rfl ?_
          refine xild_2 (q := 70) d_106_69 rfl ?_
          refine xild_1 (q := 71) d_106_70 rfl ?_
          refine xild_3 (q := 72) d_106_71 rfl ?_
          obtain ⟨ju, rfl⟩ : ∃ u : Nat, j = u := ⟨j.toNat, by omega⟩
          have hRS2 : RS (kg G1 iu) (g.1 iu lu) N := ⟨by (rw [List.map_congr_left (fun x hx => nb_kg hV f1 tb1 (show iu < N by omega) (hRSi.2 x hx))]; exact hRSi.1), hRSi.2⟩
          refine xcV3 (q := 75) d_106_72 rfl lk_M_117 mo_93 ⟨by decide +kernel, by decide +kernel⟩ (by simp [Value.category]) (by decide +kernel) (by simp [Value.category]) (by omega) rfl ?_
          refine t_nearOf (R := g.1) (l := lu) (i := iu) (m := ju) hn hJN1 hN2 tb1.2.2.1 (by omega) (by omega) (tb1.fab hT1 iu (by omega)) hRS2 (by omega) ?_
          dsimp only [ax_ps]
          refine x_iret d_106_75 rfl rfl ?_
          first
            | (rw [show nbI g.1 N s i l j = -1 from if_neg (by omega)] at k; exact k J1 G1 (fun r a b c d => (f1.1 r b c d).trans (va_un _ _ _ a)) f1.2 z1 tb1)
            | (rw [show nbI g.1 N s (iu : Int) l j = -1 from if_neg (fun z => by (have q1 := z.2.1; have q2 := z.2.2.1; simp only [Int.toNat_natCast] at q2; omega))] at k; exact k J1 G1 (fun r a b c d => (f1.1 r b c d).trans (va_un _ _ _ a)) f1.2 z1 tb1)
            | (rw [show nbI g.1 N s (iu : Int) (lu : Int) j = -1 from if_neg (fun z => by (have q1 := z.2.2.2; simp only [Int.toNat_natCast] at q1; omega))] at k; exact k J1 G1 (fun r a b c d => (f1.1 r b c d).trans (va_un _ _ _ a)) f1.2 z1 tb1)
            | (rw [show nbI g.1 N s (iu : Int) (lu : Int) j = (g.1 iu lu).length from (by (unfold nbI; simp only [Int.toNat_natCast]; rw [if_pos (by omega), if_pos (by omega)]))] at k; exact k J1 G1 (fun r a b c d => (f1.1 r b c d).trans (va_un _ _ _ a)) f1.2 z1 tb1)
            | (rw [show nbI g.1 N s (iu : Int) (lu : Int) (ju : Int) = ((g.1 iu lu).getD ju 0 : Nat) from (by (unfold nbI; simp only [Int.toNat_natCast]; rw [if_pos (by omega), if_neg (by omega)]))] at k; exact k J1 G1 (fun r a b c d => (f1.1 r b c d).trans (va_un _ _ _ a)) f1.2 z1 tb1)
        · rw [zi_ge0 (by omega) (by omega)] at c56
          refine xald_0 (q := 60) d_106_59 rfl ?_
          refine xild_2 (q := 61) d_106_60 rfl ?_
          refine xild_1 (q := 62) d_106_61 rfl ?_
          refine xcV2 (q := 65) d_106_62 rfl lk_M_113 mo_91 ⟨by decide +kernel, by decide +kernel⟩ (by simp [Value.category]) (by decide +kernel) (by simp [Value.category]) (by omega) rfl ?_
          refine t_nearCount (R := g.1) (l := lu) (i := iu) hn hJN1 hN2 tb1.2.2.1 (by omega) (by omega) hRSi.nodup hRSi.2 ?_
          dsimp only [ax_ps]
          refine x_goto (t := 75) d_106_65 (by decide) ?_
          refine x_iret d_106_75 rfl rfl ?_
          first
            | (rw [show nbI g.1 N s i l j = -1 from if_neg (by omega)] at k; exact k J1 G1 (fun r a b c d => (f1.1 r b c d).trans (va_un _ _ _ a)) f1.2 z1 tb1)
            | (rw [show nbI g.1 N s (iu : Int) l j = -1 from if_neg (fun z => by (have q1 := z.2.1; have q2 := z.2.2.1; simp only [Int.toNat_natCast] at q2; omega))] at k; exact k J1 G1 (fun r a b c d => (f1.1 r b c d).trans (va_un _ _ _ a)) f1.2 z1 tb1)
            | (rw [show nbI g.1 N s (iu : Int) (lu : Int) j = -1 from if_neg (fun z => by (have q1 := z.2.2.2; simp only [Int.toNat_natCast] at q1; omega))] at k; exact k J1 G1 (fun r a b c d => (f1.1 r b c d).trans (va_un _ _ _ a)) f1.2 z1 tb1)
            | (rw [show nbI g.1 N s (iu : Int) (lu : Int) j = (g.1 iu lu).length from (by (unfold nbI; simp only [Int.toNat_natCast]; rw [if_pos (by omega), if_pos (by omega)]))] at k; exact k J1 G1 (fun r a b c d => (f1.1 r b c d).trans (va_un _ _ _ a)) f1.2 z1 tb1)
            | (rw [show nbI g.1 N s (iu : Int) (lu : Int) (ju : Int) = ((g.1 iu lu).getD ju 0 : Nat) from (by (unfold nbI; simp only [Int.toNat_natCast]; rw [if_pos (by omega), if_neg (by omega)]))] at k; exact k J1 G1 (fun r a b c d => (f1.1 r b c d).trans (va_un _ _ _ a)) f1.2 z1 tb1)
      · rw [in_0] at c50
        refine x_iconst (q := 54) (v := zi (-1)) d_106_53 rfl rfl ?_
        refine x_iret d_106_54 rfl rfl ?_
        first
          | (rw [show nbI g.1 N s i l j = -1 from if_neg (by omega)] at k; exact k J1 G1 (fun r a b c d => (f1.1 r b c d).trans (va_un _ _ _ a)) f1.2 z1 tb1)
          | (rw [show nbI g.1 N s (iu : Int) l j = -1 from if_neg (fun z => by (have q1 := z.2.1; have q2 := z.2.2.1; simp only [Int.toNat_natCast] at q2; omega))] at k; exact k J1 G1 (fun r a b c d => (f1.1 r b c d).trans (va_un _ _ _ a)) f1.2 z1 tb1)
          | (rw [show nbI g.1 N s (iu : Int) (lu : Int) j = -1 from if_neg (fun z => by (have q1 := z.2.2.2; simp only [Int.toNat_natCast] at q1; omega))] at k; exact k J1 G1 (fun r a b c d => (f1.1 r b c d).trans (va_un _ _ _ a)) f1.2 z1 tb1)
          | (rw [show nbI g.1 N s (iu : Int) (lu : Int) j = (g.1 iu lu).length from (by (unfold nbI; simp only [Int.toNat_natCast]; rw [if_pos (by omega), if_pos (by omega)]))] at k; exact k J1 G1 (fun r a b c d => (f1.1 r b c d).trans (va_un _ _ _ a)) f1.2 z1 tb1)
          | (rw [show nbI g.1 N s (iu : Int) (lu : Int) (ju : Int) = ((g.1 iu lu).getD ju 0 : Nat) from (by (unfold nbI; simp only [Int.toNat_natCast]; rw [if_pos (by omega), if_neg (by omega)]))] at k; exact k J1 G1 (fun r a b c d => (f1.1 r b c d).trans (va_un _ _ _ a)) f1.2 z1 tb1)
set_option maxHeartbeats 2000000 in
theorem t_exact {sc : ax_S} {σ : Nat → ax_C} {J : Nat → Int} {G : Nat → Nat → Int} {n bc bs : Nat} {K : ax_K} (hn : 38 ≤ n) {P N M : Nat} (hT : TW J G P N M) {L : List Nat} (hL : SB (freeT G) (kfT G P M 100) N L) {i : Int} (hi : I32 i)
    (k1 : 1 ≤ i ∧ i ≤ 100 → ∀ (J' : Nat → Int) (G' : Nat → Nat → Int), (∀ r, r ≠ 0 → r ≠ 11 → r ≠ 26 → J' r = J r) → (∀ r, r ≠ 3 → r ≠ 6 → r ≠ 12 → r ≠ 13 → G' r = G r) → (∀ p, p < 10000 → G' 6 p = G 6 p) → J' 11 = (L.take i.toNat).length → (∀ j, j < (L.take i.toNat).length → G' 3 j = (((L.take i.toNat).getD j 0 % 100 : Nat) : Int)) → K (some (.int (zi (L.take i.toNat).length))) (mg σ J' G', n, bc, bs)) (k2 : ¬ (1 ≤ i ∧ i ≤ 100) → K (some (.int (zi (-1)))) (mg σ (va_up J 0 0) G, n, bc, bs)) : Ex sc 75 0 (ax_en 75 [.ref 22, .int (zi i)]) [] (mg σ J G, n, bc, bs) K := by
  obtain ⟨hP, hP1, hP2, hN, hN2, hM, hM2, hv, hbr, hrm⟩ := id hT
  show Ex sc 75 0 [some (.ref 22), some (.int (zi i))] [] (mg σ J G, n, bc, bs) K
  refine xald_0 (q := 1) d_75_0 rfl ?_
  refine x_iconst (q := 2) (v := zi (0)) d_75_1 rfl rfl ?_
  refine yp_thrown hn (q := 5) d_75_2 rfl fw_M_1 ?_
  refine xild_1 (q := 6) d_75_5 rfl ?_
  refine z_i2l (by omega) (by omega) (q := 7) d_75_6 rfl ?_
  refine x_lconst (q := 8) (v := zl (1)) d_75_7 rfl rfl ?_
  refine x_ldc2 (q := 11) (v := zl (100)) d_75_8 rfl kc_M_155 ?_
  refine z_in (by omega) (by omega) (by omega) (by omega) (by omega) (by omega) (q := 14) d_75_11 rfl lk_M_79 ⟨by decide +kernel, by decide +kernel⟩ (by simp [Value.category]) ?_
  refine x_if_ne (q := 17) (t := 19) d_75_14 (by decide) rfl (fun c14 => ?_) (fun c14 => ?_)
  · rw [in_0] at c14
    refine xald_0 (q := 20) d_75_19 rfl ?_
    refine xild_1 (q := 21) d_75_20 rfl ?_
    obtain ⟨u, rfl⟩ : ∃ u : Nat, i = u := ⟨i.toNat, by omega⟩
    refine xcV1 (q := 24) d_75_21 rfl lk_M_183 mo_76 ⟨by decide +kernel, by decide +kernel⟩ (by simp [Value.category]) (by decide +kernel) (by simp [Value.category]) (by omega) rfl ?_
    refine t_findExact (J := (va_up J 0 0)) (m := u) hn (hT.same rfl rfl rfl rfl rfl rfl) (by omega) hL ?_
    intro J1 G1 j1 g1 p1 r1
    dsimp only [ax_ps]
    refine xald_0 (q := 25) d_75_24 rfl ?_
    refine xcV0 (q := 28) d_75_25 rfl lk_M_186 mo_84 ⟨by decide +kernel, by decide +kernel⟩  (by decide +kernel) (by simp [Value.category]) (by omega) rfl ?_
    refine t_tell hn (by rw [List.length_take]; omega) r1 ?_
    intro J2 G2 j2 g2 h11 h3
    dsimp only [ax_ps]
    refine x_iret d_75_28 rfl rfl ?_
    first
      | (exact k2 (by omega))
      | (exact k1 (by omega) J2 G2 (fun r a b c => (j2 r b).trans ((j1 r c).trans (va_un _ _ _ a))) (fun r a b c d => (g2 r a).trans (g1 r b c d)) (fun p hp => by (rw [g2 6 (by decide)]; exact p1 p hp)) h11 h3)
  · rw [in_0] at c14
    refine x_iconst (q := 18) (v := zi (-1)) d_75_17 rfl rfl ?_
    refine x_iret d_75_18 rfl rfl ?_
    first
      | (exact k2 (by omega))
      | (exact k1 (by omega) J2 G2 (fun r a b c => (j2 r b).trans ((j1 r c).trans (va_un _ _ _ a))) (fun r a b c d => (g2 r a).trans (g1 r b c d)) (fun p hp => by (rw [g2 6 (by decide)]; exact p1 p hp)) h11 h3)
set_option maxHeartbeats 2000000 in
theorem t_look {sc : ax_S} {σ : Nat → ax_C} {J : Nat → Int} {G : Nat → Nat → Int} {n bc bs : Nat} {K : ax_K} (hn : 38 ≤ n) {P N M : Nat} (hT : TW J G P N M) {s : Int} (hs : J 2 = s) {wd : Nat} (hwd : J 4 = wd) (hwd6 : wd ≤ 6) {car : Bool} (hcar : J 5 = if car = true then 1 else 0) (hst : J 13 = 0 ∨ J 13 = 1) {V : Nat → Nat → Int} (hV : ∀ i, i < N → ∀ k, k < P → tv G i k = V i k) {g : mSt} (hg : g = mBuild (kfV V P M) (fbV V P M) car wd (lev s) N) (hB : J 13 = 0 → TB J G P N M s g) {kf : Nat → Nat} (hkf : ∀ x, x < N → kfT G P M 100 x = kf x) {fr : Nat → Int} (hfr : ∀ x, x < N → freeT G x = fr x) {i e : Int} (hi : I32 i) (he : I32 e)
    (k1 : 1 ≤ i ∧ i ≤ e ∧ e ≤ 60 → ∀ (J' : Nat → Int) (G' : Nat → Nat → Int), (∀ r, r ≠ 0 → r ≠ 11 → r ≠ 12 → r ≠ 13 → r ≠ 16 → r ≠ 21 → r ≠ 26 → J' r = J r) → (∀ r, r < 3 → G' r = G r) → J' 13 = 0 → TB J' G' P N M s g → J' 12 = ((mSearch kf (lev s) g e.toNat).2 : Int) → J' 11 = ((mFF fr (mSearch kf (lev s) g e.toNat).1 []).take i.toNat).length → (∀ j, j < ((mFF fr (mSearch kf (lev s) g e.toNat).1 []).take i.toNat).length → G' 3 j = ((((mFF fr (mSearch kf (lev s) g e.toNat).1 []).take i.toNat).getD j 0 % 100 : Nat) : Int)) → K (some (.int (zi ((mFF fr (mSearch kf (lev s) g e.toNat).1 []).take i.toNat).length))) (mg σ J' G', n, bc, bs)) (k2 : ¬ (1 ≤ i ∧ i ≤ e ∧ e ≤ 60) → K (some (.int (zi (-1)))) (mg σ (va_up J 0 0) G, n, bc, bs)) : Ex sc 85 0 (ax_en 85 [.ref 22, .int (zi i), .int (zi e)]) [] (mg σ J G, n, bc, bs) K := by
  obtain ⟨hP, hP1, hP2, hN, hN2, hM, hM2, hv, hbr, hrm⟩ := id hT
  show Ex sc 85 0 [some (.ref 22), some (.int (zi i)), some (.int (zi e))] [] (mg σ J G, n, bc, bs) K
  refine xald_0 (q := 1) d_85_0 rfl ?_
  refine x_iconst (q := 2) (v := zi (0)) d_85_1 rfl rfl ?_
  refine yp_thrown hn (q := 5) d_85_2 rfl fw_M_1 ?_
  refine xild_1 (q := 6) d_85_5 rfl ?_
  refine z_i2l (by omega) (by omega) (q := 7) d_85_6 rfl ?_
  refine x_lconst (q := 8) (v := zl (1)) d_85_7 rfl rfl ?_
  refine x_ldc2 (q := 11) (v := zl (60)) d_85_8 rfl kc_M_190 ?_
  refine z_in (by omega) (by omega) (by omega) (by omega) (by omega) (by omega) (q := 14) d_85_11 rfl lk_M_79 ⟨by decide +kernel, by decide +kernel⟩ (by simp [Value.category]) ?_
  refine x_if_eq (q := 17) (t := 30) d_85_14 (by decide) rfl (fun c14 => ?_) (fun c14 => ?_)
  · rw [in_0] at c14
    refine x_iconst (q := 31) (v := zi (-1)) d_85_30 rfl rfl ?_
    refine x_iret d_85_31 rfl rfl ?_
    first
      | (exact k2 (by omega))
      | (exact k1 (by omega) J2 G2 (fun r a b c d e f g => (j2 r b).trans ((j1 r c d e f g).trans (va_un _ _ _ a))) (fun r a => (g2 r (by omega)).trans (g1 r (by omega))) ((j2 13 (by decide)).trans z1) (tb1.keep hN2 (fun _ _ _ _ => by (unfold tv; rw [g2 0 (by decide)])) (g2 4 (by decide)) (g2 5 (by decide)) (fun p _ => by rw [g2 6 (by decide)]) (j2 16 (by decide))) ((j2 12 (by decide)).trans t1) h11 h3)
  · rw [in_0] at c14
    refine xild_2 (q := 18) d_85_17 rfl ?_
    refine z_i2l (by omega) (by omega) (q := 19) d_85_18 rfl ?_
    refine xild_1 (q := 20) d_85_19 rfl ?_
    refine z_i2l (by omega) (by omega) (q := 21) d_85_20 rfl ?_
    refine x_ldc2 (q := 24) (v := zl (60)) d_85_21 rfl kc_M_190 ?_
    refine z_in (by omega) (by omega) (by omega) (by omega) (by omega) (by omega) (q := 27) d_85_24 rfl lk_M_79 ⟨by decide +kernel, by decide +kernel⟩ (by simp [Value.category]) ?_
    refine x_if_ne (q := 30) (t := 32) d_85_27 (by decide) rfl (fun c27 => ?_) (fun c27 => ?_)
    · rw [in_0] at c27
      refine xald_0 (q := 33) d_85_32 rfl ?_
      refine xild_1 (q := 34) d_85_33 rfl ?_
      refine xild_2 (q := 35) d_85_34 rfl ?_
      obtain ⟨u, rfl⟩ : ∃ u : Nat, i = u := ⟨i.toNat, by omega⟩
      obtain ⟨v, rfl⟩ : ∃ u : Nat, e = u := ⟨e.toNat, by omega⟩
      refine xcV2 (q := 38) d_85_35 rfl lk_M_192 mo_86 ⟨by decide +kernel, by decide +kernel⟩ (by simp [Value.category]) (by decide +kernel) (by simp [Value.category]) (by omega) rfl ?_
      refine t_findByGraph (J := (va_up J 0 0)) (m := u) (e := v) hn (hT.same rfl rfl rfl rfl rfl rfl) hs hwd hwd6 hcar hst hV hg (fun h => (hB h).keep hN2 (fun _ _ _ _ => rfl) rfl rfl (fun _ _ => rfl) rfl) hkf hfr (by omega) (by omega) (by omega) ?_
      intro J1 G1 j1 g1 z1 tb1 t1 r1
      dsimp only [ax_ps]
      refine xald_0 (q := 39) d_85_38 rfl ?_
      refine xcV0 (q := 42) d_85_39 rfl lk_M_186 mo_84 ⟨by decide +kernel, by decide +kernel⟩  (by decide +kernel) (by simp [Value.category]) (by omega) rfl ?_
      refine t_tell hn (by rw [List.length_take]; omega) r1 ?_
      intro J2 G2 j2 g2 h11 h3
      dsimp only [ax_ps]
      refine x_iret d_85_42 rfl rfl ?_
      first
        | (exact k2 (by omega))
        | (exact k1 (by omega) J2 G2 (fun r a b c d e f g => (j2 r b).trans ((j1 r c d e f g).trans (va_un _ _ _ a))) (fun r a => (g2 r (by omega)).trans (g1 r (by omega))) ((j2 13 (by decide)).trans z1) (tb1.keep hN2 (fun _ _ _ _ => by (unfold tv; rw [g2 0 (by decide)])) (g2 4 (by decide)) (g2 5 (by decide)) (fun p _ => by rw [g2 6 (by decide)]) (j2 16 (by decide))) ((j2 12 (by decide)).trans t1) h11 h3)
    · rw [in_0] at c27
      refine x_iconst (q := 31) (v := zi (-1)) d_85_30 rfl rfl ?_
      refine x_iret d_85_31 rfl rfl ?_
      first
        | (exact k2 (by omega))
        | (exact k1 (by omega) J2 G2 (fun r a b c d e f g => (j2 r b).trans ((j1 r c d e f g).trans (va_un _ _ _ a))) (fun r a => (g2 r (by omega)).trans (g1 r (by omega))) ((j2 13 (by decide)).trans z1) (tb1.keep hN2 (fun _ _ _ _ => by (unfold tv; rw [g2 0 (by decide)])) (g2 4 (by decide)) (g2 5 (by decide)) (fun p _ => by rw [g2 6 (by decide)]) (j2 16 (by decide))) ((j2 12 (by decide)).trans t1) h11 h3)
