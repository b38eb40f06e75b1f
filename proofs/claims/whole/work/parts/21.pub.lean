/-! VectorGraphs: public methods -/
abbrev I32 (i : Int) : Prop := -2147483648 ≤ i ∧ i ≤ 2147483647
theorem has_1 {N : Nat} {i : Int} (h : 0 ≤ i ∧ i < N) : hasI N i = 1 := if_pos h
theorem has_0 {N : Nat} {i : Int} (h : ¬ (0 ≤ i ∧ i < N)) : hasI N i = 0 := if_neg h

set_option maxHeartbeats 2000000 in
theorem c_part {sc : ax_S} {σ : Nat → ax_C} {I : Nat → Int} {F : Nat → Nat → Int} {n bc bs : Nat} {K : ax_K} (hn : 22 ≤ n) {P N M : Nat} (hV : VW I F P N M) {i v : Int} (hi : I32 i) (hv3 : I32 v)
    (k1 : 0 ≤ i ∧ i < P ∧ -100 ≤ v ∧ v ≤ 100 → K (some (.int (zi (vec F P 100 i.toNat)))) (vg σ I (va_up F 2 (va_up (F 2) (100 * P + i.toNat) v)), n, bc, bs)) (k2 : ¬ (0 ≤ i ∧ i < P ∧ -100 ≤ v ∧ v ≤ 100) → K (some (.int (zi (-1000)))) (vg σ I F, n, bc, bs)) : Ex sc 4 0 (ax_en 4 [.ref 0, .int (zi i), .int (zi v)]) [] (vg σ I F, n, bc, bs) K := by
  obtain ⟨hP, hP1, hP2, hN, hN2, hM, hM2, hv, hrm, hbr⟩ := id hV
  show Ex sc 4 0 [some (.ref 0), some (.int (zi i)), some (.int (zi v))] [] (vg σ I F, n, bc, bs) K
  refine xild_1 (q := 1) d_4_0 rfl ?_
  refine x_if_lt (q := 4) (t := 27) d_4_1 (by decide) rfl (fun c1 => ?_) (fun c1 => ?_)
  · rw [zi_lt0 (by omega) (by omega)] at c1
    refine x_sipush (q := 30) (v := zi (-1000)) d_4_27 rfl (by decide) ?_
    refine x_iret d_4_30 rfl rfl ?_
    first
      | (exact k2 (by omega))
      | (exact k1 (by omega))
  · rw [zi_lt0 (by omega) (by omega)] at c1
    refine xild_1 (q := 5) d_4_4 rfl ?_
    refine xald_0 (q := 6) d_4_5 rfl ?_
    refine xg_VG_vectors hn (q := 9) d_4_6 rfl fl_X_23 ?_
    refine xg_V_parts hn (q := 12) d_4_9 rfl fl_X_53 ?_
    refine x_icmp_ge (q := 15) (t := 27) d_4_12 (by decide) rfl (fun c12 => ?_) (fun c12 => ?_)
    · rw [zi_le (by omega) (by omega) (by omega) (by omega)] at c12
      refine x_sipush (q := 30) (v := zi (-1000)) d_4_27 rfl (by decide) ?_
      refine x_iret d_4_30 rfl rfl ?_
      first
        | (exact k2 (by omega))
        | (exact k1 (by omega))
    · rw [zi_le (by omega) (by omega) (by omega) (by omega)] at c12
      refine xild_2 (q := 16) d_4_15 rfl ?_
      refine x_bipush (q := 18) (v := zi (-100)) d_4_16 rfl (by decide) ?_
      refine x_icmp_lt (q := 21) (t := 27) d_4_18 (by decide) rfl (fun c18 => ?_) (fun c18 => ?_)
      · rw [zi_lt (by omega) (by omega) (by omega) (by omega)] at c18
        refine x_sipush (q := 30) (v := zi (-1000)) d_4_27 rfl (by decide) ?_
        refine x_iret d_4_30 rfl rfl ?_
        first
          | (exact k2 (by omega))
          | (exact k1 (by omega))
      · rw [zi_lt (by omega) (by omega) (by omega) (by omega)] at c18
        refine xild_2 (q := 22) d_4_21 rfl ?_
        refine x_bipush (q := 24) (v := zi (100)) d_4_22 rfl (by decide) ?_
        refine x_icmp_le (q := 27) (t := 31) d_4_24 (by decide) rfl (fun c24 => ?_) (fun c24 => ?_)
        · rw [zi_le (by omega) (by omega) (by omega) (by omega)] at c24
          refine xald_0 (q := 32) d_4_31 rfl ?_
          refine xg_VG_vectors hn (q := 35) d_4_32 rfl fl_X_23 ?_
          refine xild_1 (q := 36) d_4_35 rfl ?_
          refine xild_2 (q := 37) d_4_36 rfl ?_
          rw [show i = ((i.toNat : Nat) : Int) by omega]
          refine xcV2 (q := 40) d_4_37 rfl lk_X_56 mo_5 ⟨by decide +kernel, by decide +kernel⟩ (by simp [Value.category]) (by decide +kernel) (by simp [Value.category]) (by omega) rfl ?_
          refine c_changeHand hn hV (i := i.toNat) (by omega) (by omega) ?_
          dsimp only [ax_ps]
          refine x_iret d_4_40 rfl rfl ?_
          first
            | (exact k2 (by omega))
            | (exact k1 (by omega))
        · rw [zi_le (by omega) (by omega) (by omega) (by omega)] at c24
          refine x_sipush (q := 30) (v := zi (-1000)) d_4_27 rfl (by decide) ?_
          refine x_iret d_4_30 rfl rfl ?_
          first
            | (exact k2 (by omega))
            | (exact k1 (by omega))
set_option maxHeartbeats 2000000 in
theorem c_take {sc : ax_S} {σ : Nat → ax_C} {I : Nat → Int} {F : Nat → Nat → Int} {n bc bs : Nat} {K : ax_K} (hn : 22 ≤ n) {P N M : Nat} (hV : VW I F P N M) {i : Int} (hi : I32 i) (k1 : 0 ≤ i ∧ i < N → K (some (.int (zi 1))) (vg σ I (cpyF F P i.toNat 100), n, bc, bs)) (k2 : ¬ (0 ≤ i ∧ i < N) → K (some (.int (zi (-1)))) (vg σ I F, n, bc, bs)) : Ex sc 33 0 (ax_en 33 [.ref 0, .int (zi i)]) [] (vg σ I F, n, bc, bs) K := by
  obtain ⟨hP, hP1, hP2, hN, hN2, hM, hM2, hv, hrm, hbr⟩ := id hV
  show Ex sc 33 0 [some (.ref 0), some (.int (zi i))] [] (vg σ I F, n, bc, bs) K
  by_cases hh : 0 ≤ i ∧ i < N
  · have HH := has_1 hh
    have hit : i.toNat < N := by omega
    refine xald_0 (q := 1) d_33_0 rfl ?_
    refine xg_VG_vectors hn (q := 4) d_33_1 rfl fl_X_23 ?_
    refine xild_1 (q := 5) d_33_4 rfl ?_
    refine xcV1 (q := 8) d_33_5 rfl lk_X_69 mo_16 ⟨by decide +kernel, by decide +kernel⟩ (by simp [Value.category]) (by decide +kernel) (by simp [Value.category]) (by omega) rfl ?_
    refine c_has hn hV (i := i) (by omega) ?_
    dsimp only [ax_ps]
    rw [HH]
    refine x_if_ne (q := 11) (t := 13) d_33_8 (by decide) rfl (fun c8 => ?_) (fun c8 => ?_)
    · rw [zi_eq0 (by omega) (by omega)] at c8
      refine xald_0 (q := 14) d_33_13 rfl ?_
      refine xg_VG_vectors hn (q := 17) d_33_14 rfl fl_X_23 ?_
      refine xild_1 (q := 18) d_33_17 rfl ?_
      refine x_bipush (q := 20) (v := zi (100)) d_33_18 rfl (by decide) ?_
      rw [show i = ((i.toNat : Nat) : Int) by omega]
      refine xcV2 (q := 23) d_33_20 rfl lk_X_73 mo_8 ⟨by decide +kernel, by decide +kernel⟩ (by simp [Value.category]) (by decide +kernel) (by simp [Value.category]) (by omega) rfl ?_
      refine c_copy hn hV (a := i.toNat) (b := 100) (by omega) (by omega) ?_
      dsimp only [ax_ps]
      refine x_iconst (q := 24) (v := zi (1)) d_33_23 rfl rfl ?_
      refine x_iret d_33_24 rfl rfl ?_
      exact k1 hh
    · rw [zi_eq0 (by omega) (by omega)] at c8
      exact absurd c8 (by decide)
  · have HH := has_0 hh
    refine xald_0 (q := 1) d_33_0 rfl ?_
    refine xg_VG_vectors hn (q := 4) d_33_1 rfl fl_X_23 ?_
    refine xild_1 (q := 5) d_33_4 rfl ?_
    refine xcV1 (q := 8) d_33_5 rfl lk_X_69 mo_16 ⟨by decide +kernel, by decide +kernel⟩ (by simp [Value.category]) (by decide +kernel) (by simp [Value.category]) (by omega) rfl ?_
    refine c_has hn hV (i := i) (by omega) ?_
    dsimp only [ax_ps]
    rw [HH]
    refine x_if_ne (q := 11) (t := 13) d_33_8 (by decide) rfl (fun c8 => ?_) (fun c8 => ?_)
    · rw [zi_eq0 (by omega) (by omega)] at c8
      exact absurd c8 (by decide)
    · rw [zi_eq0 (by omega) (by omega)] at c8
      refine x_iconst (q := 12) (v := zi (-1)) d_33_11 rfl rfl ?_
      refine x_iret d_33_12 rfl rfl ?_
      exact k2 hh
set_option maxHeartbeats 2000000 in
theorem c_remove {sc : ax_S} {σ : Nat → ax_C} {I : Nat → Int} {F : Nat → Nat → Int} {n bc bs : Nat} {K : ax_K} (hn : 22 ≤ n) {P N M : Nat} (hV : VW I F P N M) {i : Int} (hi : I32 i) (k1 : 0 ≤ i ∧ i < N → K (some (.int (zi (1 - F 0 i.toNat)))) (vg σ I (va_up F 0 (va_up (F 0) i.toNat 1)), n, bc, bs)) (k2 : ¬ (0 ≤ i ∧ i < N) → K (some (.int (zi (-1)))) (vg σ I F, n, bc, bs)) : Ex sc 34 0 (ax_en 34 [.ref 0, .int (zi i)]) [] (vg σ I F, n, bc, bs) K := by
  obtain ⟨hP, hP1, hP2, hN, hN2, hM, hM2, hv, hrm, hbr⟩ := id hV
  show Ex sc 34 0 [some (.ref 0), some (.int (zi i)), none] [] (vg σ I F, n, bc, bs) K
  by_cases hh : 0 ≤ i ∧ i < N
  · have HH := has_1 hh
    have hit : i.toNat < N := by omega
    refine xald_0 (q := 1) d_34_0 rfl ?_
    refine xg_VG_vectors hn (q := 4) d_34_1 rfl fl_X_23 ?_
    refine xild_1 (q := 5) d_34_4 rfl ?_
    refine xcV1 (q := 8) d_34_5 rfl lk_X_69 mo_16 ⟨by decide +kernel, by decide +kernel⟩ (by simp [Value.category]) (by decide +kernel) (by simp [Value.category]) (by omega) rfl ?_
    refine c_has hn hV (i := i) (by omega) ?_
    dsimp only [ax_ps]
    rw [HH]
    refine x_if_ne (q := 11) (t := 13) d_34_8 (by decide) rfl (fun c8 => ?_) (fun c8 => ?_)
    · rw [zi_eq0 (by omega) (by omega)] at c8
      refine xald_0 (q := 14) d_34_13 rfl ?_
      refine xg_VG_vectors hn (q := 17) d_34_14 rfl fl_X_23 ?_
      refine xg_V_removed hn (q := 20) d_34_17 rfl fl_X_77 ?_
      refine xild_1 (q := 21) d_34_20 rfl ?_
      refine xl_removed (q := 22) hn d_34_21 rfl (by omega) (by omega) ?_
      have h0 := hrm i.toNat (by omega)
      refine xist_2 (q := 23) d_34_22 rfl ?_
      refine xald_0 (q := 24) d_34_23 rfl ?_
      refine xg_VG_vectors hn (q := 27) d_34_24 rfl fl_X_23 ?_
      refine xg_V_removed hn (q := 30) d_34_27 rfl fl_X_77 ?_
      refine xild_1 (q := 31) d_34_30 rfl ?_
      refine x_iconst (q := 32) (v := zi (1)) d_34_31 rfl rfl ?_
      refine xs_removed (e := 1) (q := 33) hn (Or.inr rfl) d_34_32 rfl (by omega) (by omega) ?_
      refine xild_2 (q := 34) d_34_33 rfl ?_
      refine x_if_eq (q := 37) (t := 41) d_34_34 (by decide) rfl (fun c34 => ?_) (fun c34 => ?_)
      · rw [zi_eq0 (by omega) (by omega)] at c34
        refine x_iconst (q := 42) (v := zi (1)) d_34_41 rfl rfl ?_
        refine x_iret d_34_42 rfl rfl ?_
        have k1 := k1 hh
        first
          | (rw [show F 0 i.toNat = 0 by omega] at k1; exact k1)
          | (rw [show F 0 i.toNat = 1 by omega] at k1; exact k1)
      · rw [zi_eq0 (by omega) (by omega)] at c34
        refine x_iconst (q := 38) (v := zi (0)) d_34_37 rfl rfl ?_
        refine x_goto (t := 42) d_34_38 (by decide) ?_
        refine x_iret d_34_42 rfl rfl ?_
        have k1 := k1 hh
        first
          | (rw [show F 0 i.toNat = 0 by omega] at k1; exact k1)
          | (rw [show F 0 i.toNat = 1 by omega] at k1; exact k1)
    · rw [zi_eq0 (by omega) (by omega)] at c8
      exact absurd c8 (by decide)
  · have HH := has_0 hh
    refine xald_0 (q := 1) d_34_0 rfl ?_
    refine xg_VG_vectors hn (q := 4) d_34_1 rfl fl_X_23 ?_
    refine xild_1 (q := 5) d_34_4 rfl ?_
    refine xcV1 (q := 8) d_34_5 rfl lk_X_69 mo_16 ⟨by decide +kernel, by decide +kernel⟩ (by simp [Value.category]) (by decide +kernel) (by simp [Value.category]) (by omega) rfl ?_
    refine c_has hn hV (i := i) (by omega) ?_
    dsimp only [ax_ps]
    rw [HH]
    refine x_if_ne (q := 11) (t := 13) d_34_8 (by decide) rfl (fun c8 => ?_) (fun c8 => ?_)
    · rw [zi_eq0 (by omega) (by omega)] at c8
      exact absurd c8 (by decide)
    · rw [zi_eq0 (by omega) (by omega)] at c8
      refine x_iconst (q := 12) (v := zi (-1)) d_34_11 rfl rfl ?_
      refine x_iret d_34_12 rfl rfl ?_
      exact k2 hh
set_option maxHeartbeats 2000000 in
theorem c_bar {sc : ax_S} {σ : Nat → ax_C} {I : Nat → Int} {F : Nat → Nat → Int} {n bc bs : Nat} {K : ax_K} (hn : 22 ≤ n) {P N M : Nat} (hV : VW I F P N M) {i b : Int} (hi : I32 i) (hb : b = 0 ∨ b = 1) (k1 : 0 ≤ i ∧ i < N → K (some (.int (zi (F 1 i.toNat)))) (vg σ I (va_up F 1 (va_up (F 1) i.toNat b)), n, bc, bs)) (k2 : ¬ (0 ≤ i ∧ i < N) → K (some (.int (zi (-1)))) (vg σ I F, n, bc, bs)) : Ex sc 35 0 (ax_en 35 [.ref 0, .int (zi i), .int (zi b)]) [] (vg σ I F, n, bc, bs) K := by
  obtain ⟨hP, hP1, hP2, hN, hN2, hM, hM2, hv, hrm, hbr⟩ := id hV
  show Ex sc 35 0 [some (.ref 0), some (.int (zi i)), some (.int (zi b)), none] [] (vg σ I F, n, bc, bs) K
  by_cases hh : 0 ≤ i ∧ i < N
  · have HH := has_1 hh
    have hit : i.toNat < N := by omega
    refine xald_0 (q := 1) d_35_0 rfl ?_
    refine xg_VG_vectors hn (q := 4) d_35_1 rfl fl_X_23 ?_
    refine xild_1 (q := 5) d_35_4 rfl ?_
    refine xcV1 (q := 8) d_35_5 rfl lk_X_69 mo_16 ⟨by decide +kernel, by decide +kernel⟩ (by simp [Value.category]) (by decide +kernel) (by simp [Value.category]) (by omega) rfl ?_
    refine c_has hn hV (i := i) (by omega) ?_
    dsimp only [ax_ps]
    rw [HH]
    refine x_if_ne (q := 11) (t := 13) d_35_8 (by decide) rfl (fun c8 => ?_) (fun c8 => ?_)
    · rw [zi_eq0 (by omega) (by omega)] at c8
      refine xald_0 (q := 14) d_35_13 rfl ?_
      refine xg_VG_vectors hn (q := 17) d_35_14 rfl fl_X_23 ?_
      refine xg_V_barred hn (q := 20) d_35_17 rfl fl_X_81 ?_
      refine xild_1 (q := 21) d_35_20 rfl ?_
      refine xl_barred (q := 22) hn d_35_21 rfl (by omega) (by omega) ?_
      have h0 := hbr i.toNat (by omega)
      refine xist_3 (q := 23) d_35_22 rfl ?_
      refine xald_0 (q := 24) d_35_23 rfl ?_
      refine xg_VG_vectors hn (q := 27) d_35_24 rfl fl_X_23 ?_
      refine xg_V_barred hn (q := 30) d_35_27 rfl fl_X_81 ?_
      refine xild_1 (q := 31) d_35_30 rfl ?_
      refine xild_2 (q := 32) d_35_31 rfl ?_
      refine xs_barred (q := 33) hn hb d_35_32 rfl (by omega) (by omega) ?_
      refine xild_3 (q := 34) d_35_33 rfl ?_
      refine x_if_eq (q := 37) (t := 41) d_35_34 (by decide) rfl (fun c34 => ?_) (fun c34 => ?_)
      · rw [zi_eq0 (by omega) (by omega)] at c34
        refine x_iconst (q := 42) (v := zi (0)) d_35_41 rfl rfl ?_
        refine x_iret d_35_42 rfl rfl ?_
        have k1 := k1 hh
        first
          | (rw [show F 1 i.toNat = 0 by omega] at k1; exact k1)
          | (rw [show F 1 i.toNat = 1 by omega] at k1; exact k1)
      · rw [zi_eq0 (by omega) (by omega)] at c34
        refine x_iconst (q := 38) (v := zi (1)) d_35_37 rfl rfl ?_
        refine x_goto (t := 42) d_35_38 (by decide) ?_
        refine x_iret d_35_42 rfl rfl ?_
        have k1 := k1 hh
        first
          | (rw [show F 1 i.toNat = 0 by omega] at k1; exact k1)
          | (rw [show F 1 i.toNat = 1 by omega] at k1; exact k1)
    · rw [zi_eq0 (by omega) (by omega)] at c8
      exact absurd c8 (by decide)
  · have HH := has_0 hh
    refine xald_0 (q := 1) d_35_0 rfl ?_
    refine xg_VG_vectors hn (q := 4) d_35_1 rfl fl_X_23 ?_
    refine xild_1 (q := 5) d_35_4 rfl ?_
    refine xcV1 (q := 8) d_35_5 rfl lk_X_69 mo_16 ⟨by decide +kernel, by decide +kernel⟩ (by simp [Value.category]) (by decide +kernel) (by simp [Value.category]) (by omega) rfl ?_
    refine c_has hn hV (i := i) (by omega) ?_
    dsimp only [ax_ps]
    rw [HH]
    refine x_if_ne (q := 11) (t := 13) d_35_8 (by decide) rfl (fun c8 => ?_) (fun c8 => ?_)
    · rw [zi_eq0 (by omega) (by omega)] at c8
      exact absurd c8 (by decide)
    · rw [zi_eq0 (by omega) (by omega)] at c8
      refine x_iconst (q := 12) (v := zi (-1)) d_35_11 rfl rfl ?_
      refine x_iret d_35_12 rfl rfl ?_
      exact k2 hh
set_option maxHeartbeats 2000000 in
theorem c_far {sc : ax_S} {σ : Nat → ax_C} {I : Nat → Int} {F : Nat → Nat → Int} {n bc bs : Nat} {K : ax_K} (hn : 22 ≤ n) {P N M : Nat} (hV : VW I F P N M) {i : Int} (hi : I32 i) (k1 : 0 ≤ i ∧ i < N → K (some (.int (zi (farV F P M 100 100 i.toNat)))) (vg σ I F, n, bc, bs)) (k2 : ¬ (0 ≤ i ∧ i < N) → K (some (.int (zi (-1)))) (vg σ I F, n, bc, bs)) : Ex sc 51 0 (ax_en 51 [.ref 0, .int (zi i)]) [] (vg σ I F, n, bc, bs) K := by
  obtain ⟨hP, hP1, hP2, hN, hN2, hM, hM2, hv, hrm, hbr⟩ := id hV
  show Ex sc 51 0 [some (.ref 0), some (.int (zi i))] [] (vg σ I F, n, bc, bs) K
  by_cases hh : 0 ≤ i ∧ i < N
  · have HH := has_1 hh
    have hit : i.toNat < N := by omega
    refine xald_0 (q := 1) d_51_0 rfl ?_
    refine xg_VG_vectors hn (q := 4) d_51_1 rfl fl_X_23 ?_
    refine xild_1 (q := 5) d_51_4 rfl ?_
    refine xcV1 (q := 8) d_51_5 rfl lk_X_69 mo_16 ⟨by decide +kernel, by decide +kernel⟩ (by simp [Value.category]) (by decide +kernel) (by simp [Value.category]) (by omega) rfl ?_
    refine c_has hn hV (i := i) (by omega) ?_
    dsimp only [ax_ps]
    rw [HH]
    refine x_if_eq (q := 11) (t := 26) d_51_8 (by decide) rfl (fun c8 => ?_) (fun c8 => ?_)
    · rw [zi_eq0 (by omega) (by omega)] at c8
      exact absurd c8 (by decide)
    · rw [zi_eq0 (by omega) (by omega)] at c8
      refine xald_0 (q := 12) d_51_11 rfl ?_
      refine xg_VG_vectors hn (q := 15) d_51_12 rfl fl_X_23 ?_
      refine x_bipush (q := 17) (v := zi (100)) d_51_15 rfl (by decide) ?_
      refine xild_1 (q := 18) d_51_17 rfl ?_
      refine x_bipush (q := 20) (v := zi (100)) d_51_18 rfl (by decide) ?_
      rw [show i = ((i.toNat : Nat) : Int) by omega]
      refine xcV3 (q := 23) d_51_20 rfl lk_X_124 mo_17 ⟨by decide +kernel, by decide +kernel⟩ (by simp [Value.category]) (by decide +kernel) (by simp [Value.category]) (by omega) rfl ?_
      refine c_apart hn hV (a := 100) (b := i.toNat) (q := 100) (by omega) (by omega) (by omega) ?_
      dsimp only [ax_ps]
      refine x_goto (t := 27) d_51_23 (by decide) ?_
      refine x_iret d_51_27 rfl rfl ?_
      exact k1 hh
  · have HH := has_0 hh
    refine xald_0 (q := 1) d_51_0 rfl ?_
    refine xg_VG_vectors hn (q := 4) d_51_1 rfl fl_X_23 ?_
    refine xild_1 (q := 5) d_51_4 rfl ?_
    refine xcV1 (q := 8) d_51_5 rfl lk_X_69 mo_16 ⟨by decide +kernel, by decide +kernel⟩ (by simp [Value.category]) (by decide +kernel) (by simp [Value.category]) (by omega) rfl ?_
    refine c_has hn hV (i := i) (by omega) ?_
    dsimp only [ax_ps]
    rw [HH]
    refine x_if_eq (q := 11) (t := 26) d_51_8 (by decide) rfl (fun c8 => ?_) (fun c8 => ?_)
    · rw [zi_eq0 (by omega) (by omega)] at c8
      refine x_iconst (q := 27) (v := zi (-1)) d_51_26 rfl rfl ?_
      refine x_iret d_51_27 rfl rfl ?_
      exact k2 hh
    · rw [zi_eq0 (by omega) (by omega)] at c8
      exact absurd rfl c8
set_option maxHeartbeats 2000000 in
theorem c_level {sc : ax_S} {σ : Nat → ax_C} {I : Nat → Int} {F : Nat → Nat → Int} {n bc bs : Nat} {K : ax_K} (hn : 22 ≤ n) {P N M : Nat} (hV : VW I F P N M) {i : Int} (hi : I32 i) {s : Int} (hs : I 8 = s) (k1 : 0 ≤ i ∧ i < N → K (some (.int (zi (lev s i.toNat)))) (vg σ I F, n, bc, bs)) (k2 : ¬ (0 ≤ i ∧ i < N) → K (some (.int (zi (-1)))) (vg σ I F, n, bc, bs)) : Ex sc 54 0 (ax_en 54 [.ref 0, .int (zi i)]) [] (vg σ I F, n, bc, bs) K := by
  obtain ⟨hP, hP1, hP2, hN, hN2, hM, hM2, hv, hrm, hbr⟩ := id hV
  show Ex sc 54 0 [some (.ref 0), some (.int (zi i))] [] (vg σ I F, n, bc, bs) K
  by_cases hh : 0 ≤ i ∧ i < N
  · have HH := has_1 hh
    have hit : i.toNat < N := by omega
    refine xald_0 (q := 1) d_54_0 rfl ?_
    refine xg_VG_vectors hn (q := 4) d_54_1 rfl fl_X_23 ?_
    refine xild_1 (q := 5) d_54_4 rfl ?_
    refine xcV1 (q := 8) d_54_5 rfl lk_X_69 mo_16 ⟨by decide +kernel, by decide +kernel⟩ (by simp [Value.category]) (by decide +kernel) (by simp [Value.category]) (by omega) rfl ?_
    refine c_has hn hV (i := i) (by omega) ?_
    dsimp only [ax_ps]
    rw [HH]
    refine x_if_eq (q := 11) (t := 22) d_54_8 (by decide) rfl (fun c8 => ?_) (fun c8 => ?_)
    · rw [zi_eq0 (by omega) (by omega)] at c8
      exact absurd c8 (by decide)
    · rw [zi_eq0 (by omega) (by omega)] at c8
      refine xald_0 (q := 12) d_54_11 rfl ?_
      refine xg_VG_graph hn (q := 15) d_54_12 rfl fl_X_32 ?_
      refine xild_1 (q := 16) d_54_15 rfl ?_
      rw [show i = ((i.toNat : Nat) : Int) by omega]
      refine xcV1 (q := 19) d_54_16 rfl lk_X_134 mo_10 ⟨by decide +kernel, by decide +kernel⟩ (by simp [Value.category]) (by decide +kernel) (by simp [Value.category]) (by omega) rfl ?_
      refine c_levelOf hn hs (i := i.toNat) ?_
      dsimp only [ax_ps]
      refine x_goto (t := 23) d_54_19 (by decide) ?_
      refine x_iret d_54_23 rfl rfl ?_
      exact k1 hh
  · have HH := has_0 hh
    refine xald_0 (q := 1) d_54_0 rfl ?_
    refine xg_VG_vectors hn (q := 4) d_54_1 rfl fl_X_23 ?_
    refine xild_1 (q := 5) d_54_4 rfl ?_
    refine xcV1 (q := 8) d_54_5 rfl lk_X_69 mo_16 ⟨by decide +kernel, by decide +kernel⟩ (by simp [Value.category]) (by decide +kernel) (by simp [Value.category]) (by omega) rfl ?_
    refine c_has hn hV (i := i) (by omega) ?_
    dsimp only [ax_ps]
    rw [HH]
    refine x_if_eq (q := 11) (t := 22) d_54_8 (by decide) rfl (fun c8 => ?_) (fun c8 => ?_)
    · rw [zi_eq0 (by omega) (by omega)] at c8
      refine x_iconst (q := 23) (v := zi (-1)) d_54_22 rfl rfl ?_
      refine x_iret d_54_23 rfl rfl ?_
      exact k2 hh
    · rw [zi_eq0 (by omega) (by omega)] at c8
      exact absurd rfl c8
set_option maxHeartbeats 2000000 in
theorem c_between {sc : ax_S} {σ : Nat → ax_C} {I : Nat → Int} {F : Nat → Nat → Int} {n bc bs : Nat} {K : ax_K} (hn : 22 ≤ n) {P N M : Nat} (hV : VW I F P N M) {i j : Int} (hi : I32 i) (hj : I32 j) (k1 : (0 ≤ i ∧ i < N) ∧ (0 ≤ j ∧ j < N) → K (some (.int (zi (farV F P M 100 i.toNat j.toNat)))) (vg σ I F, n, bc, bs)) (k2 : ¬ ((0 ≤ i ∧ i < N) ∧ (0 ≤ j ∧ j < N)) → K (some (.int (zi (-1)))) (vg σ I F, n, bc, bs)) : Ex sc 52 0 (ax_en 52 [.ref 0, .int (zi i), .int (zi j)]) [] (vg σ I F, n, bc, bs) K := by
  obtain ⟨hP, hP1, hP2, hN, hN2, hM, hM2, hv, hrm, hbr⟩ := id hV
  show Ex sc 52 0 [some (.ref 0), some (.int (zi i)), some (.int (zi j))] [] (vg σ I F, n, bc, bs) K
  by_cases hh : 0 ≤ i ∧ i < N
  · have HH := has_1 hh
    by_cases hg : 0 ≤ j ∧ j < N
    · have HG := has_1 hg
      refine xald_0 (q := 1) d_52_0 rfl ?_
      refine xg_VG_vectors hn (q := 4) d_52_1 rfl fl_X_23 ?_
      refine xild_1 (q := 5) d_52_4 rfl ?_
      refine xcV1 (q := 8) d_52_5 rfl lk_X_69 mo_16 ⟨by decide +kernel, by decide +kernel⟩ (by simp [Value.category]) (by decide +kernel) (by simp [Value.category]) (by omega) rfl ?_
      refine c_has hn hV (i := i) (by omega) ?_
      dsimp only [ax_ps]
      rw [HH]
      refine x_if_eq (q := 11) (t := 36) d_52_8 (by decide) rfl (fun c8 => ?_) (fun c8 => ?_)
      · rw [zi_eq0 (by omega) (by omega)] at c8
        first
          | (exact absurd c8 (by decide))
          | (exact absurd c19 (by decide))
      · rw [zi_eq0 (by omega) (by omega)] at c8
        refine xald_0 (q := 12) d_52_11 rfl ?_
        refine xg_VG_vectors hn (q := 15) d_52_12 rfl fl_X_23 ?_
        refine xild_2 (q := 16) d_52_15 rfl ?_
        refine xcV1 (q := 19) d_52_16 rfl lk_X_69 mo_16 ⟨by decide +kernel, by decide +kernel⟩ (by simp [Value.category]) (by decide +kernel) (by simp [Value.category]) (by omega) rfl ?_
        refine c_has hn hV (i := j) (by omega) ?_
        dsimp only [ax_ps]
        rw [HG]
        refine x_if_eq (q := 22) (t := 36) d_52_19 (by decide) rfl (fun c19 => ?_) (fun c19 => ?_)
        · rw [zi_eq0 (by omega) (by omega)] at c19
          first
            | (exact absurd c8 (by decide))
            | (exact absurd c19 (by decide))
        · rw [zi_eq0 (by omega) (by omega)] at c19
          refine xald_0 (q := 23) d_52_22 rfl ?_
          refine xg_VG_vectors hn (q := 26) d_52_23 rfl fl_X_23 ?_
          refine xild_1 (q := 27) d_52_26 rfl ?_
          refine xild_2 (q := 28) d_52_27 rfl ?_
          refine x_bipush (q := 30) (v := zi (100)) d_52_28 rfl (by decide) ?_
          rw [show i = ((i.toNat : Nat) : Int) by omega, show j = ((j.toNat : Nat) : Int) by omega]
          refine xcV3 (q := 33) d_52_30 rfl lk_X_124 mo_17 ⟨by decide +kernel, by decide +kernel⟩ (by simp [Value.category]) (by decide +kernel) (by simp [Value.category]) (by omega) rfl ?_
          refine c_apart hn hV (a := i.toNat) (b := j.toNat) (q := 100) (by omega) (by omega) (by omega) ?_
          dsimp only [ax_ps]
          refine x_goto (t := 37) d_52_33 (by decide) ?_
          refine x_iret d_52_37 rfl rfl ?_
          exact k1 ⟨hh, hg⟩
    · have HG := has_0 hg
      refine xald_0 (q := 1) d_52_0 rfl ?_
      refine xg_VG_vectors hn (q := 4) d_52_1 rfl fl_X_23 ?_
      refine xild_1 (q := 5) d_52_4 rfl ?_
      refine xcV1 (q := 8) d_52_5 rfl lk_X_69 mo_16 ⟨by decide +kernel, by decide +kernel⟩ (by simp [Value.category]) (by decide +kernel) (by simp [Value.category]) (by omega) rfl ?_
      refine c_has hn hV (i := i) (by omega) ?_
      dsimp only [ax_ps]
      rw [HH]
      refine x_if_eq (q := 11) (t := 36) d_52_8 (by decide) rfl (fun c8 => ?_) (fun c8 => ?_)
      · rw [zi_eq0 (by omega) (by omega)] at c8
        first
          | (exact absurd c8 (by decide))
          | (refine x_iconst (q := 37) (v := zi (-1)) d_52_36 rfl rfl ?_; refine x_iret d_52_37 rfl rfl ?_; exact k2 (fun z => hg z.2))
      · rw [zi_eq0 (by omega) (by omega)] at c8
        refine xald_0 (q := 12) d_52_11 rfl ?_
        refine xg_VG_vectors hn (q := 15) d_52_12 rfl fl_X_23 ?_
        refine xild_2 (q := 16) d_52_15 rfl ?_
        refine xcV1 (q := 19) d_52_16 rfl lk_X_69 mo_16 ⟨by decide +kernel, by decide +kernel⟩ (by simp [Value.category]) (by decide +kernel) (by simp [Value.category]) (by omega) rfl ?_
        refine c_has hn hV (i := j) (by omega) ?_
        dsimp only [ax_ps]
        rw [HG]
        refine x_if_eq (q := 22) (t := 36) d_52_19 (by decide) rfl (fun c19 => ?_) (fun c19 => ?_)
        · rw [zi_eq0 (by omega) (by omega)] at c19
          first
            | (exact absurd c8 (by decide))
            | (refine x_iconst (q := 37) (v := zi (-1)) d_52_36 rfl rfl ?_; refine x_iret d_52_37 rfl rfl ?_; exact k2 (fun z => hg z.2))
        · rw [zi_eq0 (by omega) (by omega)] at c19
          exact absurd rfl c19
  · have HH := has_0 hh
    refine xald_0 (q := 1) d_52_0 rfl ?_
    refine xg_VG_vectors hn (q := 4) d_52_1 rfl fl_X_23 ?_
    refine xild_1 (q := 5) d_52_4 rfl ?_
    refine xcV1 (q := 8) d_52_5 rfl lk_X_69 mo_16 ⟨by decide +kernel, by decide +kernel⟩ (by simp [Value.category]) (by decide +kernel) (by simp [Value.category]) (by omega) rfl ?_
    refine c_has hn hV (i := i) (by omega) ?_
    dsimp only [ax_ps]
    rw [HH]
    refine x_if_eq (q := 11) (t := 36) d_52_8 (by decide) rfl (fun c8 => ?_) (fun c8 => ?_)
    · rw [zi_eq0 (by omega) (by omega)] at c8
      refine x_iconst (q := 37) (v := zi (-1)) d_52_36 rfl rfl ?_
      refine x_iret d_52_37 rfl rfl ?_
      exact k2 (fun z => hh z.1)
    · rw [zi_eq0 (by omega) (by omega)] at c8
      exact absurd rfl c8
set_option maxHeartbeats 2000000 in
theorem c_at {sc : ax_S} {σ : Nat → ax_C} {I : Nat → Int} {F : Nat → Nat → Int} {n bc bs : Nat} {K : ax_K} (hn : 22 ≤ n) {L : List Nat} (hL : RK 3 I F L) {i : Int} (hi : I32 i) (k : K (some (.int (zi (rkNum L i)))) (vg σ I F, n, bc, bs)) : Ex sc 50 0 (ax_en 50 [.ref 0, .int (zi i)]) [] (vg σ I F, n, bc, bs) K := by
  show Ex sc 50 0 [some (.ref 0), some (.int (zi i))] [] (vg σ I F, n, bc, bs) K
  refine xald_0 (q := 1) d_50_0 rfl ?_
  refine xg_VG_last hn (q := 4) d_50_1 rfl fl_X_39 ?_
  refine xild_1 (q := 5) d_50_4 rfl ?_
  refine xcV1 (q := 8) d_50_5 rfl lk_X_120 mo_21 ⟨by decide +kernel, by decide +kernel⟩ (by simp [Value.category]) (by decide +kernel) (by simp [Value.category]) (rk_lt (by decide) hn).1 (vg_rk (by decide)) ?_
  refine c_numberAt hn (by decide) hL (i := i) (by omega) ?_
  dsimp only [ax_ps]
  refine x_iret d_50_8 rfl rfl ?_
  exact k
set_option maxHeartbeats 2000000 in
theorem c_steps {sc : ax_S} {σ : Nat → ax_C} {I : Nat → Int} {F : Nat → Nat → Int} {n bc bs : Nat} {K : ax_K} (hn : 22 ≤ n) (k : K (some (.int (zi (I 6)))) (vg σ I F, n, bc, bs)) : Ex sc 53 0 (ax_en 53 [.ref 0]) [] (vg σ I F, n, bc, bs) K := by
  show Ex sc 53 0 [some (.ref 0)] [] (vg σ I F, n, bc, bs) K
  refine xald_0 (q := 1) d_53_0 rfl ?_
  refine xg_VG_latestSteps hn (q := 4) d_53_1 rfl fl_X_49 ?_
  refine x_iret d_53_4 rfl rfl ?_
  exact k
set_option maxHeartbeats 2000000 in
theorem c_entry {sc : ax_S} {σ : Nat → ax_C} {I : Nat → Int} {F : Nat → Nat → Int} {n bc bs : Nat} {K : ax_K} (hn : 22 ≤ n) (k : K (some (.int (zi (I 2)))) (vg σ I F, n, bc, bs)) : Ex sc 55 0 (ax_en 55 [.ref 0]) [] (vg σ I F, n, bc, bs) K := by
  show Ex sc 55 0 [some (.ref 0)] [] (vg σ I F, n, bc, bs) K
  refine xald_0 (q := 1) d_55_0 rfl ?_
  refine xg_VG_graph hn (q := 4) d_55_1 rfl fl_X_32 ?_
  refine xg_G_entry hn (q := 7) d_55_4 rfl fl_X_137 ?_
  refine x_iret d_55_7 rfl rfl ?_
  exact k
def nbI (rows : Nat → Nat → List Nat) (N : Nat) (s : Int) (i l j : Int) : Int := if (0 ≤ i ∧ i < N) ∧ 0 ≤ l ∧ l ≤ lev s i.toNat ∧ -1 ≤ j ∧ j < (rows i.toNat l.toNat).length then (if j = -1 then (rows i.toNat l.toNat).length else ((rows i.toNat l.toNat).getD j.toNat 0 : Nat)) else -1
set_option maxHeartbeats 2000000 in
theorem c_neighbour {sc : ax_S} {σ : Nat → ax_C} {I : Nat → Int} {F : Nat → Nat → Int} {n bc bs : Nat} {K : ax_K} (hn : 22 ≤ n) {P N M : Nat} (hV : VW I F P N M) {rows : Nat → Nat → List Nat} (hG : GW F rows N) {s : Int} (hs : I 8 = s) {i l j : Int} (hi : I32 i) (hl : I32 l) (hj : I32 j) (k : K (some (.int (zi (nbI rows N s i l j)))) (vg σ I F, n, bc, bs)) : Ex sc 56 0 (ax_en 56 [.ref 0, .int (zi i), .int (zi l), .int (zi j)]) [] (vg σ I F, n, bc, bs) K := by
  obtain ⟨hP, hP1, hP2, hN, hN2, hM, hM2, hv, hrm, hbr⟩ := id hV
  show Ex sc 56 0 [some (.ref 0), some (.int (zi i)), some (.int (zi l)), some (.int (zi j)), none] [] (vg σ I F, n, bc, bs) K
  unfold nbI at k
  have hle := lev_le s i.toNat
  generalize hlv : lev s i.toNat = lv at k hle
  by_cases hh : 0 ≤ i ∧ i < N
  · have HH := has_1 hh
    refine xald_0 (q := 1) d_56_0 rfl ?_
    refine xg_VG_vectors hn (q := 4) d_56_1 rfl fl_X_23 ?_
    refine xild_1 (q := 5) d_56_4 rfl ?_
    refine xcV1 (q := 8) d_56_5 rfl lk_X_69 mo_16 ⟨by decide +kernel, by decide +kernel⟩ (by simp [Value.category]) (by decide +kernel) (by simp [Value.category]) (by omega) rfl ?_
    refine c_has hn hV (i := i) (by omega) ?_
    dsimp only [ax_ps]
    rw [HH]
    refine x_if_eq (q := 11) (t := 27) d_56_8 (by decide) rfl (fun c8 => ?_) (fun c8 => ?_)
    · rw [zi_eq0 (by omega) (by omega)] at c8
      first
        | (exact absurd c8 (by decide))
        | (refine x_iconst (q := 28) (v := zi (-1)) d_56_27 rfl rfl ?_; refine x_iret d_56_28 rfl rfl ?_; rw [if_neg (by omega)] at k; exact k)
    · rw [zi_eq0 (by omega) (by omega)] at c8
      refine xild_2 (q := 12) d_56_11 rfl ?_
      refine x_if_lt (q := 15) (t := 27) d_56_12 (by decide) rfl (fun c12 => ?_) (fun c12 => ?_)
      · rw [zi_lt0 (by omega) (by omega)] at c12
        first
          | (exact absurd c8 (by decide))
          | (refine x_iconst (q := 28) (v := zi (-1)) d_56_27 rfl rfl ?_; refine x_iret d_56_28 rfl rfl ?_; rw [if_neg (by omega)] at k; exact k)
      · rw [zi_lt0 (by omega) (by omega)] at c12
        refine xild_2 (q := 16) d_56_15 rfl ?_
        refine xald_0 (q := 17) d_56_16 rfl ?_
        refine xg_VG_graph hn (q := 20) d_56_17 rfl fl_X_32 ?_
        refine xild_1 (q := 21) d_56_20 rfl ?_
        rw [show i = ((i.toNat : Nat) : Int) by omega]
        refine xcV1 (q := 24) d_56_21 rfl lk_X_134 mo_10 ⟨by decide +kernel, by decide +kernel⟩ (by simp [Value.category]) (by decide +kernel) (by simp [Value.category]) (by omega) rfl ?_
        refine c_levelOf hn hs (i := i.toNat) ?_
        dsimp only [ax_ps]
        rw [hlv]
        refine x_icmp_le (q := 27) (t := 29) d_56_24 (by decide) rfl (fun c24 => ?_) (fun c24 => ?_)
        · rw [zi_le (by omega) (by omega) (by omega) (by omega)] at c24
          refine xald_0 (q := 30) d_56_29 rfl ?_
          refine xg_VG_graph hn (q := 33) d_56_30 rfl fl_X_32 ?_
          refine xild_1 (q := 34) d_56_33 rfl ?_
          refine xild_2 (q := 35) d_56_34 rfl ?_
          rw [show l = ((l.toNat : Nat) : Int) by omega]
          refine xcV2 (q := 38) d_56_35 rfl lk_X_140 mo_24 ⟨by decide +kernel, by decide +kernel⟩ (by simp [Value.category]) (by decide +kernel) (by simp [Value.category]) (by omega) rfl ?_
          refine c_rowSize hn hG (i := i.toNat) (l := l.toNat) (by omega) (by omega) ?_
          dsimp only [ax_ps]
          have hrl := (hG i.toNat l.toNat (by omega) (by omega)).2.1
          have hr12 := rl_b l.toNat
          refine xist_4 (q := 40) d_56_38 rfl ?_
          refine xild_3 (q := 41) d_56_40 rfl ?_
          refine x_iconst (q := 42) (v := zi (-1)) d_56_41 rfl rfl ?_
          refine x_icmp_ne (q := 45) (t := 48) d_56_42 (by decide) rfl (fun c42 => ?_) (fun c42 => ?_)
          · rw [zi_eq (by omega) (by omega) (by omega) (by omega)] at c42
            refine xild_3 (q := 49) d_56_48 rfl ?_
            refine x_if_lt (q := 52) (t := 71) d_56_49 (by decide) rfl (fun c49 => ?_) (fun c49 => ?_)
            · rw [zi_lt0 (by omega) (by omega)] at c49
              refine x_iconst (q := 72) (v := zi (-1)) d_56_71 rfl rfl ?_
              refine x_iret d_56_72 rfl rfl ?_
              first
                | (rw [if_neg (by omega)] at k; exact k)
                | (rw [if_pos (by omega), if_pos (by omega)] at k; exact k)
                | (rw [if_pos (by omega), if_neg (by omega)] at k; exact k)
            · rw [zi_lt0 (by omega) (by omega)] at c49
              refine xild_3 (q := 53) d_56_52 rfl ?_
              refine xild_4 (q := 55) d_56_53 rfl ?_
              refine x_icmp_ge (q := 58) (t := 71) d_56_55 (by decide) rfl (fun c55 => ?_) (fun c55 => ?_)
              · rw [zi_le (by omega) (by omega) (by omega) (by omega)] at c55
                refine x_iconst (q := 72) (v := zi (-1)) d_56_71 rfl rfl ?_
                refine x_iret d_56_72 rfl rfl ?_
                first
                  | (rw [if_neg (by omega)] at k; exact k)
                  | (rw [if_pos (by omega), if_pos (by omega)] at k; exact k)
                  | (rw [if_pos (by omega), if_neg (by omega)] at k; exact k)
              · rw [zi_le (by omega) (by omega) (by omega) (by omega)] at c55
                refine xald_0 (q := 59) d_56_58 rfl ?_
                refine xg_VG_graph hn (q := 62) d_56_59 rfl fl_X_32 ?_
                refine xild_1 (q := 63) d_56_62 rfl ?_
                refine xild_2 (q := 64) d_56_63 rfl ?_
                refine xild_3 (q := 65) d_56_64 rfl ?_
                rw [show j = ((j.toNat : Nat) : Int) by omega]
                refine xcV3 (q := 68) d_56_65 rfl lk_X_143 mo_25 ⟨by decide +kernel, by decide +kernel⟩ (by simp [Value.category]) (by decide +kernel) (by simp [Value.category]) (by omega) rfl ?_
                refine c_linkAt hn hG (i := i.toNat) (l := l.toNat) (j := j.toNat) (by omega) (by omega) (by omega) ?_
                dsimp only [ax_ps]
                refine x_goto (t := 72) d_56_68 (by decide) ?_
                refine x_iret d_56_72 rfl rfl ?_
                first
                  | (rw [if_neg (by omega)] at k; exact k)
                  | (rw [if_pos (by omega), if_pos (by omega)] at k; exact k)
                  | (rw [if_pos (by omega), if_neg (by omega)] at k; exact k)
          · rw [zi_eq (by omega) (by omega) (by omega) (by omega)] at c42
            refine xild_4 (q := 47) d_56_45 rfl ?_
            refine x_iret d_56_47 rfl rfl ?_
            first
              | (rw [if_neg (by omega)] at k; exact k)
              | (rw [if_pos (by omega), if_pos (by omega)] at k; exact k)
              | (rw [if_pos (by omega), if_neg (by omega)] at k; exact k)
        · rw [zi_le (by omega) (by omega) (by omega) (by omega)] at c24
          first
            | (exact absurd c8 (by decide))
            | (refine x_iconst (q := 28) (v := zi (-1)) d_56_27 rfl rfl ?_; refine x_iret d_56_28 rfl rfl ?_; rw [if_neg (by omega)] at k; exact k)
  · have HH := has_0 hh
    refine xald_0 (q := 1) d_56_0 rfl ?_
    refine xg_VG_vectors hn (q := 4) d_56_1 rfl fl_X_23 ?_
    refine xild_1 (q := 5) d_56_4 rfl ?_
    refine xcV1 (q := 8) d_56_5 rfl lk_X_69 mo_16 ⟨by decide +kernel, by decide +kernel⟩ (by simp [Value.category]) (by decide +kernel) (by simp [Value.category]) (by omega) rfl ?_
    refine c_has hn hV (i := i) (by omega) ?_
    dsimp only [ax_ps]
    rw [HH]
    refine x_if_eq (q := 11) (t := 27) d_56_8 (by decide) rfl (fun c8 => ?_) (fun c8 => ?_)
    · rw [zi_eq0 (by omega) (by omega)] at c8
      refine x_iconst (q := 28) (v := zi (-1)) d_56_27 rfl rfl ?_
      refine x_iret d_56_28 rfl rfl ?_
      rw [if_neg (fun z => hh z.1)] at k
      exact k
    · rw [zi_eq0 (by omega) (by omega)] at c8
      exact absurd rfl c8
def mayI (a e : Int) : Int := if 1 ≤ a ∧ a ≤ e ∧ e ≤ 60 then 1 else 0
set_option maxHeartbeats 2000000 in
theorem c_mayLook {sc : ax_S} {h : ax_H} {K : ax_K} {a e : Int} (ha : I32 a) (he : I32 e) (k : K (some (.int (zi (mayI a e)))) h) : Ex sc 44 0 (ax_en 44 [.int (zi a), .int (zi e)]) [] h K := by
  show Ex sc 44 0 [some (.int (zi a)), some (.int (zi e))] [] h K
  refine xild_0 (q := 1) d_44_0 rfl ?_
  refine x_iconst (q := 2) (v := zi (1)) d_44_1 rfl rfl ?_
  refine x_icmp_lt (q := 5) (t := 20) d_44_2 (by decide) rfl (fun c2 => ?_) (fun c2 => ?_)
  · rw [zi_lt (by omega) (by omega) (by omega) (by omega)] at c2
    refine x_iconst (q := 21) (v := zi (0)) d_44_20 rfl rfl ?_
    refine x_iret d_44_21 rfl rfl ?_
    first
      | (have e1 : mayI a e = 1 := (by unfold mayI; rw [if_pos]; omega); rw [e1] at k; exact k)
      | (have e1 : mayI a e = 0 := (by unfold mayI; rw [if_neg]; omega); rw [e1] at k; exact k)
  · rw [zi_lt (by omega) (by omega) (by omega) (by omega)] at c2
    refine xild_1 (q := 6) d_44_5 rfl ?_
    refine xild_0 (q := 7) d_44_6 rfl ?_
    refine x_icmp_lt (q := 10) (t := 20) d_44_7 (by decide) rfl (fun c7 => ?_) (fun c7 => ?_)
    · rw [zi_lt (by omega) (by omega) (by omega) (by omega)] at c7
      refine x_iconst (q := 21) (v := zi (0)) d_44_20 rfl rfl ?_
      refine x_iret d_44_21 rfl rfl ?_
      first
        | (have e1 : mayI a e = 1 := (by unfold mayI; rw [if_pos]; omega); rw [e1] at k; exact k)
        | (have e1 : mayI a e = 0 := (by unfold mayI; rw [if_neg]; omega); rw [e1] at k; exact k)
    · rw [zi_lt (by omega) (by omega) (by omega) (by omega)] at c7
      refine xild_1 (q := 11) d_44_10 rfl ?_
      refine x_bipush (q := 13) (v := zi (60)) d_44_11 rfl (by decide) ?_
      refine x_icmp_gt (q := 16) (t := 20) d_44_13 (by decide) rfl (fun c13 => ?_) (fun c13 => ?_)
      · rw [zi_lt (by omega) (by omega) (by omega) (by omega)] at c13
        refine x_iconst (q := 21) (v := zi (0)) d_44_20 rfl rfl ?_
        refine x_iret d_44_21 rfl rfl ?_
        first
          | (have e1 : mayI a e = 1 := (by unfold mayI; rw [if_pos]; omega); rw [e1] at k; exact k)
          | (have e1 : mayI a e = 0 := (by unfold mayI; rw [if_neg]; omega); rw [e1] at k; exact k)
      · rw [zi_lt (by omega) (by omega) (by omega) (by omega)] at c13
        refine x_iconst (q := 17) (v := zi (1)) d_44_16 rfl rfl ?_
        refine x_goto (t := 21) d_44_17 (by decide) ?_
        refine x_iret d_44_21 rfl rfl ?_
        first
          | (have e1 : mayI a e = 1 := (by unfold mayI; rw [if_pos]; omega); rw [e1] at k; exact k)
          | (have e1 : mayI a e = 0 := (by unfold mayI; rw [if_neg]; omega); rw [e1] at k; exact k)
/-- the FREE ones in order, keys by kf -/
def mFree (kf : Nat → Nat) (fr : Nat → Int) : Nat → List Nat
  | 0 => []
  | n + 1 => if fr n = 1 then ins (kf n) (mFree kf fr n) else mFree kf fr n
theorem mFree_b (kf : Nat → Nat) (fr : Nat → Int) : ∀ n, (mFree kf fr n).length ≤ n ∧ Srt (mFree kf fr n)
  | 0 => ⟨Nat.le_refl _, List.Pairwise.nil⟩
  | n + 1 => by
    have h := mFree_b kf fr n
    unfold mFree
    split
    · exact ⟨by rw [ins_len]; omega, ins_srt h.2⟩
    · exact ⟨by omega, h.2⟩
def kfQ (w : Nat → Int) (P M q x : Nat) : Nat := (farW w P M q 100 x).toNat * 100 + x
theorem kfq_b {I : Nat → Int} {F : Nat → Nat → Int} {P N M : Nat} (h : VW I F P N M) {w : Nat → Int} (hw : F 2 = w) {q x : Nat} (hq : q ≤ 100) (hx : x < 100) : 0 ≤ farW w P M q 100 x ∧ farW w P M q 100 x ≤ 320000 ∧ kfQ w P M q x < 40000000 ∧ kfQ w P M q x % 100 = x := by
  have h1 := h.far (q := q) (a := 100) (b := x) hq (by omega) (by omega)
  rw [farV_w hw] at h1
  unfold kfQ
  omega
set_option maxHeartbeats 2000000 in
theorem lq_rankFree {sc : ax_S} {σ : Nat → ax_C} {I0 : Nat → Int} {F0 : Nat → Nat → Int} {n bc bs : Nat} {K : ax_K} (hn : 22 ≤ n) {P N M : Nat} (hV0 : VW I0 F0 P N M) {w : Nat → Int} (hw0 : F0 2 = w) {r : Nat} (hr : r < 6) (hr3 : 3 ≤ r) {q : Nat} (hq : 1 ≤ q ∧ q ≤ 100)
    (k : ∀ I' F', RK r I' F' (mFree (kfQ w P M q) (fun i => freeI F0 N i) N) → OffI r I0 I' → OffF r F0 F' → K none (vg σ I' F', n, bc, bs)) :
    ∀ (d j : Nat) (I : Nat → Int) (F : Nat → Nat → Int), j + d = N → RK r I F (mFree (kfQ w P M q) (fun i => freeI F0 N i) j) → OffI r I0 I → OffF r F0 F → Ex sc 41 6 [some (.ref 0), some (.ref (rkO r)), some (.int (zi q)), some (.int (zi j))] [] (vg σ I F, n, bc, bs) K := by
  have hN2 := hV0.2.2.2.2.1
  have hN := hV0.2.2.2.1
  intro d
  induction d with
  | zero =>
    intro j I F hj hL hOI hOF
    have hjN : j = N := by omega
    subst hjN
    have hI0 : I 0 = I0 0 := hOI 0 (by omega)
    refine xild_3 (q := 7) d_41_6 rfl ?_
    refine xald_0 (q := 8) d_41_7 rfl ?_
    refine xg_VG_vectors hn (q := 11) d_41_8 rfl fl_X_23 ?_
    refine xg_V_total hn (q := 14) d_41_11 rfl fl_X_59 ?_
    refine x_icmp_ge (q := 17) (t := 50) d_41_14 (by decide) rfl (fun c14 => ?_) (fun c14 => ?_)
    · rw [zi_le (by omega) (by omega) (by omega) (by omega)] at c14
      refine x_vret d_41_50 rfl ?_
      exact k I F hL hOI hOF
    · rw [zi_le (by omega) (by omega) (by omega) (by omega)] at c14
      exact absurd c14 (by omega)
  | succ d ih =>
    intro j I F hj hL hOI hOF
    have hI0 : I 0 = I0 0 := hOI 0 (by omega)
    have hV : VW I F P N M := hV0.same (hOI _ (by omega)) (hOI _ (by omega)) (hOI _ (by omega)) (hOF _ (by omega)) (hOF _ (by omega)) (hOF _ (by omega))
    have hw : F 2 = w := (hOF 2 (by omega)).trans hw0
    obtain ⟨b1, b2, b3, b4⟩ := kfq_b hV hw hq.2 (show j < 100 by omega)
    obtain ⟨m1, m2⟩ := mFree_b (kfQ w P M q) (fun i => freeI F0 N i) j
    have hc : rkC r = 100 := by unfold rkC; split <;> omega
    have efr : freeI F N j = freeI F0 N j := by unfold freeI; rw [hOF 0 (by omega), hOF 1 (by omega)]
    have h01 : freeI F0 N j = 0 ∨ freeI F0 N j = 1 := by unfold freeI; split <;> omega
    have emf : mFree (kfQ w P M q) (fun i => freeI F0 N i) (j + 1) = if freeI F0 N j = 1 then ins (kfQ w P M q j) (mFree (kfQ w P M q) (fun i => freeI F0 N i) j) else mFree (kfQ w P M q) (fun i => freeI F0 N i) j := rfl
    refine xild_3 (q := 7) d_41_6 rfl ?_
    refine xald_0 (q := 8) d_41_7 rfl ?_
    refine xg_VG_vectors hn (q := 11) d_41_8 rfl fl_X_23 ?_
    refine xg_V_total hn (q := 14) d_41_11 rfl fl_X_59 ?_
    refine x_icmp_ge (q := 17) (t := 50) d_41_14 (by decide) rfl (fun c14 => ?_) (fun c14 => ?_)
    · rw [zi_le (by omega) (by omega) (by omega) (by omega)] at c14
      exact absurd c14 (by omega)
    · rw [zi_le (by omega) (by omega) (by omega) (by omega)] at c14
      refine xald_0 (q := 18) d_41_17 rfl ?_
      refine xg_VG_vectors hn (q := 21) d_41_18 rfl fl_X_23 ?_
      refine xild_3 (q := 22) d_41_21 rfl ?_
      refine xcV1 (q := 25) d_41_22 rfl lk_X_156 mo_42 ⟨by decide +kernel, by decide +kernel⟩ (by simp [Value.category]) (by decide +kernel) (by simp [Value.category]) (by omega) rfl ?_
      refine c_isFree hn hV (i := (j : Int)) (by omega) ?_
      dsimp only [ax_ps]
      rw [efr]
      refine x_if_eq (q := 28) (t := 44) d_41_25 (by decide) rfl (fun c25 => ?_) (fun c25 => ?_)
      · rw [zi_eq0 (by omega) (by omega)] at c25
        refine xincz_3 (q := 47) d_41_44 rfl ?_
        refine x_goto (t := 6) d_41_47 (by decide) ?_
        rw [show (j : Int) + 1 = ((j + 1 : Nat) : Int) by omega]
        first
          | (rw [if_neg (by omega)] at emf; rw [← emf] at hL; exact ih (j + 1) I F (by omega) hL hOI hOF)
          | (rw [if_pos (by omega)] at emf; rw [← emf] at hL2; exact ih (j + 1) I2 F2 (by omega) hL2 (fun q hq => (hOI2 q hq).trans (hOI q hq)) (fun q hq => (hOF2 q hq).trans (hOF q hq)))
      · rw [zi_eq0 (by omega) (by omega)] at c25
        refine xald_1 (q := 29) d_41_28 rfl ?_
        refine xild_3 (q := 30) d_41_29 rfl ?_
        refine xald_0 (q := 31) d_41_30 rfl ?_
        refine xg_VG_vectors hn (q := 34) d_41_31 rfl fl_X_23 ?_
        refine x_bipush (q := 36) (v := zi (100)) d_41_34 rfl (by decide) ?_
        refine xild_3 (q := 37) d_41_36 rfl ?_
        refine xild_2 (q := 38) d_41_37 rfl ?_
        refine xcV3 (q := 41) d_41_38 rfl lk_X_124 mo_17 ⟨by decide +kernel, by decide +kernel⟩ (by simp [Value.category]) (by decide +kernel) (by simp [Value.category]) (by omega) rfl ?_
        refine c_apart hn hV (a := 100) (b := j) (q := q) (by omega) (by omega) hq ?_
        dsimp only [ax_ps]
        rw [farV_w hw, show farW w P M q 100 j = (((farW w P M q 100 j).toNat : Nat) : Int) by omega]
        refine xcV2 (q := 44) d_41_41 rfl lk_X_128 mo_19 ⟨by decide +kernel, by decide +kernel⟩ (by simp [Value.category]) (by decide +kernel) (by simp [Value.category]) (rk_lt hr hn).1 (vg_rk hr) ?_
        refine c_put hn hr hL (by omega) (num := j) (far := (farW w P M q 100 j).toNat) b3 m2 ?_
        intro I2 F2 hL2 hOI2 hOF2
        dsimp only [ax_ps]
        have hL2 : RK r I2 F2 (ins (kfQ w P M q j) (mFree (kfQ w P M q) (fun i => freeI F0 N i) j)) := hL2
        refine xincz_3 (q := 47) d_41_44 rfl ?_
        refine x_goto (t := 6) d_41_47 (by decide) ?_
        rw [show (j : Int) + 1 = ((j + 1 : Nat) : Int) by omega]
        first
          | (rw [if_neg (by omega)] at emf; rw [← emf] at hL; exact ih (j + 1) I F (by omega) hL hOI hOF)
          | (rw [if_pos (by omega)] at emf; rw [← emf] at hL2; exact ih (j + 1) I2 F2 (by omega) hL2 (fun q hq => (hOI2 q hq).trans (hOI q hq)) (fun q hq => (hOF2 q hq).trans (hOF q hq)))
set_option maxHeartbeats 2000000 in
theorem c_rankFree {sc : ax_S} {σ : Nat → ax_C} {I : Nat → Int} {F : Nat → Nat → Int} {n bc bs : Nat} {K : ax_K} (hn : 22 ≤ n) {P N M : Nat} (hV : VW I F P N M) {w : Nat → Int} (hw : F 2 = w) {r : Nat} (hr : r < 6) (hr3 : 3 ≤ r) {q : Nat} (hq : 1 ≤ q ∧ q ≤ 100)
    (k : ∀ I' F', RK r I' F' (mFree (kfQ w P M q) (fun i => freeI F N i) N) → OffI r I I' → OffF r F F' → K none (vg σ I' F', n, bc, bs)) : Ex sc 41 0 (ax_en 41 [.ref 0, .ref (rkO r), .int (zi q)]) [] (vg σ I F, n, bc, bs) K := by
  show Ex sc 41 0 [some (.ref 0), some (.ref (rkO r)), some (.int (zi q)), none] [] (vg σ I F, n, bc, bs) K
  refine xald_1 (q := 1) d_41_0 rfl ?_
  refine xcV0 (q := 4) d_41_1 rfl lk_X_87 mo_14 ⟨by decide +kernel, by decide +kernel⟩  (by decide +kernel) (by simp [Value.category]) (rk_lt hr hn).1 (vg_rk hr) ?_
  refine c_empty hn hr ?_
  intro I1 hE hO1
  dsimp only [ax_ps]
  refine x_iconst (q := 5) (v := zi (0)) d_41_4 rfl rfl ?_
  refine xist_3 (q := 6) d_41_5 rfl ?_
  have hV1 : VW I1 F P N M := hV.same (hO1 _ (by omega)) (hO1 _ (by omega)) (hO1 _ (by omega)) rfl rfl rfl
  exact lq_rankFree hn hV1 hw hr hr3 hq (fun I2 F2 a b c => k I2 F2 a (fun q hq => (b q hq).trans (hO1 q hq)) c) N 0 I1 F (by omega) hE OffI.rf OffF.rf
