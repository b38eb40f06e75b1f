/-! Vectors: its methods -/
/-- the vectors: P parts, N of them, measure M -/
def VW (I : Nat → Int) (F : Nat → Nat → Int) (P N M : Nat) : Prop := I 7 = P ∧ 1 ≤ P ∧ P ≤ 8 ∧ I 0 = N ∧ N ≤ 100 ∧ I 1 = M ∧ M ≤ 2 ∧ (∀ j, j < 101 * P → -100 ≤ F 2 j ∧ F 2 j ≤ 100) ∧ (∀ j, j < 100 → F 0 j = 0 ∨ F 0 j = 1) ∧ (∀ j, j < 100 → F 1 j = 0 ∨ F 1 j = 1)
/-- vector i's parts -/
def vec (F : Nat → Nat → Int) (P i : Nat) : Nat → Int := fun k => F 2 (i * P + k)
theorem VW.in {I : Nat → Int} {F : Nat → Nat → Int} {P N M : Nat} (h : VW I F P N M) {i : Nat} (hi : i ≤ 100) : ∀ k, k < P → -100 ≤ vec F P i k ∧ vec F P i k ≤ 100 := by
  intro k hk
  refine h.2.2.2.2.2.2.2.1 _ ?_
  have := Nat.mul_le_mul_right P hi
  omega
def farV (F : Nat → Nat → Int) (P M : Nat) (q a b : Nat) : Int := farI M P q (vec F P a) (vec F P b)
theorem VW.far {I : Nat → Int} {F : Nat → Nat → Int} {P N M : Nat} (h : VW I F P N M) {q a b : Nat} (hq : q ≤ 100) (ha : a ≤ 100) (hb : b ≤ 100) : 0 ≤ farV F P M q a b ∧ farV F P M q a b ≤ 320000 := far_b hq h.2.2.1 (h.in ha) (h.in hb)
def hasI (N : Nat) (i : Int) : Int := if 0 ≤ i ∧ i < N then 1 else 0

set_option maxHeartbeats 1000000 in
theorem c_has {sc : ax_S} {σ : Nat → ax_C} {I : Nat → Int} {F : Nat → Nat → Int} {n bc bs : Nat} {K : ax_K} (hn : 22 ≤ n) {P N M : Nat} (hV : VW I F P N M) {i : Int} (hi : -2147483648 ≤ i ∧ i ≤ 2147483647) (k : K (some (.int (zi (hasI N i)))) (vg σ I F, n, bc, bs)) : Ex sc 16 0 (ax_en 16 [.ref 1, .int (zi i)]) [] (vg σ I F, n, bc, bs) K := by
  obtain ⟨hP, hP1, hP2, hN, hN2, hM, hM2, hv, hrm, hbr⟩ := id hV
  show Ex sc 16 0 [some (.ref 1), some (.int (zi i))] [] (vg σ I F, n, bc, bs) K
  refine xild_1 (q := 1) d_16_0 rfl ?_
  refine x_if_lt (q := 4) (t := 16) d_16_1 (by decide) rfl (fun c1 => ?_) (fun c1 => ?_)
  · rw [zi_lt0 (by omega) (by omega)] at c1
    refine x_iconst (q := 17) (v := zi (0)) d_16_16 rfl rfl ?_
    refine x_iret d_16_17 rfl rfl ?_
    first
      | (have e1 : hasI N i = 1 := (by unfold hasI; rw [if_pos]; omega); rw [e1] at k; exact k)
      | (have e1 : hasI N i = 0 := (by unfold hasI; rw [if_neg]; omega); rw [e1] at k; exact k)
  · rw [zi_lt0 (by omega) (by omega)] at c1
    refine xild_1 (q := 5) d_16_4 rfl ?_
    refine xald_0 (q := 6) d_16_5 rfl ?_
    refine xg_V_total hn (q := 9) d_16_6 rfl fl_V_26 ?_
    refine x_icmp_ge (q := 12) (t := 16) d_16_9 (by decide) rfl (fun c9 => ?_) (fun c9 => ?_)
    · rw [zi_le (by omega) (by omega) (by omega) (by omega)] at c9
      refine x_iconst (q := 17) (v := zi (0)) d_16_16 rfl rfl ?_
      refine x_iret d_16_17 rfl rfl ?_
      first
        | (have e1 : hasI N i = 1 := (by unfold hasI; rw [if_pos]; omega); rw [e1] at k; exact k)
        | (have e1 : hasI N i = 0 := (by unfold hasI; rw [if_neg]; omega); rw [e1] at k; exact k)
    · rw [zi_le (by omega) (by omega) (by omega) (by omega)] at c9
      refine x_iconst (q := 13) (v := zi (1)) d_16_12 rfl rfl ?_
      refine x_goto (t := 17) d_16_13 (by decide) ?_
      refine x_iret d_16_17 rfl rfl ?_
      first
        | (have e1 : hasI N i = 1 := (by unfold hasI; rw [if_pos]; omega); rw [e1] at k; exact k)
        | (have e1 : hasI N i = 0 := (by unfold hasI; rw [if_neg]; omega); rw [e1] at k; exact k)
def freeI (F : Nat → Nat → Int) (N : Nat) (i : Int) : Int := if 0 ≤ i ∧ i < N ∧ F 0 i.toNat = 0 ∧ F 1 i.toNat = 0 then 1 else 0
set_option maxHeartbeats 1000000 in
theorem c_isFree {sc : ax_S} {σ : Nat → ax_C} {I : Nat → Int} {F : Nat → Nat → Int} {n bc bs : Nat} {K : ax_K} (hn : 22 ≤ n) {P N M : Nat} (hV : VW I F P N M) {i : Int} (hi : -2147483648 ≤ i ∧ i ≤ 2147483647) (k : K (some (.int (zi (freeI F N i)))) (vg σ I F, n, bc, bs)) : Ex sc 42 0 (ax_en 42 [.ref 1, .int (zi i)]) [] (vg σ I F, n, bc, bs) K := by
  obtain ⟨hP, hP1, hP2, hN, hN2, hM, hM2, hv, hrm, hbr⟩ := id hV
  show Ex sc 42 0 [some (.ref 1), some (.int (zi i))] [] (vg σ I F, n, bc, bs) K
  refine xald_0 (q := 1) d_42_0 rfl ?_
  refine xild_1 (q := 2) d_42_1 rfl ?_
  refine xcV1 (q := 5) d_42_2 rfl lk_V_32 mo_16 ⟨by decide +kernel, by decide +kernel⟩ (by simp [Value.category]) (by decide +kernel) (by simp [Value.category]) (by omega) rfl ?_
  refine c_has hn hV hi ?_
  dsimp only [ax_ps]
  have hh : hasI N i = 0 ∨ hasI N i = 1 := by unfold hasI; split <;> omega
  have hh2 : hasI N i = 1 → 0 ≤ i ∧ i < N := by unfold hasI; split <;> omega
  have hh3 : ¬ hasI N i = 1 → ¬ (0 ≤ i ∧ i < N) := by unfold hasI; split <;> omega
  refine x_if_eq (q := 8) (t := 30) d_42_5 (by decide) rfl (fun c5 => ?_) (fun c5 => ?_)
  · rw [zi_eq0 (by omega) (by omega)] at c5
    refine x_iconst (q := 31) (v := zi (0)) d_42_30 rfl rfl ?_
    refine x_iret d_42_31 rfl rfl ?_
    first
      | (have e1 : freeI F N i = 1 := (by unfold freeI; rw [if_pos]; omega); rw [e1] at k; exact k)
      | (have e1 : freeI F N i = 0 := (by unfold freeI; rw [if_neg]; omega); rw [e1] at k; exact k)
      | (have hh5 := hh3 (by omega); have e1 : freeI F N i = 0 := (by unfold freeI; rw [if_neg]; omega); rw [e1] at k; exact k)
  · rw [zi_eq0 (by omega) (by omega)] at c5
    have hh4 := hh2 (by omega)
    have hr0 := hrm i.toNat (by omega)
    have hb0 := hbr i.toNat (by omega)
    refine xald_0 (q := 9) d_42_8 rfl ?_
    refine xg_V_removed hn (q := 12) d_42_9 rfl fl_V_15 ?_
    refine xild_1 (q := 13) d_42_12 rfl ?_
    refine xl_removed (q := 14) hn d_42_13 rfl (by omega) (by omega) ?_
    refine x_if_ne (q := 17) (t := 30) d_42_14 (by decide) rfl (fun c14 => ?_) (fun c14 => ?_)
    · rw [zi_eq0 (by omega) (by omega)] at c14
      refine x_iconst (q := 31) (v := zi (0)) d_42_30 rfl rfl ?_
      refine x_iret d_42_31 rfl rfl ?_
      first
        | (have e1 : freeI F N i = 1 := (by unfold freeI; rw [if_pos]; omega); rw [e1] at k; exact k)
        | (have e1 : freeI F N i = 0 := (by unfold freeI; rw [if_neg]; omega); rw [e1] at k; exact k)
        | (have hh5 := hh3 (by omega); have e1 : freeI F N i = 0 := (by unfold freeI; rw [if_neg]; omega); rw [e1] at k; exact k)
    · rw [zi_eq0 (by omega) (by omega)] at c14
      refine xald_0 (q := 18) d_42_17 rfl ?_
      refine xg_V_barred hn (q := 21) d_42_18 rfl fl_V_19 ?_
      refine xild_1 (q := 22) d_42_21 rfl ?_
      refine xl_barred (q := 23) hn d_42_22 rfl (by omega) (by omega) ?_
      refine x_if_ne (q := 26) (t := 30) d_42_23 (by decide) rfl (fun c23 => ?_) (fun c23 => ?_)
      · rw [zi_eq0 (by omega) (by omega)] at c23
        refine x_iconst (q := 31) (v := zi (0)) d_42_30 rfl rfl ?_
        refine x_iret d_42_31 rfl rfl ?_
        first
          | (have e1 : freeI F N i = 1 := (by unfold freeI; rw [if_pos]; omega); rw [e1] at k; exact k)
          | (have e1 : freeI F N i = 0 := (by unfold freeI; rw [if_neg]; omega); rw [e1] at k; exact k)
          | (have hh5 := hh3 (by omega); have e1 : freeI F N i = 0 := (by unfold freeI; rw [if_neg]; omega); rw [e1] at k; exact k)
      · rw [zi_eq0 (by omega) (by omega)] at c23
        refine x_iconst (q := 27) (v := zi (1)) d_42_26 rfl rfl ?_
        refine x_goto (t := 31) d_42_27 (by decide) ?_
        refine x_iret d_42_31 rfl rfl ?_
        first
          | (have e1 : freeI F N i = 1 := (by unfold freeI; rw [if_pos]; omega); rw [e1] at k; exact k)
          | (have e1 : freeI F N i = 0 := (by unfold freeI; rw [if_neg]; omega); rw [e1] at k; exact k)
          | (have hh5 := hh3 (by omega); have e1 : freeI F N i = 0 := (by unfold freeI; rw [if_neg]; omega); rw [e1] at k; exact k)
set_option maxHeartbeats 1000000 in
theorem lq_apart {sc : ax_S} {σ : Nat → ax_C} {I : Nat → Int} {F : Nat → Nat → Int} {n bc bs : Nat} {K : ax_K} (hn : 22 ≤ n) {P N M : Nat} (hV : VW I F P N M) {a b q : Nat} (ha : a ≤ 100) (hb : b ≤ 100) (hq : 1 ≤ q ∧ q ≤ 100) (k : K (some (.int (zi (farV F P M q a b)))) (vg σ I F, n, bc, bs)) : ∀ (d j : Nat) (t6 t7 t8 : Option Value), j + d = P → Ex sc 17 6 [some (.ref 1), some (.int (zi a)), some (.int (zi b)), some (.int (zi q)), some (.int (zi (smI M q (vec F P a) (vec F P b) j))), some (.int (zi j)), t6, t7, t8] [] (vg σ I F, n, bc, bs) K := by
  obtain ⟨hP, hP1, hP2, hN, hN2, hM, hM2, hv, hrm, hbr⟩ := id hV
  have hpt : (I 7).toNat ≤ 8 := by omega
  have hma := Nat.mul_le_mul_right P ha
  have hmb := Nat.mul_le_mul_right P hb
  intro d
  induction d with
  | zero =>
    intro j t6 t7 t8 hj
    obtain ⟨s1, s2, s3, s4⟩ := sm_b (m := M) hq.2 P (hV.in ha) (hV.in hb)
    have hjP : j = P := by omega
    subst hjP
    refine xild_5 (q := 8) d_17_6 rfl ?_
    refine xald_0 (q := 9) d_17_8 rfl ?_
    refine xg_V_parts hn (q := 12) d_17_9 rfl fl_V_9 ?_
    refine x_icmp_ge (q := 15) (t := 129) d_17_12 (by decide) rfl (fun c12 => ?_) (fun c12 => ?_)
    · rw [zi_le (by omega) (by omega) (by omega) (by omega)] at c12
      refine xald_0 (q := 130) d_17_129 rfl ?_
      refine xg_V_measure hn (q := 133) d_17_130 rfl fl_V_29 ?_
      refine x_iconst (q := 134) (v := zi (1)) d_17_133 rfl rfl ?_
      refine x_icmp_ne (q := 137) (t := 152) d_17_134 (by decide) rfl (fun c134 => ?_) (fun c134 => ?_)
      · rw [zi_eq (by omega) (by omega) (by omega) (by omega)] at c134
        refine xild_4 (q := 154) d_17_152 rfl ?_
        refine x_iret d_17_154 rfl rfl ?_
        first
          | (have e1 : farV F j M q a b = 100 * (q : Int) * (j : Int) - smI M q (vec F j a) (vec F j b) j := by unfold farV farI; rw [if_pos (by omega)]
             rw [e1] at k; exact k)
          | (have e1 : farV F j M q a b = smI M q (vec F j a) (vec F j b) j := by unfold farV farI; rw [if_neg (by omega)]
             rw [e1] at k; exact k)
      · rw [zi_eq (by omega) (by omega) (by omega) (by omega)] at c134
        refine x_bipush (q := 139) (v := zi (100)) d_17_137 rfl (by decide) ?_
        refine xild_3 (q := 140) d_17_139 rfl ?_
        refine z_imul (q := 141) d_17_140 rfl ?_
        refine xald_0 (q := 142) d_17_141 rfl ?_
        refine xg_V_parts hn (q := 145) d_17_142 rfl fl_V_9 ?_
        refine z_imul (q := 146) d_17_145 rfl ?_
        rw [hP]
        refine xild_4 (q := 148) d_17_146 rfl ?_
        refine z_isub (q := 149) d_17_148 rfl ?_
        refine x_goto (t := 154) d_17_149 (by decide) ?_
        refine x_iret d_17_154 rfl rfl ?_
        first
          | (have e1 : farV F j M q a b = 100 * (q : Int) * (j : Int) - smI M q (vec F j a) (vec F j b) j := by unfold farV farI; rw [if_pos (by omega)]
             rw [e1] at k; exact k)
          | (have e1 : farV F j M q a b = smI M q (vec F j a) (vec F j b) j := by unfold farV farI; rw [if_neg (by omega)]
             rw [e1] at k; exact k)
    · rw [zi_le (by omega) (by omega) (by omega) (by omega)] at c12
      exact absurd c12 (by omega)
  | succ d ih =>
    intro j t6 t7 t8 hj
    have hfa := hV.in ha j (by omega)
    have hfb := hV.in hb j (by omega)
    have hsa := sh_b (q := q) hfa
    have hsb := sh_b (q := q) hfb
    have hba := mul_b (a := 100) (b := 100) hfa (y := (q : Int)) ⟨by omega, by omega⟩
    have hbb := mul_b (a := 100) (b := 100) hfb (y := (q : Int)) ⟨by omega, by omega⟩
    obtain ⟨s1, s2, s3, s4⟩ := sm_b (m := M) hq.2 j (fun k hk => hV.in ha k (by omega)) (fun k hk => hV.in hb k (by omega))
    refine xild_5 (q := 8) d_17_6 rfl ?_
    refine xald_0 (q := 9) d_17_8 rfl ?_
    refine xg_V_parts hn (q := 12) d_17_9 rfl fl_V_9 ?_
    refine x_icmp_ge (q := 15) (t := 129) d_17_12 (by decide) rfl (fun c12 => ?_) (fun c12 => ?_)
    · rw [zi_le (by omega) (by omega) (by omega) (by omega)] at c12
      exact absurd c12 (by omega)
    · rw [zi_le (by omega) (by omega) (by omega) (by omega)] at c12
      refine xald_0 (q := 16) d_17_15 rfl ?_
      refine xg_V_values hn (q := 19) d_17_16 rfl fl_V_22 ?_
      refine xild_1 (q := 20) d_17_19 rfl ?_
      refine xald_0 (q := 21) d_17_20 rfl ?_
      refine xg_V_parts hn (q := 24) d_17_21 rfl fl_V_9 ?_
      refine z_imul (q := 25) d_17_24 rfl ?_
      rw [hP, ← Int.natCast_mul]
      refine xild_5 (q := 27) d_17_25 rfl ?_
      refine z_iadd (q := 28) d_17_27 rfl ?_
      refine xl_values (q := 29) hn d_17_28 rfl (by omega) (by rw [hP]; omega) hpt ?_
      rw [show (((a * P : Nat) : Int) + (j : Int)).toNat = a * P + j by omega, show F 2 (a * P + j) = vec F P a j from rfl]
      refine xild_3 (q := 30) d_17_29 rfl ?_
      refine z_imul (q := 31) d_17_30 rfl ?_
      refine x_bipush (q := 33) (v := zi (100)) d_17_31 rfl (by decide) ?_
      refine z_idiv (q := 34) d_17_33 rfl (by omega) (by omega) (by omega) (by omega) ?_
      rw [show (vec F P a j * (q : Int)).tdiv 100 = shI (vec F P a j) q from rfl]
      generalize hx : shI (vec F P a j) q = x at hsa ⊢
      refine xist_6 (q := 36) d_17_34 rfl ?_
      refine xald_0 (q := 37) d_17_36 rfl ?_
      refine xg_V_values hn (q := 40) d_17_37 rfl fl_V_22 ?_
      refine xild_2 (q := 41) d_17_40 rfl ?_
      refine xald_0 (q := 42) d_17_41 rfl ?_
      refine xg_V_parts hn (q := 45) d_17_42 rfl fl_V_9 ?_
      refine z_imul (q := 46) d_17_45 rfl ?_
      rw [hP, ← Int.natCast_mul]
      refine xild_5 (q := 48) d_17_46 rfl ?_
      refine z_iadd (q := 49) d_17_48 rfl ?_
      refine xl_values (q := 50) hn d_17_49 rfl (by omega) (by rw [hP]; omega) hpt ?_
      rw [show (((b * P : Nat) : Int) + (j : Int)).toNat = b * P + j by omega, show F 2 (b * P + j) = vec F P b j from rfl]
      refine xild_3 (q := 51) d_17_50 rfl ?_
      refine z_imul (q := 52) d_17_51 rfl ?_
      refine x_bipush (q := 54) (v := zi (100)) d_17_52 rfl (by decide) ?_
      refine z_idiv (q := 55) d_17_54 rfl (by omega) (by omega) (by omega) (by omega) ?_
      rw [show (vec F P b j * (q : Int)).tdiv 100 = shI (vec F P b j) q from rfl]
      generalize hy : shI (vec F P b j) q = y at hsb ⊢
      refine xist_7 (q := 57) d_17_55 rfl ?_
      refine xild_6 (q := 59) d_17_57 rfl ?_
      refine xild_7 (q := 61) d_17_59 rfl ?_
      refine z_isub (q := 62) d_17_61 rfl ?_
      refine xist_8 (q := 64) d_17_62 rfl ?_
      refine xald_0 (q := 65) d_17_64 rfl ?_
      refine xg_V_measure hn (q := 68) d_17_65 rfl fl_V_29 ?_
      refine x_if_ne (q := 71) (t := 84) d_17_68 (by decide) rfl (fun c68 => ?_) (fun c68 => ?_)
      · rw [zi_eq0 (by omega) (by omega)] at c68
        refine xald_0 (q := 85) d_17_84 rfl ?_
        refine xg_V_measure hn (q := 88) d_17_85 rfl fl_V_29 ?_
        refine x_iconst (q := 89) (v := zi (1)) d_17_88 rfl rfl ?_
        refine x_icmp_ne (q := 92) (t := 105) d_17_89 (by decide) rfl (fun c89 => ?_) (fun c89 => ?_)
        · rw [zi_eq (by omega) (by omega) (by omega) (by omega)] at c89
          refine xild_4 (q := 107) d_17_105 rfl ?_
          refine xild_8 (q := 109) d_17_107 rfl ?_
          refine x_if_ge (q := 112) (t := 118) d_17_109 (by decide) rfl (fun c109 => ?_) (fun c109 => ?_)
          · rw [zi_ge0 (by omega) (by omega)] at c109
            refine xild_8 (q := 120) d_17_118 rfl ?_
            refine z_iadd (q := 121) d_17_120 rfl ?_
            refine xist_4 (q := 123) d_17_121 rfl ?_
            refine xincz_5 (q := 126) d_17_123 rfl ?_
            refine x_goto (t := 6) d_17_126 (by decide) ?_
            have hS : smI M q (vec F P a) (vec F P b) (j + 1) = smI M q (vec F P a) (vec F P b) j + tmI M x y := by rw [← hx, ← hy]; rfl
            rw [show (j : Int) + 1 = ((j + 1 : Nat) : Int) by omega]
            first
              | (rw [show smI M q (vec F P a) (vec F P b) j + (x - y) * (x - y) = smI M q (vec F P a) (vec F P b) (j + 1) by rw [hS]; unfold tmI; rw [if_pos (by omega)]]; exact ih (j + 1) _ _ _ (by omega))
              | (rw [show smI M q (vec F P a) (vec F P b) j + x * y = smI M q (vec F P a) (vec F P b) (j + 1) by rw [hS]; unfold tmI; rw [if_neg (by omega), if_pos (by omega)]]; exact ih (j + 1) _ _ _ (by omega))
              | (rw [show smI M q (vec F P a) (vec F P b) j + -(x - y) = smI M q (vec F P a) (vec F P b) (j + 1) by rw [hS]; unfold tmI; rw [if_neg (by omega), if_neg (by omega), if_pos (by omega)]]; exact ih (j + 1) _ _ _ (by omega))
              | (rw [show smI M q (vec F P a) (vec F P b) j + (x - y) = smI M q (vec F P a) (vec F P b) (j + 1) by rw [hS]; unfold tmI; rw [if_neg (by omega), if_neg (by omega), if_neg (by omega)]]; exact ih (j + 1) _ _ _ (by omega))
          · rw [zi_ge0 (by omega) (by omega)] at c109
            refine xild_8 (q := 114) d_17_112 rfl ?_
            refine z_ineg (q := 115) d_17_114 rfl ?_
            refine x_goto (t := 120) d_17_115 (by decide) ?_
            refine z_iadd (q := 121) d_17_120 rfl ?_
            refine xist_4 (q := 123) d_17_121 rfl ?_
            refine xincz_5 (q := 126) d_17_123 rfl ?_
            refine x_goto (t := 6) d_17_126 (by decide) ?_
            have hS : smI M q (vec F P a) (vec F P b) (j + 1) = smI M q (vec F P a) (vec F P b) j + tmI M x y := by rw [← hx, ← hy]; rfl
            rw [show (j : Int) + 1 = ((j + 1 : Nat) : Int) by omega]
            first
              | (rw [show smI M q (vec F P a) (vec F P b) j + (x - y) * (x - y) = smI M q (vec F P a) (vec F P b) (j + 1) by rw [hS]; unfold tmI; rw [if_pos (by omega)]]; exact ih (j + 1) _ _ _ (by omega))
              | (rw [show smI M q (vec F P a) (vec F P b) j + x * y = smI M q (vec F P a) (vec F P b) (j + 1) by rw [hS]; unfold tmI; rw [if_neg (by omega), if_pos (by omega)]]; exact ih (j + 1) _ _ _ (by omega))
              | (rw [show smI M q (vec F P a) (vec F P b) j + -(x - y) = smI M q (vec F P a) (vec F P b) (j + 1) by rw [hS]; unfold tmI; rw [if_neg (by omega), if_neg (by omega), if_pos (by omega)]]; exact ih (j + 1) _ _ _ (by omega))
              | (rw [show smI M q (vec F P a) (vec F P b) j + (x - y) = smI M q (vec F P a) (vec F P b) (j + 1) by rw [hS]; unfold tmI; rw [if_neg (by omega), if_neg (by omega), if_neg (by omega)]]; exact ih (j + 1) _ _ _ (by omega))
        · rw [zi_eq (by omega) (by omega) (by omega) (by omega)] at c89
          refine xild_4 (q := 94) d_17_92 rfl ?_
          refine xild_6 (q := 96) d_17_94 rfl ?_
          refine xild_7 (q := 98) d_17_96 rfl ?_
          refine z_imul (q := 99) d_17_98 rfl ?_
          refine z_iadd (q := 100) d_17_99 rfl ?_
          refine xist_4 (q := 102) d_17_100 rfl ?_
          refine x_goto (t := 123) d_17_102 (by decide) ?_
          refine xincz_5 (q := 126) d_17_123 rfl ?_
          refine x_goto (t := 6) d_17_126 (by decide) ?_
          have hS : smI M q (vec F P a) (vec F P b) (j + 1) = smI M q (vec F P a) (vec F P b) j + tmI M x y := by rw [← hx, ← hy]; rfl
          rw [show (j : Int) + 1 = ((j + 1 : Nat) : Int) by omega]
          first
            | (rw [show smI M q (vec F P a) (vec F P b) j + (x - y) * (x - y) = smI M q (vec F P a) (vec F P b) (j + 1) by rw [hS]; unfold tmI; rw [if_pos (by omega)]]; exact ih (j + 1) _ _ _ (by omega))
            | (rw [show smI M q (vec F P a) (vec F P b) j + x * y = smI M q (vec F P a) (vec F P b) (j + 1) by rw [hS]; unfold tmI; rw [if_neg (by omega), if_pos (by omega)]]; exact ih (j + 1) _ _ _ (by omega))
            | (rw [show smI M q (vec F P a) (vec F P b) j + -(x - y) = smI M q (vec F P a) (vec F P b) (j + 1) by rw [hS]; unfold tmI; rw [if_neg (by omega), if_neg (by omega), if_pos (by omega)]]; exact ih (j + 1) _ _ _ (by omega))
            | (rw [show smI M q (vec F P a) (vec F P b) j + (x - y) = smI M q (vec F P a) (vec F P b) (j + 1) by rw [hS]; unfold tmI; rw [if_neg (by omega), if_neg (by omega), if_neg (by omega)]]; exact ih (j + 1) _ _ _ (by omega))
      · rw [zi_eq0 (by omega) (by omega)] at c68
        refine xild_4 (q := 73) d_17_71 rfl ?_
        refine xild_8 (q := 75) d_17_73 rfl ?_
        refine xild_8 (q := 77) d_17_75 rfl ?_
        refine z_imul (q := 78) d_17_77 rfl ?_
        refine z_iadd (q := 79) d_17_78 rfl ?_
        refine xist_4 (q := 81) d_17_79 rfl ?_
        refine x_goto (t := 123) d_17_81 (by decide) ?_
        refine xincz_5 (q := 126) d_17_123 rfl ?_
        refine x_goto (t := 6) d_17_126 (by decide) ?_
        have hS : smI M q (vec F P a) (vec F P b) (j + 1) = smI M q (vec F P a) (vec F P b) j + tmI M x y := by rw [← hx, ← hy]; rfl
        rw [show (j : Int) + 1 = ((j + 1 : Nat) : Int) by omega]
        first
          | (rw [show smI M q (vec F P a) (vec F P b) j + (x - y) * (x - y) = smI M q (vec F P a) (vec F P b) (j + 1) by rw [hS]; unfold tmI; rw [if_pos (by omega)]]; exact ih (j + 1) _ _ _ (by omega))
          | (rw [show smI M q (vec F P a) (vec F P b) j + x * y = smI M q (vec F P a) (vec F P b) (j + 1) by rw [hS]; unfold tmI; rw [if_neg (by omega), if_pos (by omega)]]; exact ih (j + 1) _ _ _ (by omega))
          | (rw [show smI M q (vec F P a) (vec F P b) j + -(x - y) = smI M q (vec F P a) (vec F P b) (j + 1) by rw [hS]; unfold tmI; rw [if_neg (by omega), if_neg (by omega), if_pos (by omega)]]; exact ih (j + 1) _ _ _ (by omega))
          | (rw [show smI M q (vec F P a) (vec F P b) j + (x - y) = smI M q (vec F P a) (vec F P b) (j + 1) by rw [hS]; unfold tmI; rw [if_neg (by omega), if_neg (by omega), if_neg (by omega)]]; exact ih (j + 1) _ _ _ (by omega))
set_option maxHeartbeats 1000000 in
theorem c_apart {sc : ax_S} {σ : Nat → ax_C} {I : Nat → Int} {F : Nat → Nat → Int} {n bc bs : Nat} {K : ax_K} (hn : 22 ≤ n) {P N M : Nat} (hV : VW I F P N M) {a b q : Nat} (ha : a ≤ 100) (hb : b ≤ 100) (hq : 1 ≤ q ∧ q ≤ 100) (k : K (some (.int (zi (farV F P M q a b)))) (vg σ I F, n, bc, bs)) : Ex sc 17 0 (ax_en 17 [.ref 1, .int (zi a), .int (zi b), .int (zi q)]) [] (vg σ I F, n, bc, bs) K := by
  show Ex sc 17 0 [some (.ref 1), some (.int (zi a)), some (.int (zi b)), some (.int (zi q)), none, none, none, none, none] [] (vg σ I F, n, bc, bs) K
  refine x_iconst (q := 1) (v := zi (0)) d_17_0 rfl rfl ?_
  refine xist_4 (q := 3) d_17_1 rfl ?_
  refine x_iconst (q := 4) (v := zi (0)) d_17_3 rfl rfl ?_
  refine xist_5 (q := 6) d_17_4 rfl ?_
  exact lq_apart hn hV ha hb hq k P 0 _ _ _ (by omega)
set_option maxHeartbeats 1000000 in
theorem c_changeHand {sc : ax_S} {σ : Nat → ax_C} {I : Nat → Int} {F : Nat → Nat → Int} {n bc bs : Nat} {K : ax_K} (hn : 22 ≤ n) {P N M : Nat} (hV : VW I F P N M) {i : Nat} (hi : i < P) {v : Int} (hv2 : -100 ≤ v ∧ v ≤ 100) (k : K (some (.int (zi (vec F P 100 i)))) (vg σ I (va_up F 2 (va_up (F 2) (100 * P + i) v)), n, bc, bs)) : Ex sc 5 0 (ax_en 5 [.ref 1, .int (zi i), .int (zi v)]) [] (vg σ I F, n, bc, bs) K := by
  obtain ⟨hP, hP1, hP2, hN, hN2, hM, hM2, hv, hrm, hbr⟩ := id hV
  have hpt : (I 7).toNat ≤ 8 := by omega
  have et : (100 * (P : Int) + (i : Int)).toNat = 100 * P + i := by omega
  show Ex sc 5 0 [some (.ref 1), some (.int (zi i)), some (.int (zi v)), none, none] [] (vg σ I F, n, bc, bs) K
  refine x_bipush (q := 2) (v := zi (100)) d_5_0 rfl (by decide) ?_
  refine xald_0 (q := 3) d_5_2 rfl ?_
  refine xg_V_parts hn (q := 6) d_5_3 rfl fl_V_9 ?_
  refine z_imul (q := 7) d_5_6 rfl ?_
  rw [hP]
  refine xild_1 (q := 8) d_5_7 rfl ?_
  refine z_iadd (q := 9) d_5_8 rfl ?_
  refine xist_3 (q := 10) d_5_9 rfl ?_
  refine xald_0 (q := 11) d_5_10 rfl ?_
  refine xg_V_values hn (q := 14) d_5_11 rfl fl_V_22 ?_
  refine xild_3 (q := 15) d_5_14 rfl ?_
  refine xl_values (q := 16) hn d_5_15 rfl (by omega) (by rw [hP]; omega) hpt ?_
  rw [et]
  refine xist_4 (q := 18) d_5_16 rfl ?_
  refine xald_0 (q := 19) d_5_18 rfl ?_
  refine xg_V_values hn (q := 22) d_5_19 rfl fl_V_22 ?_
  refine xild_3 (q := 23) d_5_22 rfl ?_
  refine xild_2 (q := 24) d_5_23 rfl ?_
  refine xs_values (q := 25) hn d_5_24 rfl (by omega) (by rw [hP]; omega) hpt ?_
  rw [et]
  refine xild_4 (q := 27) d_5_25 rfl ?_
  refine x_iret d_5_27 rfl rfl ?_
  exact k
/-- the values with vector a copied to b -/
def cpyF (F : Nat → Nat → Int) (P a b : Nat) : Nat → Nat → Int := va_up F 2 (va_cpy (F 2) (F 2) (a * P) (b * P) P)
set_option maxHeartbeats 1000000 in
theorem c_copy {sc : ax_S} {σ : Nat → ax_C} {I : Nat → Int} {F : Nat → Nat → Int} {n bc bs : Nat} {K : ax_K} (hn : 22 ≤ n) {P N M : Nat} (hV : VW I F P N M) {a b : Nat} (ha : a ≤ 100) (hb : b ≤ 100) (k : K none (vg σ I (cpyF F P a b), n, bc, bs)) : Ex sc 8 0 (ax_en 8 [.ref 1, .int (zi a), .int (zi b)]) [] (vg σ I F, n, bc, bs) K := by
  obtain ⟨hP, hP1, hP2, hN, hN2, hM, hM2, hv, hrm, hbr⟩ := id hV
  have hpt : (I 7).toNat ≤ 8 := by omega
  have hma := Nat.mul_le_mul_right P ha
  have hmb := Nat.mul_le_mul_right P hb
  show Ex sc 8 0 [some (.ref 1), some (.int (zi a)), some (.int (zi b))] [] (vg σ I F, n, bc, bs) K
  refine xald_0 (q := 1) d_8_0 rfl ?_
  refine xg_V_values hn (q := 4) d_8_1 rfl fl_V_22 ?_
  refine xild_1 (q := 5) d_8_4 rfl ?_
  refine xald_0 (q := 6) d_8_5 rfl ?_
  refine xg_V_parts hn (q := 9) d_8_6 rfl fl_V_9 ?_
  refine z_imul (q := 10) d_8_9 rfl ?_
  refine xald_0 (q := 11) d_8_10 rfl ?_
  refine xg_V_values hn (q := 14) d_8_11 rfl fl_V_22 ?_
  refine xild_2 (q := 15) d_8_14 rfl ?_
  refine xald_0 (q := 16) d_8_15 rfl ?_
  refine xg_V_parts hn (q := 19) d_8_16 rfl fl_V_9 ?_
  refine z_imul (q := 20) d_8_19 rfl ?_
  refine xald_0 (q := 21) d_8_20 rfl ?_
  refine xg_V_parts hn (q := 24) d_8_21 rfl fl_V_9 ?_
  rw [hP, ← Int.natCast_mul, ← Int.natCast_mul]
  refine z_cpyV hn hpt (q := 27) d_8_24 rfl li_V_40 (by decide +kernel) (by simp [Value.category]) (by omega) (by omega) (by omega) (by rw [hP]; omega) (by rw [hP]; omega) ?_
  rw [show (((a * P : Nat) : Int)).toNat = a * P by omega, show (((b * P : Nat) : Int)).toNat = b * P by omega, show ((P : Int)).toNat = P by omega]
  refine x_vret d_8_27 rfl ?_
  exact k
/-- the hand's vector appended as number N -/
def appF (F : Nat → Nat → Int) (P N : Nat) : Nat → Nat → Int := va_up (va_up (cpyF F P 100 N) 0 (va_up (F 0) N 0)) 1 (va_up (F 1) N 0)
theorem cpy_0 (F : Nat → Nat → Int) (P a b : Nat) {j : Nat} (h : j ≠ 2) : cpyF F P a b j = F j := va_un _ _ _ h
set_option maxHeartbeats 1000000 in
theorem c_append {sc : ax_S} {σ : Nat → ax_C} {I : Nat → Int} {F : Nat → Nat → Int} {n bc bs : Nat} {K : ax_K} (hn : 22 ≤ n) {P N M : Nat} (hV : VW I F P N M) (hlt : N < 100) (k : K (some (.int (zi N))) (vg σ (va_up I 0 (N + 1)) (appF F P N), n, bc, bs)) : Ex sc 7 0 (ax_en 7 [.ref 1]) [] (vg σ I F, n, bc, bs) K := by
  obtain ⟨hP, hP1, hP2, hN, hN2, hM, hM2, hv, hrm, hbr⟩ := id hV
  show Ex sc 7 0 [some (.ref 1), none] [] (vg σ I F, n, bc, bs) K
  refine xald_0 (q := 1) d_7_0 rfl ?_
  refine xg_V_total hn (q := 4) d_7_1 rfl fl_V_26 ?_
  refine xist_1 (q := 5) d_7_4 rfl ?_
  refine xald_0 (q := 6) d_7_5 rfl ?_
  refine x_bipush (q := 8) (v := zi (100)) d_7_6 rfl (by decide) ?_
  refine xild_1 (q := 9) d_7_8 rfl ?_
  rw [hN]
  refine xcV2 (q := 12) d_7_9 rfl lk_V_36 mo_8 ⟨by decide +kernel, by decide +kernel⟩ (by simp [Value.category]) (by decide +kernel) (by simp [Value.category]) (by omega) rfl ?_
  refine c_copy hn hV (a := 100) (b := N) (by omega) (by omega) ?_
  dsimp only [ax_ps]
  refine xald_0 (q := 13) d_7_12 rfl ?_
  refine xg_V_removed hn (q := 16) d_7_13 rfl fl_V_15 ?_
  refine xild_1 (q := 17) d_7_16 rfl ?_
  refine x_iconst (q := 18) (v := zi (0)) d_7_17 rfl rfl ?_
  refine xs_removed (e := 0) (q := 19) hn (Or.inl rfl) d_7_18 rfl (by omega) (by omega) ?_
  refine xald_0 (q := 20) d_7_19 rfl ?_
  refine xg_V_barred hn (q := 23) d_7_20 rfl fl_V_19 ?_
  refine xild_1 (q := 24) d_7_23 rfl ?_
  refine x_iconst (q := 25) (v := zi (0)) d_7_24 rfl rfl ?_
  refine xs_barred (e := 0) (q := 26) hn (Or.inl rfl) d_7_25 rfl (by omega) (by omega) ?_
  refine xald_0 (q := 27) d_7_26 rfl ?_
  refine x_dup (q := 28) d_7_27 rfl rfl ?_
  refine xg_V_total hn (q := 31) d_7_28 rfl fl_V_26 ?_
  refine x_iconst (q := 32) (v := zi (1)) d_7_31 rfl rfl ?_
  refine z_iadd (q := 33) d_7_32 rfl ?_
  refine xp_V_total hn (q := 36) d_7_33 rfl fw_V_26 ?_
  refine xild_1 (q := 37) d_7_36 rfl ?_
  refine x_iret d_7_37 rfl rfl ?_
  rw [hN, show ((N : Int)).toNat = N by omega, cpy_0 _ _ _ _ (by decide), va_un _ 0 _ (by decide), cpy_0 _ _ _ _ (by decide)]
  exact k
/-- how many of the first n places bear p -/
def cntI (p : Nat → Int) : Nat → Int
  | 0 => 0
  | n + 1 => cntI p n + (if p n = 1 then 1 else 0)
theorem cntI_b (p : Nat → Int) : ∀ n : Nat, 0 ≤ cntI p n ∧ cntI p n ≤ n
  | 0 => ⟨Int.le_refl _, Int.le_refl _⟩
  | n + 1 => by
    have := cntI_b p n
    show 0 ≤ cntI p n + _ ∧ cntI p n + _ ≤ _
    split <;> omega
set_option maxHeartbeats 1000000 in
theorem lq_marked_removed {sc : ax_S} {σ : Nat → ax_C} {I : Nat → Int} {F : Nat → Nat → Int} {n bc bs : Nat} {K : ax_K} (hn : 22 ≤ n) {P N M : Nat} (hV : VW I F P N M) (k : K (some (.int (zi (cntI (F 0) N)))) (vg σ I F, n, bc, bs)) : ∀ (d j : Nat), j + d = N → Ex sc 61 4 [some (.ref 1), some (.ref 2), some (.int (zi (cntI (F 0) j))), some (.int (zi j))] [] (vg σ I F, n, bc, bs) K := by
  obtain ⟨hP, hP1, hP2, hN, hN2, hM, hM2, hv, hrm, hbr⟩ := id hV
  intro d
  induction d with
  | zero =>
    intro j hj
    have hjN : j = N := by omega
    subst hjN
    refine xild_3 (q := 5) d_61_4 rfl ?_
    refine xald_0 (q := 6) d_61_5 rfl ?_
    refine xg_V_total hn (q := 9) d_61_6 rfl fl_V_26 ?_
    refine x_icmp_ge (q := 12) (t := 38) d_61_9 (by decide) rfl (fun c9 => ?_) (fun c9 => ?_)
    · rw [zi_le (by omega) (by omega) (by omega) (by omega)] at c9
      refine xild_2 (q := 39) d_61_38 rfl ?_
      refine x_iret d_61_39 rfl rfl ?_
      exact k
    · rw [zi_le (by omega) (by omega) (by omega) (by omega)] at c9
      exact absurd c9 (by omega)
  | succ d ih =>
    intro j hj
    have h0 := hrm j (by omega)
    have hc := cntI_b (F 0) j
    refine xild_3 (q := 5) d_61_4 rfl ?_
    refine xald_0 (q := 6) d_61_5 rfl ?_
    refine xg_V_total hn (q := 9) d_61_6 rfl fl_V_26 ?_
    refine x_icmp_ge (q := 12) (t := 38) d_61_9 (by decide) rfl (fun c9 => ?_) (fun c9 => ?_)
    · rw [zi_le (by omega) (by omega) (by omega) (by omega)] at c9
      first | exact absurd c9 (by omega) | exact absurd c15 (by omega)
    · rw [zi_le (by omega) (by omega) (by omega) (by omega)] at c9
      refine xild_3 (q := 13) d_61_12 rfl ?_
      refine xald_1 (q := 14) d_61_13 rfl ?_
      refine xn_removed (q := 15) hn d_61_14 rfl ?_
      refine x_icmp_ge (q := 18) (t := 38) d_61_15 (by decide) rfl (fun c15 => ?_) (fun c15 => ?_)
      · rw [zi_le (by omega) (by omega) (by omega) (by omega)] at c15
        first | exact absurd c9 (by omega) | exact absurd c15 (by omega)
      · rw [zi_le (by omega) (by omega) (by omega) (by omega)] at c15
        refine xild_2 (q := 19) d_61_18 rfl ?_
        refine xald_1 (q := 20) d_61_19 rfl ?_
        refine xild_3 (q := 21) d_61_20 rfl ?_
        refine xl_removed (q := 22) hn d_61_21 rfl (by omega) (by omega) ?_
        rw [show ((j : Int)).toNat = j by omega]
        refine x_if_eq (q := 25) (t := 29) d_61_22 (by decide) rfl (fun c22 => ?_) (fun c22 => ?_)
        · rw [zi_eq0 (by omega) (by omega)] at c22
          refine x_iconst (q := 30) (v := zi (0)) d_61_29 rfl rfl ?_
          refine z_iadd (q := 31) d_61_30 rfl ?_
          refine xist_2 (q := 32) d_61_31 rfl ?_
          refine xincz_3 (q := 35) d_61_32 rfl ?_
          refine x_goto (t := 4) d_61_35 (by decide) ?_
          rw [show (j : Int) + 1 = ((j + 1 : Nat) : Int) by omega]
          have e1 : cntI (F 0) (j + 1) = cntI (F 0) j + (if F 0 j = 1 then 1 else 0) := rfl
          first
            | (rw [if_pos (by omega)] at e1; rw [← e1]; exact ih (j + 1) (by omega))
            | (rw [if_neg (by omega)] at e1; rw [← e1]; exact ih (j + 1) (by omega))
        · rw [zi_eq0 (by omega) (by omega)] at c22
          refine x_iconst (q := 26) (v := zi (1)) d_61_25 rfl rfl ?_
          refine x_goto (t := 30) d_61_26 (by decide) ?_
          refine z_iadd (q := 31) d_61_30 rfl ?_
          refine xist_2 (q := 32) d_61_31 rfl ?_
          refine xincz_3 (q := 35) d_61_32 rfl ?_
          refine x_goto (t := 4) d_61_35 (by decide) ?_
          rw [show (j : Int) + 1 = ((j + 1 : Nat) : Int) by omega]
          have e1 : cntI (F 0) (j + 1) = cntI (F 0) j + (if F 0 j = 1 then 1 else 0) := rfl
          first
            | (rw [if_pos (by omega)] at e1; rw [← e1]; exact ih (j + 1) (by omega))
            | (rw [if_neg (by omega)] at e1; rw [← e1]; exact ih (j + 1) (by omega))
set_option maxHeartbeats 1000000 in
theorem c_marked_removed {sc : ax_S} {σ : Nat → ax_C} {I : Nat → Int} {F : Nat → Nat → Int} {n bc bs : Nat} {K : ax_K} (hn : 22 ≤ n) {P N M : Nat} (hV : VW I F P N M) (k : K (some (.int (zi (cntI (F 0) N)))) (vg σ I F, n, bc, bs)) : Ex sc 61 0 (ax_en 61 [.ref 1, .ref 2]) [] (vg σ I F, n, bc, bs) K := by
  show Ex sc 61 0 [some (.ref 1), some (.ref 2), none, none] [] (vg σ I F, n, bc, bs) K
  refine x_iconst (q := 1) (v := zi (0)) d_61_0 rfl rfl ?_
  refine xist_2 (q := 2) d_61_1 rfl ?_
  refine x_iconst (q := 3) (v := zi (0)) d_61_2 rfl rfl ?_
  refine xist_3 (q := 4) d_61_3 rfl ?_
  exact lq_marked_removed hn hV k N 0 (by omega)
set_option maxHeartbeats 1000000 in
theorem lq_marked_barred {sc : ax_S} {σ : Nat → ax_C} {I : Nat → Int} {F : Nat → Nat → Int} {n bc bs : Nat} {K : ax_K} (hn : 22 ≤ n) {P N M : Nat} (hV : VW I F P N M) (k : K (some (.int (zi (cntI (F 1) N)))) (vg σ I F, n, bc, bs)) : ∀ (d j : Nat), j + d = N → Ex sc 61 4 [some (.ref 1), some (.ref 3), some (.int (zi (cntI (F 1) j))), some (.int (zi j))] [] (vg σ I F, n, bc, bs) K := by
  obtain ⟨hP, hP1, hP2, hN, hN2, hM, hM2, hv, hrm, hbr⟩ := id hV
  intro d
  induction d with
  | zero =>
    intro j hj
    have hjN : j = N := by omega
    subst hjN
    refine xild_3 (q := 5) d_61_4 rfl ?_
    refine xald_0 (q := 6) d_61_5 rfl ?_
    refine xg_V_total hn (q := 9) d_61_6 rfl fl_V_26 ?_
    refine x_icmp_ge (q := 12) (t := 38) d_61_9 (by decide) rfl (fun c9 => ?_) (fun c9 => ?_)
    · rw [zi_le (by omega) (by omega) (by omega) (by omega)] at c9
      refine xild_2 (q := 39) d_61_38 rfl ?_
      refine x_iret d_61_39 rfl rfl ?_
      exact k
    · rw [zi_le (by omega) (by omega) (by omega) (by omega)] at c9
      exact absurd c9 (by omega)
  | succ d ih =>
    intro j hj
    have h0 := hbr j (by omega)
    have hc := cntI_b (F 1) j
    refine xild_3 (q := 5) d_61_4 rfl ?_
    refine xald_0 (q := 6) d_61_5 rfl ?_
    refine xg_V_total hn (q := 9) d_61_6 rfl fl_V_26 ?_
    refine x_icmp_ge (q := 12) (t := 38) d_61_9 (by decide) rfl (fun c9 => ?_) (fun c9 => ?_)
    · rw [zi_le (by omega) (by omega) (by omega) (by omega)] at c9
      first | exact absurd c9 (by omega) | exact absurd c15 (by omega)
    · rw [zi_le (by omega) (by omega) (by omega) (by omega)] at c9
      refine xild_3 (q := 13) d_61_12 rfl ?_
      refine xald_1 (q := 14) d_61_13 rfl ?_
      refine xn_barred (q := 15) hn d_61_14 rfl ?_
      refine x_icmp_ge (q := 18) (t := 38) d_61_15 (by decide) rfl (fun c15 => ?_) (fun c15 => ?_)
      · rw [zi_le (by omega) (by omega) (by omega) (by omega)] at c15
        first | exact absurd c9 (by omega) | exact absurd c15 (by omega)
      · rw [zi_le (by omega) (by omega) (by omega) (by omega)] at c15
        refine xild_2 (q := 19) d_61_18 rfl ?_
        refine xald_1 (q := 20) d_61_19 rfl ?_
        refine xild_3 (q := 21) d_61_20 rfl ?_
        refine xl_barred (q := 22) hn d_61_21 rfl (by omega) (by omega) ?_
        rw [show ((j : Int)).toNat = j by omega]
        refine x_if_eq (q := 25) (t := 29) d_61_22 (by decide) rfl (fun c22 => ?_) (fun c22 => ?_)
        · rw [zi_eq0 (by omega) (by omega)] at c22
          refine x_iconst (q := 30) (v := zi (0)) d_61_29 rfl rfl ?_
          refine z_iadd (q := 31) d_61_30 rfl ?_
          refine xist_2 (q := 32) d_61_31 rfl ?_
          refine xincz_3 (q := 35) d_61_32 rfl ?_
          refine x_goto (t := 4) d_61_35 (by decide) ?_
          rw [show (j : Int) + 1 = ((j + 1 : Nat) : Int) by omega]
          have e1 : cntI (F 1) (j + 1) = cntI (F 1) j + (if F 1 j = 1 then 1 else 0) := rfl
          first
            | (rw [if_pos (by omega)] at e1; rw [← e1]; exact ih (j + 1) (by omega))
            | (rw [if_neg (by omega)] at e1; rw [← e1]; exact ih (j + 1) (by omega))
        · rw [zi_eq0 (by omega) (by omega)] at c22
          refine x_iconst (q := 26) (v := zi (1)) d_61_25 rfl rfl ?_
          refine x_goto (t := 30) d_61_26 (by decide) ?_
          refine z_iadd (q := 31) d_61_30 rfl ?_
          refine xist_2 (q := 32) d_61_31 rfl ?_
          refine xincz_3 (q := 35) d_61_32 rfl ?_
          refine x_goto (t := 4) d_61_35 (by decide) ?_
          rw [show (j : Int) + 1 = ((j + 1 : Nat) : Int) by omega]
          have e1 : cntI (F 1) (j + 1) = cntI (F 1) j + (if F 1 j = 1 then 1 else 0) := rfl
          first
            | (rw [if_pos (by omega)] at e1; rw [← e1]; exact ih (j + 1) (by omega))
            | (rw [if_neg (by omega)] at e1; rw [← e1]; exact ih (j + 1) (by omega))
set_option maxHeartbeats 1000000 in
theorem c_marked_barred {sc : ax_S} {σ : Nat → ax_C} {I : Nat → Int} {F : Nat → Nat → Int} {n bc bs : Nat} {K : ax_K} (hn : 22 ≤ n) {P N M : Nat} (hV : VW I F P N M) (k : K (some (.int (zi (cntI (F 1) N)))) (vg σ I F, n, bc, bs)) : Ex sc 61 0 (ax_en 61 [.ref 1, .ref 3]) [] (vg σ I F, n, bc, bs) K := by
  show Ex sc 61 0 [some (.ref 1), some (.ref 3), none, none] [] (vg σ I F, n, bc, bs) K
  refine x_iconst (q := 1) (v := zi (0)) d_61_0 rfl rfl ?_
  refine xist_2 (q := 2) d_61_1 rfl ?_
  refine x_iconst (q := 3) (v := zi (0)) d_61_2 rfl rfl ?_
  refine xist_3 (q := 4) d_61_3 rfl ?_
  exact lq_marked_barred hn hV k N 0 (by omega)
set_option maxHeartbeats 1000000 in
theorem lq_freeOnes {sc : ax_S} {σ : Nat → ax_C} {I : Nat → Int} {F : Nat → Nat → Int} {n bc bs : Nat} {K : ax_K} (hn : 22 ≤ n) {P N M : Nat} (hV : VW I F P N M) (k : K (some (.int (zi (cntI (fun i => freeI F N i) N)))) (vg σ I F, n, bc, bs)) : ∀ (d j : Nat), j + d = N → Ex sc 62 4 [some (.ref 1), some (.int (zi (cntI (fun i => freeI F N i) j))), some (.int (zi j))] [] (vg σ I F, n, bc, bs) K := by
  obtain ⟨hP, hP1, hP2, hN, hN2, hM, hM2, hv, hrm, hbr⟩ := id hV
  intro d
  induction d with
  | zero =>
    intro j hj
    have hjN : j = N := by omega
    subst hjN
    refine xild_2 (q := 5) d_62_4 rfl ?_
    refine xald_0 (q := 6) d_62_5 rfl ?_
    refine xg_V_total hn (q := 9) d_62_6 rfl fl_V_26 ?_
    refine x_icmp_ge (q := 12) (t := 34) d_62_9 (by decide) rfl (fun c9 => ?_) (fun c9 => ?_)
    · rw [zi_le (by omega) (by omega) (by omega) (by omega)] at c9
      refine xild_1 (q := 35) d_62_34 rfl ?_
      refine x_iret d_62_35 rfl rfl ?_
      exact k
    · rw [zi_le (by omega) (by omega) (by omega) (by omega)] at c9
      exact absurd c9 (by omega)
  | succ d ih =>
    intro j hj
    have hc := cntI_b (fun i => freeI F N i) j
    refine xild_2 (q := 5) d_62_4 rfl ?_
    refine xald_0 (q := 6) d_62_5 rfl ?_
    refine xg_V_total hn (q := 9) d_62_6 rfl fl_V_26 ?_
    refine x_icmp_ge (q := 12) (t := 34) d_62_9 (by decide) rfl (fun c9 => ?_) (fun c9 => ?_)
    · rw [zi_le (by omega) (by omega) (by omega) (by omega)] at c9
      exact absurd c9 (by omega)
    · rw [zi_le (by omega) (by omega) (by omega) (by omega)] at c9
      refine xild_1 (q := 13) d_62_12 rfl ?_
      refine xald_0 (q := 14) d_62_13 rfl ?_
      refine xild_2 (q := 15) d_62_14 rfl ?_
      refine xcV1 (q := 18) d_62_15 rfl lk_V_46 mo_42 ⟨by decide +kernel, by decide +kernel⟩ (by simp [Value.category]) (by decide +kernel) (by simp [Value.category]) (by omega) rfl ?_
      refine c_isFree hn hV (i := (j : Int)) (by omega) ?_
      dsimp only [ax_ps]
      have h0 : freeI F N j = 0 ∨ freeI F N j = 1 := by unfold freeI; split <;> omega
      refine x_if_eq (q := 21) (t := 25) d_62_18 (by decide) rfl (fun c18 => ?_) (fun c18 => ?_)
      · rw [zi_eq0 (by omega) (by omega)] at c18
        refine x_iconst (q := 26) (v := zi (0)) d_62_25 rfl rfl ?_
        refine z_iadd (q := 27) d_62_26 rfl ?_
        refine xist_1 (q := 28) d_62_27 rfl ?_
        refine xincz_2 (q := 31) d_62_28 rfl ?_
        refine x_goto (t := 4) d_62_31 (by decide) ?_
        rw [show (j : Int) + 1 = ((j + 1 : Nat) : Int) by omega]
        have e1 : cntI (fun i => freeI F N i) (j + 1) = cntI (fun i => freeI F N i) j + (if freeI F N j = 1 then 1 else 0) := rfl
        first
          | (rw [if_pos (by omega)] at e1; rw [← e1]; exact ih (j + 1) (by omega))
          | (rw [if_neg (by omega)] at e1; rw [← e1]; exact ih (j + 1) (by omega))
      · rw [zi_eq0 (by omega) (by omega)] at c18
        refine x_iconst (q := 22) (v := zi (1)) d_62_21 rfl rfl ?_
        refine x_goto (t := 26) d_62_22 (by decide) ?_
        refine z_iadd (q := 27) d_62_26 rfl ?_
        refine xist_1 (q := 28) d_62_27 rfl ?_
        refine xincz_2 (q := 31) d_62_28 rfl ?_
        refine x_goto (t := 4) d_62_31 (by decide) ?_
        rw [show (j : Int) + 1 = ((j + 1 : Nat) : Int) by omega]
        have e1 : cntI (fun i => freeI F N i) (j + 1) = cntI (fun i => freeI F N i) j + (if freeI F N j = 1 then 1 else 0) := rfl
        first
          | (rw [if_pos (by omega)] at e1; rw [← e1]; exact ih (j + 1) (by omega))
          | (rw [if_neg (by omega)] at e1; rw [← e1]; exact ih (j + 1) (by omega))
set_option maxHeartbeats 1000000 in
theorem c_freeOnes {sc : ax_S} {σ : Nat → ax_C} {I : Nat → Int} {F : Nat → Nat → Int} {n bc bs : Nat} {K : ax_K} (hn : 22 ≤ n) {P N M : Nat} (hV : VW I F P N M) (k : K (some (.int (zi (cntI (fun i => freeI F N i) N)))) (vg σ I F, n, bc, bs)) : Ex sc 62 0 (ax_en 62 [.ref 1]) [] (vg σ I F, n, bc, bs) K := by
  show Ex sc 62 0 [some (.ref 1), none, none] [] (vg σ I F, n, bc, bs) K
  refine x_iconst (q := 1) (v := zi (0)) d_62_0 rfl rfl ?_
  refine xist_1 (q := 2) d_62_1 rfl ?_
  refine x_iconst (q := 3) (v := zi (0)) d_62_2 rfl rfl ?_
  refine xist_2 (q := 4) d_62_3 rfl ?_
  exact lq_freeOnes hn hV k N 0 (by omega)
