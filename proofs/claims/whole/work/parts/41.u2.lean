/-! THE REFERENCE: count, rule, clean -/
theorem va_self {α : Type} (f : Nat → α) (k : Nat) : va_up f k (f k) = f := by
  funext x
  by_cases e : x = k
  · rw [e, va_us]
  · rw [va_un _ _ _ e]

set_option maxHeartbeats 2000000 in
theorem lt_count {sc : ax_S} {σ : Nat → ax_C} {J : Nat → Int} {G : Nat → Nat → Int} {n bc bs : Nat} {K : ax_K} (hn : 38 ≤ n) {P N M : Nat} (hT : TW J G P N M) {a : Int} (kk : ∀ t, Ex sc 108 86 [some (.ref 22), some (.int (zi a)), some (.int (zi (cntI (G 2) N))), some (.int (zi (cntI (G 1) N))), some (.int (zi (cntI (freeT G) N))), t] [] (mg σ J G, n, bc, bs) K) : ∀ (d j : Nat), j + d = N → Ex sc 108 15 [some (.ref 22), some (.int (zi a)), some (.int (zi (cntI (G 2) j))), some (.int (zi (cntI (G 1) j))), some (.int (zi (cntI (freeT G) j))), some (.int (zi j))] [] (mg σ J G, n, bc, bs) K := by
  obtain ⟨hP, hP1, hP2, hN, hN2, hM, hM2, hv, hbr, hrm⟩ := id hT
  intro d
  induction d with
  | zero =>
    intro j hj
    have hj1 : j = N := by omega
    subst hj1
    refine xild_5 (q := 17) d_108_15 rfl ?_
    refine xald_0 (q := 18) d_108_17 rfl ?_
    refine yg_count hn (q := 21) d_108_18 rfl fl_M_76 ?_
    refine x_icmp_ge (q := 24) (t := 86) d_108_21 (by decide) rfl (fun c21 => ?_) (fun c21 => ?_)
    · rw [zi_le (by omega) (by omega) (by omega) (by omega)] at c21
      exact kk _
    · rw [zi_le (by omega) (by omega) (by omega) (by omega)] at c21
      exact absurd c21 (by omega)
  | succ d ih =>
    intro j hj
    have e1 : cntI (G 2) (j + 1) = cntI (G 2) j + (if G 2 j = 1 then 1 else 0) := rfl
    have e2 : cntI (G 1) (j + 1) = cntI (G 1) j + (if G 1 j = 1 then 1 else 0) := rfl
    have e3 : cntI (freeT G) (j + 1) = cntI (freeT G) j + (if freeT G j = 1 then 1 else 0) := rfl
    have h1 := hbr j (by omega)
    have h2 := hrm j (by omega)
    have h3 := freeT_b G j
    have ih := ih (j + 1) (by omega)
    rw [e1, e2, e3] at ih
    refine xild_5 (q := 17) d_108_15 rfl ?_
    refine xald_0 (q := 18) d_108_17 rfl ?_
    refine yg_count hn (q := 21) d_108_18 rfl fl_M_76 ?_
    refine x_icmp_ge (q := 24) (t := 86) d_108_21 (by decide) rfl (fun c21 => ?_) (fun c21 => ?_)
    · rw [zi_le (by omega) (by omega) (by omega) (by omega)] at c21
      exact absurd c21 (by omega)
    · rw [zi_le (by omega) (by omega) (by omega) (by omega)] at c21
      refine xald_0 (q := 25) d_108_24 rfl ?_
      refine yg_removed hn (q := 28) d_108_25 rfl fl_M_27 ?_
      refine xild_5 (q := 30) d_108_28 rfl ?_
      refine yl_removed (q := 31) hn d_108_30 rfl (by omega) (by omega) ?_
      refine x_if_eq (q := 34) (t := 40) d_108_31 (by decide) rfl (fun c31 => ?_) (fun c31 => ?_)
      · rw [show ((j : Int)).toNat = j by omega, zi_eq0 (by omega) (by omega)] at c31
        refine xild_2 (q := 41) d_108_40 rfl ?_
        refine xist_2 (q := 42) d_108_41 rfl ?_
        refine xald_0 (q := 43) d_108_42 rfl ?_
        refine yg_barred hn (q := 46) d_108_43 rfl fl_M_23 ?_
        refine xild_5 (q := 48) d_108_46 rfl ?_
        refine yl_barred (q := 49) hn d_108_48 rfl (by omega) (by omega) ?_
        refine x_if_eq (q := 52) (t := 58) d_108_49 (by decide) rfl (fun c49 => ?_) (fun c49 => ?_)
        · rw [show ((j : Int)).toNat = j by omega, zi_eq0 (by omega) (by omega)] at c49
          refine xild_3 (q := 59) d_108_58 rfl ?_
          refine xist_3 (q := 60) d_108_59 rfl ?_
          refine xald_0 (q := 61) d_108_60 rfl ?_
          refine xild_5 (q := 63) d_108_61 rfl ?_
          refine xcV1 (q := 66) d_108_63 rfl lk_M_174 mo_77 ⟨by decide +kernel, by decide +kernel⟩ (by simp [Value.category]) (by decide +kernel) (by simp [Value.category]) (by omega) rfl ?_
          refine t_isFree hn hT (i := j) (by omega) ?_
          dsimp only [ax_ps]
          refine x_if_eq (q := 69) (t := 76) d_108_66 (by decide) rfl (fun c66 => ?_) (fun c66 => ?_)
          · rw [zi_eq0 (by omega) (by omega)] at c66
            refine xild_4 (q := 78) d_108_76 rfl ?_
            refine xist_4 (q := 80) d_108_78 rfl ?_
            refine xincz_5 (q := 83) d_108_80 rfl ?_
            refine x_goto (t := 15) d_108_83 (by decide) ?_
            rw [show (j : Int) + 1 = ((j + 1 : Nat) : Int) by omega]
            first
              | (rw [if_neg (show ¬ G 2 j = 1 by omega), if_neg (show ¬ G 1 j = 1 by omega), if_neg (show ¬ freeT G j = 1 by omega)] at ih; (try simp only [Int.add_zero] at ih); exact ih)
              | (rw [if_neg (show ¬ G 2 j = 1 by omega), if_neg (show ¬ G 1 j = 1 by omega), if_pos (show freeT G j = 1 by omega)] at ih; (try simp only [Int.add_zero] at ih); exact ih)
              | (rw [if_neg (show ¬ G 2 j = 1 by omega), if_pos (show G 1 j = 1 by omega), if_neg (show ¬ freeT G j = 1 by omega)] at ih; (try simp only [Int.add_zero] at ih); exact ih)
              | (rw [if_neg (show ¬ G 2 j = 1 by omega), if_pos (show G 1 j = 1 by omega), if_pos (show freeT G j = 1 by omega)] at ih; (try simp only [Int.add_zero] at ih); exact ih)
              | (rw [if_pos (show G 2 j = 1 by omega), if_neg (show ¬ G 1 j = 1 by omega), if_neg (show ¬ freeT G j = 1 by omega)] at ih; (try simp only [Int.add_zero] at ih); exact ih)
              | (rw [if_pos (show G 2 j = 1 by omega), if_neg (show ¬ G 1 j = 1 by omega), if_pos (show freeT G j = 1 by omega)] at ih; (try simp only [Int.add_zero] at ih); exact ih)
              | (rw [if_pos (show G 2 j = 1 by omega), if_pos (show G 1 j = 1 by omega), if_neg (show ¬ freeT G j = 1 by omega)] at ih; (try simp only [Int.add_zero] at ih); exact ih)
              | (rw [if_pos (show G 2 j = 1 by omega), if_pos (show G 1 j = 1 by omega), if_pos (show freeT G j = 1 by omega)] at ih; (try simp only [Int.add_zero] at ih); exact ih)
          · rw [zi_eq0 (by omega) (by omega)] at c66
            refine xild_4 (q := 71) d_108_69 rfl ?_
            refine x_iconst (q := 72) (v := zi (1)) d_108_71 rfl rfl ?_
            refine z_iadd (q := 73) d_108_72 rfl ?_
            refine x_goto (t := 78) d_108_73 (by decide) ?_
            refine xist_4 (q := 80) d_108_78 rfl ?_
            refine xincz_5 (q := 83) d_108_80 rfl ?_
            refine x_goto (t := 15) d_108_83 (by decide) ?_
            rw [show (j : Int) + 1 = ((j + 1 : Nat) : Int) by omega]
            first
              | (rw [if_neg (show ¬ G 2 j = 1 by omega), if_neg (show ¬ G 1 j = 1 by omega), if_neg (show ¬ freeT G j = 1 by omega)] at ih; (try simp only [Int.add_zero] at ih); exact ih)
              | (rw [if_neg (show ¬ G 2 j = 1 by omega), if_neg (show ¬ G 1 j = 1 by omega), if_pos (show freeT G j = 1 by omega)] at ih; (try simp only [Int.add_zero] at ih); exact ih)
              | (rw [if_neg (show ¬ G 2 j = 1 by omega), if_pos (show G 1 j = 1 by omega), if_neg (show ¬ freeT G j = 1 by omega)] at ih; (try simp only [Int.add_zero] at ih); exact ih)
              | (rw [if_neg (show ¬ G 2 j = 1 by omega), if_pos (show G 1 j = 1 by omega), if_pos (show freeT G j = 1 by omega)] at ih; (try simp only [Int.add_zero] at ih); exact ih)
              | (rw [if_pos (show G 2 j = 1 by omega), if_neg (show ¬ G 1 j = 1 by omega), if_neg (show ¬ freeT G j = 1 by omega)] at ih; (try simp only [Int.add_zero] at ih); exact ih)
              | (rw [if_pos (show G 2 j = 1 by omega), if_neg (show ¬ G 1 j = 1 by omega), if_pos (show freeT G j = 1 by omega)] at ih; (try simp only [Int.add_zero] at ih); exact ih)
              | (rw [if_pos (show G 2 j = 1 by omega), if_pos (show G 1 j = 1 by omega), if_neg (show ¬ freeT G j = 1 by omega)] at ih; (try simp only [Int.add_zero] at ih); exact ih)
              | (rw [if_pos (show G 2 j = 1 by omega), if_pos (show G 1 j = 1 by omega), if_pos (show freeT G j = 1 by omega)] at ih; (try simp only [Int.add_zero] at ih); exact ih)
        · rw [show ((j : Int)).toNat = j by omega, zi_eq0 (by omega) (by omega)] at c49
          refine xild_3 (q := 53) d_108_52 rfl ?_
          refine x_iconst (q := 54) (v := zi (1)) d_108_53 rfl rfl ?_
          refine z_iadd (q := 55) d_108_54 rfl ?_
          refine x_goto (t := 59) d_108_55 (by decide) ?_
          refine xist_3 (q := 60) d_108_59 rfl ?_
          refine xald_0 (q := 61) d_108_60 rfl ?_
          refine xild_5 (q := 63) d_108_61 rfl ?_
          refine xcV1 (q := 66) d_108_63 rfl lk_M_174 mo_77 ⟨by decide +kernel, by decide +kernel⟩ (by simp [Value.category]) (by decide +kernel) (by simp [Value.category]) (by omega) rfl ?_
          refine t_isFree hn hT (i := j) (by omega) ?_
          dsimp only [ax_ps]
          refine x_if_eq (q := 69) (t := 76) d_108_66 (by decide) rfl (fun c66 => ?_) (fun c66 => ?_)
          · rw [zi_eq0 (by omega) (by omega)] at c66
            refine xild_4 (q := 78) d_108_76 rfl ?_
            refine xist_4 (q := 80) d_108_78 rfl ?_
            refine xincz_5 (q := 83) d_108_80 rfl ?_
            refine x_goto (t := 15) d_108_83 (by decide) ?_
            rw [show (j : Int) + 1 = ((j + 1 : Nat) : Int) by omega]
            first
              | (rw [if_neg (show ¬ G 2 j = 1 by omega), if_neg (show ¬ G 1 j = 1 by omega), if_neg (show ¬ freeT G j = 1 by omega)] at ih; (try simp only [Int.add_zero] at ih); exact ih)
              | (rw [if_neg (show ¬ G 2 j = 1 by omega), if_neg (show ¬ G 1 j = 1 by omega), if_pos (show freeT G j = 1 by omega)] at ih; (try simp only [Int.add_zero] at ih); exact ih)
              | (rw [if_neg (show ¬ G 2 j = 1 by omega), if_pos (show G 1 j = 1 by omega), if_neg (show ¬ freeT G j = 1 by omega)] at ih; (try simp only [Int.add_zero] at ih); exact ih)
              | (rw [if_neg (show ¬ G 2 j = 1 by omega), if_pos (show G 1 j = 1 by omega), if_pos (show freeT G j = 1 by omega)] at ih; (try simp only [Int.add_zero] at ih); exact ih)
              | (rw [if_pos (show G 2 j = 1 by omega), if_neg (show ¬ G 1 j = 1 by omega), if_neg (show ¬ freeT G j = 1 by omega)] at ih; (try simp only [Int.add_zero] at ih); exact ih)
              | (rw [if_pos (show G 2 j = 1 by omega), if_neg (show ¬ G 1 j = 1 by omega), if_pos (show freeT G j = 1 by omega)] at ih; (try simp only [Int.add_zero] at ih); exact ih)
              | (rw [if_pos (show G 2 j = 1 by omega), if_pos (show G 1 j = 1 by omega), if_neg (show ¬ freeT G j = 1 by omega)] at ih; (try simp only [Int.add_zero] at ih); exact ih)
              | (rw [if_pos (show G 2 j = 1 by omega), if_pos (show G 1 j = 1 by omega), if_pos (show freeT G j = 1 by omega)] at ih; (try simp only [Int.add_zero] at ih); exact ih)
          · rw [zi_eq0 (by omega) (by omega)] at c66
            refine xild_4 (q := 71) d_108_69 rfl ?_
            refine x_iconst (q := 72) (v := zi (1)) d_108_71 rfl rfl ?_
            refine z_iadd (q := 73) d_108_72 rfl ?_
            refine x_goto (t := 78) d_108_73 (by decide) ?_
            refine xist_4 (q := 80) d_108_78 rfl ?_
            refine xincz_5 (q := 83) d_108_80 rfl ?_
            refine x_goto (t := 15) d_108_83 (by decide) ?_
            rw [show (j : Int) + 1 = ((j + 1 : Nat) : Int) by omega]
            first
              | (rw [if_neg (show ¬ G 2 j = 1 by omega), if_neg (show ¬ G 1 j = 1 by omega), if_neg (show ¬ freeT G j = 1 by omega)] at ih; (try simp only [Int.add_zero] at ih); exact ih)
              | (rw [if_neg (show ¬ G 2 j = 1 by omega), if_neg (show ¬ G 1 j = 1 by omega), if_pos (show freeT G j = 1 by omega)] at ih; (try simp only [Int.add_zero] at ih); exact ih)
              | (rw [if_neg (show ¬ G 2 j = 1 by omega), if_pos (show G 1 j = 1 by omega), if_neg (show ¬ freeT G j = 1 by omega)] at ih; (try simp only [Int.add_zero] at ih); exact ih)
              | (rw [if_neg (show ¬ G 2 j = 1 by omega), if_pos (show G 1 j = 1 by omega), if_pos (show freeT G j = 1 by omega)] at ih; (try simp only [Int.add_zero] at ih); exact ih)
              | (rw [if_pos (show G 2 j = 1 by omega), if_neg (show ¬ G 1 j = 1 by omega), if_neg (show ¬ freeT G j = 1 by omega)] at ih; (try simp only [Int.add_zero] at ih); exact ih)
              | (rw [if_pos (show G 2 j = 1 by omega), if_neg (show ¬ G 1 j = 1 by omega), if_pos (show freeT G j = 1 by omega)] at ih; (try simp only [Int.add_zero] at ih); exact ih)
              | (rw [if_pos (show G 2 j = 1 by omega), if_pos (show G 1 j = 1 by omega), if_neg (show ¬ freeT G j = 1 by omega)] at ih; (try simp only [Int.add_zero] at ih); exact ih)
              | (rw [if_pos (show G 2 j = 1 by omega), if_pos (show G 1 j = 1 by omega), if_pos (show freeT G j = 1 by omega)] at ih; (try simp only [Int.add_zero] at ih); exact ih)
      · rw [show ((j : Int)).toNat = j by omega, zi_eq0 (by omega) (by omega)] at c31
        refine xild_2 (q := 35) d_108_34 rfl ?_
        refine x_iconst (q := 36) (v := zi (1)) d_108_35 rfl rfl ?_
        refine z_iadd (q := 37) d_108_36 rfl ?_
        refine x_goto (t := 41) d_108_37 (by decide) ?_
        refine xist_2 (q := 42) d_108_41 rfl ?_
        refine xald_0 (q := 43) d_108_42 rfl ?_
        refine yg_barred hn (q := 46) d_108_43 rfl fl_M_23 ?_
        refine xild_5 (q := 48) d_108_46 rfl ?_
        refine yl_barred (q := 49) hn d_108_48 rfl (by omega) (by omega) ?_
        refine x_if_eq (q := 52) (t := 58) d_108_49 (by decide) rfl (fun c49 => ?_) (fun c49 => ?_)
        · rw [show ((j : Int)).toNat = j by omega, zi_eq0 (by omega) (by omega)] at c49
          refine xild_3 (q := 59) d_108_58 rfl ?_
          refine xist_3 (q := 60) d_108_59 rfl ?_
          refine xald_0 (q := 61) d_108_60 rfl ?_
          refine xild_5 (q := 63) d_108_61 rfl ?_
          refine xcV1 (q := 66) d_108_63 rfl lk_M_174 mo_77 ⟨by decide +kernel, by decide +kernel⟩ (by simp [Value.category]) (by decide +kernel) (by simp [Value.category]) (by omega) rfl ?_
          refine t_isFree hn hT (i := j) (by omega) ?_
          dsimp only [ax_ps]
          refine x_if_eq (q := 69) (t := 76) d_108_66 (by decide) rfl (fun c66 => ?_) (fun c66 => ?_)
          · rw [zi_eq0 (by omega) (by omega)] at c66
            refine xild_4 (q := 78) d_108_76 rfl ?_
            refine xist_4 (q := 80) d_108_78 rfl ?_
            refine xincz_5 (q := 83) d_108_80 rfl ?_
            refine x_goto (t := 15) d_108_83 (by decide) ?_
            rw [show (j : Int) + 1 = ((j + 1 : Nat) : Int) by omega]
            first
              | (rw [if_neg (show ¬ G 2 j = 1 by omega), if_neg (show ¬ G 1 j = 1 by omega), if_neg (show ¬ freeT G j = 1 by omega)] at ih; (try simp only [Int.add_zero] at ih); exact ih)
              | (rw [if_neg (show ¬ G 2 j = 1 by omega), if_neg (show ¬ G 1 j = 1 by omega), if_pos (show freeT G j = 1 by omega)] at ih; (try simp only [Int.add_zero] at ih); exact ih)
              | (rw [if_neg (show ¬ G 2 j = 1 by omega), if_pos (show G 1 j = 1 by omega), if_neg (show ¬ freeT G j = 1 by omega)] at ih; (try simp only [Int.add_zero] at ih); exact ih)
              | (rw [if_neg (show ¬ G 2 j = 1 by omega), if_pos (show G 1 j = 1 by omega), if_pos (show freeT G j = 1 by omega)] at ih; (try simp only [Int.add_zero] at ih); exact ih)
              | (rw [if_pos (show G 2 j = 1 by omega), if_neg (show ¬ G 1 j = 1 by omega), if_neg (show ¬ freeT G j = 1 by omega)] at ih; (try simp only [Int.add_zero] at ih); exact ih)
              | (rw [if_pos (show G 2 j = 1 by omega), if_neg (show ¬ G 1 j = 1 by omega), if_pos (show freeT G j = 1 by omega)] at ih; (try simp only [Int.add_zero] at ih); exact ih)
              | (rw [if_pos (show G 2 j = 1 by omega), if_pos (show G 1 j = 1 by omega), if_neg (show ¬ freeT G j = 1 by omega)] at ih; (try simp only [Int.add_zero] at ih); exact ih)
              | (rw [if_pos (show G 2 j = 1 by omega), if_pos (show G 1 j = 1 by omega), if_pos (show freeT G j = 1 by omega)] at ih; (try simp only [Int.add_zero] at ih); exact ih)
          · rw [zi_eq0 (by omega) (by omega)] at c66
            refine xild_4 (q := 71) d_108_69 rfl ?_
            refine x_iconst (q := 72) (v := zi (1)) d_108_71 rfl rfl ?_
            refine z_iadd (q := 73) d_108_72 rfl ?_
            refine x_goto (t := 78) d_108_73 (by decide) ?_
            refine xist_4 (q := 80) d_108_78 rfl ?_
            refine xincz_5 (q := 83) d_108_80 rfl ?_
            refine x_goto (t := 15) d_108_83 (by decide) ?_
            rw [show (j : Int) + 1 = ((j + 1 : Nat) : Int) by omega]
            first
              | (rw [if_neg (show ¬ G 2 j = 1 by omega), if_neg (show ¬ G 1 j = 1 by omega), if_neg (show ¬ freeT G j = 1 by omega)] at ih; (try simp only [Int.add_zero] at ih); exact ih)
              | (rw [if_neg (show ¬ G 2 j = 1 by omega), if_neg (show ¬ G 1 j = 1 by omega), if_pos (show freeT G j = 1 by omega)] at ih; (try simp only [Int.add_zero] at ih); exact ih)
              | (rw [if_neg (show ¬ G 2 j = 1 by omega), if_pos (show G 1 j = 1 by omega), if_neg (show ¬ freeT G j = 1 by omega)] at ih; (try simp only [Int.add_zero] at ih); exact ih)
              | (rw [if_neg (show ¬ G 2 j = 1 by omega), if_pos (show G 1 j = 1 by omega), if_pos (show freeT G j = 1 by omega)] at ih; (try simp only [Int.add_zero] at ih); exact ih)
              | (rw [if_pos (show G 2 j = 1 by omega), if_neg (show ¬ G 1 j = 1 by omega), if_neg (show ¬ freeT G j = 1 by omega)] at ih; (try simp only [Int.add_zero] at ih); exact ih)
              | (rw [if_pos (show G 2 j = 1 by omega), if_neg (show ¬ G 1 j = 1 by omega), if_pos (show freeT G j = 1 by omega)] at ih; (try simp only [Int.add_zero] at ih); exact ih)
              | (rw [if_pos (show G 2 j = 1 by omega), if_pos (show G 1 j = 1 by omega), if_neg (show ¬ freeT G j = 1 by omega)] at ih; (try simp only [Int.add_zero] at ih); exact ih)
              | (rw [if_pos (show G 2 j = 1 by omega), if_pos (show G 1 j = 1 by omega), if_pos (show freeT G j = 1 by omega)] at ih; (try simp only [Int.add_zero] at ih); exact ih)
        · rw [show ((j : Int)).toNat = j by omega, zi_eq0 (by omega) (by omega)] at c49
          refine xild_3 (q := 53) d_108_52 rfl ?_
          refine x_iconst (q := 54) (v := zi (1)) d_108_53 rfl rfl ?_
          refine z_iadd (q := 55) d_108_54 rfl ?_
          refine x_goto (t := 59) d_108_55 (by decide) ?_
          refine xist_3 (q := 60) d_108_59 rfl ?_
          refine xald_0 (q := 61) d_108_60 rfl ?_
          refine xild_5 (q := 63) d_108_61 rfl ?_
          refine xcV1 (q := 66) d_108_63 rfl lk_M_174 mo_77 ⟨by decide +kernel, by decide +kernel⟩ (by simp [Value.category]) (by decide +kernel) (by simp [Value.category]) (by omega) rfl ?_
          refine t_isFree hn hT (i := j) (by omega) ?_
          dsimp only [ax_ps]
          refine x_if_eq (q := 69) (t := 76) d_108_66 (by decide) rfl (fun c66 => ?_) (fun c66 => ?_)
          · rw [zi_eq0 (by omega) (by omega)] at c66
            refine xild_4 (q := 78) d_108_76 rfl ?_
            refine xist_4 (q := 80) d_108_78 rfl ?_
            refine xincz_5 (q := 83) d_108_80 rfl ?_
            refine x_goto (t := 15) d_108_83 (by decide) ?_
            rw [show (j : Int) + 1 = ((j + 1 : Nat) : Int) by omega]
            first
              | (rw [if_neg (show ¬ G 2 j = 1 by omega), if_neg (show ¬ G 1 j = 1 by omega), if_neg (show ¬ freeT G j = 1 by omega)] at ih; (try simp only [Int.add_zero] at ih); exact ih)
              | (rw [if_neg (show ¬ G 2 j = 1 by omega), if_neg (show ¬ G 1 j = 1 by omega), if_pos (show freeT G j = 1 by omega)] at ih; (try simp only [Int.add_zero] at ih); exact ih)
              | (rw [if_neg (show ¬ G 2 j = 1 by omega), if_pos (show G 1 j = 1 by omega), if_neg (show ¬ freeT G j = 1 by omega)] at ih; (try simp only [Int.add_zero] at ih); exact ih)
              | (rw [if_neg (show ¬ G 2 j = 1 by omega), if_pos (show G 1 j = 1 by omega), if_pos (show freeT G j = 1 by omega)] at ih; (try simp only [Int.add_zero] at ih); exact ih)
              | (rw [if_pos (show G 2 j = 1 by omega), if_neg (show ¬ G 1 j = 1 by omega), if_neg (show ¬ freeT G j = 1 by omega)] at ih; (try simp only [Int.add_zero] at ih); exact ih)
              | (rw [if_pos (show G 2 j = 1 by omega), if_neg (show ¬ G 1 j = 1 by omega), if_pos (show freeT G j = 1 by omega)] at ih; (try simp only [Int.add_zero] at ih); exact ih)
              | (rw [if_pos (show G 2 j = 1 by omega), if_pos (show G 1 j = 1 by omega), if_neg (show ¬ freeT G j = 1 by omega)] at ih; (try simp only [Int.add_zero] at ih); exact ih)
              | (rw [if_pos (show G 2 j = 1 by omega), if_pos (show G 1 j = 1 by omega), if_pos (show freeT G j = 1 by omega)] at ih; (try simp only [Int.add_zero] at ih); exact ih)
          · rw [zi_eq0 (by omega) (by omega)] at c66
            refine xild_4 (q := 71) d_108_69 rfl ?_
            refine x_iconst (q := 72) (v := zi (1)) d_108_71 rfl rfl ?_
            refine z_iadd (q := 73) d_108_72 rfl ?_
            refine x_goto (t := 78) d_108_73 (by decide) ?_
            refine xist_4 (q := 80) d_108_78 rfl ?_
            refine xincz_5 (q := 83) d_108_80 rfl ?_
            refine x_goto (t := 15) d_108_83 (by decide) ?_
            rw [show (j : Int) + 1 = ((j + 1 : Nat) : Int) by omega]
            first
              | (rw [if_neg (show ¬ G 2 j = 1 by omega), if_neg (show ¬ G 1 j = 1 by omega), if_neg (show ¬ freeT G j = 1 by omega)] at ih; (try simp only [Int.add_zero] at ih); exact ih)
              | (rw [if_neg (show ¬ G 2 j = 1 by omega), if_neg (show ¬ G 1 j = 1 by omega), if_pos (show freeT G j = 1 by omega)] at ih; (try simp only [Int.add_zero] at ih); exact ih)
              | (rw [if_neg (show ¬ G 2 j = 1 by omega), if_pos (show G 1 j = 1 by omega), if_neg (show ¬ freeT G j = 1 by omega)] at ih; (try simp only [Int.add_zero] at ih); exact ih)
              | (rw [if_neg (show ¬ G 2 j = 1 by omega), if_pos (show G 1 j = 1 by omega), if_pos (show freeT G j = 1 by omega)] at ih; (try simp only [Int.add_zero] at ih); exact ih)
              | (rw [if_pos (show G 2 j = 1 by omega), if_neg (show ¬ G 1 j = 1 by omega), if_neg (show ¬ freeT G j = 1 by omega)] at ih; (try simp only [Int.add_zero] at ih); exact ih)
              | (rw [if_pos (show G 2 j = 1 by omega), if_neg (show ¬ G 1 j = 1 by omega), if_pos (show freeT G j = 1 by omega)] at ih; (try simp only [Int.add_zero] at ih); exact ih)
              | (rw [if_pos (show G 2 j = 1 by omega), if_pos (show G 1 j = 1 by omega), if_neg (show ¬ freeT G j = 1 by omega)] at ih; (try simp only [Int.add_zero] at ih); exact ih)
              | (rw [if_pos (show G 2 j = 1 by omega), if_pos (show G 1 j = 1 by omega), if_pos (show freeT G j = 1 by omega)] at ih; (try simp only [Int.add_zero] at ih); exact ih)
def cntT (J : Nat → Int) (G : Nat → Nat → Int) (N : Nat) (a : Int) : Int := if a = 0 then N else if a = 1 then cntI (G 2) N else if a = 2 then cntI (G 1) N else if a = 3 then cntI (freeT G) N else if a = 4 then J 1 else if a = 5 then J 3 else if a = 6 then J 4 else if a = 7 then J 5 else if a = 8 then J 11 else -1
set_option maxHeartbeats 2000000 in
theorem t_count {sc : ax_S} {σ : Nat → ax_C} {J : Nat → Int} {G : Nat → Nat → Int} {n bc bs : Nat} {K : ax_K} (hn : 38 ≤ n) {P N M : Nat} (hT : TW J G P N M) {a : Int} (ha : I32 a) (k : K (some (.int (zi (cntT J G N a)))) (mg σ (va_up J 0 0) G, n, bc, bs)) : Ex sc 108 0 (ax_en 108 [.ref 22, .int (zi a)]) [] (mg σ J G, n, bc, bs) K := by
  obtain ⟨hP, hP1, hP2, hN, hN2, hM, hM2, hv, hbr, hrm⟩ := id hT
  show Ex sc 108 0 [some (.ref 22), some (.int (zi a)), none, none, none, none] [] (mg σ J G, n, bc, bs) K
  refine xald_0 (q := 1) d_108_0 rfl ?_
  refine x_iconst (q := 2) (v := zi (0)) d_108_1 rfl rfl ?_
  refine yp_thrown hn (q := 5) d_108_2 rfl fw_M_1 ?_
  refine x_iconst (q := 6) (v := zi (0)) d_108_5 rfl rfl ?_
  refine xist_2 (q := 7) d_108_6 rfl ?_
  refine x_iconst (q := 8) (v := zi (0)) d_108_7 rfl rfl ?_
  refine xist_3 (q := 9) d_108_8 rfl ?_
  refine x_iconst (q := 10) (v := zi (0)) d_108_9 rfl rfl ?_
  refine xist_4 (q := 12) d_108_10 rfl ?_
  refine x_iconst (q := 13) (v := zi (0)) d_108_12 rfl rfl ?_
  refine xist_5 (q := 15) d_108_13 rfl ?_
  refine lt_count (J := (va_up J 0 0)) hn (hT.same rfl rfl rfl rfl rfl rfl) ?_ N 0 (by omega)
  intro t
  refine xild_1 (q := 87) d_108_86 rfl ?_
  by_cases hr : a < 0 ∨ 8 < a
  · have e1 : cntT J G N a = -1 := by unfold cntT; rw [if_neg (by omega), if_neg (by omega), if_neg (by omega), if_neg (by omega), if_neg (by omega), if_neg (by omega), if_neg (by omega), if_neg (by omega), if_neg (by omega)]
    rw [e1] at k
    refine x_tableOut (t := 173) d_108_87 (by rw [zi_t (by omega) (by omega)]; exact hr) (by decide) ?_
    refine x_iconst (q := 174) (v := zi (-1)) d_108_173 rfl rfl ?_
    refine x_iret d_108_174 rfl rfl ?_
    exact k
  · obtain rfl | rfl | rfl | rfl | rfl | rfl | rfl | rfl | rfl : a = 0 ∨ a = 1 ∨ a = 2 ∨ a = 3 ∨ a = 4 ∨ a = 5 ∨ a = 6 ∨ a = 7 ∨ a = 8 := by omega
    · refine x_tableIn (t := 136) d_108_87 (by decide) (by decide) rfl (by decide) ?_
      refine xald_0 (q := 137) d_108_136 rfl ?_
      refine yg_count hn (q := 140) d_108_137 rfl fl_M_76 ?_
      refine x_iret d_108_140 rfl rfl ?_
      rw [show (va_up J 0 0) 7 = (N : Int) from hN]
      exact k
    · refine x_tableIn (t := 141) d_108_87 (by decide) (by decide) rfl (by decide) ?_
      refine xild_2 (q := 142) d_108_141 rfl ?_
      refine x_iret d_108_142 rfl rfl ?_
      exact k
    · refine x_tableIn (t := 143) d_108_87 (by decide) (by decide) rfl (by decide) ?_
      refine xild_3 (q := 144) d_108_143 rfl ?_
      refine x_iret d_108_144 rfl rfl ?_
      exact k
    · refine x_tableIn (t := 145) d_108_87 (by decide) (by decide) rfl (by decide) ?_
      refine xild_4 (q := 147) d_108_145 rfl ?_
      refine x_iret d_108_147 rfl rfl ?_
      exact k
    · refine x_tableIn (t := 148) d_108_87 (by decide) (by decide) rfl (by decide) ?_
      refine xald_0 (q := 149) d_108_148 rfl ?_
      refine yg_parts hn (q := 152) d_108_149 rfl fl_M_70 ?_
      refine x_iret d_108_152 rfl rfl ?_
      exact k
    · refine x_tableIn (t := 153) d_108_87 (by decide) (by decide) rfl (by decide) ?_
      refine xald_0 (q := 154) d_108_153 rfl ?_
      refine yg_measure hn (q := 157) d_108_154 rfl fl_M_83 ?_
      refine x_iret d_108_157 rfl rfl ?_
      exact k
    · refine x_tableIn (t := 158) d_108_87 (by decide) (by decide) rfl (by decide) ?_
      refine xald_0 (q := 159) d_108_158 rfl ?_
      refine yg_width hn (q := 162) d_108_159 rfl fl_M_13 ?_
      refine x_iret d_108_162 rfl rfl ?_
      exact k
    · refine x_tableIn (t := 163) d_108_87 (by decide) (by decide) rfl (by decide) ?_
      refine xald_0 (q := 164) d_108_163 rfl ?_
      refine yg_careful hn (q := 167) d_108_164 rfl fl_M_16 ?_
      refine x_iret d_108_167 rfl rfl ?_
      exact k
    · refine x_tableIn (t := 168) d_108_87 (by decide) (by decide) rfl (by decide) ?_
      refine xald_0 (q := 169) d_108_168 rfl ?_
      refine yg_toldCount hn (q := 172) d_108_169 rfl fl_M_164 ?_
      refine x_iret d_108_172 rfl rfl ?_
      exact k
set_option maxHeartbeats 2000000 in
theorem t_rule {sc : ax_S} {σ : Nat → ax_C} {J : Nat → Int} {G : Nat → Nat → Int} {n bc bs : Nat} {K : ax_K} (hn : 38 ≤ n) {P N M : Nat} (hT : TW J G P N M) {a v : Int} (ha : I32 a) (hv3 : I32 v)
    (k0 : a = 0 ∧ 0 ≤ v ∧ v ≤ 2 → ∀ J' : Nat → Int, (∀ r, r ≠ 0 → r ≠ 3 → r ≠ 13 → J' r = J r) → J' 3 = v → J' 13 = 1 → K (some (.int (zi (J 3)))) (mg σ J' G, n, bc, bs))
    (k1 : a = 1 ∧ 2 ≤ v ∧ v ≤ 6 → ∀ J' : Nat → Int, (∀ r, r ≠ 0 → r ≠ 4 → r ≠ 13 → J' r = J r) → J' 4 = v → J' 13 = 1 → K (some (.int (zi (J 4)))) (mg σ J' G, n, bc, bs))
    (k2 : a = 2 ∧ 0 ≤ v ∧ v ≤ 1 → ∀ J' : Nat → Int, (∀ r, r ≠ 0 → r ≠ 5 → r ≠ 13 → J' r = J r) → J' 5 = v → J' 13 = 1 → K (some (.int (zi (J 5)))) (mg σ J' G, n, bc, bs))
    (kb : ¬ (a = 0 ∧ 0 ≤ v ∧ v ≤ 2) → ¬ (a = 1 ∧ 2 ≤ v ∧ v ≤ 6) → ¬ (a = 2 ∧ 0 ≤ v ∧ v ≤ 1) → K (some (.int (zi (-1)))) (mg σ (va_up J 0 0) G, n, bc, bs)) : Ex sc 74 0 (ax_en 74 [.ref 22, .int (zi a), .int (zi v)]) [] (mg σ J G, n, bc, bs) K := by
  obtain ⟨hP, hP1, hP2, hN, hN2, hM, hM2, hv, hbr, hrm⟩ := id hT
  show Ex sc 74 0 [some (.ref 22), some (.int (zi a)), some (.int (zi v)), none] [] (mg σ J G, n, bc, bs) K
  refine xald_0 (q := 1) d_74_0 rfl ?_
  refine x_iconst (q := 2) (v := zi (0)) d_74_1 rfl rfl ?_
  refine yp_thrown hn (q := 5) d_74_2 rfl fw_M_1 ?_
  by_cases h0 : a = 0
  · subst h0
    refine xild_1 (q := 6) d_74_5 rfl ?_
    refine z_i2l (by omega) (by omega) (q := 7) d_74_6 rfl ?_
    refine x_lconst (q := 8) (v := zl (0)) d_74_7 rfl rfl ?_
    refine x_ldc2 (q := 11) (v := zl (2)) d_74_8 rfl kc_M_167 ?_
    refine z_in (by omega) (by omega) (by omega) (by omega) (by omega) (by omega) (q := 14) d_74_11 rfl lk_M_79 ⟨by decide +kernel, by decide +kernel⟩ (by simp [Value.category]) ?_
    refine x_if_eq (q := 17) (t := 59) d_74_14 (by decide) rfl (fun c14 => ?_) (fun c14 => ?_)
    · rw [in_0] at c14
      exact absurd c14 (by omega)
    · rw [in_0] at c14
      refine xild_2 (q := 18) d_74_17 rfl ?_
      refine z_i2l (by omega) (by omega) (q := 19) d_74_18 rfl ?_
      refine xild_1 (q := 20) d_74_19 rfl ?_
      refine x_iconst (q := 21) (v := zi (1)) d_74_20 rfl rfl ?_
      refine x_icmp_ne (q := 24) (t := 30) d_74_21 (by decide) rfl (fun c21 => ?_) (fun c21 => ?_)
      · rw [zi_eq (by omega) (by omega) (by omega) (by omega)] at c21
        refine x_lconst (q := 31) (v := zl (0)) d_74_30 rfl rfl ?_
        refine xild_1 (q := 32) d_74_31 rfl ?_
        refine x_if_ne (q := 35) (t := 41) d_74_32 (by decide) rfl (fun c32 => ?_) (fun c32 => ?_)
        · rw [zi_eq0 (by omega) (by omega)] at c32
          exact absurd c32 (by omega)
        · rw [zi_eq0 (by omega) (by omega)] at c32
          refine x_ldc2 (q := 38) (v := zl (2)) d_74_35 rfl kc_M_167 ?_
          refine x_goto (t := 53) d_74_38 (by decide) ?_
          refine z_in (by omega) (by omega) (by omega) (by omega) (by omega) (by omega) (q := 56) d_74_53 rfl lk_M_79 ⟨by decide +kernel, by decide +kernel⟩ (by simp [Value.category]) ?_
          refine x_if_ne (q := 59) (t := 61) d_74_56 (by decide) rfl (fun c56 => ?_) (fun c56 => ?_)
          · rw [in_0] at c56
            refine xild_1 (q := 62) d_74_61 rfl ?_
            refine x_if_ne (q := 65) (t := 72) d_74_62 (by decide) rfl (fun c62 => ?_) (fun c62 => ?_)
            · rw [zi_eq0 (by omega) (by omega)] at c62
              exact absurd c62 (by omega)
            · rw [zi_eq0 (by omega) (by omega)] at c62
              refine xald_0 (q := 66) d_74_65 rfl ?_
              refine yg_measure hn (q := 69) d_74_66 rfl fl_M_83 ?_
              refine x_goto (t := 88) d_74_69 (by decide) ?_
              refine xist_3 (q := 89) d_74_88 rfl ?_
              refine xald_0 (q := 90) d_74_89 rfl ?_
              refine xild_1 (q := 91) d_74_90 rfl ?_
              refine x_if_ne (q := 94) (t := 98) d_74_91 (by decide) rfl (fun c91 => ?_) (fun c91 => ?_)
              · rw [zi_eq0 (by omega) (by omega)] at c91
                exact absurd c91 (by omega)
              · rw [zi_eq0 (by omega) (by omega)] at c91
                refine xild_2 (q := 95) d_74_94 rfl ?_
                refine x_goto (t := 102) d_74_95 (by decide) ?_
                refine yp_measure hn (q := 105) d_74_102 rfl fw_M_83 ?_
                refine xald_0 (q := 106) d_74_105 rfl ?_
                refine xild_1 (q := 107) d_74_106 rfl ?_
                refine x_iconst (q := 108) (v := zi (1)) d_74_107 rfl rfl ?_
                refine x_icmp_ne (q := 111) (t := 115) d_74_108 (by decide) rfl (fun c108 => ?_) (fun c108 => ?_)
                · rw [zi_eq (by omega) (by omega) (by omega) (by omega)] at c108
                  refine xald_0 (q := 116) d_74_115 rfl ?_
                  refine yg_width hn (q := 119) d_74_116 rfl fl_M_13 ?_
                  refine yp_width hn (q := 122) d_74_119 rfl fw_M_13 ?_
                  refine xald_0 (q := 123) d_74_122 rfl ?_
                  refine xild_1 (q := 124) d_74_123 rfl ?_
                  refine x_iconst (q := 125) (v := zi (2)) d_74_124 rfl rfl ?_
                  refine x_icmp_ne (q := 128) (t := 132) d_74_125 (by decide) rfl (fun c125 => ?_) (fun c125 => ?_)
                  · rw [zi_eq (by omega) (by omega) (by omega) (by omega)] at c125
                    refine xald_0 (q := 133) d_74_132 rfl ?_
                    refine yg_careful hn (q := 136) d_74_133 rfl fl_M_16 ?_
                    refine yp_careful hn (q := 139) d_74_136 rfl fw_M_16 ?_
                    refine xald_0 (q := 140) d_74_139 rfl ?_
                    refine x_iconst (q := 141) (v := zi (1)) d_74_140 rfl rfl ?_
                    refine yp_stale hn (Or.inr rfl) (q := 144) d_74_141 rfl fw_M_139 ?_
                    refine xild_3 (q := 145) d_74_144 rfl ?_
                    refine x_iret d_74_145 rfl rfl ?_
                    first
                      | (exact kb (by omega) (by omega) (by omega))
                      | ((try rw [va_self]); (try rw [va_self]); (try rw [va_self]); exact k0 (by omega) _ (fun r x y z => by (repeat (first | rw [va_un _ _ _ x] | rw [va_un _ _ _ y] | rw [va_un _ _ _ z] | rfl))) rfl rfl)
                  · rw [zi_eq (by omega) (by omega) (by omega) (by omega)] at c125
                    exact absurd c125 (by omega)
                · rw [zi_eq (by omega) (by omega) (by omega) (by omega)] at c108
                  exact absurd c108 (by omega)
          · rw [in_0] at c56
            refine x_iconst (q := 60) (v := zi (-1)) d_74_59 rfl rfl ?_
            refine x_iret d_74_60 rfl rfl ?_
            first
              | (exact kb (by omega) (by omega) (by omega))
              | ((try rw [va_self]); (try rw [va_self]); (try rw [va_self]); exact k0 (by omega) _ (fun r x y z => by (repeat (first | rw [va_un _ _ _ x] | rw [va_un _ _ _ y] | rw [va_un _ _ _ z] | rfl))) rfl rfl)
      · rw [zi_eq (by omega) (by omega) (by omega) (by omega)] at c21
        exact absurd c21 (by omega)
  by_cases h1 : a = 1
  · subst h1
    refine xild_1 (q := 6) d_74_5 rfl ?_
    refine z_i2l (by omega) (by omega) (q := 7) d_74_6 rfl ?_
    refine x_lconst (q := 8) (v := zl (0)) d_74_7 rfl rfl ?_
    refine x_ldc2 (q := 11) (v := zl (2)) d_74_8 rfl kc_M_167 ?_
    refine z_in (by omega) (by omega) (by omega) (by omega) (by omega) (by omega) (q := 14) d_74_11 rfl lk_M_79 ⟨by decide +kernel, by decide +kernel⟩ (by simp [Value.category]) ?_
    refine x_if_eq (q := 17) (t := 59) d_74_14 (by decide) rfl (fun c14 => ?_) (fun c14 => ?_)
    · rw [in_0] at c14
      exact absurd c14 (by omega)
    · rw [in_0] at c14
      refine xild_2 (q := 18) d_74_17 rfl ?_
      refine z_i2l (by omega) (by omega) (q := 19) d_74_18 rfl ?_
      refine xild_1 (q := 20) d_74_19 rfl ?_
      refine x_iconst (q := 21) (v := zi (1)) d_74_20 rfl rfl ?_
      refine x_icmp_ne (q := 24) (t := 30) d_74_21 (by decide) rfl (fun c21 => ?_) (fun c21 => ?_)
      · rw [zi_eq (by omega) (by omega) (by omega) (by omega)] at c21
        exact absurd c21 (by omega)
      · rw [zi_eq (by omega) (by omega) (by omega) (by omega)] at c21
        refine x_ldc2 (q := 27) (v := zl (2)) d_74_24 rfl kc_M_167 ?_
        refine x_goto (t := 31) d_74_27 (by decide) ?_
        refine xild_1 (q := 32) d_74_31 rfl ?_
        refine x_if_ne (q := 35) (t := 41) d_74_32 (by decide) rfl (fun c32 => ?_) (fun c32 => ?_)
        · rw [zi_eq0 (by omega) (by omega)] at c32
          refine xild_1 (q := 42) d_74_41 rfl ?_
          refine x_iconst (q := 43) (v := zi (1)) d_74_42 rfl rfl ?_
          refine x_icmp_ne (q := 46) (t := 52) d_74_43 (by decide) rfl (fun c43 => ?_) (fun c43 => ?_)
          · rw [zi_eq (by omega) (by omega) (by omega) (by omega)] at c43
            exact absurd c43 (by omega)
          · rw [zi_eq (by omega) (by omega) (by omega) (by omega)] at c43
            refine x_ldc2 (q := 49) (v := zl (6)) d_74_46 rfl kc_M_169 ?_
            refine x_goto (t := 53) d_74_49 (by decide) ?_
            refine z_in (by omega) (by omega) (by omega) (by omega) (by omega) (by omega) (q := 56) d_74_53 rfl lk_M_79 ⟨by decide +kernel, by decide +kernel⟩ (by simp [Value.category]) ?_
            refine x_if_ne (q := 59) (t := 61) d_74_56 (by decide) rfl (fun c56 => ?_) (fun c56 => ?_)
            · rw [in_0] at c56
              refine xild_1 (q := 62) d_74_61 rfl ?_
              refine x_if_ne (q := 65) (t := 72) d_74_62 (by decide) rfl (fun c62 => ?_) (fun c62 => ?_)
              · rw [zi_eq0 (by omega) (by omega)] at c62
                refine xild_1 (q := 73) d_74_72 rfl ?_
                refine x_iconst (q := 74) (v := zi (1)) d_74_73 rfl rfl ?_
                refine x_icmp_ne (q := 77) (t := 84) d_74_74 (by decide) rfl (fun c74 => ?_) (fun c74 => ?_)
                · rw [zi_eq (by omega) (by omega) (by omega) (by omega)] at c74
                  exact absurd c74 (by omega)
                · rw [zi_eq (by omega) (by omega) (by omega) (by omega)] at c74
                  refine xald_0 (q := 78) d_74_77 rfl ?_
                  refine yg_width hn (q := 81) d_74_78 rfl fl_M_13 ?_
                  refine x_goto (t := 88) d_74_81 (by decide) ?_
                  refine xist_3 (q := 89) d_74_88 rfl ?_
                  refine xald_0 (q := 90) d_74_89 rfl ?_
                  refine xild_1 (q := 91) d_74_90 rfl ?_
                  refine x_if_ne (q := 94) (t := 98) d_74_91 (by decide) rfl (fun c91 => ?_) (fun c91 => ?_)
                  · rw [zi_eq0 (by omega) (by omega)] at c91
                    refine xald_0 (q := 99) d_74_98 rfl ?_
                    refine yg_measure hn (q := 102) d_74_99 rfl fl_M_83 ?_
                    refine yp_measure hn (q := 105) d_74_102 rfl fw_M_83 ?_
                    refine xald_0 (q := 106) d_74_105 rfl ?_
                    refine xild_1 (q := 107) d_74_106 rfl ?_
                    refine x_iconst (q := 108) (v := zi (1)) d_74_107 rfl rfl ?_
                    refine x_icmp_ne (q := 111) (t := 115) d_74_108 (by decide) rfl (fun c108 => ?_) (fun c108 => ?_)
                    · rw [zi_eq (by omega) (by omega) (by omega) (by omega)] at c108
                      exact absurd c108 (by omega)
                    · rw [zi_eq (by omega) (by omega) (by omega) (by omega)] at c108
                      refine xild_2 (q := 112) d_74_111 rfl ?_
                      refine x_goto (t := 119) d_74_112 (by decide) ?_
                      refine yp_width hn (q := 122) d_74_119 rfl fw_M_13 ?_
                      refine xald_0 (q := 123) d_74_122 rfl ?_
                      refine xild_1 (q := 124) d_74_123 rfl ?_
                      refine x_iconst (q := 125) (v := zi (2)) d_74_124 rfl rfl ?_
                      refine x_icmp_ne (q := 128) (t := 132) d_74_125 (by decide) rfl (fun c125 => ?_) (fun c125 => ?_)
                      · rw [zi_eq (by omega) (by omega) (by omega) (by omega)] at c125
                        refine xald_0 (q := 133) d_74_132 rfl ?_
                        refine yg_careful hn (q := 136) d_74_133 rfl fl_M_16 ?_
                        refine yp_careful hn (q := 139) d_74_136 rfl fw_M_16 ?_
                        refine xald_0 (q := 140) d_74_139 rfl ?_
                        refine x_iconst (q := 141) (v := zi (1)) d_74_140 rfl rfl ?_
                        refine yp_stale hn (Or.inr rfl) (q := 144) d_74_141 rfl fw_M_139 ?_
                        refine xild_3 (q := 145) d_74_144 rfl ?_
                        refine x_iret d_74_145 rfl rfl ?_
                        first
                          | (exact kb (by omega) (by omega) (by omega))
                          | ((try rw [va_self]); (try rw [va_self]); (try rw [va_self]); exact k1 (by omega) _ (fun r x y z => by (repeat (first | rw [va_un _ _ _ x] | rw [va_un _ _ _ y] | rw [va_un _ _ _ z] | rfl))) rfl rfl)
                      · rw [zi_eq (by omega) (by omega) (by omega) (by omega)] at c125
                        exact absurd c125 (by omega)
                  · rw [zi_eq0 (by omega) (by omega)] at c91
                    exact absurd c91 (by omega)
              · rw [zi_eq0 (by omega) (by omega)] at c62
                exact absurd c62 (by omega)
            · rw [in_0] at c56
              refine x_iconst (q := 60) (v := zi (-1)) d_74_59 rfl rfl ?_
              refine x_iret d_74_60 rfl rfl ?_
              first
                | (exact kb (by omega) (by omega) (by omega))
                | ((try rw [va_self]); (try rw [va_self]); (try rw [va_self]); exact k1 (by omega) _ (fun r x y z => by (repeat (first | rw [va_un _ _ _ x] | rw [va_un _ _ _ y] | rw [va_un _ _ _ z] | rfl))) rfl rfl)
        · rw [zi_eq0 (by omega) (by omega)] at c32
          exact absurd c32 (by omega)
  by_cases h2 : a = 2
  · subst h2
    refine xild_1 (q := 6) d_74_5 rfl ?_
    refine z_i2l (by omega) (by omega) (q := 7) d_74_6 rfl ?_
    refine x_lconst (q := 8) (v := zl (0)) d_74_7 rfl rfl ?_
    refine x_ldc2 (q := 11) (v := zl (2)) d_74_8 rfl kc_M_167 ?_
    refine z_in (by omega) (by omega) (by omega) (by omega) (by omega) (by omega) (q := 14) d_74_11 rfl lk_M_79 ⟨by decide +kernel, by decide +kernel⟩ (by simp [Value.category]) ?_
    refine x_if_eq (q := 17) (t := 59) d_74_14 (by decide) rfl (fun c14 => ?_) (fun c14 => ?_)
    · rw [in_0] at c14
      exact absurd c14 (by omega)
    · rw [in_0] at c14
      refine xild_2 (q := 18) d_74_17 rfl ?_
      refine z_i2l (by omega) (by omega) (q := 19) d_74_18 rfl ?_
      refine xild_1 (q := 20) d_74_19 rfl ?_
      refine x_iconst (q := 21) (v := zi (1)) d_74_20 rfl rfl ?_
      refine x_icmp_ne (q := 24) (t := 30) d_74_21 (by decide) rfl (fun c21 => ?_) (fun c21 => ?_)
      · rw [zi_eq (by omega) (by omega) (by omega) (by omega)] at c21
        refine x_lconst (q := 31) (v := zl (0)) d_74_30 rfl rfl ?_
        refine xild_1 (q := 32) d_74_31 rfl ?_
        refine x_if_ne (q := 35) (t := 41) d_74_32 (by decide) rfl (fun c32 => ?_) (fun c32 => ?_)
        · rw [zi_eq0 (by omega) (by omega)] at c32
          refine xild_1 (q := 42) d_74_41 rfl ?_
          refine x_iconst (q := 43) (v := zi (1)) d_74_42 rfl rfl ?_
          refine x_icmp_ne (q := 46) (t := 52) d_74_43 (by decide) rfl (fun c43 => ?_) (fun c43 => ?_)
          · rw [zi_eq (by omega) (by omega) (by omega) (by omega)] at c43
            refine x_lconst (q := 53) (v := zl (1)) d_74_52 rfl rfl ?_
            refine z_in (by omega) (by omega) (by omega) (by omega) (by omega) (by omega) (q := 56) d_74_53 rfl lk_M_79 ⟨by decide +kernel, by decide +kernel⟩ (by simp [Value.category]) ?_
            refine x_if_ne (q := 59) (t := 61) d_74_56 (by decide) rfl (fun c56 => ?_) (fun c56 => ?_)
            · rw [in_0] at c56
              refine xild_1 (q := 62) d_74_61 rfl ?_
              refine x_if_ne (q := 65) (t := 72) d_74_62 (by decide) rfl (fun c62 => ?_) (fun c62 => ?_)
              · rw [zi_eq0 (by omega) (by omega)] at c62
                refine xild_1 (q := 73) d_74_72 rfl ?_
                refine x_iconst (q := 74) (v := zi (1)) d_74_73 rfl rfl ?_
                refine x_icmp_ne (q := 77) (t := 84) d_74_74 (by decide) rfl (fun c74 => ?_) (fun c74 => ?_)
                · rw [zi_eq (by omega) (by omega) (by omega) (by omega)] at c74
                  refine xald_0 (q := 85) d_74_84 rfl ?_
                  refine yg_careful hn (q := 88) d_74_85 rfl fl_M_16 ?_
                  refine xist_3 (q := 89) d_74_88 rfl ?_
                  refine xald_0 (q := 90) d_74_89 rfl ?_
                  refine xild_1 (q := 91) d_74_90 rfl ?_
                  refine x_if_ne (q := 94) (t := 98) d_74_91 (by decide) rfl (fun c91 => ?_) (fun c91 => ?_)
                  · rw [zi_eq0 (by omega) (by omega)] at c91
                    refine xald_0 (q := 99) d_74_98 rfl ?_
                    refine yg_measure hn (q := 102) d_74_99 rfl fl_M_83 ?_
                    refine yp_measure hn (q := 105) d_74_102 rfl fw_M_83 ?_
                    refine xald_0 (q := 106) d_74_105 rfl ?_
                    refine xild_1 (q := 107) d_74_106 rfl ?_
                    refine x_iconst (q := 108) (v := zi (1)) d_74_107 rfl rfl ?_
                    refine x_icmp_ne (q := 111) (t := 115) d_74_108 (by decide) rfl (fun c108 => ?_) (fun c108 => ?_)
                    · rw [zi_eq (by omega) (by omega) (by omega) (by omega)] at c108
                      refine xald_0 (q := 116) d_74_115 rfl ?_
                      refine yg_width hn (q := 119) d_74_116 rfl fl_M_13 ?_
                      refine yp_width hn (q := 122) d_74_119 rfl fw_M_13 ?_
                      refine xald_0 (q := 123) d_74_122 rfl ?_
                      refine xild_1 (q := 124) d_74_123 rfl ?_
                      refine x_iconst (q := 125) (v := zi (2)) d_74_124 rfl rfl ?_
                      refine x_icmp_ne (q := 128) (t := 132) d_74_125 (by decide) rfl (fun c125 => ?_) (fun c125 => ?_)
                      · rw [zi_eq (by omega) (by omega) (by omega) (by omega)] at c125
                        exact absurd c125 (by omega)
                      · rw [zi_eq (by omega) (by omega) (by omega) (by omega)] at c125
                        refine xild_2 (q := 129) d_74_128 rfl ?_
                        refine x_goto (t := 136) d_74_129 (by decide) ?_
                        refine yp_careful hn (q := 139) d_74_136 rfl fw_M_16 ?_
                        refine xald_0 (q := 140) d_74_139 rfl ?_
                        refine x_iconst (q := 141) (v := zi (1)) d_74_140 rfl rfl ?_
                        refine yp_stale hn (Or.inr rfl) (q := 144) d_74_141 rfl fw_M_139 ?_
                        refine xild_3 (q := 145) d_74_144 rfl ?_
                        refine x_iret d_74_145 rfl rfl ?_
                        first
                          | (exact kb (by omega) (by omega) (by omega))
                          | ((try rw [va_self]); (try rw [va_self]); (try rw [va_self]); exact k2 (by omega) _ (fun r x y z => by (repeat (first | rw [va_un _ _ _ x] | rw [va_un _ _ _ y] | rw [va_un _ _ _ z] | rfl))) rfl rfl)
                    · rw [zi_eq (by omega) (by omega) (by omega) (by omega)] at c108
                      exact absurd c108 (by omega)
                  · rw [zi_eq0 (by omega) (by omega)] at c91
                    exact absurd c91 (by omega)
                · rw [zi_eq (by omega) (by omega) (by omega) (by omega)] at c74
                  exact absurd c74 (by omega)
              · rw [zi_eq0 (by omega) (by omega)] at c62
                exact absurd c62 (by omega)
            · rw [in_0] at c56
              refine x_iconst (q := 60) (v := zi (-1)) d_74_59 rfl rfl ?_
              refine x_iret d_74_60 rfl rfl ?_
              first
                | (exact kb (by omega) (by omega) (by omega))
                | ((try rw [va_self]); (try rw [va_self]); (try rw [va_self]); exact k2 (by omega) _ (fun r x y z => by (repeat (first | rw [va_un _ _ _ x] | rw [va_un _ _ _ y] | rw [va_un _ _ _ z] | rfl))) rfl rfl)
          · rw [zi_eq (by omega) (by omega) (by omega) (by omega)] at c43
            exact absurd c43 (by omega)
        · rw [zi_eq0 (by omega) (by omega)] at c32
          exact absurd c32 (by omega)
      · rw [zi_eq (by omega) (by omega) (by omega) (by omega)] at c21
        exact absurd c21 (by omega)
  refine xild_1 (q := 6) d_74_5 rfl ?_
  refine z_i2l (by omega) (by omega) (q := 7) d_74_6 rfl ?_
  refine x_lconst (q := 8) (v := zl (0)) d_74_7 rfl rfl ?_
  refine x_ldc2 (q := 11) (v := zl (2)) d_74_8 rfl kc_M_167 ?_
  refine z_in (by omega) (by omega) (by omega) (by omega) (by omega) (by omega) (q := 14) d_74_11 rfl lk_M_79 ⟨by decide +kernel, by decide +kernel⟩ (by simp [Value.category]) ?_
  refine x_if_eq (q := 17) (t := 59) d_74_14 (by decide) rfl (fun c14 => ?_) (fun c14 => ?_)
  · rw [in_0] at c14
    refine x_iconst (q := 60) (v := zi (-1)) d_74_59 rfl rfl ?_
    refine x_iret d_74_60 rfl rfl ?_
    exact kb (by omega) (by omega) (by omega)
  · rw [in_0] at c14
    exact absurd c14 (by omega)
theorem keep_get (rm : Nat → Int) : ∀ n u, u < (keepL rm n).length → (keepL rm n).getD u 0 < n
  | 0, u, h => absurd h (Nat.not_lt_zero _)
  | n + 1, u, h => by
    have ih := keep_get rm n
    unfold keepL at h ⊢
    split
    next q =>
      rw [if_pos q, List.length_append] at h
      rcases Nat.lt_or_ge u (keepL rm n).length with q2 | q2
      · have e : (keepL rm n ++ [n]).getD u 0 = (keepL rm n).getD u 0 := by rw [List.getD_eq_getElem?_getD, List.getElem?_append_left q2, List.getD_eq_getElem?_getD]
        rw [e]
        have := ih u q2
        omega
      · have e0 : u = (keepL rm n).length := by simp at h; omega
        have e : (keepL rm n ++ [n]).getD u 0 = n := by rw [e0, List.getD_eq_getElem?_getD, List.getElem?_append_right (Nat.le_refl _), Nat.sub_self]; rfl
        rw [e]
        omega
    next q =>
      rw [if_neg q] at h
      have := ih u h
      omega
/-- the state of clean's first loop: u vectors kept out of the first j -/
def CL (G0 G : Nat → Nat → Int) (L : List Nat) : Prop := (∀ r, r ≠ 0 → r ≠ 1 → G r = G0 r) ∧ (∀ u, u < L.length → (∀ q, q < 8 → G 0 (8 * u + q) = G0 0 (8 * L.getD u 0 + q)) ∧ G 1 u = G0 1 (L.getD u 0)) ∧ (∀ p, 8 * L.length ≤ p → G 0 p = G0 0 p) ∧ (∀ x, L.length ≤ x → G 1 x = G0 1 x) ∧ (∀ p, p < 808 → -100 ≤ G 0 p ∧ G 0 p ≤ 100) ∧ ∀ x, x < 100 → G 1 x = 0 ∨ G 1 x = 1
theorem CL.push {G0 G G1 : Nat → Nat → Int} {L : List Nat} {j : Nat} (h : CL G0 G L) (hj : j < 100) (hl : L.length ≤ j) (a1 : ∀ r, r ≠ 0 → G1 r = G r) (a2 : ∀ p, p < 8 * L.length ∨ 8 * L.length + 8 ≤ p → G1 0 p = G 0 p) (a3 : ∀ q, q < 8 → G1 0 (8 * L.length + q) = G 0 (8 * j + q)) : CL G0 (va_up G1 1 (va_up (G1 1) L.length (G 1 j))) (L ++ [j]) := by
  obtain ⟨h1, h2, h3, h4, h5, h6⟩ := h
  have hlen : (L ++ [j]).length = L.length + 1 := by rw [List.length_append]; rfl
  refine ⟨fun r a b => by rw [va_un _ _ _ b, a1 r a]; exact h1 r a b, fun u hu => ?_, fun p hp => ?_, fun x hx => ?_, fun p hp => ?_, fun x hx => ?_⟩
  · rw [va_us, va_un _ _ _ (by decide)]
    rw [hlen] at hu
    rcases Nat.lt_or_ge u L.length with q2 | q2
    · have e : (L ++ [j]).getD u 0 = L.getD u 0 := by rw [List.getD_eq_getElem?_getD, List.getElem?_append_left q2, List.getD_eq_getElem?_getD]
      rw [e]
      refine ⟨fun q hq => by rw [a2 _ (by omega)]; exact (h2 u q2).1 q hq, ?_⟩
      rw [va_un _ _ _ (by omega), a1 1 (by decide)]
      exact (h2 u q2).2
    · have e0 : u = L.length := by omega
      have e : (L ++ [j]).getD u 0 = j := by rw [e0, List.getD_eq_getElem?_getD, List.getElem?_append_right (Nat.le_refl _), Nat.sub_self]; rfl
      rw [e, e0]
      refine ⟨fun q hq => by rw [a3 q hq]; exact h3 _ (by omega), ?_⟩
      rw [va_us]
      exact h4 j hl
  · rw [hlen] at hp
    rw [va_un _ _ _ (by decide), a2 p (by omega)]
    exact h3 p (by omega)
  · rw [hlen] at hx
    rw [va_us, va_un _ _ _ (by omega), a1 1 (by decide)]
    exact h4 x (by omega)
  · rw [va_un _ _ _ (by decide)]
    by_cases q : p < 8 * L.length ∨ 8 * L.length + 8 ≤ p
    · rw [a2 p q]; exact h5 p hp
    · obtain ⟨t, ht, rfl⟩ : ∃ t, t < 8 ∧ p = 8 * L.length + t := ⟨p - 8 * L.length, by omega, by omega⟩
      rw [a3 t ht]
      exact h5 _ (by omega)
  · rw [va_us]
    by_cases e : x = L.length
    · rw [e, va_us]; exact h6 j hj
    · rw [va_un _ _ _ e, a1 1 (by decide)]; exact h6 x hx

set_option maxHeartbeats 2000000 in
theorem lt_clean {sc : ax_S} {σ : Nat → ax_C} {J : Nat → Int} {G0 : Nat → Nat → Int} {n bc bs : Nat} {K : ax_K} (hn : 38 ≤ n) {P N M : Nat} (hT0 : TW J G0 P N M)
    (kk : ∀ (G : Nat → Nat → Int) (t : Option Value), CL G0 G (keepL (G0 2) N) → Ex sc 73 53 [some (.ref 22), some (.int (zi (keepL (G0 2) N).length)), t, none] [] (mg σ J G, n, bc, bs) K) :
    ∀ (d j : Nat) (G : Nat → Nat → Int), j + d = N → CL G0 G (keepL (G0 2) j) → Ex sc 73 9 [some (.ref 22), some (.int (zi (keepL (G0 2) j).length)), some (.int (zi j)), none] [] (mg σ J G, n, bc, bs) K := by
  obtain ⟨hP, hP1, hP2, hN, hN2, hM, hM2, hv, hbr, hrm⟩ := id hT0
  intro d
  induction d with
  | zero =>
    intro j G hj h
    have hj1 : j = N := by omega
    subst hj1
    refine xild_2 (q := 10) d_73_9 rfl ?_
    refine xald_0 (q := 11) d_73_10 rfl ?_
    refine yg_count hn (q := 14) d_73_11 rfl fl_M_76 ?_
    refine x_icmp_ge (q := 17) (t := 53) d_73_14 (by decide) rfl (fun c14 => ?_) (fun c14 => ?_)
    · rw [zi_le (by omega) (by omega) (by omega) (by omega)] at c14
      exact kk G _ h
    · rw [zi_le (by omega) (by omega) (by omega) (by omega)] at c14
      exact absurd c14 (by omega)
  | succ d ih =>
    intro j G hj h
    have hkb := keep_b (G0 2) j
    have e2 : G 2 = G0 2 := h.1 2 (by decide) (by decide)
    have h2j := hrm j (by omega)
    refine xild_2 (q := 10) d_73_9 rfl ?_
    refine xald_0 (q := 11) d_73_10 rfl ?_
    refine yg_count hn (q := 14) d_73_11 rfl fl_M_76 ?_
    refine x_icmp_ge (q := 17) (t := 53) d_73_14 (by decide) rfl (fun c14 => ?_) (fun c14 => ?_)
    · rw [zi_le (by omega) (by omega) (by omega) (by omega)] at c14
      exact absurd c14 (by omega)
    · rw [zi_le (by omega) (by omega) (by omega) (by omega)] at c14
      refine xald_0 (q := 18) d_73_17 rfl ?_
      refine yg_removed hn (q := 21) d_73_18 rfl fl_M_27 ?_
      refine xild_2 (q := 22) d_73_21 rfl ?_
      refine yl_removed (q := 23) hn d_73_22 rfl (by omega) (by omega) ?_
      refine x_if_ne (q := 26) (t := 47) d_73_23 (by decide) rfl (fun c23 => ?_) (fun c23 => ?_)
      · rw [show ((j : Int)).toNat = j by omega, e2, zi_eq0 (by omega) (by omega)] at c23
        refine xincz_2 (q := 50) d_73_47 rfl ?_
        refine x_goto (t := 9) d_73_50 (by decide) ?_
        rw [show (j : Int) + 1 = ((j + 1 : Nat) : Int) by omega]
        first
          | (have ek : (keepL (G0 2) (j + 1)) = (keepL (G0 2) j) ++ [j] := (if_pos c23); have el : ((keepL (G0 2) j).length : Int) + 1 = (((keepL (G0 2) j) ++ [j]).length : Int) := (by rw [List.length_append]; rfl); rw [el, show ((j : Int)).toNat = j by omega, show (((keepL (G0 2) j).length : Int)).toNat = (keepL (G0 2) j).length by omega, a1 1 (by decide), ← a1 1 (by decide)]; have hp := h.push (by omega) hkb a1 a2 a3; rw [← a1 1 (by decide)] at hp; rw [← ek] at hp ⊢; exact ih (j + 1) _ (by omega) hp)
          | (have ek : (keepL (G0 2) (j + 1)) = (keepL (G0 2) j) := (if_neg c23); have ih := ih (j + 1) G (by omega); rw [ek] at ih; exact ih h)
      · rw [show ((j : Int)).toNat = j by omega, e2, zi_eq0 (by omega) (by omega)] at c23
        refine xald_0 (q := 27) d_73_26 rfl ?_
        refine xild_2 (q := 28) d_73_27 rfl ?_
        refine xild_1 (q := 29) d_73_28 rfl ?_
        refine xcV2 (q := 32) d_73_29 rfl lk_M_157 mo_68 ⟨by decide +kernel, by decide +kernel⟩ (by simp [Value.category]) (by decide +kernel) (by simp [Value.category]) (by omega) rfl ?_
        refine t_copy (a := j) (b := (keepL (G0 2) j).length) hn (by omega) (by omega) ?_
        intro G1 a1 a2 a3
        dsimp only [ax_ps]
        refine xald_0 (q := 33) d_73_32 rfl ?_
        refine yg_barred hn (q := 36) d_73_33 rfl fl_M_23 ?_
        refine xild_1 (q := 37) d_73_36 rfl ?_
        refine xald_0 (q := 38) d_73_37 rfl ?_
        refine yg_barred hn (q := 41) d_73_38 rfl fl_M_23 ?_
        refine xild_2 (q := 42) d_73_41 rfl ?_
        refine yl_barred (q := 43) hn d_73_42 rfl (by omega) (by omega) ?_
        refine ys_barred (q := 44) hn (by rw [show ((j : Int)).toNat = j by omega, a1 1 (by decide)]; exact h.2.2.2.2.2 j (by omega)) d_73_43 rfl (by omega) (by omega) ?_
        refine xincz_1 (q := 47) d_73_44 rfl ?_
        refine xincz_2 (q := 50) d_73_47 rfl ?_
        refine x_goto (t := 9) d_73_50 (by decide) ?_
        rw [show (j : Int) + 1 = ((j + 1 : Nat) : Int) by omega]
        first
          | (have ek : (keepL (G0 2) (j + 1)) = (keepL (G0 2) j) ++ [j] := (if_pos c23); have el : ((keepL (G0 2) j).length : Int) + 1 = (((keepL (G0 2) j) ++ [j]).length : Int) := (by rw [List.length_append]; rfl); rw [el, show ((j : Int)).toNat = j by omega, show (((keepL (G0 2) j).length : Int)).toNat = (keepL (G0 2) j).length by omega, a1 1 (by decide), ← a1 1 (by decide)]; have hp := h.push (by omega) hkb a1 a2 a3; rw [← a1 1 (by decide)] at hp; rw [← ek] at hp ⊢; exact ih (j + 1) _ (by omega) hp)
          | (have ek : (keepL (G0 2) (j + 1)) = (keepL (G0 2) j) := (if_neg c23); have ih := ih (j + 1) G (by omega); rw [ek] at ih; exact ih h)
set_option maxHeartbeats 2000000 in
theorem lt_cleanR {sc : ax_S} {σ : Nat → ax_C} {J : Nat → Int} {G0 : Nat → Nat → Int} {n bc bs : Nat} {K : ax_K} (hn : 38 ≤ n) {t1 t2 : Option Value} (kk : ∀ (G : Nat → Nat → Int) (t : Option Value), (∀ r, r ≠ 2 → G r = G0 r) → (∀ x, x < 100 → G 2 x = 0) → Ex sc 73 86 [some (.ref 22), t1, t2, t] [] (mg σ J G, n, bc, bs) K) :
    ∀ (d j : Nat) (G : Nat → Nat → Int), j + d = 100 → (∀ r, r ≠ 2 → G r = G0 r) → (∀ x, x < j → G 2 x = 0) → Ex sc 73 67 [some (.ref 22), t1, t2, some (.int (zi j))] [] (mg σ J G, n, bc, bs) K := by
  intro d
  induction d with
  | zero =>
    intro j G hj hG h
    have hj1 : j = 100 := by omega
    subst hj1
    refine xild_3 (q := 68) d_73_67 rfl ?_
    refine x_bipush (q := 70) (v := zi (100)) d_73_68 rfl (by decide) ?_
    refine x_icmp_ge (q := 73) (t := 86) d_73_70 (by decide) rfl (fun c70 => ?_) (fun c70 => ?_)
    · rw [zi_le (by omega) (by omega) (by omega) (by omega)] at c70
      exact kk G _ hG h
    · rw [zi_le (by omega) (by omega) (by omega) (by omega)] at c70
      exact absurd c70 (by omega)
  | succ d ih =>
    intro j G hj hG h
    refine xild_3 (q := 68) d_73_67 rfl ?_
    refine x_bipush (q := 70) (v := zi (100)) d_73_68 rfl (by decide) ?_
    refine x_icmp_ge (q := 73) (t := 86) d_73_70 (by decide) rfl (fun c70 => ?_) (fun c70 => ?_)
    · rw [zi_le (by omega) (by omega) (by omega) (by omega)] at c70
      exact absurd c70 (by omega)
    · rw [zi_le (by omega) (by omega) (by omega) (by omega)] at c70
      refine xald_0 (q := 74) d_73_73 rfl ?_
      refine yg_removed hn (q := 77) d_73_74 rfl fl_M_27 ?_
      refine xild_3 (q := 78) d_73_77 rfl ?_
      refine x_iconst (q := 79) (v := zi (0)) d_73_78 rfl rfl ?_
      refine ys_removed (q := 80) hn (Or.inl rfl) d_73_79 rfl (by omega) (by omega) ?_
      refine xincz_3 (q := 83) d_73_80 rfl ?_
      refine x_goto (t := 67) d_73_83 (by decide) ?_
      rw [show (j : Int) + 1 = ((j + 1 : Nat) : Int) by omega, show ((j : Int)).toNat = j by omega]
      refine ih (j + 1) _ (by omega) (fun r hr => by rw [va_un _ _ _ hr]; exact hG r hr) (fun x hx => ?_)
      rw [va_us]
      by_cases e : x = j
      · rw [e, va_us]
      · rw [va_un _ _ _ e]; exact h x (by omega)
set_option maxHeartbeats 2000000 in
theorem t_clean {sc : ax_S} {σ : Nat → ax_C} {J : Nat → Int} {G : Nat → Nat → Int} {n bc bs : Nat} {K : ax_K} (hn : 38 ≤ n) {P N M : Nat} (hT : TW J G P N M)
    (k : ∀ (J' : Nat → Int) (G' : Nat → Nat → Int), (∀ r, r ≠ 0 → r ≠ 7 → r ≠ 11 → r ≠ 13 → J' r = J r) → J' 11 = 0 → J' 13 = 1 → TW J' G' P (keepL (G 2) N).length M → (∀ u, u < (keepL (G 2) N).length → (∀ q, q < P → tv G' u q = tv G ((keepL (G 2) N).getD u 0) q) ∧ G' 1 u = G 1 ((keepL (G 2) N).getD u 0) ∧ G' 2 u = 0) → (∀ q, q < P → tv G' 100 q = tv G 100 q) → K (some (.int (zi (N - (keepL (G 2) N).length)))) (mg σ J' G', n, bc, bs)) : Ex sc 73 0 (ax_en 73 [.ref 22]) [] (mg σ J G, n, bc, bs) K := by
  obtain ⟨hP, hP1, hP2, hN, hN2, hM, hM2, hv, hbr, hrm⟩ := id hT
  have hkb := keep_b (G 2) N
  show Ex sc 73 0 [some (.ref 22), none, none, none] [] (mg σ J G, n, bc, bs) K
  refine xald_0 (q := 1) d_73_0 rfl ?_
  refine x_iconst (q := 2) (v := zi (0)) d_73_1 rfl rfl ?_
  refine yp_thrown hn (q := 5) d_73_2 rfl fw_M_1 ?_
  refine x_iconst (q := 6) (v := zi (0)) d_73_5 rfl rfl ?_
  refine xist_1 (q := 7) d_73_6 rfl ?_
  refine x_iconst (q := 8) (v := zi (0)) d_73_7 rfl rfl ?_
  refine xist_2 (q := 9) d_73_8 rfl ?_
  refine lt_clean (J := (va_up J 0 0)) (G0 := G) hn (hT.same rfl rfl rfl rfl rfl rfl) ?_ N 0 G (by omega) ⟨fun _ _ _ => rfl, fun u hu => absurd hu (Nat.not_lt_zero _), fun _ _ => rfl, fun _ _ => rfl, hv, hbr⟩
  intro G1 t h1
  refine xald_0 (q := 54) d_73_53 rfl ?_
  refine yg_count hn (q := 57) d_73_54 rfl fl_M_76 ?_
  refine xild_1 (q := 58) d_73_57 rfl ?_
  refine z_isub (q := 59) d_73_58 rfl ?_
  refine xist_2 (q := 60) d_73_59 rfl ?_
  refine xald_0 (q := 61) d_73_60 rfl ?_
  refine xild_1 (q := 62) d_73_61 rfl ?_
  refine yp_count hn (q := 65) d_73_62 rfl fw_M_76 ?_
  refine x_iconst (q := 66) (v := zi (0)) d_73_65 rfl rfl ?_
  refine xist_3 (q := 67) d_73_66 rfl ?_
  refine lt_cleanR (G0 := G1) hn ?_ 100 0 G1 (by omega) (fun _ _ => rfl) (fun x hx => absurd hx (Nat.not_lt_zero _))
  intro G2 t g2 g22
  refine xald_0 (q := 87) d_73_86 rfl ?_
  refine x_iconst (q := 88) (v := zi (0)) d_73_87 rfl rfl ?_
  refine yp_toldCount hn (q := 91) d_73_88 rfl fw_M_164 ?_
  refine xald_0 (q := 92) d_73_91 rfl ?_
  refine x_iconst (q := 93) (v := zi (1)) d_73_92 rfl rfl ?_
  refine yp_stale hn (Or.inr rfl) (q := 96) d_73_93 rfl fw_M_139 ?_
  refine xild_2 (q := 97) d_73_96 rfl ?_
  refine x_iret d_73_97 rfl rfl ?_
  rw [show (va_up J 0 0) 7 = (N : Int) from hN]
  refine k _ G2 (fun r a b c d => by rw [va_un _ _ _ d, va_un _ _ _ c, va_un _ _ _ b, va_un _ _ _ a]) rfl rfl ⟨hP, hP1, hP2, rfl, by omega, hM, hM2, fun p hp => ?_, fun x hx => ?_, fun x hx => Or.inl (g22 x hx)⟩ (fun u hu => ⟨fun q hq => ?_, ?_, g22 u (by omega)⟩) (fun q hq => ?_)
  · rw [g2 0 (by decide)]; exact h1.2.2.2.2.1 p hp
  · rw [g2 1 (by decide)]; exact h1.2.2.2.2.2 x hx
  · unfold tv; rw [g2 0 (by decide)]; exact (h1.2.1 u hu).1 q (by omega)
  · rw [g2 1 (by decide)]; exact (h1.2.1 u hu).2
  · unfold tv; rw [g2 0 (by decide)]; exact h1.2.2.1 _ (by omega)
