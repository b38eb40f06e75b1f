/-! Graph: choose, writeRow -/
def fbW (w : Nat → Int) (P M a b : Nat) : Nat := (farW w P M 100 a b).toNat
theorem cut_get {L T : List Nat} (h : T.length ≤ L.length) {i : Nat} (hi : T.length ≤ i) : (T ++ L.drop T.length).getD i 0 = L.getD i 0 := by
  rw [List.getD_eq_getElem?_getD, List.getElem?_append_right hi, List.getElem?_drop, List.getD_eq_getElem?_getD]
  congr 2
  omega
theorem cut_getT {L T : List Nat} {i : Nat} (hi : i < T.length) : (T ++ L.drop T.length).getD i 0 = T.getD i 0 := by
  rw [List.getD_eq_getElem?_getD, List.getElem?_append_left hi, List.getD_eq_getElem?_getD]
theorem cut_len {L T : List Nat} (h : T.length ≤ L.length) : (T ++ L.drop T.length).length = L.length := by
  rw [List.length_append, List.length_drop]
  omega
theorem cut_set {L T : List Nat} (h : T.length < L.length) (v : Nat) : (T ++ L.drop T.length).set T.length v = (T ++ [v]) ++ L.drop (T ++ [v]).length := by
  rw [List.set_append_right _ _ (Nat.le_refl _), Nat.sub_self, List.append_assoc, List.length_append]
  congr 1
  rw [drop_get h]
  rfl

theorem ch_stop {sc : ax_S} {σ : Nat → ax_C} {I : Nat → Int} {F : Nat → Nat → Int} {n bc bs : Nat} {K : ax_K} (hn : 22 ≤ n) {r : Nat} {T : List Nat} {W kk : Nat} {car : Bool} (hcar : I 4 = if car = true then 1 else 0) {j : Nat} (k : Ex sc 29 86 [some (.ref 5), some (.ref (rkO r)), some (.int (zi W)), some (.int (zi T.length)), some (.int (zi kk)), some (.int (zi 0)), some (.int (zi j))] [] (vg σ I F, n, bc, bs) K) : Ex sc 29 25 [some (.ref 5), some (.ref (rkO r)), some (.int (zi W)), some (.int (zi T.length)), some (.int (zi kk)), some (.int (zi 0)), some (.int (zi j))] [] (vg σ I F, n, bc, bs) K := by
  have hca : I 4 = 0 ∨ I 4 = 1 := by rw [hcar]; split <;> omega
  refine xald_0 (q := 26) d_29_25 rfl ?_
  refine xg_G_careful hn (q := 29) d_29_26 rfl fl_G_25 ?_
  refine x_if_eq (q := 32) (t := 86) d_29_29 (by decide) rfl (fun c29 => ?_) (fun c29 => ?_)
  · rw [zi_eq0 (by omega) (by omega)] at c29
    exact k
  · rw [zi_eq0 (by omega) (by omega)] at c29
    refine xild_5 (q := 34) d_29_32 rfl ?_
    refine x_if_eq (q := 37) (t := 86) d_29_34 (by decide) rfl (fun c34 => ?_) (fun c34 => ?_)
    · exact k
    · exact absurd c34 (by decide)
set_option maxHeartbeats 2000000 in
theorem lq_chIn {sc : ax_S} {σ : Nat → ax_C} {I : Nat → Int} {F : Nat → Nat → Int} {n bc bs : Nat} {K : ax_K} (hn : 22 ≤ n) {P N M : Nat} (hV : VW I F P N M) {w : Nat → Int} (hw : F 2 = w) {r : Nat} (hr : r < 6) {L T : List Nat} {W kk : Nat} {car : Bool} (hcar : I 4 = if car = true then 1 else 0) (hL : RK r I F (T ++ L.drop T.length)) (hT : T.length ≤ kk) (hkk : kk < L.length)
    (k : ∀ (b : Int) (j : Nat), (b = if car = false ∨ ∀ y ∈ T, L.getD kk 0 / 100 < fbW w P M (L.getD kk 0 % 100) (y % 100) then 1 else 0) → Ex sc 29 86 [some (.ref 5), some (.ref (rkO r)), some (.int (zi W)), some (.int (zi T.length)), some (.int (zi kk)), some (.int (zi b)), some (.int (zi j))] [] (vg σ I F, n, bc, bs) K) :
    ∀ (d j : Nat), j + d = T.length → (∀ i, i < j → (L.getD kk 0 / 100 < fbW w P M (L.getD kk 0 % 100) (T.getD i 0 % 100))) → Ex sc 29 25 [some (.ref 5), some (.ref (rkO r)), some (.int (zi W)), some (.int (zi T.length)), some (.int (zi kk)), some (.int (zi 1)), some (.int (zi j))] [] (vg σ I F, n, bc, bs) K := by
  have hln := cut_len (L := L) (T := T) (by omega)
  have hcp := hL.2.1
  have hc2 := rkC_le r
  have hca : I 4 = 0 ∨ I 4 = 1 := by rw [hcar]; split <;> omega
  intro d
  induction d with
  | zero =>
    intro j hj hall
    have hb : (1 : Int) = if car = false ∨ ∀ y ∈ T, L.getD kk 0 / 100 < fbW w P M (L.getD kk 0 % 100) (y % 100) then 1 else 0 := by
      rw [if_pos]
      right
      intro y hy
      obtain ⟨i, hi, rfl⟩ := List.getElem_of_mem hy
      have := hall i (by omega)
      rwa [List.getD_eq_getElem?_getD (l := T), List.getElem?_eq_getElem hi] at this
    refine xald_0 (q := 26) d_29_25 rfl ?_
    refine xg_G_careful hn (q := 29) d_29_26 rfl fl_G_25 ?_
    refine x_if_eq (q := 32) (t := 86) d_29_29 (by decide) rfl (fun c29 => ?_) (fun c29 => ?_)
    · rw [zi_eq0 (by omega) (by omega)] at c29
      exact k 1 j hb
    · rw [zi_eq0 (by omega) (by omega)] at c29
      refine xild_5 (q := 34) d_29_32 rfl ?_
      refine x_if_eq (q := 37) (t := 86) d_29_34 (by decide) rfl (fun c34 => ?_) (fun c34 => ?_)
      · rw [zi_eq0 (by omega) (by omega)] at c34
        exact k 1 j hb
      · rw [zi_eq0 (by omega) (by omega)] at c34
        refine xild_6 (q := 39) d_29_37 rfl ?_
        refine xild_3 (q := 40) d_29_39 rfl ?_
        refine x_icmp_ge (q := 43) (t := 86) d_29_40 (by decide) rfl (fun c40 => ?_) (fun c40 => ?_)
        · rw [zi_le (by omega) (by omega) (by omega) (by omega)] at c40
          exact k 1 j hb
        · rw [zi_le (by omega) (by omega) (by omega) (by omega)] at c40
          exact absurd c40 (by omega)
  | succ d ih =>
    intro j hj hall
    have ek : (T ++ L.drop T.length).getD kk 0 = L.getD kk 0 := cut_get (by omega) hT
    have ej : (T ++ L.drop T.length).getD j 0 = T.getD j 0 := cut_getT (by omega)
    have hx : L.getD kk 0 < 40000000 := by rw [← ek]; exact hL.2.2.2 _ (gd_mem (by omega))
    have ef : rkFar (T ++ L.drop T.length) kk = ((L.getD kk 0 / 100 : Nat) : Int) := by unfold rkFar; rw [if_pos (by omega), show ((kk : Int)).toNat = kk by omega, ek]
    have en1 : rkNum (T ++ L.drop T.length) kk = ((L.getD kk 0 % 100 : Nat) : Int) := by unfold rkNum; rw [if_pos (by omega), show ((kk : Int)).toNat = kk by omega, ek]
    have en2 : rkNum (T ++ L.drop T.length) j = ((T.getD j 0 % 100 : Nat) : Int) := by unfold rkNum; rw [if_pos (by omega), show ((j : Int)).toNat = j by omega, ej]
    have hfb := hV.far (q := 100) (a := L.getD kk 0 % 100) (b := T.getD j 0 % 100) (by omega) (by omega) (by omega)
    rw [farV_w hw] at hfb
    refine xald_0 (q := 26) d_29_25 rfl ?_
    refine xg_G_careful hn (q := 29) d_29_26 rfl fl_G_25 ?_
    refine x_if_eq (q := 32) (t := 86) d_29_29 (by decide) rfl (fun c29 => ?_) (fun c29 => ?_)
    · rw [zi_eq0 (by omega) (by omega)] at c29
      first
        | (exact absurd c34 (by decide))
        | (exact absurd c40 (by omega))
        | (have hcf : car = false := (by cases car with | false => rfl | true => (rw [if_pos rfl] at hcar; omega)); exact k 1 j (by rw [if_pos (Or.inl hcf)]))
    · rw [zi_eq0 (by omega) (by omega)] at c29
      refine xild_5 (q := 34) d_29_32 rfl ?_
      refine x_if_eq (q := 37) (t := 86) d_29_34 (by decide) rfl (fun c34 => ?_) (fun c34 => ?_)
      · rw [zi_eq0 (by omega) (by omega)] at c34
        first
          | (exact absurd c34 (by decide))
          | (exact absurd c40 (by omega))
          | (have hcf : car = false := (by cases car with | false => rfl | true => (rw [if_pos rfl] at hcar; omega)); exact k 1 j (by rw [if_pos (Or.inl hcf)]))
      · rw [zi_eq0 (by omega) (by omega)] at c34
        refine xild_6 (q := 39) d_29_37 rfl ?_
        refine xild_3 (q := 40) d_29_39 rfl ?_
        refine x_icmp_ge (q := 43) (t := 86) d_29_40 (by decide) rfl (fun c40 => ?_) (fun c40 => ?_)
        · rw [zi_le (by omega) (by omega) (by omega) (by omega)] at c40
          first
            | (exact absurd c34 (by decide))
            | (exact absurd c40 (by omega))
            | (have hcf : car = false := (by cases car with | false => rfl | true => (rw [if_pos rfl] at hcar; omega)); exact k 1 j (by rw [if_pos (Or.inl hcf)]))
        · rw [zi_le (by omega) (by omega) (by omega) (by omega)] at c40
          refine xald_1 (q := 44) d_29_43 rfl ?_
          refine xild_4 (q := 46) d_29_44 rfl ?_
          refine xcV1 (q := 49) d_29_46 rfl lk_G_138 mo_22 ⟨by decide +kernel, by decide +kernel⟩ (by simp [Value.category]) (by decide +kernel) (by simp [Value.category]) (rk_lt hr hn).1 (vg_rk hr) ?_
          refine c_farAt hn hr hL (i := (kk : Int)) (by omega) ?_
          dsimp only [ax_ps]
          rw [ef]
          refine xald_0 (q := 50) d_29_49 rfl ?_
          refine xg_G_vectors hn (q := 53) d_29_50 rfl fl_G_11 ?_
          refine xald_1 (q := 54) d_29_53 rfl ?_
          refine xild_4 (q := 56) d_29_54 rfl ?_
          refine xcV1 (q := 59) d_29_56 rfl lk_G_110 mo_21 ⟨by decide +kernel, by decide +kernel⟩ (by simp [Value.category]) (by decide +kernel) (by simp [Value.category]) (rk_lt hr hn).1 (vg_rk hr) ?_
          refine c_numberAt hn hr hL (i := (kk : Int)) (by omega) ?_
          dsimp only [ax_ps]
          rw [en1]
          refine xald_1 (q := 60) d_29_59 rfl ?_
          refine xild_6 (q := 62) d_29_60 rfl ?_
          refine xcV1 (q := 65) d_29_62 rfl lk_G_110 mo_21 ⟨by decide +kernel, by decide +kernel⟩ (by simp [Value.category]) (by decide +kernel) (by simp [Value.category]) (rk_lt hr hn).1 (vg_rk hr) ?_
          refine c_numberAt hn hr hL (i := (j : Int)) (by omega) ?_
          dsimp only [ax_ps]
          rw [en2]
          refine x_bipush (q := 67) (v := zi (100)) d_29_65 rfl (by decide) ?_
          refine xcV3 (q := 70) d_29_67 rfl lk_G_128 mo_17 ⟨by decide +kernel, by decide +kernel⟩ (by simp [Value.category]) (by decide +kernel) (by simp [Value.category]) (by omega) rfl ?_
          refine c_apart hn hV (a := L.getD kk 0 % 100) (b := T.getD j 0 % 100) (q := 100) (by omega) (by omega) (by omega) ?_
          dsimp only [ax_ps]
          rw [farV_w hw, show farW w P M 100 (L.getD kk 0 % 100) (T.getD j 0 % 100) = ((fbW w P M (L.getD kk 0 % 100) (T.getD j 0 % 100) : Nat) : Int) by unfold fbW; omega]
          have hfb2 : fbW w P M (L.getD kk 0 % 100) (T.getD j 0 % 100) ≤ 320000 := by unfold fbW; omega
          refine x_icmp_ge (q := 73) (t := 77) d_29_70 (by decide) rfl (fun c70 => ?_) (fun c70 => ?_)
          · rw [zi_le (by omega) (by omega) (by omega) (by omega)] at c70
            refine x_iconst (q := 78) (v := zi (0)) d_29_77 rfl rfl ?_
            refine xist_5 (q := 80) d_29_78 rfl ?_
            refine xincz_6 (q := 83) d_29_80 rfl ?_
            refine x_goto (t := 25) d_29_83 (by decide) ?_
            rw [show (j : Int) + 1 = ((j + 1 : Nat) : Int) by omega]
            first
              | (refine ih (j + 1) (by omega) (fun i hi => ?_); rcases Nat.lt_or_ge i j with h | h; exact hall i h; rw [show i = j by omega]; omega)
              | (skip; refine ch_stop (σ := σ) hn hcar ?_; refine k 0 (j + 1) ?_; rw [if_neg]; intro hc; rcases hc with hc | hc; rw [hc] at hcar; simp at hcar; omega; have h5 := hc (T.getD j 0) (gd_mem (by omega)); omega)
          · rw [zi_le (by omega) (by omega) (by omega) (by omega)] at c70
            refine x_iconst (q := 74) (v := zi (1)) d_29_73 rfl rfl ?_
            refine x_goto (t := 78) d_29_74 (by decide) ?_
            refine xist_5 (q := 80) d_29_78 rfl ?_
            refine xincz_6 (q := 83) d_29_80 rfl ?_
            refine x_goto (t := 25) d_29_83 (by decide) ?_
            rw [show (j : Int) + 1 = ((j + 1 : Nat) : Int) by omega]
            first
              | (refine ih (j + 1) (by omega) (fun i hi => ?_); rcases Nat.lt_or_ge i j with h | h; exact hall i h; rw [show i = j by omega]; omega)
              | (skip; refine ch_stop (σ := σ) hn hcar ?_; refine k 0 (j + 1) ?_; rw [if_neg]; intro hc; rcases hc with hc | hc; rw [hc] at hcar; simp at hcar; omega; have h5 := hc (T.getD j 0) (gd_mem (by omega)); omega)
set_option maxHeartbeats 2000000 in
theorem lq_choose {sc : ax_S} {σ : Nat → ax_C} {I : Nat → Int} {F0 : Nat → Nat → Int} {n bc bs : Nat} {K : ax_K} (hn : 22 ≤ n) {P N M : Nat} (hV0 : VW I F0 P N M) {w : Nat → Int} (hw0 : F0 2 = w) {r : Nat} (hr : r < 6) {L : List Nat} {W : Nat} (hW : W ≤ 100) {car : Bool} (hcar : I 4 = if car = true then 1 else 0) {R : List Nat}
    (k : ∀ I' F', RK r I' F' R → OffI r I I' → OffF r F0 F' → K none (vg σ I' F', n, bc, bs)) :
    ∀ (d kk : Nat) (T : List Nat) (F : Nat → Nat → Int) (t5 t6 : Option Value), kk + d = L.length → T.length ≤ kk → RK r I F (T ++ L.drop T.length) → OffF r F0 F → R = mChoose (fbW w P M) car W (L.drop kk) T → Ex sc 29 5 [some (.ref 5), some (.ref (rkO r)), some (.int (zi W)), some (.int (zi T.length)), some (.int (zi kk)), t5, t6] [] (vg σ I F, n, bc, bs) K := by
  have hc2 := rkC_le r
  have fin : ∀ (T : List Nat) (F : Nat → Nat → Int) (kk : Nat) (t5 t6 : Option Value), T.length ≤ L.length → RK r I F (T ++ L.drop T.length) → OffF r F0 F → R = T → Ex sc 29 107 [some (.ref 5), some (.ref (rkO r)), some (.int (zi W)), some (.int (zi T.length)), some (.int (zi kk)), t5, t6] [] (vg σ I F, n, bc, bs) K := by
    intro T F kk t5 t6 hT hL hF hR
    have hl1 := hL.2.1
    have hl2 := cut_len hT
    refine xald_1 (q := 108) d_29_107 rfl ?_
    refine xild_3 (q := 109) d_29_108 rfl ?_
    refine xcV1 (q := 112) d_29_109 rfl lk_G_144 mo_20 ⟨by decide +kernel, by decide +kernel⟩ (by simp [Value.category]) (by decide +kernel) (by simp [Value.category]) (rk_lt hr hn).1 (vg_rk hr) ?_
    refine c_cutTo hn hr hL (m := T.length) (by omega) ?_
    intro I2 hL2 hO2
    dsimp only [ax_ps]
    rw [List.take_left] at hL2
    refine x_vret d_29_112 rfl ?_
    rw [hR] at k
    exact k I2 F hL2 hO2 hF
  intro d
  induction d with
  | zero =>
    intro kk T F t5 t6 hk hT hL hF hR
    have hl2 := cut_len (L := L) (T := T) (by omega)
    have hs := hL.1
    have hcp := hL.2.1
    rw [show L.drop kk = [] from List.drop_of_length_le (by omega)] at hR
    refine xild_4 (q := 7) d_29_5 rfl ?_
    refine xald_1 (q := 8) d_29_7 rfl ?_
    refine xg_R_size hr hn (q := 11) d_29_8 rfl fl_G_135 ?_
    refine x_icmp_ge (q := 14) (t := 107) d_29_11 (by decide) rfl (fun c11 => ?_) (fun c11 => ?_)
    · rw [zi_le (by omega) (by omega) (by omega) (by omega)] at c11
      exact fin T F kk t5 t6 (by omega) hL hF hR
    · rw [zi_le (by omega) (by omega) (by omega) (by omega)] at c11
      exact absurd c11 (by omega)
  | succ d ih =>
    intro kk T F t5 t6 hk hT hL hF hR
    have hl2 := cut_len (L := L) (T := T) (by omega)
    have hs := hL.1
    have hcp := hL.2.1
    have hw : F 2 = w := (hF 2 (by omega)).trans hw0
    have hV : VW I F P N M := hV0.same rfl rfl rfl (hF 2 (by omega)) (hF 0 (by omega)) (hF 1 (by omega))
    have ek : (T ++ L.drop T.length).getD kk 0 = L.getD kk 0 := cut_get (by omega) hT
    rw [drop_get (show kk < L.length by omega)] at hR
    unfold mChoose at hR
    refine xild_4 (q := 7) d_29_5 rfl ?_
    refine xald_1 (q := 8) d_29_7 rfl ?_
    refine xg_R_size hr hn (q := 11) d_29_8 rfl fl_G_135 ?_
    refine x_icmp_ge (q := 14) (t := 107) d_29_11 (by decide) rfl (fun c11 => ?_) (fun c11 => ?_)
    · rw [zi_le (by omega) (by omega) (by omega) (by omega)] at c11
      first
        | (exact absurd c11 (by omega))
        | (rw [if_neg (by omega)] at hR; exact fin T F kk t5 t6 (by omega) hL hF hR)
    · rw [zi_le (by omega) (by omega) (by omega) (by omega)] at c11
      refine xild_3 (q := 15) d_29_14 rfl ?_
      refine xild_2 (q := 16) d_29_15 rfl ?_
      refine x_icmp_ge (q := 19) (t := 107) d_29_16 (by decide) rfl (fun c16 => ?_) (fun c16 => ?_)
      · rw [zi_le (by omega) (by omega) (by omega) (by omega)] at c16
        first
          | (exact absurd c11 (by omega))
          | (rw [if_neg (by omega)] at hR; exact fin T F kk t5 t6 (by omega) hL hF hR)
      · rw [zi_le (by omega) (by omega) (by omega) (by omega)] at c16
        refine x_iconst (q := 20) (v := zi (1)) d_29_19 rfl rfl ?_
        refine xist_5 (q := 22) d_29_20 rfl ?_
        refine x_iconst (q := 23) (v := zi (0)) d_29_22 rfl rfl ?_
        refine xist_6 (q := 25) d_29_23 rfl ?_
        rw [if_pos (by omega)] at hR
        refine lq_chIn hn hV hw hr hcar hL hT (by omega) ?_ T.length 0 (by omega) (fun i hi => absurd hi (Nat.not_lt_zero _))
        intro b j hb
        refine xild_5 (q := 88) d_29_86 rfl ?_
        refine x_if_eq (q := 91) (t := 101) d_29_88 (by decide) rfl (fun c88 => ?_) (fun c88 => ?_)
        · have hbb : b = 0 ∨ b = 1 := by rw [hb]; split <;> omega
          rw [zi_eq0 (by omega) (by omega)] at c88
          refine xincz_4 (q := 104) d_29_101 rfl ?_
          refine x_goto (t := 5) d_29_104 (by decide) ?_
          rw [show (kk : Int) + 1 = ((kk + 1 : Nat) : Int) by omega]
          first
            | (have hcnd : ¬ (car = false ∨ ∀ y ∈ T, L.getD kk 0 / 100 < fbW w P M (L.getD kk 0 % 100) (y % 100)) := (by intro h; rw [if_pos h] at hb; omega); rw [if_neg hcnd] at hR; exact ih (kk + 1) T F _ _ (by omega) (by omega) hL hF hR)
            | (have hcnd : car = false ∨ ∀ y ∈ T, L.getD kk 0 / 100 < fbW w P M (L.getD kk 0 % 100) (y % 100) := (by by_cases h : car = false ∨ ∀ y ∈ T, L.getD kk 0 / 100 < fbW w P M (L.getD kk 0 % 100) (y % 100); exact h; rw [if_neg h] at hb; omega); rw [if_pos hcnd] at hR; rw [show (T.length : Int) + 1 = (((T ++ [L.getD kk 0]).length : Nat) : Int) by rw [List.length_append]; rfl]; exact ih (kk + 1) (T ++ [L.getD kk 0]) F2 _ _ (by omega) (by rw [List.length_append]; simp; omega) hL2 (fun j hj => (hO2 j hj).trans (hF j hj)) hR)
        · have hbb : b = 0 ∨ b = 1 := by rw [hb]; split <;> omega
          rw [zi_eq0 (by omega) (by omega)] at c88
          refine xald_1 (q := 92) d_29_91 rfl ?_
          refine xild_4 (q := 94) d_29_92 rfl ?_
          refine xild_3 (q := 95) d_29_94 rfl ?_
          refine xcV2 (q := 98) d_29_95 rfl lk_G_141 mo_30 ⟨by decide +kernel, by decide +kernel⟩ (by simp [Value.category]) (by decide +kernel) (by simp [Value.category]) (rk_lt hr hn).1 (vg_rk hr) ?_
          refine c_moveUp hn hr hL (i := kk) (j := T.length) hT (by omega) ?_
          intro F2 hL2 hO2
          dsimp only [ax_ps]
          rw [ek, cut_set (by omega)] at hL2
          skip
          refine xincz_3 (q := 101) d_29_98 rfl ?_
          refine xincz_4 (q := 104) d_29_101 rfl ?_
          refine x_goto (t := 5) d_29_104 (by decide) ?_
          rw [show (kk : Int) + 1 = ((kk + 1 : Nat) : Int) by omega]
          first
            | (have hcnd : ¬ (car = false ∨ ∀ y ∈ T, L.getD kk 0 / 100 < fbW w P M (L.getD kk 0 % 100) (y % 100)) := (by intro h; rw [if_pos h] at hb; omega); rw [if_neg hcnd] at hR; exact ih (kk + 1) T F _ _ (by omega) (by omega) hL hF hR)
            | (have hcnd : car = false ∨ ∀ y ∈ T, L.getD kk 0 / 100 < fbW w P M (L.getD kk 0 % 100) (y % 100) := (by by_cases h : car = false ∨ ∀ y ∈ T, L.getD kk 0 / 100 < fbW w P M (L.getD kk 0 % 100) (y % 100); exact h; rw [if_neg h] at hb; omega); rw [if_pos hcnd] at hR; rw [show (T.length : Int) + 1 = (((T ++ [L.getD kk 0]).length : Nat) : Int) by rw [List.length_append]; rfl]; exact ih (kk + 1) (T ++ [L.getD kk 0]) F2 _ _ (by omega) (by rw [List.length_append]; simp; omega) hL2 (fun j hj => (hO2 j hj).trans (hF j hj)) hR)
set_option maxHeartbeats 2000000 in
theorem c_choose {sc : ax_S} {σ : Nat → ax_C} {I : Nat → Int} {F : Nat → Nat → Int} {n bc bs : Nat} {K : ax_K} (hn : 22 ≤ n) {P N M : Nat} (hV : VW I F P N M) {w : Nat → Int} (hw : F 2 = w) {r : Nat} (hr : r < 6) {L : List Nat} (hL : RK r I F L) {W : Nat} (hW : W ≤ 100) {car : Bool} (hcar : I 4 = if car = true then 1 else 0)
    (k : ∀ I' F', RK r I' F' (mChoose (fbW w P M) car W L []) → OffI r I I' → OffF r F F' → K none (vg σ I' F', n, bc, bs)) : Ex sc 29 0 (ax_en 29 [.ref 5, .ref (rkO r), .int (zi W)]) [] (vg σ I F, n, bc, bs) K := by
  show Ex sc 29 0 [some (.ref 5), some (.ref (rkO r)), some (.int (zi W)), none, none, none, none] [] (vg σ I F, n, bc, bs) K
  refine x_iconst (q := 1) (v := zi (0)) d_29_0 rfl rfl ?_
  refine xist_3 (q := 2) d_29_1 rfl ?_
  refine x_iconst (q := 3) (v := zi (0)) d_29_2 rfl rfl ?_
  refine xist_4 (q := 5) d_29_3 rfl ?_
  exact lq_choose hn hV hw hr hW hcar k L.length 0 [] F _ _ (by omega) (Nat.le_refl _) hL OffF.rf rfl
