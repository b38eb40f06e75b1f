/-! THE REFERENCE: brief, recall, reached -/
theorem mark_step {f : Nat → Int} {L : List Nat} {j x : Nat} (hj : j < L.length) (h : f x = if x ∈ (L.take j).map (· % 100) then 1 else 0) : va_up f (L.getD j 0 % 100) 1 x = if x ∈ (L.take (j + 1)).map (· % 100) then 1 else 0 := by
  have e : L.take (j + 1) = L.take j ++ [L.getD j 0] := by
    rw [List.take_succ, List.getElem?_eq_getElem hj, List.getD_eq_getElem?_getD, List.getElem?_eq_getElem hj]
    rfl
  rw [e, List.map_append, show [L.getD j 0].map (· % 100) = [L.getD j 0 % 100] from rfl]
  by_cases q : x = L.getD j 0 % 100
  · rw [q, va_us, if_pos (List.mem_append.mpr (Or.inr (List.mem_singleton.mpr rfl)))]
  · rw [va_un _ _ _ q, h]
    by_cases q2 : x ∈ (L.take j).map (· % 100)
    · rw [if_pos q2, if_pos (List.mem_append.mpr (Or.inl q2))]
    · rw [if_neg q2, if_neg (fun z => (List.mem_append.mp z).elim q2 (fun z => q (List.mem_singleton.mp z)))]

set_option maxHeartbeats 2000000 in
theorem lt_briefF {sc : ax_S} {σ : Nat → ax_C} {J : Nat → Int} {G0 : Nat → Nat → Int} {n bc bs : Nat} {K : ax_K} (hn : 38 ≤ n) {P N M : Nat} (hT0 : TW J G0 P N M) {i m q : Int} (kk : ∀ (G : Nat → Nat → Int) (t : Option Value), (∀ r, r ≠ 12 → G r = G0 r) → (∀ x, x < N → G 12 x = freeT G0 x) → Ex sc 98 75 [some (.ref 22), some (.int (zi i)), some (.int (zi m)), some (.int (zi q)), t] [] (mg σ J G, n, bc, bs) K) :
    ∀ (d j : Nat) (G : Nat → Nat → Int), j + d = N → (∀ r, r ≠ 12 → G r = G0 r) → (∀ x, x < j → G 12 x = freeT G0 x) → Ex sc 98 47 [some (.ref 22), some (.int (zi i)), some (.int (zi m)), some (.int (zi q)), some (.int (zi j))] [] (mg σ J G, n, bc, bs) K := by
  have hN := hT0.2.2.2.1
  have hN2 := hT0.2.2.2.2.1
  intro d
  induction d with
  | zero =>
    intro j G hj hG h
    have hj1 : j = N := by omega
    subst hj1
    refine xild_4 (q := 49) d_98_47 rfl ?_
    refine xald_0 (q := 50) d_98_49 rfl ?_
    refine yg_count hn (q := 53) d_98_50 rfl fl_M_76 ?_
    refine x_icmp_ge (q := 56) (t := 75) d_98_53 (by decide) rfl (fun c53 => ?_) (fun c53 => ?_)
    · rw [zi_le (by omega) (by omega) (by omega) (by omega)] at c53
      exact kk G _ hG h
    · rw [zi_le (by omega) (by omega) (by omega) (by omega)] at c53
      exact absurd c53 (by omega)
  | succ d ih =>
    intro j G hj hG h
    have hT : TW J G P N M := hT0.same rfl rfl rfl (hG 0 (by decide)) (hG 1 (by decide)) (hG 2 (by decide))
    have ef : freeT G j = freeT G0 j := by unfold freeT; rw [hG 1 (by decide), hG 2 (by decide)]
    refine xild_4 (q := 49) d_98_47 rfl ?_
    refine xald_0 (q := 50) d_98_49 rfl ?_
    refine yg_count hn (q := 53) d_98_50 rfl fl_M_76 ?_
    refine x_icmp_ge (q := 56) (t := 75) d_98_53 (by decide) rfl (fun c53 => ?_) (fun c53 => ?_)
    · rw [zi_le (by omega) (by omega) (by omega) (by omega)] at c53
      exact absurd c53 (by omega)
    · rw [zi_le (by omega) (by omega) (by omega) (by omega)] at c53
      refine xald_0 (q := 57) d_98_56 rfl ?_
      refine yg_those hn (q := 60) d_98_57 rfl fl_M_61 ?_
      refine xild_4 (q := 62) d_98_60 rfl ?_
      refine xald_0 (q := 63) d_98_62 rfl ?_
      refine xild_4 (q := 65) d_98_63 rfl ?_
      refine xcV1 (q := 68) d_98_65 rfl lk_M_174 mo_77 ⟨by decide +kernel, by decide +kernel⟩ (by simp [Value.category]) (by decide +kernel) (by simp [Value.category]) (by omega) rfl ?_
      refine t_isFree hn hT (i := j) (by omega) ?_
      dsimp only [ax_ps]
      rw [ef]
      refine ys_those (q := 69) hn (freeT_b _ _) d_98_68 rfl (by omega) (by omega) ?_
      refine xincz_4 (q := 72) d_98_69 rfl ?_
      refine x_goto (t := 47) d_98_72 (by decide) ?_
      rw [show (j : Int) + 1 = ((j + 1 : Nat) : Int) by omega, show ((j : Int)).toNat = j by omega]
      refine ih (j + 1) _ (by omega) (fun r hr => by rw [va_un _ _ _ hr]; exact hG r hr) (fun x hx => ?_)
      rw [va_us]
      by_cases e : x = j
      · rw [e, va_us]
      · rw [va_un _ _ _ e]; exact h x (by omega)
set_option maxHeartbeats 2000000 in
theorem lt_briefZ {sc : ax_S} {σ : Nat → ax_C} {J : Nat → Int} {G0 : Nat → Nat → Int} {n bc bs : Nat} {K : ax_K} (hn : 38 ≤ n) {N : Nat} (hN : J 7 = N) (hN2 : N ≤ 100) {i m q : Int} (kk : ∀ (G : Nat → Nat → Int) (t : Option Value), (∀ r, r ≠ 12 → G r = G0 r) → (∀ x, x < N → G 12 x = 0) → Ex sc 98 113 [some (.ref 22), some (.int (zi i)), some (.int (zi m)), some (.int (zi q)), t] [] (mg σ J G, n, bc, bs) K) :
    ∀ (d j : Nat) (G : Nat → Nat → Int), j + d = N → (∀ r, r ≠ 12 → G r = G0 r) → (∀ x, x < j → G 12 x = 0) → Ex sc 98 90 [some (.ref 22), some (.int (zi i)), some (.int (zi m)), some (.int (zi q)), some (.int (zi j))] [] (mg σ J G, n, bc, bs) K := by
  intro d
  induction d with
  | zero =>
    intro j G hj hG h
    have hj1 : j = N := by omega
    subst hj1
    refine xild_4 (q := 92) d_98_90 rfl ?_
    refine xald_0 (q := 93) d_98_92 rfl ?_
    refine yg_count hn (q := 96) d_98_93 rfl fl_M_76 ?_
    refine x_icmp_ge (q := 99) (t := 113) d_98_96 (by decide) rfl (fun c96 => ?_) (fun c96 => ?_)
    · rw [zi_le (by omega) (by omega) (by omega) (by omega)] at c96
      exact kk G _ hG h
    · rw [zi_le (by omega) (by omega) (by omega) (by omega)] at c96
      exact absurd c96 (by omega)
  | succ d ih =>
    intro j G hj hG h
    refine xild_4 (q := 92) d_98_90 rfl ?_
    refine xald_0 (q := 93) d_98_92 rfl ?_
    refine yg_count hn (q := 96) d_98_93 rfl fl_M_76 ?_
    refine x_icmp_ge (q := 99) (t := 113) d_98_96 (by decide) rfl (fun c96 => ?_) (fun c96 => ?_)
    · rw [zi_le (by omega) (by omega) (by omega) (by omega)] at c96
      exact absurd c96 (by omega)
    · rw [zi_le (by omega) (by omega) (by omega) (by omega)] at c96
      refine xald_0 (q := 100) d_98_99 rfl ?_
      refine yg_those hn (q := 103) d_98_100 rfl fl_M_61 ?_
      refine xild_4 (q := 105) d_98_103 rfl ?_
      refine x_iconst (q := 106) (v := zi (0)) d_98_105 rfl rfl ?_
      refine ys_those (q := 107) hn (Or.inl rfl) d_98_106 rfl (by omega) (by omega) ?_
      refine xincz_4 (q := 110) d_98_107 rfl ?_
      refine x_goto (t := 90) d_98_110 (by decide) ?_
      rw [show (j : Int) + 1 = ((j + 1 : Nat) : Int) by omega, show ((j : Int)).toNat = j by omega]
      refine ih (j + 1) _ (by omega) (fun r hr => by rw [va_un _ _ _ hr]; exact hG r hr) (fun x hx => ?_)
      rw [va_us]
      by_cases e : x = j
      · rw [e, va_us]
      · rw [va_un _ _ _ e]; exact h x (by omega)
set_option maxHeartbeats 2000000 in
theorem lt_briefM {sc : ax_S} {σ : Nat → ax_C} {J : Nat → Int} {G0 : Nat → Nat → Int} {n bc bs : Nat} {K : ax_K} (hn : 38 ≤ n) {L : List Nat} (hl : L.length ≤ 100) (hR : RW J G0 L) {B : Nat} {i m q : Int} (h0 : ∀ x, x < B → G0 12 x = 0) (kk : ∀ (G : Nat → Nat → Int) (t : Option Value), (∀ r, r ≠ 12 → G r = G0 r) → (∀ x, x < B → G 12 x = if x ∈ L.map (· % 100) then 1 else 0) → Ex sc 98 144 [some (.ref 22), some (.int (zi i)), some (.int (zi m)), some (.int (zi q)), t] [] (mg σ J G, n, bc, bs) K) :
    ∀ (d j : Nat) (G : Nat → Nat → Int), j + d = L.length → (∀ r, r ≠ 12 → G r = G0 r) → (∀ x, x < B → G 12 x = (if x ∈ (L.take j).map (· % 100) then 1 else 0)) → Ex sc 98 116 [some (.ref 22), some (.int (zi i)), some (.int (zi m)), some (.int (zi q)), some (.int (zi j))] [] (mg σ J G, n, bc, bs) K := by
  have h26 := hR.1
  intro d
  induction d with
  | zero =>
    intro j G hj hG h
    have hj1 : j = L.length := by omega
    subst hj1
    rw [List.take_of_length_le (Nat.le_refl _)] at h
    refine xild_4 (q := 118) d_98_116 rfl ?_
    refine xald_0 (q := 119) d_98_118 rfl ?_
    refine yg_rowCount hn (q := 122) d_98_119 rfl fl_M_171 ?_
    refine x_icmp_ge (q := 125) (t := 144) d_98_122 (by decide) rfl (fun c122 => ?_) (fun c122 => ?_)
    · rw [zi_le (by omega) (by omega) (by omega) (by omega)] at c122
      exact kk G _ hG h
    · rw [zi_le (by omega) (by omega) (by omega) (by omega)] at c122
      exact absurd c122 (by omega)
  | succ d ih =>
    intro j G hj hG h
    have hrj := hR.2 j (by omega)
    have hlt : L.getD j 0 % 100 < 100 := Nat.mod_lt _ (by decide)
    refine xild_4 (q := 118) d_98_116 rfl ?_
    refine xald_0 (q := 119) d_98_118 rfl ?_
    refine yg_rowCount hn (q := 122) d_98_119 rfl fl_M_171 ?_
    refine x_icmp_ge (q := 125) (t := 144) d_98_122 (by decide) rfl (fun c122 => ?_) (fun c122 => ?_)
    · rw [zi_le (by omega) (by omega) (by omega) (by omega)] at c122
      exact absurd c122 (by omega)
    · rw [zi_le (by omega) (by omega) (by omega) (by omega)] at c122
      refine xald_0 (q := 126) d_98_125 rfl ?_
      refine yg_those hn (q := 129) d_98_126 rfl fl_M_61 ?_
      refine xald_0 (q := 130) d_98_129 rfl ?_
      refine yg_row hn (q := 133) d_98_130 rfl fl_M_64 ?_
      refine xild_4 (q := 135) d_98_133 rfl ?_
      refine yl_row (q := 136) hn d_98_135 rfl (by omega) (by omega) ?_
      rw [show ((j : Int)).toNat = j by omega, hG 13 (by decide), hrj]
      refine x_iconst (q := 137) (v := zi (1)) d_98_136 rfl rfl ?_
      refine ys_those (q := 138) hn (Or.inr rfl) d_98_137 rfl (by omega) (by omega) ?_
      refine xincz_4 (q := 141) d_98_138 rfl ?_
      refine x_goto (t := 116) d_98_141 (by decide) ?_
      rw [show (j : Int) + 1 = ((j + 1 : Nat) : Int) by omega, Int.toNat_natCast]
      refine ih (j + 1) _ (by omega) (fun r hr => by rw [va_un _ _ _ hr]; exact hG r hr) (fun x hx => ?_)
      rw [va_us]
      exact mark_step (by omega) (h x hx)
set_option maxHeartbeats 2000000 in
theorem t_brief {sc : ax_S} {σ : Nat → ax_C} {J : Nat → Int} {G : Nat → Nat → Int} {n bc bs : Nat} {K : ax_K} (hn : 38 ≤ n) {P N M : Nat} (hT : TW J G P N M) {i m q : Int} (hi : I32 i) (hm : I32 m) (hq : I32 q) {L1 L2 : List Nat} (hL1 : SB (freeT G) (kfT G P M q.toNat) N L1) (hL2 : SB (fun x => if x ∈ ((L1.take m.toNat).map (· % 100)) then 1 else 0) (kfT G P M 100) N L2)
    (k1 : 1 ≤ i ∧ i ≤ m ∧ m ≤ 100 ∧ 1 ≤ q ∧ q ≤ 100 → ∀ (J' : Nat → Int) (G' : Nat → Nat → Int), (∀ r, r ≠ 0 → r ≠ 11 → r ≠ 26 → J' r = J r) → (∀ r, r ≠ 3 → r ≠ 6 → r ≠ 12 → r ≠ 13 → G' r = G r) → (∀ p, p < 10000 → G' 6 p = G 6 p) → J' 11 = (L2.take i.toNat).length → (∀ j, j < (L2.take i.toNat).length → G' 3 j = (((L2.take i.toNat).getD j 0 % 100 : Nat) : Int)) → K (some (.int (zi (L2.take i.toNat).length))) (mg σ J' G', n, bc, bs)) (k2 : ¬ (1 ≤ i ∧ i ≤ m ∧ m ≤ 100 ∧ 1 ≤ q ∧ q ≤ 100) → K (some (.int (zi (-1)))) (mg σ (va_up J 0 0) G, n, bc, bs)) : Ex sc 98 0 (ax_en 98 [.ref 22, .int (zi i), .int (zi m), .int (zi q)]) [] (mg σ J G, n, bc, bs) K := by
  obtain ⟨hP, hP1, hP2, hN, hN2, hM, hM2, hv, hbr, hrm⟩ := id hT
  show Ex sc 98 0 [some (.ref 22), some (.int (zi i)), some (.int (zi m)), some (.int (zi q)), none] [] (mg σ J G, n, bc, bs) K
  refine xald_0 (q := 1) d_98_0 rfl ?_
  refine x_iconst (q := 2) (v := zi (0)) d_98_1 rfl rfl ?_
  refine yp_thrown hn (q := 5) d_98_2 rfl fw_M_1 ?_
  refine xild_1 (q := 6) d_98_5 rfl ?_
  refine z_i2l (by omega) (by omega) (q := 7) d_98_6 rfl ?_
  refine x_lconst (q := 8) (v := zl (1)) d_98_7 rfl rfl ?_
  refine x_ldc2 (q := 11) (v := zl (100)) d_98_8 rfl kc_M_155 ?_
  refine z_in (by omega) (by omega) (by omega) (by omega) (by omega) (by omega) (q := 14) d_98_11 rfl lk_M_79 ⟨by decide +kernel, by decide +kernel⟩ (by simp [Value.category]) ?_
  refine x_if_eq (q := 17) (t := 42) d_98_14 (by decide) rfl (fun c14 => ?_) (fun c14 => ?_)
  · rw [in_0] at c14
    refine x_iconst (q := 43) (v := zi (-1)) d_98_42 rfl rfl ?_
    refine x_iret d_98_43 rfl rfl ?_
    exact k2 (by omega)
  · rw [in_0] at c14
    refine xild_2 (q := 18) d_98_17 rfl ?_
    refine z_i2l (by omega) (by omega) (q := 19) d_98_18 rfl ?_
    refine xild_1 (q := 20) d_98_19 rfl ?_
    refine z_i2l (by omega) (by omega) (q := 21) d_98_20 rfl ?_
    refine x_ldc2 (q := 24) (v := zl (100)) d_98_21 rfl kc_M_155 ?_
    refine z_in (by omega) (by omega) (by omega) (by omega) (by omega) (by omega) (q := 27) d_98_24 rfl lk_M_79 ⟨by decide +kernel, by decide +kernel⟩ (by simp [Value.category]) ?_
    refine x_if_eq (q := 30) (t := 42) d_98_27 (by decide) rfl (fun c27 => ?_) (fun c27 => ?_)
    · rw [in_0] at c27
      refine x_iconst (q := 43) (v := zi (-1)) d_98_42 rfl rfl ?_
      refine x_iret d_98_43 rfl rfl ?_
      exact k2 (by omega)
    · rw [in_0] at c27
      refine xild_3 (q := 31) d_98_30 rfl ?_
      refine z_i2l (by omega) (by omega) (q := 32) d_98_31 rfl ?_
      refine x_lconst (q := 33) (v := zl (1)) d_98_32 rfl rfl ?_
      refine x_ldc2 (q := 36) (v := zl (100)) d_98_33 rfl kc_M_155 ?_
      refine z_in (by omega) (by omega) (by omega) (by omega) (by omega) (by omega) (q := 39) d_98_36 rfl lk_M_79 ⟨by decide +kernel, by decide +kernel⟩ (by simp [Value.category]) ?_
      refine x_if_ne (q := 42) (t := 44) d_98_39 (by decide) rfl (fun c39 => ?_) (fun c39 => ?_)
      · rw [in_0] at c39
        refine x_iconst (q := 45) (v := zi (0)) d_98_44 rfl rfl ?_
        refine xist_4 (q := 47) d_98_45 rfl ?_
        refine lt_briefF (J := (va_up J 0 0)) (G0 := G) hn (hT.same rfl rfl rfl rfl rfl rfl) ?_ N 0 G (by omega) (fun _ _ => rfl) (fun x hx => absurd hx (Nat.not_lt_zero _))
        intro G1 t g1 h12
        have hT1 : TW (va_up J 0 0) G1 P N M := hT.same rfl rfl rfl (g1 0 (by decide)) (g1 1 (by decide)) (g1 2 (by decide))
        obtain ⟨qu, rfl⟩ : ∃ u : Nat, q = u := ⟨q.toNat, by omega⟩
        obtain ⟨mu, rfl⟩ : ∃ u : Nat, m = u := ⟨m.toNat, by omega⟩
        obtain ⟨iu, rfl⟩ : ∃ u : Nat, i = u := ⟨i.toNat, by omega⟩
        simp only [Int.toNat_natCast] at hL1 hL2 k1
        have ef : ∀ q x, farT G1 P M q 100 x = farT G P M q 100 x := fun q x => by unfold farT tv; rw [g1 0 (by decide)]
        refine xald_0 (q := 76) d_98_75 rfl ?_
        refine x_bipush (q := 78) (v := zi (100)) d_98_76 rfl (by decide) ?_
        refine xild_3 (q := 79) d_98_78 rfl ?_
        refine xcV2 (q := 82) d_98_79 rfl lk_M_146 mo_78 ⟨by decide +kernel, by decide +kernel⟩ (by simp [Value.category]) (by decide +kernel) (by simp [Value.category]) (by omega) rfl ?_
        refine t_seeFrom (J := (va_up J 0 0)) (o := 100) (q := qu) hn hT1 (by decide) (by omega) ?_
        intro G2 a1 a2 a3
        dsimp only [ax_ps]
        have a1' : ∀ x, x < N → G2 6 (100 * 100 + x) = farT G P M qu 100 x := fun x hx => (a1 x hx).trans (ef qu x)
        refine xald_0 (q := 83) d_98_82 rfl ?_
        refine xild_2 (q := 84) d_98_83 rfl ?_
        refine xcV1 (q := 87) d_98_84 rfl lk_M_177 mo_81 ⟨by decide +kernel, by decide +kernel⟩ (by simp [Value.category]) (by decide +kernel) (by simp [Value.category]) (by omega) rfl ?_
        refine t_nearest (J := (va_up J 0 0)) (G := G2) (m := mu) hn hN hN2 (fab_hand hT (by omega) a1') (by omega) (L := L1) (hL1.cg (fun x hx => (kg_hand a1' x hx).symm) (fun x hx => by rw [a3 12 (by decide), h12 x hx])) ?_
        intro J3 G3 j3 g3 r3
        dsimp only [ax_ps]
        have hJ3N : J3 7 = N := by rw [j3 7 (by decide)]; exact hN
        refine x_iconst (q := 88) (v := zi (0)) d_98_87 rfl rfl ?_
        refine xist_4 (q := 90) d_98_88 rfl ?_
        refine lt_briefZ (J := J3) (G0 := G3) hn hJ3N hN2 ?_ N 0 G3 (by omega) (fun _ _ => rfl) (fun x hx => absurd hx (Nat.not_lt_zero _))
        intro G4 t g4 z4
        have r4 : RW J3 G4 (L1.take mu) := ⟨r3.1, fun j hj => by rw [g4 13 (by decide)]; exact r3.2 j hj⟩
        refine x_iconst (q := 114) (v := zi (0)) d_98_113 rfl rfl ?_
        refine xist_4 (q := 116) d_98_114 rfl ?_
        refine lt_briefM (J := J3) (G0 := G4) (L := L1.take mu) (B := N) hn (by rw [List.length_take]; omega) r4 z4 ?_ (L1.take mu).length 0 G4 (Nat.zero_add _) (fun _ _ => rfl) (fun x hx => by rw [z4 x hx]; rfl)
        intro G5 t g5 m5
        have hG5 : ∀ r, r ≠ 6 → r ≠ 12 → r ≠ 13 → G5 r = G r := fun r a b c => (g5 r b).trans ((g4 r b).trans ((g3 r b c).trans ((a3 r a).trans (g1 r b))))
        have hT5 : TW J3 G5 P N M := hT.same (j3 1 (by decide)) (j3 7 (by decide)) (j3 3 (by decide)) (hG5 0 (by decide) (by decide) (by decide)) (hG5 1 (by decide) (by decide) (by decide)) (hG5 2 (by decide) (by decide) (by decide))
        have ef5 : ∀ x, farT G5 P M 100 100 x = farT G P M 100 100 x := fun x => by unfold farT tv; rw [hG5 0 (by decide) (by decide) (by decide)]
        have h65 : ∀ p, p < 10000 → G5 6 p = G 6 p := fun p hp => by rw [g5 6 (by decide), g4 6 (by decide), g3 6 (by decide) (by decide), a2 p (by omega), g1 6 (by decide)]
        refine xald_0 (q := 145) d_98_144 rfl ?_
        refine x_bipush (q := 147) (v := zi (100)) d_98_145 rfl (by decide) ?_
        refine x_bipush (q := 149) (v := zi (100)) d_98_147 rfl (by decide) ?_
        refine xcV2 (q := 152) d_98_149 rfl lk_M_146 mo_78 ⟨by decide +kernel, by decide +kernel⟩ (by simp [Value.category]) (by decide +kernel) (by simp [Value.category]) (by omega) rfl ?_
        refine t_seeFrom (J := J3) (o := 100) (q := 100) hn hT5 (by decide) (by decide) ?_
        intro G6 b1 b2 b3
        dsimp only [ax_ps]
        have b1' : ∀ x, x < N → G6 6 (100 * 100 + x) = farT G P M 100 100 x := fun x hx => (b1 x hx).trans (ef5 x)
        refine xald_0 (q := 153) d_98_152 rfl ?_
        refine xild_1 (q := 154) d_98_153 rfl ?_
        refine xcV1 (q := 157) d_98_154 rfl lk_M_177 mo_81 ⟨by decide +kernel, by decide +kernel⟩ (by simp [Value.category]) (by decide +kernel) (by simp [Value.category]) (by omega) rfl ?_
        refine t_nearest (J := J3) (G := G6) (m := iu) hn hJ3N hN2 (fab_hand hT (by decide) b1') (by omega) (L := L2) (hL2.cg (fun x hx => (kg_hand b1' x hx).symm) (fun x hx => by rw [b3 12 (by decide), m5 x hx])) ?_
        intro J7 G7 j7 g7 r7
        dsimp only [ax_ps]
        refine xald_0 (q := 158) d_98_157 rfl ?_
        refine xcV0 (q := 161) d_98_158 rfl lk_M_186 mo_84 ⟨by decide +kernel, by decide +kernel⟩  (by decide +kernel) (by simp [Value.category]) (by omega) rfl ?_
        refine t_tell hn (by rw [List.length_take]; omega) r7 ?_
        intro J8 G8 j8 g8 h11 h3
        dsimp only [ax_ps]
        refine x_iret d_98_161 rfl rfl ?_
        exact k1 (by omega) J8 G8 (fun r a b c => (j8 r b).trans ((j7 r c).trans ((j3 r c).trans (va_un _ _ _ a)))) (fun r a b c d => (g8 r a).trans ((g7 r c d).trans ((b3 r b).trans (hG5 r b c d)))) (fun p hp => by rw [g8 6 (by decide), g7 6 (by decide) (by decide), b2 p (by omega)]; exact h65 p hp) h11 h3
      · rw [in_0] at c39
        refine x_iconst (q := 43) (v := zi (-1)) d_98_42 rfl rfl ?_
        refine x_iret d_98_43 rfl rfl ?_
        exact k2 (by omega)
set_option maxHeartbeats 2000000 in
theorem lt_recZ {sc : ax_S} {σ : Nat → ax_C} {J : Nat → Int} {G0 : Nat → Nat → Int} {n bc bs : Nat} {K : ax_K} (hn : 38 ≤ n) {i e : Int} (kk : ∀ (G : Nat → Nat → Int) (t : Option Value), (∀ r, r ≠ 14 → G r = G0 r) → (∀ x, x < 100 → G 14 x = 0) → Ex sc 99 59 [some (.ref 22), some (.int (zi i)), some (.int (zi e)), t, none] [] (mg σ J G, n, bc, bs) K) :
    ∀ (d j : Nat) (G : Nat → Nat → Int), j + d = 100 → (∀ r, r ≠ 14 → G r = G0 r) → (∀ x, x < j → G 14 x = 0) → Ex sc 99 40 [some (.ref 22), some (.int (zi i)), some (.int (zi e)), some (.int (zi j)), none] [] (mg σ J G, n, bc, bs) K := by
  intro d
  induction d with
  | zero =>
    intro j G hj hG h
    have hj1 : j = 100 := by omega
    subst hj1
    refine xild_3 (q := 41) d_99_40 rfl ?_
    refine x_bipush (q := 43) (v := zi (100)) d_99_41 rfl (by decide) ?_
    refine x_icmp_ge (q := 46) (t := 59) d_99_43 (by decide) rfl (fun c43 => ?_) (fun c43 => ?_)
    · rw [zi_le (by omega) (by omega) (by omega) (by omega)] at c43
      exact kk G _ hG h
    · rw [zi_le (by omega) (by omega) (by omega) (by omega)] at c43
      exact absurd c43 (by omega)
  | succ d ih =>
    intro j G hj hG h
    refine xild_3 (q := 41) d_99_40 rfl ?_
    refine x_bipush (q := 43) (v := zi (100)) d_99_41 rfl (by decide) ?_
    refine x_icmp_ge (q := 46) (t := 59) d_99_43 (by decide) rfl (fun c43 => ?_) (fun c43 => ?_)
    · rw [zi_le (by omega) (by omega) (by omega) (by omega)] at c43
      exact absurd c43 (by omega)
    · rw [zi_le (by omega) (by omega) (by omega) (by omega)] at c43
      refine xald_0 (q := 47) d_99_46 rfl ?_
      refine yg_byGraph hn (q := 50) d_99_47 rfl fl_M_67 ?_
      refine xild_3 (q := 51) d_99_50 rfl ?_
      refine x_iconst (q := 52) (v := zi (0)) d_99_51 rfl rfl ?_
      refine ys_byGraph (q := 53) hn (Or.inl rfl) d_99_52 rfl (by omega) (by omega) ?_
      refine xincz_3 (q := 56) d_99_53 rfl ?_
      refine x_goto (t := 40) d_99_56 (by decide) ?_
      rw [show (j : Int) + 1 = ((j + 1 : Nat) : Int) by omega, show ((j : Int)).toNat = j by omega]
      refine ih (j + 1) _ (by omega) (fun r hr => by rw [va_un _ _ _ hr]; exact hG r hr) (fun x hx => ?_)
      rw [va_us]
      by_cases e : x = j
      · rw [e, va_us]
      · rw [va_un _ _ _ e]; exact h x (by omega)
set_option maxHeartbeats 2000000 in
theorem lt_recM {sc : ax_S} {σ : Nat → ax_C} {J : Nat → Int} {G0 : Nat → Nat → Int} {n bc bs : Nat} {K : ax_K} (hn : 38 ≤ n) {L : List Nat} (hl : L.length ≤ 100) (hR : RW J G0 L) {B : Nat} (hB : B = 100) {i e : Int} (h0 : ∀ x, x < B → G0 14 x = 0) (kk : ∀ (G : Nat → Nat → Int) (t : Option Value), (∀ r, r ≠ 14 → G r = G0 r) → (∀ x, x < B → G 14 x = if x ∈ L.map (· % 100) then 1 else 0) → Ex sc 99 87 [some (.ref 22), some (.int (zi i)), some (.int (zi e)), t, none] [] (mg σ J G, n, bc, bs) K) :
    ∀ (d j : Nat) (G : Nat → Nat → Int), j + d = L.length → (∀ r, r ≠ 14 → G r = G0 r) → (∀ x, x < B → G 14 x = (if x ∈ (L.take j).map (· % 100) then 1 else 0)) → Ex sc 99 61 [some (.ref 22), some (.int (zi i)), some (.int (zi e)), some (.int (zi j)), none] [] (mg σ J G, n, bc, bs) K := by
  have h26 := hR.1
  intro d
  induction d with
  | zero =>
    intro j G hj hG h
    have hj1 : j = L.length := by omega
    subst hj1
    rw [List.take_of_length_le (Nat.le_refl _)] at h
    refine xild_3 (q := 62) d_99_61 rfl ?_
    refine xald_0 (q := 63) d_99_62 rfl ?_
    refine yg_rowCount hn (q := 66) d_99_63 rfl fl_M_171 ?_
    refine x_icmp_ge (q := 69) (t := 87) d_99_66 (by decide) rfl (fun c66 => ?_) (fun c66 => ?_)
    · rw [zi_le (by omega) (by omega) (by omega) (by omega)] at c66
      exact kk G _ hG h
    · rw [zi_le (by omega) (by omega) (by omega) (by omega)] at c66
      exact absurd c66 (by omega)
  | succ d ih =>
    intro j G hj hG h
    have hrj := hR.2 j (by omega)
    have hlt : L.getD j 0 % 100 < 100 := Nat.mod_lt _ (by decide)
    refine xild_3 (q := 62) d_99_61 rfl ?_
    refine xald_0 (q := 63) d_99_62 rfl ?_
    refine yg_rowCount hn (q := 66) d_99_63 rfl fl_M_171 ?_
    refine x_icmp_ge (q := 69) (t := 87) d_99_66 (by decide) rfl (fun c66 => ?_) (fun c66 => ?_)
    · rw [zi_le (by omega) (by omega) (by omega) (by omega)] at c66
      exact absurd c66 (by omega)
    · rw [zi_le (by omega) (by omega) (by omega) (by omega)] at c66
      refine xald_0 (q := 70) d_99_69 rfl ?_
      refine yg_byGraph hn (q := 73) d_99_70 rfl fl_M_67 ?_
      refine xald_0 (q := 74) d_99_73 rfl ?_
      refine yg_row hn (q := 77) d_99_74 rfl fl_M_64 ?_
      refine xild_3 (q := 78) d_99_77 rfl ?_
      refine yl_row (q := 79) hn d_99_78 rfl (by omega) (by omega) ?_
      rw [show ((j : Int)).toNat = j by omega, hG 13 (by decide), hrj]
      refine x_iconst (q := 80) (v := zi (1)) d_99_79 rfl rfl ?_
      refine ys_byGraph (q := 81) hn (Or.inr rfl) d_99_80 rfl (by omega) (by omega) ?_
      refine xincz_3 (q := 84) d_99_81 rfl ?_
      refine x_goto (t := 61) d_99_84 (by decide) ?_
      rw [show (j : Int) + 1 = ((j + 1 : Nat) : Int) by omega, Int.toNat_natCast]
      refine ih (j + 1) _ (by omega) (fun r hr => by rw [va_un _ _ _ hr]; exact hG r hr) (fun x hx => ?_)
      rw [va_us]
      exact mark_step (by omega) (h x hx)
theorem has_out {L : List Nat} {x : Nat} (h : x ∉ L.map (· % 100)) : rkHas L x = 0 := if_neg (fun ⟨y, hy, e⟩ => h (List.mem_map.mpr ⟨y, hy, e⟩))
theorem has_in {L : List Nat} {x : Nat} (h : ¬ x ∉ L.map (· % 100)) : rkHas L x = 1 := by
  have h := Classical.not_not.mp h
  obtain ⟨y, hy, e⟩ := List.mem_map.mp h
  exact if_pos ⟨y, hy, e⟩
set_option maxHeartbeats 2000000 in
theorem lt_recC {sc : ax_S} {σ : Nat → ax_C} {J : Nat → Int} {G : Nat → Nat → Int} {n bc bs : Nat} {K : ax_K} (hn : 38 ≤ n) {L L1 : List Nat} (hl : L.length ≤ 100) (hR : RW J G L) (hb : ∀ x, x < 100 → G 14 x = if x ∈ L1.map (· % 100) then 1 else 0) {i e R : Int} (k : K (some (.int (zi R))) (mg σ J G, n, bc, bs)) :
    ∀ (d j : Nat) (c : Int), j + d = L.length → R = c + cntH L1 (L.drop j) → Ex sc 99 97 [some (.ref 22), some (.int (zi i)), some (.int (zi e)), some (.int (zi c)), some (.int (zi j))] [] (mg σ J G, n, bc, bs) K := by
  have h26 := hR.1
  intro d
  induction d with
  | zero =>
    intro j c hj hc
    rw [List.drop_of_length_le (by omega)] at hc
    have hc : R = c + 0 := hc
    have hc : R = c := by omega
    subst hc
    refine xild_4 (q := 99) d_99_97 rfl ?_
    refine xald_0 (q := 100) d_99_99 rfl ?_
    refine yg_rowCount hn (q := 103) d_99_100 rfl fl_M_171 ?_
    refine x_icmp_ge (q := 106) (t := 135) d_99_103 (by decide) rfl (fun c103 => ?_) (fun c103 => ?_)
    · rw [zi_le (by omega) (by omega) (by omega) (by omega)] at c103
      refine xild_3 (q := 136) d_99_135 rfl ?_
      refine x_iret d_99_136 rfl rfl ?_
      exact k
    · rw [zi_le (by omega) (by omega) (by omega) (by omega)] at c103
      exact absurd c103 (by omega)
  | succ d ih =>
    intro j c hj hc
    have hrj := hR.2 j (by omega)
    have hlt : L.getD j 0 % 100 < 100 := Nat.mod_lt _ (by decide)
    have hbj := hb _ hlt
    rw [drop_get (by omega)] at hc
    have hc : R = c + (rkHas L1 (L.getD j 0 % 100) + cntH L1 (L.drop (j + 1))) := hc
    refine xild_4 (q := 99) d_99_97 rfl ?_
    refine xald_0 (q := 100) d_99_99 rfl ?_
    refine yg_rowCount hn (q := 103) d_99_100 rfl fl_M_171 ?_
    refine x_icmp_ge (q := 106) (t := 135) d_99_103 (by decide) rfl (fun c103 => ?_) (fun c103 => ?_)
    · rw [zi_le (by omega) (by omega) (by omega) (by omega)] at c103
      exact absurd c103 (by omega)
    · rw [zi_le (by omega) (by omega) (by omega) (by omega)] at c103
      refine xald_0 (q := 107) d_99_106 rfl ?_
      refine yg_byGraph hn (q := 110) d_99_107 rfl fl_M_67 ?_
      refine xald_0 (q := 111) d_99_110 rfl ?_
      refine yg_row hn (q := 114) d_99_111 rfl fl_M_64 ?_
      refine xild_4 (q := 116) d_99_114 rfl ?_
      refine yl_row (q := 117) hn d_99_116 rfl (by omega) (by omega) ?_
      rw [show ((j : Int)).toNat = j by omega, hrj]
      refine yl_byGraph (q := 118) hn d_99_117 rfl (by omega) (by omega) ?_
      refine x_if_eq (q := 121) (t := 127) d_99_118 (by decide) rfl (fun c118 => ?_) (fun c118 => ?_)
      · rw [show (((L.getD j 0 % 100 : Nat) : Int)).toNat = L.getD j 0 % 100 from rfl, hbj] at c118
        refine xild_3 (q := 128) d_99_127 rfl ?_
        refine xist_3 (q := 129) d_99_128 rfl ?_
        refine xincz_4 (q := 132) d_99_129 rfl ?_
        refine x_goto (t := 97) d_99_132 (by decide) ?_
        rw [show (j : Int) + 1 = ((j + 1 : Nat) : Int) by omega]
        first
          | (exact ih (j + 1) (c + 1) (by omega) (by rw [has_in (by (intro z; rw [if_neg z] at c118; exact c118 rfl))] at hc; omega))
          | (exact ih (j + 1) c (by omega) (by rw [has_out (fun z => by (rw [if_pos z] at c118; exact absurd c118 (by decide)))] at hc; omega))
      · rw [show (((L.getD j 0 % 100 : Nat) : Int)).toNat = L.getD j 0 % 100 from rfl, hbj] at c118
        refine xild_3 (q := 122) d_99_121 rfl ?_
        refine x_iconst (q := 123) (v := zi (1)) d_99_122 rfl rfl ?_
        refine z_iadd (q := 124) d_99_123 rfl ?_
        refine x_goto (t := 128) d_99_124 (by decide) ?_
        refine xist_3 (q := 129) d_99_128 rfl ?_
        refine xincz_4 (q := 132) d_99_129 rfl ?_
        refine x_goto (t := 97) d_99_132 (by decide) ?_
        rw [show (j : Int) + 1 = ((j + 1 : Nat) : Int) by omega]
        first
          | (exact ih (j + 1) (c + 1) (by omega) (by rw [has_in (by (intro z; rw [if_neg z] at c118; exact c118 rfl))] at hc; omega))
          | (exact ih (j + 1) c (by omega) (by rw [has_out (fun z => by (rw [if_pos z] at c118; exact absurd c118 (by decide)))] at hc; omega))
set_option maxHeartbeats 2000000 in
theorem t_recall {sc : ax_S} {σ : Nat → ax_C} {J : Nat → Int} {G : Nat → Nat → Int} {n bc bs : Nat} {K : ax_K} (hn : 38 ≤ n) {P N M : Nat} (hT : TW J G P N M) {s : Int} (hs : J 2 = s) {wd : Nat} (hwd : J 4 = wd) (hwd6 : wd ≤ 6) {car : Bool} (hcar : J 5 = if car = true then 1 else 0) (hst : J 13 = 0 ∨ J 13 = 1) {V : Nat → Nat → Int} (hV : ∀ i, i < N → ∀ k, k < P → tv G i k = V i k) {g : mSt} (hg : g = mBuild (kfV V P M) (fbV V P M) car wd (lev s) N) (hB : J 13 = 0 → TB J G P N M s g) {kf : Nat → Nat} (hkf : ∀ x, x < N → kfT G P M 100 x = kf x) {fr : Nat → Int} (hfr : ∀ x, x < N → freeT G x = fr x) {L : List Nat} (hL : SB (freeT G) (kfT G P M 100) N L) {i e : Int} (hi : I32 i) (he : I32 e)
    (k1 : 1 ≤ i ∧ i ≤ e ∧ e ≤ 60 → ∀ (J' : Nat → Int) (G' : Nat → Nat → Int), (∀ r, r ≠ 0 → r ≠ 12 → r ≠ 13 → r ≠ 16 → r ≠ 21 → r ≠ 26 → J' r = J r) → (∀ r, r < 4 → G' r = G r) → J' 13 = 0 → TB J' G' P N M s g → J' 12 = ((mSearch kf (lev s) g e.toNat).2 : Int) → K (some (.int (zi (cntH ((mFF fr (mSearch kf (lev s) g e.toNat).1 []).take i.toNat) (L.take i.toNat))))) (mg σ J' G', n, bc, bs)) (k2 : ¬ (1 ≤ i ∧ i ≤ e ∧ e ≤ 60) → K (some (.int (zi (-1)))) (mg σ (va_up J 0 0) G, n, bc, bs)) : Ex sc 99 0 (ax_en 99 [.ref 22, .int (zi i), .int (zi e)]) [] (mg σ J G, n, bc, bs) K := by
  obtain ⟨hP, hP1, hP2, hN, hN2, hM, hM2, hv, hbr, hrm⟩ := id hT
  show Ex sc 99 0 [some (.ref 22), some (.int (zi i)), some (.int (zi e)), none, none] [] (mg σ J G, n, bc, bs) K
  refine xald_0 (q := 1) d_99_0 rfl ?_
  refine x_iconst (q := 2) (v := zi (0)) d_99_1 rfl rfl ?_
  refine yp_thrown hn (q := 5) d_99_2 rfl fw_M_1 ?_
  refine xild_1 (q := 6) d_99_5 rfl ?_
  refine z_i2l (by omega) (by omega) (q := 7) d_99_6 rfl ?_
  refine x_lconst (q := 8) (v := zl (1)) d_99_7 rfl rfl ?_
  refine x_ldc2 (q := 11) (v := zl (60)) d_99_8 rfl kc_M_190 ?_
  refine z_in (by omega) (by omega) (by omega) (by omega) (by omega) (by omega) (q := 14) d_99_11 rfl lk_M_79 ⟨by decide +kernel, by decide +kernel⟩ (by simp [Value.category]) ?_
  refine x_if_eq (q := 17) (t := 30) d_99_14 (by decide) rfl (fun c14 => ?_) (fun c14 => ?_)
  · rw [in_0] at c14
    refine x_iconst (q := 31) (v := zi (-1)) d_99_30 rfl rfl ?_
    refine x_iret d_99_31 rfl rfl ?_
    exact k2 (by omega)
  · rw [in_0] at c14
    refine xild_2 (q := 18) d_99_17 rfl ?_
    refine z_i2l (by omega) (by omega) (q := 19) d_99_18 rfl ?_
    refine xild_1 (q := 20) d_99_19 rfl ?_
    refine z_i2l (by omega) (by omega) (q := 21) d_99_20 rfl ?_
    refine x_ldc2 (q := 24) (v := zl (60)) d_99_21 rfl kc_M_190 ?_
    refine z_in (by omega) (by omega) (by omega) (by omega) (by omega) (by omega) (q := 27) d_99_24 rfl lk_M_79 ⟨by decide +kernel, by decide +kernel⟩ (by simp [Value.category]) ?_
    refine x_if_ne (q := 30) (t := 32) d_99_27 (by decide) rfl (fun c27 => ?_) (fun c27 => ?_)
    · rw [in_0] at c27
      refine xald_0 (q := 33) d_99_32 rfl ?_
      refine xild_1 (q := 34) d_99_33 rfl ?_
      refine xild_2 (q := 35) d_99_34 rfl ?_
      obtain ⟨u, rfl⟩ : ∃ u : Nat, i = u := ⟨i.toNat, by omega⟩
      obtain ⟨v, rfl⟩ : ∃ u : Nat, e = u := ⟨e.toNat, by omega⟩
      refine xcV2 (q := 38) d_99_35 rfl lk_M_192 mo_86 ⟨by decide +kernel, by decide +kernel⟩ (by simp [Value.category]) (by decide +kernel) (by simp [Value.category]) (by omega) rfl ?_
      refine t_findByGraph (J := (va_up J 0 0)) (m := u) (e := v) hn (hT.same rfl rfl rfl rfl rfl rfl) hs hwd hwd6 hcar hst hV hg (fun h => (hB h).keep hN2 (fun _ _ _ _ => rfl) rfl rfl (fun _ _ => rfl) rfl) hkf hfr (by omega) (by omega) (by omega) ?_
      intro J1 G1 j1 g1 z1 tb1 t1 r1
      dsimp only [ax_ps]
      simp only [Int.toNat_natCast] at k1
      generalize hLg : (mFF fr (mSearch kf (lev s) g v).1 []).take u = Lg at r1 k1
      have hLgl : Lg.length ≤ 100 := by rw [← hLg, List.length_take]; omega
      refine x_iconst (q := 39) (v := zi (0)) d_99_38 rfl rfl ?_
      refine xist_3 (q := 40) d_99_39 rfl ?_
      refine lt_recZ (J := J1) (G0 := G1) hn ?_ 100 0 G1 (by omega) (fun _ _ => rfl) (fun x hx => absurd hx (Nat.not_lt_zero _))
      intro G2 t g2 z2
      have r2 : RW J1 G2 Lg := ⟨r1.1, fun j hj => by rw [g2 13 (by decide)]; exact r1.2 j hj⟩
      refine x_iconst (q := 60) (v := zi (0)) d_99_59 rfl rfl ?_
      refine xist_3 (q := 61) d_99_60 rfl ?_
      refine lt_recM (J := J1) (G0 := G2) (L := Lg) (B := 100) hn hLgl r2 rfl z2 ?_ Lg.length 0 G2 (Nat.zero_add _) (fun _ _ => rfl) (fun x hx => by rw [z2 x hx]; rfl)
      intro G3 t g3 m3
      have hG3 : ∀ r, r ≠ 14 → G3 r = G1 r := fun r a => (g3 r a).trans (g2 r a)
      have hJ1 : ∀ r, r ≠ 0 → r ≠ 12 → r ≠ 13 → r ≠ 16 → r ≠ 21 → r ≠ 26 → J1 r = J r := fun r a b c d e f => (j1 r b c d e f).trans (va_un _ _ _ a)
      have hG31 : ∀ r, r < 4 → G3 r = G r := fun r a => (hG3 r (by omega)).trans (g1 r (by omega))
      have hT3 : TW J1 G3 P N M := hT.same (hJ1 1 (by decide) (by decide) (by decide) (by decide) (by decide) (by decide)) (hJ1 7 (by decide) (by decide) (by decide) (by decide) (by decide) (by decide)) (hJ1 3 (by decide) (by decide) (by decide) (by decide) (by decide) (by decide)) (hG31 0 (by decide)) (hG31 1 (by decide)) (hG31 2 (by decide))
      have hL3 : SB (freeT G3) (kfT G3 P M 100) N L := hL.cg (fun x hx => by unfold kfT farT tv; rw [hG31 0 (by decide)]) (fun x hx => by unfold freeT; rw [hG31 1 (by decide), hG31 2 (by decide)])
      refine xald_0 (q := 88) d_99_87 rfl ?_
      refine xild_1 (q := 89) d_99_88 rfl ?_
      refine xcV1 (q := 92) d_99_89 rfl lk_M_183 mo_76 ⟨by decide +kernel, by decide +kernel⟩ (by simp [Value.category]) (by decide +kernel) (by simp [Value.category]) (by omega) rfl ?_
      refine t_findExact (J := J1) (m := u) hn hT3 (by omega) hL3 ?_
      intro J4 G4 j4 g4 p4 r4
      dsimp only [ax_ps]
      refine x_iconst (q := 93) (v := zi (0)) d_99_92 rfl rfl ?_
      refine xist_3 (q := 94) d_99_93 rfl ?_
      refine x_iconst (q := 95) (v := zi (0)) d_99_94 rfl rfl ?_
      refine xist_4 (q := 97) d_99_95 rfl ?_
      refine lt_recC (L1 := Lg) hn (by rw [List.length_take]; omega) r4 (fun x hx => by rw [g4 14 (by decide) (by decide) (by decide)]; exact m3 x hx) ?_ (L.take u).length 0 0 (Nat.zero_add _) (by rw [List.drop_zero, Int.zero_add])
      refine k1 (by omega) J4 G4 (fun r a b c d e f => (j4 r f).trans (hJ1 r a b c d e f)) (fun r a => (g4 r (by omega) (by omega) (by omega)).trans (hG31 r a)) ((j4 13 (by decide)).trans z1) ?_ ((j4 12 (by decide)).trans t1)
      exact tb1.keep hN2 (fun a _ k _ => by unfold tv; rw [g4 0 (by decide) (by decide) (by decide), hG3 0 (by decide)]) ((g4 4 (by decide) (by decide) (by decide)).trans (hG3 4 (by decide))) ((g4 5 (by decide) (by decide) (by decide)).trans (hG3 5 (by decide))) (fun p hp => by rw [p4 p hp, hG3 6 (by decide)]) (j4 16 (by decide))
    · rw [in_0] at c27
      refine x_iconst (q := 31) (v := zi (-1)) d_99_30 rfl rfl ?_
      refine x_iret d_99_31 rfl rfl ?_
      exact k2 (by omega)
