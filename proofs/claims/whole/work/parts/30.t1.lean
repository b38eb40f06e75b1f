/-! THE REFERENCE: numbers, FAR, before, seeFrom, near -/
def zl (z : Int) : Int64 := Int64.ofInt z
theorem zl_t {a : Int} (h1 : -2147483648 ≤ a) (h2 : a ≤ 2147483647) : (zl a).toInt = a := Int64.toInt_ofInt_of_le (by omega) (by omega)
theorem zl_le {a b : Int} (h1 : -2147483648 ≤ a) (h2 : a ≤ 2147483647) (h3 : -2147483648 ≤ b) (h4 : b ≤ 2147483647) : zl a ≤ zl b ↔ a ≤ b := by rw [Int64.le_iff_toInt_le, zl_t h1 h2, zl_t h3 h4]
theorem zi_l {a : Int} (h1 : -2147483648 ≤ a) (h2 : a ≤ 2147483647) : (zi a).toInt64 = zl a := by
  apply Int64.toInt_inj.mp
  rw [zl_t h1 h2, Int32.toInt_toInt64, zi_t h1 h2]
def inI (a lo hi : Int) : Int := if lo ≤ a ∧ a ≤ hi then 1 else 0
section ZL
variable {sc : ax_S} {k pc q : Nat} {ls : List (Option Value)} {st : List Value} {h : ax_H} {K : ax_K}
theorem z_i2l {a : Int} (h1 : -2147483648 ≤ a) (h2 : a ≤ 2147483647) (g0 : decode (g_m k).2.1 pc = .ok (.i2l, 1)) (g1 : pc + 1 = q) (p0 : Ex sc k q ls (.long (zl a) :: st) h K) : Ex sc k pc ls (.int (zi a) :: st) h K := x_i2l g0 g1 (zi_l h1 h2) p0
theorem z_in {a lo hi : Int} {idx : Nat} (h1 : -2147483648 ≤ a) (h2 : a ≤ 2147483647) (h3 : -2147483648 ≤ lo) (h4 : lo ≤ 2147483647) (h5 : -2147483648 ≤ hi) (h6 : hi ≤ 2147483647) (g0 : decode (g_m k).2.1 pc = .ok (.invokestatic idx, 3)) (g1 : pc + 3 = q) (g2 : ax_lS (g_m k).1.cls idx 66) (g4 : ax_up 66 k) (g5 : (st.map fun v => v.category).sum ≤ 8) (p0 : Ex sc k q ls (.int (zi (inI a lo hi)) :: st) h K) : Ex sc k pc ls (.long (zl hi) :: .long (zl lo) :: .long (zl a) :: st) h K := by
  refine x_inL g0 g1 g2 mo_66 g4 g5 ?_
  have e : ax_in (zl a) (zl lo) (zl hi) = zi (inI a lo hi) := by
    unfold ax_in inI
    by_cases hc : lo ≤ a ∧ a ≤ hi
    · rw [if_pos hc, if_pos ⟨(zl_le h3 h4 h1 h2).mpr hc.1, (zl_le h1 h2 h5 h6).mpr hc.2⟩]; rfl
    · rw [if_neg hc, if_neg (fun z => hc ⟨(zl_le h3 h4 h1 h2).mp z.1, (zl_le h1 h2 h5 h6).mp z.2⟩)]; rfl
  rw [e]
  exact p0
end ZL
/-- the reference's vectors: P parts, N of them, measure M -/
def TW (J : Nat → Int) (G : Nat → Nat → Int) (P N M : Nat) : Prop := J 1 = P ∧ 1 ≤ P ∧ P ≤ 8 ∧ J 7 = N ∧ N ≤ 100 ∧ J 3 = M ∧ M ≤ 2 ∧ (∀ j, j < 808 → -100 ≤ G 0 j ∧ G 0 j ≤ 100) ∧ (∀ j, j < 100 → G 1 j = 0 ∨ G 1 j = 1) ∧ (∀ j, j < 100 → G 2 j = 0 ∨ G 2 j = 1)
def tv (G : Nat → Nat → Int) (i : Nat) : Nat → Int := fun k => G 0 (8 * i + k)
theorem TW.in {J : Nat → Int} {G : Nat → Nat → Int} {P N M : Nat} (h : TW J G P N M) {i : Nat} (hi : i ≤ 100) : ∀ k, k < P → -100 ≤ tv G i k ∧ tv G i k ≤ 100 := fun k hk => h.2.2.2.2.2.2.2.1 _ (by have := h.2.2.1; omega)
def farT (G : Nat → Nat → Int) (P M q a b : Nat) : Int := farI M P q (tv G a) (tv G b)
theorem TW.far {J : Nat → Int} {G : Nat → Nat → Int} {P N M : Nat} (h : TW J G P N M) {q a b : Nat} (hq : q ≤ 100) (ha : a ≤ 100) (hb : b ≤ 100) : 0 ≤ farT G P M q a b ∧ farT G P M q a b ≤ 320000 := far_b hq h.2.2.1 (h.in ha) (h.in hb)
theorem TW.same {J J' : Nat → Int} {G G' : Nat → Nat → Int} {P N M : Nat} (h : TW J G P N M) (j1 : J' 1 = J 1) (j7 : J' 7 = J 7) (j3 : J' 3 = J 3) (g0 : G' 0 = G 0) (g1 : G' 1 = G 1) (g2 : G' 2 = G 2) : TW J' G' P N M := by
  unfold TW
  rw [j1, j7, j3, g0, g1, g2]
  exact h
/-- keys by the reference's table of FARs -/
def kg (G : Nat → Nat → Int) (o x : Nat) : Nat := (G 6 (100 * o + x)).toNat * 100 + x
def FAb (G : Nat → Nat → Int) (N o : Nat) : Prop := ∀ x, x < N → 0 ≤ G 6 (100 * o + x) ∧ G 6 (100 * o + x) ≤ 320000

set_option maxHeartbeats 2000000 in
theorem t_noVector {sc : ax_S} {σ : Nat → ax_C} {J : Nat → Int} {G : Nat → Nat → Int} {n bc bs : Nat} {K : ax_K} (hn : 38 ≤ n) {P N M : Nat} (hT : TW J G P N M) {i : Int} (hi : I32 i) (k : K (some (.int (zi (1 - hasI N i)))) (mg σ J G, n, bc, bs)) : Ex sc 70 0 (ax_en 70 [.ref 22, .int (zi i)]) [] (mg σ J G, n, bc, bs) K := by
  obtain ⟨hP, hP1, hP2, hN, hN2, hM, hM2, hv, hbr, hrm⟩ := id hT
  show Ex sc 70 0 [some (.ref 22), some (.int (zi i))] [] (mg σ J G, n, bc, bs) K
  refine xild_1 (q := 1) d_70_0 rfl ?_
  refine z_i2l (by omega) (by omega) (q := 2) d_70_1 rfl ?_
  refine x_lconst (q := 3) (v := zl (0)) d_70_2 rfl rfl ?_
  refine xald_0 (q := 4) d_70_3 rfl ?_
  refine yg_count hn (q := 7) d_70_4 rfl fl_M_76 ?_
  refine x_iconst (q := 8) (v := zi (1)) d_70_7 rfl rfl ?_
  refine z_isub (q := 9) d_70_8 rfl ?_
  refine z_i2l (by omega) (by omega) (q := 10) d_70_9 rfl ?_
  refine z_in (by omega) (by omega) (by omega) (by omega) (by omega) (by omega) (q := 13) d_70_10 rfl lk_M_79 ⟨by decide +kernel, by decide +kernel⟩ (by simp [Value.category]) ?_
  refine x_if_ne (q := 16) (t := 20) d_70_13 (by decide) rfl (fun c13 => ?_) (fun c13 => ?_)
  · refine x_iconst (q := 21) (v := zi (0)) d_70_20 rfl rfl ?_
    refine x_iret d_70_21 rfl rfl ?_
    first
      | (have hc : 0 ≤ i ∧ i < N := (by unfold inI at c13; split at c13; omega; exact absurd rfl c13); rw [has_1 hc] at k; exact k)
      | (have hc : ¬ (0 ≤ i ∧ i < N) := (by unfold inI at c13; split at c13; exact absurd c13 (by decide); omega); rw [has_0 hc] at k; exact k)
  · refine x_iconst (q := 17) (v := zi (1)) d_70_16 rfl rfl ?_
    refine x_goto (t := 21) d_70_17 (by decide) ?_
    refine x_iret d_70_21 rfl rfl ?_
    first
      | (have hc : 0 ≤ i ∧ i < N := (by unfold inI at c13; split at c13; omega; exact absurd rfl c13); rw [has_1 hc] at k; exact k)
      | (have hc : ¬ (0 ≤ i ∧ i < N) := (by unfold inI at c13; split at c13; exact absurd c13 (by decide); omega); rw [has_0 hc] at k; exact k)
set_option maxHeartbeats 2000000 in
theorem t_size {sc : ax_S} {h : ax_H} {K : ax_K} {v : Int} (hv : I32 v) (k : K (some (.int (zi (if v < 0 then -v else v)))) h) : Ex sc 80 0 (ax_en 80 [.int (zi v)]) [] h K := by
  show Ex sc 80 0 [some (.int (zi v))] [] h K
  refine xild_0 (q := 1) d_80_0 rfl ?_
  refine x_if_ge (q := 4) (t := 9) d_80_1 (by decide) rfl (fun c1 => ?_) (fun c1 => ?_)
  · rw [zi_ge0 (by omega) (by omega)] at c1
    refine xild_0 (q := 10) d_80_9 rfl ?_
    refine x_iret d_80_10 rfl rfl ?_
    first
      | (rw [if_neg (by omega)] at k; exact k)
      | (rw [if_pos (by omega)] at k; exact k)
  · rw [zi_ge0 (by omega) (by omega)] at c1
    refine xild_0 (q := 5) d_80_4 rfl ?_
    refine z_ineg (q := 6) d_80_5 rfl ?_
    refine x_goto (t := 10) d_80_6 (by decide) ?_
    refine x_iret d_80_10 rfl rfl ?_
    first
      | (rw [if_neg (by omega)] at k; exact k)
      | (rw [if_pos (by omega)] at k; exact k)
def tsI (M P : Nat) (q : Int) (f g : Nat → Int) (j : Nat) : Int := if M = 1 then 100 * q * P - smI M q f g j else smI M q f g j
theorem ts_0 {M P j : Nat} {q : Int} {f g : Nat → Int} {x y : Int} (hM : M = 0) (hx : shI (f j) q = x) (hy : shI (g j) q = y) : tsI M P q f g j + (x - y) * (x - y) = tsI M P q f g (j + 1) := by
  subst hM; subst hx; subst hy
  rfl
theorem ts_1 {M P j : Nat} {q : Int} {f g : Nat → Int} {x y : Int} (hM : M = 1) (hx : shI (f j) q = x) (hy : shI (g j) q = y) : tsI M P q f g j - x * y = tsI M P q f g (j + 1) := by
  subst hM; subst hx; subst hy
  show 100 * q * P - smI 1 q f g j - shI (f j) q * shI (g j) q = 100 * q * P - (smI 1 q f g j + shI (f j) q * shI (g j) q)
  omega
theorem ts_2 {M P j : Nat} {q : Int} {f g : Nat → Int} {x y : Int} (h0 : ¬ M = 0) (h1 : ¬ M = 1) (hx : shI (f j) q = x) (hy : shI (g j) q = y) : tsI M P q f g j + (if x - y < 0 then -(x - y) else x - y) = tsI M P q f g (j + 1) := by
  subst hx; subst hy
  unfold tsI
  rw [if_neg h1, if_neg h1]
  show _ = smI M q f g j + tmI M _ _
  congr 1
  unfold tmI
  rw [if_neg h0, if_neg h1]
set_option maxHeartbeats 2000000 in
theorem lt_farOf {sc : ax_S} {σ : Nat → ax_C} {J : Nat → Int} {G : Nat → Nat → Int} {n bc bs : Nat} {K : ax_K} (hn : 38 ≤ n) {P N M : Nat} (hT : TW J G P N M) {a b q : Nat} (ha : a ≤ 100) (hb : b ≤ 100) (hq : 1 ≤ q ∧ q ≤ 100) (k : K (some (.int (zi (farT G P M q a b)))) (mg σ J G, n, bc, bs)) : ∀ (d j : Nat) (t6 t7 : Option Value), j + d = P → Ex sc 79 26 [some (.ref 22), some (.int (zi a)), some (.int (zi b)), some (.int (zi q)), some (.int (zi (tsI M P q (tv G a) (tv G b) j))), some (.int (zi j)), t6, t7] [] (mg σ J G, n, bc, bs) K := by
  obtain ⟨hP, hP1, hP2, hN, hN2, hM, hM2, hv, hbr, hrm⟩ := id hT
  intro d
  induction d with
  | zero =>
    intro j t6 t7 hj
    have hjP : j = P := by omega
    subst hjP
    refine xild_5 (q := 28) d_79_26 rfl ?_
    refine xald_0 (q := 29) d_79_28 rfl ?_
    refine yg_parts hn (q := 32) d_79_29 rfl fl_M_70 ?_
    refine x_icmp_ge (q := 35) (t := 135) d_79_32 (by decide) rfl (fun c32 => ?_) (fun c32 => ?_)
    · rw [zi_le (by omega) (by omega) (by omega) (by omega)] at c32
      refine xild_4 (q := 137) d_79_135 rfl ?_
      refine x_iret d_79_137 rfl rfl ?_
      exact k
    · rw [zi_le (by omega) (by omega) (by omega) (by omega)] at c32
      exact absurd c32 (by omega)
  | succ d ih =>
    intro j t6 t7 hj
    have hfa := hT.in ha j (by omega)
    have hfb := hT.in hb j (by omega)
    have hsa := sh_b (q := q) hfa
    have hsb := sh_b (q := q) hfb
    have hba := mul_b (a := 100) (b := 100) hfa (y := (q : Int)) ⟨by omega, by omega⟩
    have hbb := mul_b (a := 100) (b := 100) hfb (y := (q : Int)) ⟨by omega, by omega⟩
    refine xild_5 (q := 28) d_79_26 rfl ?_
    refine xald_0 (q := 29) d_79_28 rfl ?_
    refine yg_parts hn (q := 32) d_79_29 rfl fl_M_70 ?_
    refine x_icmp_ge (q := 35) (t := 135) d_79_32 (by decide) rfl (fun c32 => ?_) (fun c32 => ?_)
    · rw [zi_le (by omega) (by omega) (by omega) (by omega)] at c32
      exact absurd c32 (by omega)
    · rw [zi_le (by omega) (by omega) (by omega) (by omega)] at c32
      refine xald_0 (q := 36) d_79_35 rfl ?_
      refine yg_all hn (q := 39) d_79_36 rfl fl_M_19 ?_
      refine x_bipush (q := 41) (v := zi (8)) d_79_39 rfl (by decide) ?_
      refine xild_1 (q := 42) d_79_41 rfl ?_
      refine z_imul (q := 43) d_79_42 rfl ?_
      refine xild_5 (q := 45) d_79_43 rfl ?_
      refine z_iadd (q := 46) d_79_45 rfl ?_
      refine yl_all (q := 47) hn d_79_46 rfl (by omega) (by omega) ?_
      rw [show (8 * (a : Int) + (j : Int)).toNat = 8 * a + j by omega, show G 0 (8 * a + j) = tv G a j from rfl]
      refine xild_3 (q := 48) d_79_47 rfl ?_
      refine z_imul (q := 49) d_79_48 rfl ?_
      refine x_bipush (q := 51) (v := zi (100)) d_79_49 rfl (by decide) ?_
      refine z_idiv (q := 52) d_79_51 rfl (by omega) (by omega) (by omega) (by omega) ?_
      rw [show (tv G a j * (q : Int)).tdiv 100 = shI (tv G a j) q from rfl]
      generalize hx : shI (tv G a j) q = x at hsa ⊢
      refine xist_6 (q := 54) d_79_52 rfl ?_
      refine xald_0 (q := 55) d_79_54 rfl ?_
      refine yg_all hn (q := 58) d_79_55 rfl fl_M_19 ?_
      refine x_bipush (q := 60) (v := zi (8)) d_79_58 rfl (by decide) ?_
      refine xild_2 (q := 61) d_79_60 rfl ?_
      refine z_imul (q := 62) d_79_61 rfl ?_
      refine xild_5 (q := 64) d_79_62 rfl ?_
      refine z_iadd (q := 65) d_79_64 rfl ?_
      refine yl_all (q := 66) hn d_79_65 rfl (by omega) (by omega) ?_
      rw [show (8 * (b : Int) + (j : Int)).toNat = 8 * b + j by omega, show G 0 (8 * b + j) = tv G b j from rfl]
      refine xild_3 (q := 67) d_79_66 rfl ?_
      refine z_imul (q := 68) d_79_67 rfl ?_
      refine x_bipush (q := 70) (v := zi (100)) d_79_68 rfl (by decide) ?_
      refine z_idiv (q := 71) d_79_70 rfl (by omega) (by omega) (by omega) (by omega) ?_
      rw [show (tv G b j * (q : Int)).tdiv 100 = shI (tv G b j) q from rfl]
      generalize hy : shI (tv G b j) q = y at hsb ⊢
      refine xist_7 (q := 73) d_79_71 rfl ?_
      refine xald_0 (q := 74) d_79_73 rfl ?_
      refine yg_measure hn (q := 77) d_79_74 rfl fl_M_83 ?_
      refine x_if_ne (q := 80) (t := 97) d_79_77 (by decide) rfl (fun c77 => ?_) (fun c77 => ?_)
      · rw [zi_eq0 (by omega) (by omega)] at c77
        refine xald_0 (q := 98) d_79_97 rfl ?_
        refine yg_measure hn (q := 101) d_79_98 rfl fl_M_83 ?_
        refine x_iconst (q := 102) (v := zi (1)) d_79_101 rfl rfl ?_
        refine x_icmp_ne (q := 105) (t := 116) d_79_102 (by decide) rfl (fun c102 => ?_) (fun c102 => ?_)
        · rw [zi_eq (by omega) (by omega) (by omega) (by omega)] at c102
          refine xild_4 (q := 118) d_79_116 rfl ?_
          refine xild_6 (q := 120) d_79_118 rfl ?_
          refine xild_7 (q := 122) d_79_120 rfl ?_
          refine z_isub (q := 123) d_79_122 rfl ?_
          refine xcS1 (q := 126) d_79_123 rfl lk_M_86 mo_80 ⟨by decide +kernel, by decide +kernel⟩ (by simp [Value.category]) (by decide +kernel) (by simp [Value.category])  ?_
          refine t_size (v := x - y) (by omega) ?_
          dsimp only [ax_ps]
          refine z_iadd (q := 127) d_79_126 rfl ?_
          refine xist_4 (q := 129) d_79_127 rfl ?_
          refine xincz_5 (q := 132) d_79_129 rfl ?_
          refine x_goto (t := 26) d_79_132 (by decide) ?_
          rw [show (j : Int) + 1 = ((j + 1 : Nat) : Int) by omega]
          first
            | (rw [ts_0 (by omega) hx hy]; exact ih (j + 1) _ _ (by omega))
            | (rw [ts_1 (by omega) hx hy]; exact ih (j + 1) _ _ (by omega))
            | (rw [ts_2 (by omega) (by omega) hx hy]; exact ih (j + 1) _ _ (by omega))
        · rw [zi_eq (by omega) (by omega) (by omega) (by omega)] at c102
          refine xild_4 (q := 107) d_79_105 rfl ?_
          refine xild_6 (q := 109) d_79_107 rfl ?_
          refine xild_7 (q := 111) d_79_109 rfl ?_
          refine z_imul (q := 112) d_79_111 rfl ?_
          refine z_isub (q := 113) d_79_112 rfl ?_
          refine x_goto (t := 127) d_79_113 (by decide) ?_
          refine xist_4 (q := 129) d_79_127 rfl ?_
          refine xincz_5 (q := 132) d_79_129 rfl ?_
          refine x_goto (t := 26) d_79_132 (by decide) ?_
          rw [show (j : Int) + 1 = ((j + 1 : Nat) : Int) by omega]
          first
            | (rw [ts_0 (by omega) hx hy]; exact ih (j + 1) _ _ (by omega))
            | (rw [ts_1 (by omega) hx hy]; exact ih (j + 1) _ _ (by omega))
            | (rw [ts_2 (by omega) (by omega) hx hy]; exact ih (j + 1) _ _ (by omega))
      · rw [zi_eq0 (by omega) (by omega)] at c77
        refine xild_4 (q := 82) d_79_80 rfl ?_
        refine xild_6 (q := 84) d_79_82 rfl ?_
        refine xild_7 (q := 86) d_79_84 rfl ?_
        refine z_isub (q := 87) d_79_86 rfl ?_
        refine xild_6 (q := 89) d_79_87 rfl ?_
        refine xild_7 (q := 91) d_79_89 rfl ?_
        refine z_isub (q := 92) d_79_91 rfl ?_
        refine z_imul (q := 93) d_79_92 rfl ?_
        refine z_iadd (q := 94) d_79_93 rfl ?_
        refine x_goto (t := 127) d_79_94 (by decide) ?_
        refine xist_4 (q := 129) d_79_127 rfl ?_
        refine xincz_5 (q := 132) d_79_129 rfl ?_
        refine x_goto (t := 26) d_79_132 (by decide) ?_
        rw [show (j : Int) + 1 = ((j + 1 : Nat) : Int) by omega]
        first
          | (rw [ts_0 (by omega) hx hy]; exact ih (j + 1) _ _ (by omega))
          | (rw [ts_1 (by omega) hx hy]; exact ih (j + 1) _ _ (by omega))
          | (rw [ts_2 (by omega) (by omega) hx hy]; exact ih (j + 1) _ _ (by omega))
set_option maxHeartbeats 2000000 in
theorem t_farOf {sc : ax_S} {σ : Nat → ax_C} {J : Nat → Int} {G : Nat → Nat → Int} {n bc bs : Nat} {K : ax_K} (hn : 38 ≤ n) {P N M : Nat} (hT : TW J G P N M) {a b q : Nat} (ha : a ≤ 100) (hb : b ≤ 100) (hq : 1 ≤ q ∧ q ≤ 100) (k : K (some (.int (zi (farT G P M q a b)))) (mg σ J G, n, bc, bs)) : Ex sc 79 0 (ax_en 79 [.ref 22, .int (zi a), .int (zi b), .int (zi q)]) [] (mg σ J G, n, bc, bs) K := by
  obtain ⟨hP, hP1, hP2, hN, hN2, hM, hM2, hv, hbr, hrm⟩ := id hT
  show Ex sc 79 0 [some (.ref 22), some (.int (zi a)), some (.int (zi b)), some (.int (zi q)), none, none, none, none] [] (mg σ J G, n, bc, bs) K
  have h0 := lt_farOf (sc := sc) hn hT ha hb hq k P 0 none none (by omega)
  refine xald_0 (q := 1) d_79_0 rfl ?_
  refine yg_measure hn (q := 4) d_79_1 rfl fl_M_83 ?_
  refine x_iconst (q := 5) (v := zi (1)) d_79_4 rfl rfl ?_
  refine x_icmp_ne (q := 8) (t := 20) d_79_5 (by decide) rfl (fun c5 => ?_) (fun c5 => ?_)
  · rw [zi_eq (by omega) (by omega) (by omega) (by omega)] at c5
    refine x_iconst (q := 21) (v := zi (0)) d_79_20 rfl rfl ?_
    refine xist_4 (q := 23) d_79_21 rfl ?_
    refine x_iconst (q := 24) (v := zi (0)) d_79_23 rfl rfl ?_
    refine xist_5 (q := 26) d_79_24 rfl ?_
    first
      | (rw [show tsI M P q (tv G a) (tv G b) 0 = 100 * (q : Int) * P by (unfold tsI; rw [if_pos (by omega)]; exact Int.sub_zero _)] at h0; exact h0)
      | (rw [show tsI M P q (tv G a) (tv G b) 0 = 0 by (unfold tsI; rw [if_neg (by omega)]; rfl)] at h0; exact h0)
  · rw [zi_eq (by omega) (by omega) (by omega) (by omega)] at c5
    refine x_bipush (q := 10) (v := zi (100)) d_79_8 rfl (by decide) ?_
    refine xild_3 (q := 11) d_79_10 rfl ?_
    refine z_imul (q := 12) d_79_11 rfl ?_
    refine xald_0 (q := 13) d_79_12 rfl ?_
    refine yg_parts hn (q := 16) d_79_13 rfl fl_M_70 ?_
    refine z_imul (q := 17) d_79_16 rfl ?_
    rw [hP]
    refine x_goto (t := 21) d_79_17 (by decide) ?_
    refine xist_4 (q := 23) d_79_21 rfl ?_
    refine x_iconst (q := 24) (v := zi (0)) d_79_23 rfl rfl ?_
    refine xist_5 (q := 26) d_79_24 rfl ?_
    first
      | (rw [show tsI M P q (tv G a) (tv G b) 0 = 100 * (q : Int) * P by (unfold tsI; rw [if_pos (by omega)]; exact Int.sub_zero _)] at h0; exact h0)
      | (rw [show tsI M P q (tv G a) (tv G b) 0 = 0 by (unfold tsI; rw [if_neg (by omega)]; rfl)] at h0; exact h0)
set_option maxHeartbeats 2000000 in
theorem t_before {sc : ax_S} {σ : Nat → ax_C} {J : Nat → Int} {G : Nat → Nat → Int} {n bc bs : Nat} {K : ax_K} (hn : 38 ≤ n) {N o a b : Nat} (hN : N ≤ 100) (ho : o ≤ 100) (ha : a < N) (hb : b < N) (hF : FAb G N o) (k : K (some (.int (zi (if kg G o a < kg G o b then 1 else 0)))) (mg σ J G, n, bc, bs)) : Ex sc 83 0 (ax_en 83 [.ref 22, .int (zi o), .int (zi a), .int (zi b)]) [] (mg σ J G, n, bc, bs) K := by
  have h1 := hF a ha
  have h2 := hF b hb
  unfold kg at k
  show Ex sc 83 0 [some (.ref 22), some (.int (zi o)), some (.int (zi a)), some (.int (zi b)), none, none] [] (mg σ J G, n, bc, bs) K
  refine xald_0 (q := 1) d_83_0 rfl ?_
  refine yg_fars hn (q := 4) d_83_1 rfl fl_M_43 ?_
  refine x_bipush (q := 6) (v := zi (100)) d_83_4 rfl (by decide) ?_
  refine xild_1 (q := 7) d_83_6 rfl ?_
  refine z_imul (q := 8) d_83_7 rfl ?_
  refine xild_2 (q := 9) d_83_8 rfl ?_
  refine z_iadd (q := 10) d_83_9 rfl ?_
  refine yl_fars (q := 11) hn d_83_10 rfl (by omega) (by omega) ?_
  rw [show (100 * (o : Int) + (a : Int)).toNat = 100 * o + a by omega]
  refine xist_4 (q := 13) d_83_11 rfl ?_
  refine xald_0 (q := 14) d_83_13 rfl ?_
  refine yg_fars hn (q := 17) d_83_14 rfl fl_M_43 ?_
  refine x_bipush (q := 19) (v := zi (100)) d_83_17 rfl (by decide) ?_
  refine xild_1 (q := 20) d_83_19 rfl ?_
  refine z_imul (q := 21) d_83_20 rfl ?_
  refine xild_3 (q := 22) d_83_21 rfl ?_
  refine z_iadd (q := 23) d_83_22 rfl ?_
  refine yl_fars (q := 24) hn d_83_23 rfl (by omega) (by omega) ?_
  rw [show (100 * (o : Int) + (b : Int)).toNat = 100 * o + b by omega]
  refine xist_5 (q := 26) d_83_24 rfl ?_
  refine xild_4 (q := 28) d_83_26 rfl ?_
  refine xild_5 (q := 30) d_83_28 rfl ?_
  refine x_icmp_lt (q := 33) (t := 45) d_83_30 (by decide) rfl (fun c30 => ?_) (fun c30 => ?_)
  · rw [zi_lt (by omega) (by omega) (by omega) (by omega)] at c30
    refine x_iconst (q := 46) (v := zi (1)) d_83_45 rfl rfl ?_
    refine x_goto (t := 50) d_83_46 (by decide) ?_
    refine x_iret d_83_50 rfl rfl ?_
    first
      | (rw [if_pos (by omega)] at k; exact k)
      | (rw [if_neg (by omega)] at k; exact k)
  · rw [zi_lt (by omega) (by omega) (by omega) (by omega)] at c30
    refine xild_4 (q := 35) d_83_33 rfl ?_
    refine xild_5 (q := 37) d_83_35 rfl ?_
    refine x_icmp_ne (q := 40) (t := 49) d_83_37 (by decide) rfl (fun c37 => ?_) (fun c37 => ?_)
    · rw [zi_eq (by omega) (by omega) (by omega) (by omega)] at c37
      refine x_iconst (q := 50) (v := zi (0)) d_83_49 rfl rfl ?_
      refine x_iret d_83_50 rfl rfl ?_
      first
        | (rw [if_pos (by omega)] at k; exact k)
        | (rw [if_neg (by omega)] at k; exact k)
    · rw [zi_eq (by omega) (by omega) (by omega) (by omega)] at c37
      refine xild_2 (q := 41) d_83_40 rfl ?_
      refine xild_3 (q := 42) d_83_41 rfl ?_
      refine x_icmp_ge (q := 45) (t := 49) d_83_42 (by decide) rfl (fun c42 => ?_) (fun c42 => ?_)
      · rw [zi_le (by omega) (by omega) (by omega) (by omega)] at c42
        refine x_iconst (q := 50) (v := zi (0)) d_83_49 rfl rfl ?_
        refine x_iret d_83_50 rfl rfl ?_
        first
          | (rw [if_pos (by omega)] at k; exact k)
          | (rw [if_neg (by omega)] at k; exact k)
      · rw [zi_le (by omega) (by omega) (by omega) (by omega)] at c42
        refine x_iconst (q := 46) (v := zi (1)) d_83_45 rfl rfl ?_
        refine x_goto (t := 50) d_83_46 (by decide) ?_
        refine x_iret d_83_50 rfl rfl ?_
        first
          | (rw [if_pos (by omega)] at k; exact k)
          | (rw [if_neg (by omega)] at k; exact k)
set_option maxHeartbeats 2000000 in
theorem lt_seeFrom {sc : ax_S} {σ : Nat → ax_C} {J : Nat → Int} {G0 : Nat → Nat → Int} {n bc bs : Nat} {K : ax_K} (hn : 38 ≤ n) {P N M : Nat} (hT0 : TW J G0 P N M) {o q : Nat} (ho : o ≤ 100) (hq : 1 ≤ q ∧ q ≤ 100)
    (k : ∀ G', (∀ x, x < N → G' 6 (100 * o + x) = farT G0 P M q o x) → (∀ p, p < 100 * o ∨ 100 * o + N ≤ p → G' 6 p = G0 6 p) → (∀ r, r ≠ 6 → G' r = G0 r) → K none (mg σ J G', n, bc, bs)) :
    ∀ (d j : Nat) (G : Nat → Nat → Int), j + d = N → (∀ x, x < j → G 6 (100 * o + x) = farT G0 P M q o x) → (∀ p, p < 100 * o ∨ 100 * o + N ≤ p → G 6 p = G0 6 p) → (∀ r, r ≠ 6 → G r = G0 r) → Ex sc 78 2 [some (.ref 22), some (.int (zi o)), some (.int (zi q)), some (.int (zi j))] [] (mg σ J G, n, bc, bs) K := by
  have hN := hT0.2.2.2.1
  have hN2 := hT0.2.2.2.2.1
  intro d
  induction d with
  | zero =>
    intro j G hj h1 h2 h3
    have hjN : j = N := by omega
    subst hjN
    refine xild_3 (q := 3) d_78_2 rfl ?_
    refine xald_0 (q := 4) d_78_3 rfl ?_
    refine yg_count hn (q := 7) d_78_4 rfl fl_M_76 ?_
    refine x_icmp_ge (q := 10) (t := 34) d_78_7 (by decide) rfl (fun c7 => ?_) (fun c7 => ?_)
    · rw [zi_le (by omega) (by omega) (by omega) (by omega)] at c7
      refine x_vret d_78_34 rfl ?_
      exact k G h1 h2 h3
    · rw [zi_le (by omega) (by omega) (by omega) (by omega)] at c7
      exact absurd c7 (by omega)
  | succ d ih =>
    intro j G hj h1 h2 h3
    have hT : TW J G P N M := hT0.same rfl rfl rfl (h3 0 (by decide)) (h3 1 (by decide)) (h3 2 (by decide))
    have ef : ∀ x y, farT G P M q x y = farT G0 P M q x y := fun x y => by unfold farT tv; rw [h3 0 (by decide)]
    refine xild_3 (q := 3) d_78_2 rfl ?_
    refine xald_0 (q := 4) d_78_3 rfl ?_
    refine yg_count hn (q := 7) d_78_4 rfl fl_M_76 ?_
    refine x_icmp_ge (q := 10) (t := 34) d_78_7 (by decide) rfl (fun c7 => ?_) (fun c7 => ?_)
    · rw [zi_le (by omega) (by omega) (by omega) (by omega)] at c7
      exact absurd c7 (by omega)
    · rw [zi_le (by omega) (by omega) (by omega) (by omega)] at c7
      refine xald_0 (q := 11) d_78_10 rfl ?_
      refine yg_fars hn (q := 14) d_78_11 rfl fl_M_43 ?_
      refine x_bipush (q := 16) (v := zi (100)) d_78_14 rfl (by decide) ?_
      refine xild_1 (q := 17) d_78_16 rfl ?_
      refine z_imul (q := 18) d_78_17 rfl ?_
      refine xild_3 (q := 19) d_78_18 rfl ?_
      refine z_iadd (q := 20) d_78_19 rfl ?_
      refine xald_0 (q := 21) d_78_20 rfl ?_
      refine xild_1 (q := 22) d_78_21 rfl ?_
      refine xild_3 (q := 23) d_78_22 rfl ?_
      refine xild_2 (q := 24) d_78_23 rfl ?_
      refine xcV3 (q := 27) d_78_24 rfl lk_M_90 mo_79 ⟨by decide +kernel, by decide +kernel⟩ (by simp [Value.category]) (by decide +kernel) (by simp [Value.category]) (by omega) rfl ?_
      refine t_farOf hn hT (a := o) (b := j) (q := q) ho (by omega) hq ?_
      dsimp only [ax_ps]
      rw [ef]
      refine ys_fars (q := 28) hn d_78_27 rfl (by omega) (by omega) ?_
      refine xincz_3 (q := 31) d_78_28 rfl ?_
      refine x_goto (t := 2) d_78_31 (by decide) ?_
      rw [show (j : Int) + 1 = ((j + 1 : Nat) : Int) by omega, show (100 * (o : Int) + (j : Int)).toNat = 100 * o + j by omega]
      refine ih (j + 1) _ (by omega) (fun x hx => ?_) (fun p hp => ?_) (fun r hr => by rw [va_un _ _ _ hr]; exact h3 r hr)
      · rw [va_us]
        by_cases e : x = j
        · rw [e, va_us]
        · rw [va_un _ _ _ (by omega)]; exact h1 x (by omega)
      · rw [va_us, va_un _ _ _ (by omega)]; exact h2 p hp
set_option maxHeartbeats 2000000 in
theorem t_seeFrom {sc : ax_S} {σ : Nat → ax_C} {J : Nat → Int} {G : Nat → Nat → Int} {n bc bs : Nat} {K : ax_K} (hn : 38 ≤ n) {P N M : Nat} (hT : TW J G P N M) {o q : Nat} (ho : o ≤ 100) (hq : 1 ≤ q ∧ q ≤ 100)
    (k : ∀ G', (∀ x, x < N → G' 6 (100 * o + x) = farT G P M q o x) → (∀ p, p < 100 * o ∨ 100 * o + N ≤ p → G' 6 p = G 6 p) → (∀ r, r ≠ 6 → G' r = G r) → K none (mg σ J G', n, bc, bs)) : Ex sc 78 0 (ax_en 78 [.ref 22, .int (zi o), .int (zi q)]) [] (mg σ J G, n, bc, bs) K := by
  show Ex sc 78 0 [some (.ref 22), some (.int (zi o)), some (.int (zi q)), none] [] (mg σ J G, n, bc, bs) K
  refine x_iconst (q := 1) (v := zi (0)) d_78_0 rfl rfl ?_
  refine xist_3 (q := 2) d_78_1 rfl ?_
  exact lt_seeFrom hn hT ho hq k N 0 G (by omega) (fun x hx => absurd hx (Nat.not_lt_zero _)) (fun _ _ => rfl) (fun _ _ => rfl)
def tzC : Nat → Int32 → Nat → Nat
  | 0, _, z => z
  | d + 1, h, z => if ush h z &&& 1 = 0 then tzC d h (z + 1) else z
theorem tzC_le : ∀ (d : Nat) (h : Int32) (z : Nat), tzC d h z ≤ z + d
  | 0, _, z => Nat.le_refl _
  | d + 1, h, z => by
    unfold tzC
    have := tzC_le d h (z + 1)
    split <;> omega
def levT (s : Int) (i : Nat) : Nat := let z := tzC 32 (hashI (zi s) (zi i)) 0; if 4 < z / 2 then 4 else z / 2
set_option maxHeartbeats 2000000 in
theorem lt_levelOf {sc : ax_S} {hp : ax_H} {K : ax_K} {i s : Int} {h : Int32} (z9 : Nat) (k : K (some (.int (zi (((if 4 < z9 / 2 then 4 else z9 / 2 : Nat)) : Int)))) hp) : ∀ (d z : Nat), z + d = 32 → z9 = tzC d h z → Ex sc 88 26 [some (.int (zi i)), some (.int (zi s)), some (.int h), some (.int (zi z))] [] hp K := by
  have fin : z9 ≤ 32 → Ex sc 88 46 [some (.int (zi i)), some (.int (zi s)), some (.int h), some (.int (zi z9))] [] hp K := by
    intro hz
    refine xild_3 (q := 47) d_88_46 rfl ?_
    refine x_iconst (q := 48) (v := zi (2)) d_88_47 rfl rfl ?_
    refine z_idiv (q := 49) d_88_48 rfl (by omega) (by omega) (by omega) (by omega) ?_
    rw [show ((z9 : Int)).tdiv 2 = ((z9 / 2 : Nat) : Int) from rfl]
    refine x_iconst (q := 50) (v := zi (4)) d_88_49 rfl rfl ?_
    refine x_icmp_le (q := 53) (t := 57) d_88_50 (by decide) rfl (fun c50 => ?_) (fun c50 => ?_)
    · rw [zi_le (by omega) (by omega) (by omega) (by omega)] at c50
      refine xild_3 (q := 58) d_88_57 rfl ?_
      refine x_iconst (q := 59) (v := zi (2)) d_88_58 rfl rfl ?_
      refine z_idiv (q := 60) d_88_59 rfl (by omega) (by omega) (by omega) (by omega) ?_
      skip
      refine x_iret d_88_60 rfl rfl ?_
      first
        | (rw [if_pos (by omega)] at k; exact k)
        | (rw [show ((z9 : Int)).tdiv 2 = ((z9 / 2 : Nat) : Int) from rfl]; rw [if_neg (by omega)] at k; exact k)
    · rw [zi_le (by omega) (by omega) (by omega) (by omega)] at c50
      refine x_iconst (q := 54) (v := zi (4)) d_88_53 rfl rfl ?_
      refine x_goto (t := 60) d_88_54 (by decide) ?_
      skip
      refine x_iret d_88_60 rfl rfl ?_
      first
        | (rw [if_pos (by omega)] at k; exact k)
        | (rw [show ((z9 : Int)).tdiv 2 = ((z9 / 2 : Nat) : Int) from rfl]; rw [if_neg (by omega)] at k; exact k)
  intro d
  induction d with
  | zero =>
    intro z hz hv
    have hv : z9 = z := hv
    subst hv
    refine xild_3 (q := 27) d_88_26 rfl ?_
    refine x_bipush (q := 29) (v := zi (32)) d_88_27 rfl (by decide) ?_
    refine x_icmp_ge (q := 32) (t := 46) d_88_29 (by decide) rfl (fun c29 => ?_) (fun c29 => ?_)
    · rw [zi_le (by omega) (by omega) (by omega) (by omega)] at c29
      exact fin (by omega)
    · rw [zi_le (by omega) (by omega) (by omega) (by omega)] at c29
      exact absurd c29 (by omega)
  | succ d ih =>
    intro z hz hv
    have hv : z9 = if ush h z &&& 1 = 0 then tzC d h (z + 1) else z := hv
    refine xild_3 (q := 27) d_88_26 rfl ?_
    refine x_bipush (q := 29) (v := zi (32)) d_88_27 rfl (by decide) ?_
    refine x_icmp_ge (q := 32) (t := 46) d_88_29 (by decide) rfl (fun c29 => ?_) (fun c29 => ?_)
    · rw [zi_le (by omega) (by omega) (by omega) (by omega)] at c29
      first
        | (exact absurd c29 (by omega))
        | (rw [if_neg c37] at hv; subst hv; exact fin (by omega))
    · rw [zi_le (by omega) (by omega) (by omega) (by omega)] at c29
      refine xild_2 (q := 33) d_88_32 rfl ?_
      refine xild_3 (q := 34) d_88_33 rfl ?_
      refine x_iushr (q := 35) d_88_34 rfl ?_
      rw [show (h.toUInt32 >>> ((zi (z : Int)).toUInt32 &&& Int32.toUInt32 31)).toInt32 = ush h z from rfl]
      refine x_iconst (q := 36) (v := zi (1)) d_88_35 rfl rfl ?_
      refine x_iand (q := 37) d_88_36 rfl ?_
      rw [show zi 1 = 1 from rfl]
      refine x_if_ne (q := 40) (t := 46) d_88_37 (by decide) rfl (fun c37 => ?_) (fun c37 => ?_)
      · first
          | (exact absurd c29 (by omega))
          | (rw [if_neg c37] at hv; subst hv; exact fin (by omega))
      · refine xincz_3 (q := 43) d_88_40 rfl ?_
        refine x_goto (t := 26) d_88_43 (by decide) ?_
        rw [if_pos c37] at hv
        rw [show (z : Int) + 1 = ((z + 1 : Nat) : Int) by omega]
        exact ih (z + 1) (by omega) hv
set_option maxHeartbeats 2000000 in
theorem t_levelOf {sc : ax_S} {hp : ax_H} {K : ax_K} {i : Nat} {s : Int} (k : K (some (.int (zi (levT s i)))) hp) : Ex sc 88 0 (ax_en 88 [.int (zi i), .int (zi s)]) [] hp K := by
  show Ex sc 88 0 [some (.int (zi i)), some (.int (zi s)), none, none] [] hp K
  refine xild_1 (q := 1) d_88_0 rfl ?_
  refine xild_0 (q := 2) d_88_1 rfl ?_
  refine x_ixor (q := 3) d_88_2 rfl ?_
  refine x_ldc (q := 5) (v := (-1640531535)) d_88_3 rfl kc_M_94 ?_
  refine x_imul (q := 6) d_88_5 rfl ?_
  refine xist_2 (q := 7) d_88_6 rfl ?_
  refine xild_2 (q := 8) d_88_7 rfl ?_
  refine xild_2 (q := 9) d_88_8 rfl ?_
  refine x_bipush (q := 11) (v := zi (16)) d_88_9 rfl (by decide) ?_
  refine x_iushr (q := 12) d_88_11 rfl ?_
  refine x_ixor (q := 13) d_88_12 rfl ?_
  refine x_ldc (q := 15) (v := (-2048144789)) d_88_13 rfl kc_M_95 ?_
  refine x_imul (q := 16) d_88_15 rfl ?_
  refine xist_2 (q := 17) d_88_16 rfl ?_
  refine xild_2 (q := 18) d_88_17 rfl ?_
  refine xild_2 (q := 19) d_88_18 rfl ?_
  refine x_bipush (q := 21) (v := zi (13)) d_88_19 rfl (by decide) ?_
  refine x_iushr (q := 22) d_88_21 rfl ?_
  refine x_ixor (q := 23) d_88_22 rfl ?_
  refine xist_2 (q := 24) d_88_23 rfl ?_
  refine x_iconst (q := 25) (v := zi (0)) d_88_24 rfl rfl ?_
  refine xist_3 (q := 26) d_88_25 rfl ?_
  exact lt_levelOf (tzC 32 (hashI (zi s) (zi i)) 0) k 32 0 (by omega) rfl
/-- the reference's rows, as a table of neighbours -/
def NR (G : Nat → Nat → Int) (R : Nat → Nat → List Nat) : Prop := ∀ l i j, l < 5 → i < 100 → j < 100 → G 5 (10000 * l + 100 * i + j) = if j ∈ R i l then 1 else 0
set_option maxHeartbeats 2000000 in
theorem t_isNear {sc : ax_S} {σ : Nat → ax_C} {J : Nat → Int} {G : Nat → Nat → Int} {n bc bs : Nat} {K : ax_K} (hn : 38 ≤ n) {R : Nat → Nat → List Nat} (hR : NR G R) {l i j : Nat} (hl : l < 5) (hi : i < 100) (hj : j < 100) (k : K (some (.int (zi (if j ∈ R i l then 1 else 0)))) (mg σ J G, n, bc, bs)) : Ex sc 92 0 (ax_en 92 [.ref 22, .int (zi l), .int (zi i), .int (zi j)]) [] (mg σ J G, n, bc, bs) K := by
  have h1 := hR l i j hl hi hj
  show Ex sc 92 0 [some (.ref 22), some (.int (zi l)), some (.int (zi i)), some (.int (zi j))] [] (mg σ J G, n, bc, bs) K
  refine xald_0 (q := 1) d_92_0 rfl ?_
  refine yg_near hn (q := 4) d_92_1 rfl fl_M_37 ?_
  refine x_sipush (q := 7) (v := zi (10000)) d_92_4 rfl (by decide) ?_
  refine xild_1 (q := 8) d_92_7 rfl ?_
  refine z_imul (q := 9) d_92_8 rfl ?_
  refine x_bipush (q := 11) (v := zi (100)) d_92_9 rfl (by decide) ?_
  refine xild_2 (q := 12) d_92_11 rfl ?_
  refine z_imul (q := 13) d_92_12 rfl ?_
  refine z_iadd (q := 14) d_92_13 rfl ?_
  refine xild_3 (q := 15) d_92_14 rfl ?_
  refine z_iadd (q := 16) d_92_15 rfl ?_
  refine yl_near (q := 17) hn d_92_16 rfl (by omega) (by omega) ?_
  refine x_iret d_92_17 rfl (by rw [show (10000 * (l : Int) + 100 * (i : Int) + (j : Int)).toNat = 10000 * l + 100 * i + j by omega, h1]; split <;> rfl) ?_
  rw [show (10000 * (l : Int) + 100 * (i : Int) + (j : Int)).toNat = 10000 * l + 100 * i + j by omega, h1]
  exact k
set_option maxHeartbeats 2000000 in
theorem t_setNear {sc : ax_S} {σ : Nat → ax_C} {J : Nat → Int} {G : Nat → Nat → Int} {n bc bs : Nat} {K : ax_K} (hn : 38 ≤ n) {l i j : Nat} {b : Int} (hb : b = 0 ∨ b = 1) (hl : l < 5) (hi : i < 100) (hj : j < 100) (k : K none (mg σ J (va_up G 5 (va_up (G 5) (10000 * l + 100 * i + j) b)), n, bc, bs)) : Ex sc 97 0 (ax_en 97 [.ref 22, .int (zi l), .int (zi i), .int (zi j), .int (zi b)]) [] (mg σ J G, n, bc, bs) K := by
  show Ex sc 97 0 [some (.ref 22), some (.int (zi l)), some (.int (zi i)), some (.int (zi j)), some (.int (zi b))] [] (mg σ J G, n, bc, bs) K
  refine xald_0 (q := 1) d_97_0 rfl ?_
  refine yg_near hn (q := 4) d_97_1 rfl fl_M_37 ?_
  refine x_sipush (q := 7) (v := zi (10000)) d_97_4 rfl (by decide) ?_
  refine xild_1 (q := 8) d_97_7 rfl ?_
  refine z_imul (q := 9) d_97_8 rfl ?_
  refine x_bipush (q := 11) (v := zi (100)) d_97_9 rfl (by decide) ?_
  refine xild_2 (q := 12) d_97_11 rfl ?_
  refine z_imul (q := 13) d_97_12 rfl ?_
  refine z_iadd (q := 14) d_97_13 rfl ?_
  refine xild_3 (q := 15) d_97_14 rfl ?_
  refine z_iadd (q := 16) d_97_15 rfl ?_
  refine xild_4 (q := 18) d_97_16 rfl ?_
  refine ys_near (q := 19) hn hb d_97_18 rfl (by omega) (by omega) ?_
  refine x_vret d_97_19 rfl ?_
  rw [show (10000 * (l : Int) + 100 * (i : Int) + (j : Int)).toNat = 10000 * l + 100 * i + j by omega]
  exact k
def freeT (G : Nat → Nat → Int) (i : Nat) : Int := if G 1 i = 0 ∧ G 2 i = 0 then 1 else 0
set_option maxHeartbeats 2000000 in
theorem t_isFree {sc : ax_S} {σ : Nat → ax_C} {J : Nat → Int} {G : Nat → Nat → Int} {n bc bs : Nat} {K : ax_K} (hn : 38 ≤ n) {P N M : Nat} (hT : TW J G P N M) {i : Nat} (hi : i < 100) (k : K (some (.int (zi (freeT G i)))) (mg σ J G, n, bc, bs)) : Ex sc 77 0 (ax_en 77 [.ref 22, .int (zi i)]) [] (mg σ J G, n, bc, bs) K := by
  obtain ⟨hP, hP1, hP2, hN, hN2, hM, hM2, hv, hbr, hrm⟩ := id hT
  have h1 := hbr i hi
  have h2 := hrm i hi
  show Ex sc 77 0 [some (.ref 22), some (.int (zi i))] [] (mg σ J G, n, bc, bs) K
  refine xald_0 (q := 1) d_77_0 rfl ?_
  refine yg_barred hn (q := 4) d_77_1 rfl fl_M_23 ?_
  refine xild_1 (q := 5) d_77_4 rfl ?_
  refine yl_barred (q := 6) hn d_77_5 rfl (by omega) (by omega) ?_
  rw [show ((i : Int)).toNat = i by omega]
  refine x_if_ne (q := 9) (t := 22) d_77_6 (by decide) rfl (fun c6 => ?_) (fun c6 => ?_)
  · rw [zi_eq0 (by omega) (by omega)] at c6
    refine x_iconst (q := 23) (v := zi (0)) d_77_22 rfl rfl ?_
    refine x_iret d_77_23 rfl rfl ?_
    first
      | (have e1 : freeT G i = 1 := (by unfold freeT; rw [if_pos]; omega); rw [e1] at k; exact k)
      | (have e1 : freeT G i = 0 := (by unfold freeT; rw [if_neg]; omega); rw [e1] at k; exact k)
  · rw [zi_eq0 (by omega) (by omega)] at c6
    refine xald_0 (q := 10) d_77_9 rfl ?_
    refine yg_removed hn (q := 13) d_77_10 rfl fl_M_27 ?_
    refine xild_1 (q := 14) d_77_13 rfl ?_
    refine yl_removed (q := 15) hn d_77_14 rfl (by omega) (by omega) ?_
    rw [show ((i : Int)).toNat = i by omega]
    refine x_if_ne (q := 18) (t := 22) d_77_15 (by decide) rfl (fun c15 => ?_) (fun c15 => ?_)
    · rw [zi_eq0 (by omega) (by omega)] at c15
      refine x_iconst (q := 23) (v := zi (0)) d_77_22 rfl rfl ?_
      refine x_iret d_77_23 rfl rfl ?_
      first
        | (have e1 : freeT G i = 1 := (by unfold freeT; rw [if_pos]; omega); rw [e1] at k; exact k)
        | (have e1 : freeT G i = 0 := (by unfold freeT; rw [if_neg]; omega); rw [e1] at k; exact k)
    · rw [zi_eq0 (by omega) (by omega)] at c15
      refine x_iconst (q := 19) (v := zi (1)) d_77_18 rfl rfl ?_
      refine x_goto (t := 23) d_77_19 (by decide) ?_
      refine x_iret d_77_23 rfl rfl ?_
      first
        | (have e1 : freeT G i = 1 := (by unfold freeT; rw [if_pos]; omega); rw [e1] at k; exact k)
        | (have e1 : freeT G i = 0 := (by unfold freeT; rw [if_neg]; omega); rw [e1] at k; exact k)
