/-! THE REFERENCE: need -/
/-- the reference's graph is made, and it is g -/
def TB (J : Nat → Int) (G : Nat → Nat → Int) (P N M : Nat) (s : Int) (g : mSt) : Prop := (∀ a x, a < N → x < N → G 6 (100 * a + x) = farT G P M 100 a x) ∧ (∀ x, x < N → G 4 x = lev s x) ∧ NR G g.1 ∧ J 16 = entT g.2
theorem TB.keep {J J' : Nat → Int} {G G' : Nat → Nat → Int} {P N M : Nat} {s : Int} {g : mSt} (h : TB J G P N M s g) (hN : N ≤ 100) (h0 : ∀ a, a < N → ∀ k, k < P → tv G' a k = tv G a k) (h4 : G' 4 = G 4) (h5 : G' 5 = G 5) (h6 : ∀ p, p < 10000 → G' 6 p = G 6 p) (h16 : J' 16 = J 16) : TB J' G' P N M s g := by
  refine ⟨fun a x ha hx => ?_, by rw [h4]; exact h.2.1, h.2.2.1.congr h5 (fun _ _ _ _ => rfl), h16.trans h.2.2.2⟩
  rw [h6 _ (by omega), h.1 a x ha hx]
  exact farI_congr (fun k hk => (h0 a ha k hk).symm) (fun k hk => (h0 x hx k hk).symm)
theorem TB.fab {J : Nat → Int} {G : Nat → Nat → Int} {P N M : Nat} {s : Int} {g : mSt} (h : TB J G P N M s g) (hT : TW J G P N M) : ∀ i, i < N → FAb G N i := fun i hi x hx => by
  have := hT.2.2.2.2.1
  rw [h.1 i x hi hx]
  exact hT.far (by decide) (by omega) (by omega)
theorem fab_of {J : Nat → Int} {G G0 : Nat → Nat → Int} {P N M : Nat} (hT : TW J G0 P N M) (h : ∀ a x, a < N → x < N → G 6 (100 * a + x) = farT G0 P M 100 a x) : (∀ i, i < N → FAb G N i) ∧ ∀ a b, a < N → b < N → G 6 (100 * a + b) = G 6 (100 * b + a) := by
  have := hT.2.2.2.2.1
  refine ⟨fun i hi x hx => ?_, fun a b ha hb => ?_⟩
  · rw [h i x hi hx]
    exact hT.far (by decide) (by omega) (by omega)
  · rw [h a b ha hb, h b a hb ha]
    exact far_sym _ _ _ _ _
theorem farT_V {G V : Nat → Nat → Int} {P M N : Nat} (hV : ∀ i, i < N → ∀ k, k < P → tv G i k = V i k) {a b : Nat} (ha : a < N) (hb : b < N) : (farT G P M 100 a b).toNat = fbV V P M a b := by
  unfold farT fbV
  rw [farI_congr (hV a ha) (hV b hb)]
  rfl

set_option maxHeartbeats 2000000 in
theorem lt_needA {sc : ax_S} {σ : Nat → ax_C} {J : Nat → Int} {G0 : Nat → Nat → Int} {n bc bs : Nat} {K : ax_K} (hn : 38 ≤ n) {s0 : Int} (kk : ∀ (G : Nat → Nat → Int) (t : Option Value), (∀ r, r ≠ 5 → G r = G0 r) → (∀ x, x < 50000 → G 5 x = 0) → Ex sc 87 44 [some (.ref 22), some (.int (zi s0)), t] [] (mg σ J G, n, bc, bs) K) :
    ∀ (d j : Nat) (G : Nat → Nat → Int), j + d = 50000 → (∀ r, r ≠ 5 → G r = G0 r) → (∀ x, x < j → G 5 x = 0) → Ex sc 87 25 [some (.ref 22), some (.int (zi s0)), some (.int (zi j))] [] (mg σ J G, n, bc, bs) K := by
  intro d
  induction d with
  | zero =>
    intro j G hj hG h
    have hj1 : j = 50000 := by omega
    subst hj1
    refine xild_2 (q := 26) d_87_25 rfl ?_
    refine x_ldc (q := 28) (v := zi 50000) d_87_26 rfl kc_M_36 ?_
    refine x_icmp_ge (q := 31) (t := 44) d_87_28 (by decide) rfl (fun c28 => ?_) (fun c28 => ?_)
    · rw [zi_le (by omega) (by omega) (by omega) (by omega)] at c28
      exact kk G _ hG h
    · rw [zi_le (by omega) (by omega) (by omega) (by omega)] at c28
      exact absurd c28 (by omega)
  | succ d ih =>
    intro j G hj hG h
    refine xild_2 (q := 26) d_87_25 rfl ?_
    refine x_ldc (q := 28) (v := zi 50000) d_87_26 rfl kc_M_36 ?_
    refine x_icmp_ge (q := 31) (t := 44) d_87_28 (by decide) rfl (fun c28 => ?_) (fun c28 => ?_)
    · rw [zi_le (by omega) (by omega) (by omega) (by omega)] at c28
      exact absurd c28 (by omega)
    · rw [zi_le (by omega) (by omega) (by omega) (by omega)] at c28
      refine xald_0 (q := 32) d_87_31 rfl ?_
      refine yg_near hn (q := 35) d_87_32 rfl fl_M_37 ?_
      refine xild_2 (q := 36) d_87_35 rfl ?_
      refine x_iconst (q := 37) (v := zi (0)) d_87_36 rfl rfl ?_
      refine ys_near (q := 38) hn (Or.inl rfl) d_87_37 rfl (by omega) (by omega) ?_
      refine xincz_2 (q := 41) d_87_38 rfl ?_
      refine x_goto (t := 25) d_87_41 (by decide) ?_
      rw [show (j : Int) + 1 = ((j + 1 : Nat) : Int) by omega, show ((j : Int)).toNat = j by omega]
      refine ih (j + 1) _ (by omega) (fun r hr => by rw [va_un _ _ _ hr]; exact hG r hr) (fun x hx => ?_)
      rw [va_us]
      by_cases e : x = j
      · rw [e, va_us]
      · rw [va_un _ _ _ e]; exact h x (by omega)
set_option maxHeartbeats 2000000 in
theorem lt_needB {sc : ax_S} {σ : Nat → ax_C} {J : Nat → Int} {G0 : Nat → Nat → Int} {n bc bs : Nat} {K : ax_K} (hn : 38 ≤ n) {P N M : Nat} (hT0 : TW J G0 P N M) {s s0 : Int} (hs : J 2 = s) (kk : ∀ (G : Nat → Nat → Int) (t : Option Value), (∀ r, r ≠ 4 → r ≠ 6 → G r = G0 r) → (∀ a x, a < N → x < N → G 6 (100 * a + x) = farT G0 P M 100 a x) → (∀ x, x < N → G 4 x = lev s x) → Ex sc 87 81 [some (.ref 22), some (.int (zi s0)), t] [] (mg σ J G, n, bc, bs) K) :
    ∀ (d j : Nat) (G : Nat → Nat → Int), j + d = N → (∀ r, r ≠ 4 → r ≠ 6 → G r = G0 r) → (∀ a x, a < j → x < N → G 6 (100 * a + x) = farT G0 P M 100 a x) → (∀ x, x < j → G 4 x = lev s x) → Ex sc 87 46 [some (.ref 22), some (.int (zi s0)), some (.int (zi j))] [] (mg σ J G, n, bc, bs) K := by
  have hN := hT0.2.2.2.1
  have hN2 := hT0.2.2.2.2.1
  intro d
  induction d with
  | zero =>
    intro j G hj hG h6 h4
    have hj1 : j = N := by omega
    subst hj1
    refine xild_2 (q := 47) d_87_46 rfl ?_
    refine xald_0 (q := 48) d_87_47 rfl ?_
    refine yg_count hn (q := 51) d_87_48 rfl fl_M_76 ?_
    refine x_icmp_ge (q := 54) (t := 81) d_87_51 (by decide) rfl (fun c51 => ?_) (fun c51 => ?_)
    · rw [zi_le (by omega) (by omega) (by omega) (by omega)] at c51
      exact kk G _ hG h6 h4
    · rw [zi_le (by omega) (by omega) (by omega) (by omega)] at c51
      exact absurd c51 (by omega)
  | succ d ih =>
    intro j G hj hG h6 h4
    generalize hG1 : va_up G 4 (va_up (G 4) j (lev s j)) = G1
    have hGG : ∀ r, r ≠ 4 → r ≠ 6 → G1 r = G0 r := fun r a b => by rw [← hG1, va_un _ _ _ a]; exact hG r a b
    have hT1 : TW J G1 P N M := hT0.same rfl rfl rfl (hGG 0 (by decide) (by decide)) (hGG 1 (by decide) (by decide)) (hGG 2 (by decide) (by decide))
    have ef : ∀ x y, farT G1 P M 100 x y = farT G0 P M 100 x y := fun x y => by unfold farT tv; rw [hGG 0 (by decide) (by decide)]
    have g4 : G1 4 = va_up (G 4) j (lev s j) := by rw [← hG1, va_us]
    have g6 : G1 6 = G 6 := by rw [← hG1, va_un _ _ _ (by decide)]
    refine xild_2 (q := 47) d_87_46 rfl ?_
    refine xald_0 (q := 48) d_87_47 rfl ?_
    refine yg_count hn (q := 51) d_87_48 rfl fl_M_76 ?_
    refine x_icmp_ge (q := 54) (t := 81) d_87_51 (by decide) rfl (fun c51 => ?_) (fun c51 => ?_)
    · rw [zi_le (by omega) (by omega) (by omega) (by omega)] at c51
      exact absurd c51 (by omega)
    · rw [zi_le (by omega) (by omega) (by omega) (by omega)] at c51
      refine xald_0 (q := 55) d_87_54 rfl ?_
      refine yg_levels hn (q := 58) d_87_55 rfl fl_M_33 ?_
      refine xild_2 (q := 59) d_87_58 rfl ?_
      refine xild_2 (q := 60) d_87_59 rfl ?_
      refine xald_0 (q := 61) d_87_60 rfl ?_
      refine yg_seed hn (q := 64) d_87_61 rfl fl_M_73 ?_
      rw [hs]
      refine xcS2 (q := 67) d_87_64 rfl lk_M_143 mo_88 ⟨by decide +kernel, by decide +kernel⟩ (by simp [Value.category]) (by decide +kernel) (by simp [Value.category])  ?_
      refine t_levelOf (i := j) (s := s) ?_
      dsimp only [ax_ps]
      rw [lev_T]
      refine ys_levels (q := 68) hn d_87_67 rfl (by omega) (by omega) ?_
      refine xald_0 (q := 69) d_87_68 rfl ?_
      refine xild_2 (q := 70) d_87_69 rfl ?_
      refine x_bipush (q := 72) (v := zi (100)) d_87_70 rfl (by decide) ?_
      rw [show ((j : Int)).toNat = j by omega, hG1]
      refine xcV2 (q := 75) d_87_72 rfl lk_M_146 mo_78 ⟨by decide +kernel, by decide +kernel⟩ (by simp [Value.category]) (by decide +kernel) (by simp [Value.category]) (by omega) rfl ?_
      refine t_seeFrom (o := j) (q := 100) hn hT1 (by omega) (by omega) ?_
      intro G2 a1 a2 a3
      dsimp only [ax_ps]
      refine xincz_2 (q := 78) d_87_75 rfl ?_
      refine x_goto (t := 46) d_87_78 (by decide) ?_
      rw [show (j : Int) + 1 = ((j + 1 : Nat) : Int) by omega]
      refine ih (j + 1) G2 (by omega) (fun r a b => (a3 r b).trans (hGG r a b)) (fun a x ha hx => ?_) (fun x hx => ?_)
      · by_cases e : a = j
        · rw [e, a1 x hx, ef]
        · rw [a2 _ (by omega), g6]; exact h6 a x (by omega) hx
      · rw [a3 4 (by decide), g4]
        by_cases e : x = j
        · rw [e, va_us]
        · rw [va_un _ _ _ e]; exact h4 x (by omega)
set_option maxHeartbeats 2000000 in
theorem lt_needC {sc : ax_S} {σ : Nat → ax_C} {J0 : Nat → Int} {G0 : Nat → Nat → Int} {n bc bs : Nat} {K : ax_K} (hn : 38 ≤ n) {N : Nat} (hN : J0 7 = N) (hN2 : N ≤ 100) {s s0 : Int} (hFi : ∀ i, i < N → FAb G0 N i) (hsy : ∀ a b, a < N → b < N → G0 6 (100 * a + b) = G0 6 (100 * b + a)) {wd : Nat} (hwd : J0 4 = wd) (hwd6 : wd ≤ 6) {car : Bool} (hcar : J0 5 = if car = true then 1 else 0) (hlv : ∀ x, x < N → G0 4 x = lev s x)
    (kk : ∀ (J : Nat → Int) (G : Nat → Nat → Int) (t : Option Value), (∀ r, r ≠ 12 → r ≠ 16 → r ≠ 21 → J r = J0 r) → FH G0 G → NR G (mBuild (kg G0) (fbT G0) car wd (lev s)  N).1 → J 16 = entT (mBuild (kg G0) (fbT G0) car wd (lev s)  N).2 → Ex sc 87 102 [some (.ref 22), some (.int (zi s0)), t] [] (mg σ J G, n, bc, bs) K) :
    ∀ (d j : Nat) (J : Nat → Int) (G : Nat → Nat → Int), j + d = N → (∀ r, r ≠ 12 → r ≠ 16 → r ≠ 21 → J r = J0 r) → FH G0 G → NR G (mBuild (kg G0) (fbT G0) car wd (lev s)  j).1 → J 16 = entT (mBuild (kg G0) (fbT G0) car wd (lev s)  j).2 → Ex sc 87 83 [some (.ref 22), some (.int (zi s0)), some (.int (zi j))] [] (mg σ J G, n, bc, bs) K := by
  have hk : ∀ o y, o < N → y < N → kg G0 o y % 100 = y := fun o y _ hy => kg_mod (by omega)
  intro d
  induction d with
  | zero =>
    intro j J G hj hJ hG hR he
    have hj1 : j = N := by omega
    subst hj1
    have hJN : J 7 = j := by rw [hJ 7 (by decide) (by decide) (by decide)]; exact hN
    refine xild_2 (q := 84) d_87_83 rfl ?_
    refine xald_0 (q := 85) d_87_84 rfl ?_
    refine yg_count hn (q := 88) d_87_85 rfl fl_M_76 ?_
    refine x_icmp_ge (q := 91) (t := 102) d_87_88 (by decide) rfl (fun c88 => ?_) (fun c88 => ?_)
    · rw [zi_le (by omega) (by omega) (by omega) (by omega)] at c88
      exact kk J G _ hJ hG hR he
    · rw [zi_le (by omega) (by omega) (by omega) (by omega)] at c88
      exact absurd c88 (by omega)
  | succ d ih =>
    intro j J G hj hJ hG hR he
    have hJN : J 7 = N := by rw [hJ 7 (by decide) (by decide) (by decide)]; exact hN
    obtain ⟨b1, b2, _⟩ := mBuild_lt (kfs := kg G0) (fb := fbT G0) (car := car) (wd := wd) (lv := lev s) j (fun o y ho hy => hk o y (by omega) (by omega))
    have b3 := mBuild_RS (kfs := kg G0) (fb := fbT G0) (car := car) (wd := wd) (lv := lev s) hk j (by omega)
    refine xild_2 (q := 84) d_87_83 rfl ?_
    refine xald_0 (q := 85) d_87_84 rfl ?_
    refine yg_count hn (q := 88) d_87_85 rfl fl_M_76 ?_
    refine x_icmp_ge (q := 91) (t := 102) d_87_88 (by decide) rfl (fun c88 => ?_) (fun c88 => ?_)
    · rw [zi_le (by omega) (by omega) (by omega) (by omega)] at c88
      exact absurd c88 (by omega)
    · rw [zi_le (by omega) (by omega) (by omega) (by omega)] at c88
      refine xald_0 (q := 92) d_87_91 rfl ?_
      refine xild_2 (q := 93) d_87_92 rfl ?_
      refine xcV1 (q := 96) d_87_93 rfl lk_M_149 mo_89 ⟨by decide +kernel, by decide +kernel⟩ (by simp [Value.category]) (by decide +kernel) (by simp [Value.category]) (by omega) rfl ?_
      refine t_come (i := j) (lv := lev s) (wd := wd) (car := car) (g := (mBuild (kg G0) (fbT G0) car wd (lev s)  j)) hn hJN hN2 (by omega) (fun i hi => hG.fab (hFi i hi)) (by rw [hG.g6]; exact hsy) (by rw [hJ 4 (by decide) (by decide) (by decide)]; exact hwd) hwd6 (by rw [hJ 5 (by decide) (by decide) (by decide)]; exact hcar) (by rw [hG.g4]; exact hlv) (lev_le s) hR he b1 (by rw [hG.ke]; exact b3) b2 ?_
      intro J1 G1 j1 g1 r1 e1
      rw [hG.ke, hG.fe] at r1 e1
      dsimp only [ax_ps]
      refine xincz_2 (q := 99) d_87_96 rfl ?_
      refine x_goto (t := 83) d_87_99 (by decide) ?_
      rw [show (j : Int) + 1 = ((j + 1 : Nat) : Int) by omega]
      exact ih (j + 1) J1 G1 (by omega) (fun r a b c => (j1 r a b c).trans (hJ r a b c)) (hG.tr g1) r1 e1
/-- what need leaves as it was -/
def FN (J : Nat → Int) (G : Nat → Nat → Int) (J' : Nat → Int) (G' : Nat → Nat → Int) : Prop := (∀ r, r ≠ 13 → r ≠ 16 → r ≠ 21 → J' r = J r) ∧ ∀ r, r < 4 ∨ 11 < r → G' r = G r
set_option maxHeartbeats 2000000 in
theorem t_need {sc : ax_S} {σ : Nat → ax_C} {J : Nat → Int} {G : Nat → Nat → Int} {n bc bs : Nat} {K : ax_K} (hn : 38 ≤ n) {P N M : Nat} (hT : TW J G P N M) {s : Int} (hs : J 2 = s) {wd : Nat} (hwd : J 4 = wd) (hwd6 : wd ≤ 6) {car : Bool} (hcar : J 5 = if car = true then 1 else 0) (hst : J 13 = 0 ∨ J 13 = 1) {V : Nat → Nat → Int} (hV : ∀ i, i < N → ∀ k, k < P → tv G i k = V i k) {g : mSt} (hg : g = mBuild (kfV V P M) (fbV V P M) car wd (lev s) N) (hB : J 13 = 0 → TB J G P N M s g)
    (k : ∀ (J' : Nat → Int) (G' : Nat → Nat → Int), FN J G J' G' → J' 13 = 0 → TB J' G' P N M s g → K none (mg σ J' G', n, bc, bs)) : Ex sc 87 0 (ax_en 87 [.ref 22]) [] (mg σ J G, n, bc, bs) K := by
  have hN := hT.2.2.2.1
  have hN2 := hT.2.2.2.2.1
  show Ex sc 87 0 [some (.ref 22), none, none] [] (mg σ J G, n, bc, bs) K
  refine xald_0 (q := 1) d_87_0 rfl ?_
  refine yg_stale hn (q := 4) d_87_1 rfl fl_M_139 ?_
  refine x_if_ne (q := 7) (t := 8) d_87_4 (by decide) rfl (fun c4 => ?_) (fun c4 => ?_)
  · rw [zi_eq0 (by omega) (by omega)] at c4
    refine xald_0 (q := 9) d_87_8 rfl ?_
    refine x_iconst (q := 10) (v := zi (0)) d_87_9 rfl rfl ?_
    refine yp_stale hn (Or.inl rfl) (q := 13) d_87_10 rfl fw_M_139 ?_
    refine xald_0 (q := 14) d_87_13 rfl ?_
    refine yg_stepCount hn (q := 17) d_87_14 rfl fl_M_106 ?_
    refine xist_1 (q := 18) d_87_17 rfl ?_
    refine xald_0 (q := 19) d_87_18 rfl ?_
    refine x_iconst (q := 20) (v := zi (-1)) d_87_19 rfl rfl ?_
    refine yp_entryOf hn (q := 23) d_87_20 rfl fw_M_40 ?_
    refine x_iconst (q := 24) (v := zi (0)) d_87_23 rfl rfl ?_
    refine xist_2 (q := 25) d_87_24 rfl ?_
    refine lt_needA (J := va_up (va_up J 13 0) 16 (-1)) (G0 := G) hn ?_ 50000 0 G (by omega) (fun _ _ => rfl) (fun x hx => absurd hx (Nat.not_lt_zero _))
    intro G1 t hG1 h5
    have hT1 : TW (va_up (va_up J 13 0) 16 (-1)) G1 P N M := hT.same rfl rfl rfl (hG1 0 (by decide)) (hG1 1 (by decide)) (hG1 2 (by decide))
    refine x_iconst (q := 45) (v := zi (0)) d_87_44 rfl rfl ?_
    refine xist_2 (q := 46) d_87_45 rfl ?_
    refine lt_needB (s := s) (J := va_up (va_up J 13 0) 16 (-1)) (G0 := G1) hn hT1 hs ?_ N 0 G1 (by omega) (fun _ _ _ => rfl) (fun a x ha => absurd ha (Nat.not_lt_zero _)) (fun x hx => absurd hx (Nat.not_lt_zero _))
    intro G2 t hG2 h6 h4
    have hfs := fab_of hT1 h6
    have ef : ∀ a b, farT G1 P M 100 a b = farT G P M 100 a b := fun a b => by unfold farT tv; rw [hG1 0 (by decide)]
    refine x_iconst (q := 82) (v := zi (0)) d_87_81 rfl rfl ?_
    refine xist_2 (q := 83) d_87_82 rfl ?_
    refine lt_needC (s := s) (wd := wd) (car := car) (J0 := va_up (va_up J 13 0) 16 (-1)) (G0 := G2) hn hN hN2 hfs.1 hfs.2 hwd hwd6 hcar h4 ?_ N 0 _ G2 (by omega) (fun _ _ _ _ => rfl) FH.rf ?_ rfl
    · intro J3 G3 t hJ3 hG3 hR3 he3
      refine xald_0 (q := 103) d_87_102 rfl ?_
      refine xild_1 (q := 104) d_87_103 rfl ?_
      refine yp_stepCount hn (q := 107) d_87_104 rfl fw_M_106 ?_
      refine x_vret d_87_107 rfl ?_
      have hJ3' : ∀ r, r ≠ 12 → r ≠ 13 → r ≠ 16 → r ≠ 21 → J3 r = J r := fun r a b c d => (hJ3 r a c d).trans ((va_un _ _ _ c).trans (va_un _ _ _ b))
      have hg2 : mBuild (kg G2) (fbT G2) car wd (lev s) N = g := by
        rw [hg]
        refine mBuild_cg (N := N) (fun o y _ hy => kg_mod (by omega)) (fun o y ho hy => ?_) (fun a b ha hb => ?_) (fun _ _ => rfl) N (Nat.le_refl _)
        · unfold kg kfV
          rw [h6 o y ho hy, ef, farT_V hV ho hy]
        · unfold fbT
          rw [h6 a b ha hb, ef, farT_V hV ha hb]
      rw [hg2] at hR3 he3
      refine k _ G3 ⟨fun r a b c => ?_, fun r hr => ?_⟩ ?_ ⟨fun a x ha hx => ?_, ?_, hR3, ?_⟩
      · by_cases e : r = 12
        · rw [e, va_us]; rfl
        · rw [va_un _ _ _ e]; exact hJ3' r e a b c
      · rw [hG3 r (by omega) (by omega) (by omega) (by omega) (by omega) (by omega), hG2 r (by omega) (by omega)]; exact hG1 r (by omega)
      · rw [va_un _ _ _ (by decide), hJ3 13 (by decide) (by decide) (by decide)]; rfl
      · rw [hG3.g6, h6 a x ha hx, ef]; unfold farT tv; rw [hG3 0 (by decide) (by decide) (by decide) (by decide) (by decide) (by decide), hG2 0 (by decide) (by decide), hG1 0 (by decide)]
      · rw [hG3.g4]; exact h4
      · rw [va_un _ _ _ (by decide)]; exact he3
    · intro l a b hl ha hb
      rw [hG2 5 (by decide) (by decide), h5 _ (by omega)]
      exact (if_neg (show b ∉ [] from List.not_mem_nil)).symm
  · rw [zi_eq0 (by omega) (by omega)] at c4
    refine x_vret d_87_7 rfl ?_
    exact k J G ⟨fun _ _ _ _ => rfl, fun _ _ => rfl⟩ c4 (hB c4)
