/-! THE REFERENCE: findByGraph -/
set_option maxHeartbeats 2000000 in
theorem lt_fbgD {sc : ax_S} {σ : Nat → ax_C} {J0 : Nat → Int} {G0 : Nat → Nat → Int} {n bc bs : Nat} {K : ax_K} (hn : 38 ≤ n) {N : Nat} (hN : J0 7 = N) (hN2 : N ≤ 100) (hFi : ∀ i, i < N → FAb G0 N i) (hFo : FAb G0 N 100) {R : Nat → Nat → List Nat} (hlt : ∀ l, LT R l N) (hRS : ∀ l a, a < N → RS (kg G0 a) (R a l) N) {kf : Nat → Nat} (hkf : ∀ x, x < N → kg G0 100 x = kf x) {m e : Nat} {D9 : Nat × Nat} {s0 : Int}
    (kk : ∀ (J : Nat → Int) (G : Nat → Nat → Int), FJ J0 J → FG G0 G → NR G R → D9.1 < N → J 12 = s0 + D9.2 → Ex sc 86 79 [some (.ref 22), some (.int (zi m)), some (.int (zi e)), some (.int (zi D9.1)), some (.int (zi 0))] [] (mg σ J G, n, bc, bs) K) :
    ∀ (d f : Nat) (J : Nat → Int) (G : Nat → Nat → Int) (a : Nat), d ≤ 4 → f < N → FJ J0 J → FG G0 G → NR G R → J 12 = s0 + a → (mDesc kf R 0 d f).1 = D9.1 → a + (mDesc kf R 0 d f).2 = D9.2 → Ex sc 86 46 [some (.ref 22), some (.int (zi m)), some (.int (zi e)), some (.int (zi f)), some (.int (zi d))] [] (mg σ J G, n, bc, bs) K := by
  have hk : ∀ y, y < N → kg G0 100 y % 100 = y := fun y hy => kg_mod (by omega)
  have hk2 : ∀ y, y < N → kf y % 100 = y := fun y hy => by rw [← hkf y hy]; exact hk y hy
  intro d
  induction d with
  | zero =>
    intro f J G a hd hf hJ hG hR h12 h9 h92
    have h9 : f = D9.1 := h9
    have h92 : a + 0 = D9.2 := h92
    have kk := kk J G hJ hG hR (by omega) (by rw [h12]; omega)
    rw [← h9] at kk
    refine xild_4 (q := 48) d_86_46 rfl ?_
    refine x_if_le (q := 51) (t := 79) d_86_48 (by decide) rfl (fun c48 => ?_) (fun c48 => ?_)
    · rw [zi_le0 (by omega) (by omega)] at c48
      exact kk
    · rw [zi_le0 (by omega) (by omega)] at c48
      exact absurd c48 (by omega)
  | succ d ih =>
    intro f J G a hd hf hJ hG hR h12 h9 h92
    have eg : mGoing (kg G0 100) (fun i => R i (0 + d + 1)) 1 f = mGoing kf (fun i => R i (0 + d + 1)) 1 f := mGoing_cg hf (fun i _ => hlt _ i) hk hkf
    have h9 : (mDesc kf R 0 d (mHead (mGoing kf (fun i => R i (0 + d + 1)) 1 f).2.1)).1 = D9.1 := h9
    have h92 : a + ((mGoing kf (fun i => R i (0 + d + 1)) 1 f).1.length + (mDesc kf R 0 d (mHead (mGoing kf (fun i => R i (0 + d + 1)) 1 f).2.1)).2) = D9.2 := h92
    have hJN : J 7 = N := by rw [hJ 7 (by decide) (by decide)]; exact hN
    have hne := mGoing_ne (kf := kf) (row := fun a => R a (0 + d + 1)) (e := 1) (f := f) (by decide)
    have hhd := mHead_lt (kf := kf) (row := fun a => R a (0 + d + 1)) (e := 1) (by decide) hf (fun a _ => hlt _ a) hk2
    rw [show ((d + 1 : Nat) : Int) = ((0 + d + 1 : Nat) : Int) by omega]
    refine xild_4 (q := 48) d_86_46 rfl ?_
    refine x_if_le (q := 51) (t := 79) d_86_48 (by decide) rfl (fun c48 => ?_) (fun c48 => ?_)
    · rw [zi_le0 (by omega) (by omega)] at c48
      exact absurd c48 (by omega)
    · rw [zi_le0 (by omega) (by omega)] at c48
      refine xald_0 (q := 52) d_86_51 rfl ?_
      refine xild_4 (q := 54) d_86_52 rfl ?_
      refine xild_3 (q := 55) d_86_54 rfl ?_
      refine x_bipush (q := 57) (v := zi (100)) d_86_55 rfl (by decide) ?_
      refine x_iconst (q := 58) (v := zi (1)) d_86_57 rfl rfl ?_
      refine xcV4 (q := 61) d_86_58 rfl lk_M_132 mo_90 ⟨by decide +kernel, by decide +kernel⟩ (by simp [Value.category]) (by decide +kernel) (by simp [Value.category]) (by omega) rfl ?_
      refine t_go (l := 0 + d + 1) (f := f) (o := 100) (e := 1) hn hJN hN2 hR (by omega) (fun a ha => by rw [hG.ke]; exact hRS _ a ha) (fun a ha => hG.fab (hFi a ha)) (by decide) (hG.fab hFo) (by decide) (by decide) hf ?_
      intro J1 G1 j1 g1 s1 b1 t1
      rw [hG.ke, eg] at s1 t1
      have hG1 : FG G0 G1 := fun r a b c => (g1 r a b c).trans (hG r a b c)
      have hJ1 := hJ.tr j1
      dsimp only [ax_ps]
      refine xald_0 (q := 62) d_86_61 rfl ?_
      refine xald_0 (q := 63) d_86_62 rfl ?_
      refine yg_found hn (q := 66) d_86_63 rfl fl_M_52 ?_
      refine x_bipush (q := 68) (v := zi (100)) d_86_66 rfl (by decide) ?_
      refine x_iconst (q := 69) (v := zi (1)) d_86_68 rfl rfl ?_
      refine xcV3 (q := 72) d_86_69 rfl lk_M_109 mo_82 ⟨by decide +kernel, by decide +kernel⟩ (by simp [Value.category]) (by decide +kernel) (by simp [Value.category]) (by omega) rfl ?_
      refine t_outer (G := G1) (r := 9) hn (by rw [hJ1 7 (by decide) (by decide)]; exact hN) hN2 (by unfold mBool; decide) (by decide) (hG1.fab hFo) (by rw [hG1.ke]; exact s1) true rfl ?_
      dsimp only [ax_ps]
      rw [out_head hne]
      refine xist_3 (q := 73) d_86_72 rfl ?_
      refine xincz_4 (q := 76) d_86_73 rfl ?_
      refine x_goto (t := 46) d_86_76 (by decide) ?_
      rw [show ((0 + d + 1 : Nat) : Int) + -1 = (d : Int) by omega]
      exact ih _ J1 G1 (a + (mGoing kf (fun i => R i (0 + d + 1)) 1 f).1.length) (by omega) hhd hJ1 hG1 (g1.nr hR) (by rw [t1, h12]; omega) h9 (by omega)
set_option maxHeartbeats 2000000 in
theorem lt_fbgT {sc : ax_S} {σ : Nat → ax_C} {J : Nat → Int} {G0 : Nat → Nat → Int} {n bc bs : Nat} {K : ax_K} (hn : 38 ≤ n) {P N M : Nat} (hT0 : TW J G0 P N M) (h9 : ∀ x, x < N → G0 9 x = 0 ∨ G0 9 x = 1) {m e f : Nat}
    (kk : ∀ (G : Nat → Nat → Int) (t : Option Value), (∀ r, r ≠ 12 → G r = G0 r) → (∀ x, x < N → G 12 x = if G0 9 x = 1 ∧ freeT G0 x = 1 then 1 else 0) → Ex sc 86 137 [some (.ref 22), some (.int (zi m)), some (.int (zi e)), some (.int (zi f)), t] [] (mg σ J G, n, bc, bs) K) :
    ∀ (d j : Nat) (G : Nat → Nat → Int), j + d = N → (∀ r, r ≠ 12 → G r = G0 r) → (∀ x, x < j → G 12 x = if G0 9 x = 1 ∧ freeT G0 x = 1 then 1 else 0) → Ex sc 86 91 [some (.ref 22), some (.int (zi m)), some (.int (zi e)), some (.int (zi f)), some (.int (zi j))] [] (mg σ J G, n, bc, bs) K := by
  have hN := hT0.2.2.2.1
  have hN2 := hT0.2.2.2.2.1
  intro d
  induction d with
  | zero =>
    intro j G hj hG h
    have hj1 : j = N := by omega
    subst hj1
    refine xild_4 (q := 93) d_86_91 rfl ?_
    refine xald_0 (q := 94) d_86_93 rfl ?_
    refine yg_count hn (q := 97) d_86_94 rfl fl_M_76 ?_
    refine x_icmp_ge (q := 100) (t := 137) d_86_97 (by decide) rfl (fun c97 => ?_) (fun c97 => ?_)
    · rw [zi_le (by omega) (by omega) (by omega) (by omega)] at c97
      exact kk G _ hG h
    · rw [zi_le (by omega) (by omega) (by omega) (by omega)] at c97
      exact absurd c97 (by omega)
  | succ d ih =>
    intro j G hj hG h
    have hT : TW J G P N M := hT0.same rfl rfl rfl (hG 0 (by decide)) (hG 1 (by decide)) (hG 2 (by decide))
    have ef : freeT G j = freeT G0 j := by unfold freeT; rw [hG 1 (by decide), hG 2 (by decide)]
    have hfb := freeT_b G0 j
    have h9j := h9 j (by omega)
    have step : ∀ v : Int, v = (if G0 9 j = 1 ∧ freeT G0 j = 1 then 1 else 0) → ∀ x, x < j + 1 → va_up G 12 (va_up (G 12) j v) 12 x = if G0 9 x = 1 ∧ freeT G0 x = 1 then 1 else 0 := fun v hv x hx => by
      rw [va_us]
      by_cases e : x = j
      · rw [e, va_us, hv]
      · rw [va_un _ _ _ e]; exact h x (by omega)
    refine xild_4 (q := 93) d_86_91 rfl ?_
    refine xald_0 (q := 94) d_86_93 rfl ?_
    refine yg_count hn (q := 97) d_86_94 rfl fl_M_76 ?_
    refine x_icmp_ge (q := 100) (t := 137) d_86_97 (by decide) rfl (fun c97 => ?_) (fun c97 => ?_)
    · rw [zi_le (by omega) (by omega) (by omega) (by omega)] at c97
      exact absurd c97 (by omega)
    · rw [zi_le (by omega) (by omega) (by omega) (by omega)] at c97
      refine xald_0 (q := 101) d_86_100 rfl ?_
      refine yg_those hn (q := 104) d_86_101 rfl fl_M_61 ?_
      refine xild_4 (q := 106) d_86_104 rfl ?_
      refine xald_0 (q := 107) d_86_106 rfl ?_
      refine yg_found hn (q := 110) d_86_107 rfl fl_M_52 ?_
      refine xild_4 (q := 112) d_86_110 rfl ?_
      refine yl_found (q := 113) hn d_86_112 rfl (by omega) (by omega) ?_
      refine x_if_eq (q := 116) (t := 129) d_86_113 (by decide) rfl (fun c113 => ?_) (fun c113 => ?_)
      · rw [show ((j : Int)).toNat = j by omega, hG 9 (by decide), zi_eq0 (by omega) (by omega)] at c113
        refine x_iconst (q := 130) (v := zi (0)) d_86_129 rfl rfl ?_
        refine ys_those (q := 131) hn (by decide) d_86_130 rfl (by omega) (by omega) ?_
        refine xincz_4 (q := 134) d_86_131 rfl ?_
        refine x_goto (t := 91) d_86_134 (by decide) ?_
        rw [show (j : Int) + 1 = ((j + 1 : Nat) : Int) by omega, show ((j : Int)).toNat = j by omega]
        refine ih (j + 1) _ (by omega) (fun r hr => by rw [va_un _ _ _ hr]; exact hG r hr) (step _ ?_)
        first
          | (rw [if_pos (by omega)])
          | (rw [if_neg (by omega)])
      · rw [show ((j : Int)).toNat = j by omega, hG 9 (by decide), zi_eq0 (by omega) (by omega)] at c113
        refine xald_0 (q := 117) d_86_116 rfl ?_
        refine xild_4 (q := 119) d_86_117 rfl ?_
        refine xcV1 (q := 122) d_86_119 rfl lk_M_174 mo_77 ⟨by decide +kernel, by decide +kernel⟩ (by simp [Value.category]) (by decide +kernel) (by simp [Value.category]) (by omega) rfl ?_
        refine t_isFree hn hT (i := j) (by omega) ?_
        dsimp only [ax_ps]
        refine x_if_eq (q := 125) (t := 129) d_86_122 (by decide) rfl (fun c122 => ?_) (fun c122 => ?_)
        · rw [ef, zi_eq0 (by omega) (by omega)] at c122
          refine x_iconst (q := 130) (v := zi (0)) d_86_129 rfl rfl ?_
          refine ys_those (q := 131) hn (by decide) d_86_130 rfl (by omega) (by omega) ?_
          refine xincz_4 (q := 134) d_86_131 rfl ?_
          refine x_goto (t := 91) d_86_134 (by decide) ?_
          rw [show (j : Int) + 1 = ((j + 1 : Nat) : Int) by omega, show ((j : Int)).toNat = j by omega]
          refine ih (j + 1) _ (by omega) (fun r hr => by rw [va_un _ _ _ hr]; exact hG r hr) (step _ ?_)
          first
            | (rw [if_pos (by omega)])
            | (rw [if_neg (by omega)])
        · rw [ef, zi_eq0 (by omega) (by omega)] at c122
          refine x_iconst (q := 126) (v := zi (1)) d_86_125 rfl rfl ?_
          refine x_goto (t := 130) d_86_126 (by decide) ?_
          refine ys_those (q := 131) hn (by decide) d_86_130 rfl (by omega) (by omega) ?_
          refine xincz_4 (q := 134) d_86_131 rfl ?_
          refine x_goto (t := 91) d_86_134 (by decide) ?_
          rw [show (j : Int) + 1 = ((j + 1 : Nat) : Int) by omega, show ((j : Int)).toNat = j by omega]
          refine ih (j + 1) _ (by omega) (fun r hr => by rw [va_un _ _ _ hr]; exact hG r hr) (step _ ?_)
          first
            | (rw [if_pos (by omega)])
            | (rw [if_neg (by omega)])
set_option maxHeartbeats 2000000 in
theorem t_findByGraph {sc : ax_S} {σ : Nat → ax_C} {J : Nat → Int} {G : Nat → Nat → Int} {n bc bs : Nat} {K : ax_K} (hn : 38 ≤ n) {P N M : Nat} (hT : TW J G P N M) {s : Int} (hs : J 2 = s) {wd : Nat} (hwd : J 4 = wd) (hwd6 : wd ≤ 6) {car : Bool} (hcar : J 5 = if car = true then 1 else 0) (hst : J 13 = 0 ∨ J 13 = 1) {V : Nat → Nat → Int} (hV : ∀ i, i < N → ∀ k, k < P → tv G i k = V i k) {g : mSt} (hg : g = mBuild (kfV V P M) (fbV V P M) car wd (lev s) N) (hB : J 13 = 0 → TB J G P N M s g) {kf : Nat → Nat} (hkf : ∀ x, x < N → kfT G P M 100 x = kf x) {fr : Nat → Int} (hfr : ∀ x, x < N → freeT G x = fr x) {m e : Nat} (hm : m ≤ 100) (he : 1 ≤ e) (he2 : e ≤ 100)
    (k : ∀ (J' : Nat → Int) (G' : Nat → Nat → Int), (∀ r, r ≠ 12 → r ≠ 13 → r ≠ 16 → r ≠ 21 → r ≠ 26 → J' r = J r) → (∀ r, r < 4 ∨ 13 < r → G' r = G r) → J' 13 = 0 → TB J' G' P N M s g → J' 12 = ((mSearch kf (lev s) g e).2 : Int) → RW J' G' ((mFF fr (mSearch kf (lev s) g e).1 []).take m) → K none (mg σ J' G', n, bc, bs)) : Ex sc 86 0 (ax_en 86 [.ref 22, .int (zi m), .int (zi e)]) [] (mg σ J G, n, bc, bs) K := by
  have hN := hT.2.2.2.1
  have hN2 := hT.2.2.2.2.1
  show Ex sc 86 0 [some (.ref 22), some (.int (zi m)), some (.int (zi e)), none, none] [] (mg σ J G, n, bc, bs) K
  refine xald_0 (q := 1) d_86_0 rfl ?_
  refine xcV0 (q := 4) d_86_1 rfl lk_M_180 mo_87 ⟨by decide +kernel, by decide +kernel⟩  (by decide +kernel) (by simp [Value.category]) (by omega) rfl ?_
  refine t_need hn hT hs hwd hwd6 hcar hst hV hg hB ?_
  intro J1 G1 f1 z1 tb1
  dsimp only [ax_ps]
  have hT1 : TW J1 G1 P N M := hT.same (f1.1 1 (by decide) (by decide) (by decide)) (f1.1 7 (by decide) (by decide) (by decide)) (f1.1 3 (by decide) (by decide) (by decide)) (f1.2 0 (by decide)) (f1.2 1 (by decide)) (f1.2 2 (by decide))
  have hJN1 : J1 7 = N := hT1.2.2.2.1
  refine xald_0 (q := 5) d_86_4 rfl ?_
  refine x_iconst (q := 6) (v := zi (0)) d_86_5 rfl rfl ?_
  refine yp_stepCount hn (q := 9) d_86_6 rfl fw_M_106 ?_
  refine xald_0 (q := 10) d_86_9 rfl ?_
  refine x_iconst (q := 11) (v := zi (0)) d_86_10 rfl rfl ?_
  refine yp_rowCount hn (q := 14) d_86_11 rfl fw_M_171 ?_
  refine xald_0 (q := 15) d_86_14 rfl ?_
  refine yg_count hn (q := 18) d_86_15 rfl fl_M_76 ?_
  refine x_if_ne (q := 21) (t := 22) d_86_18 (by decide) rfl (fun c18 => ?_) (fun c18 => ?_)
  · rw [zi_eq0 (by have : (va_up (va_up J1 12 0) 26 0) 7 = N := hJN1; omega) (by have : (va_up (va_up J1 12 0) 26 0) 7 = N := hJN1; omega)] at c18
    have hNp : 0 < N := by have : (va_up (va_up J1 12 0) 26 0) 7 = N := hJN1; omega
    have hkV : ∀ o y, o < N → y < N → kfV V P M o y % 100 = y := fun o y _ hy => kfV_mod (by omega)
    obtain ⟨b1, b2, b3⟩ := mBuild_lt (kfs := kfV V P M) (fb := fbV V P M) (car := car) (wd := wd) (lv := lev s) N hkV
    have b4 := mBuild_RS (kfs := kfV V P M) (fb := fbV V P M) (car := car) (wd := wd) (lv := lev s) hkV N (Nat.le_refl _)
    rw [← hg] at b1 b2 b3 b4
    obtain ⟨R, ent⟩ := g
    cases ent with
    | none => exact absurd rfl (b3 hNp)
    | some en =>
    have b1 : ∀ l, LT R l N := b1
    have b4 : ∀ l a, a < N → RS (kfV V P M a) (R a l) N := b4
    have hen : en < N := b2 en rfl
    have hl4 := lev_le s en
    have he1 : J1 16 = (en : Int) := tb1.2.2.2
    have tbR : NR G1 R := tb1.2.2.1
    refine xald_0 (q := 23) d_86_22 rfl ?_
    refine x_bipush (q := 25) (v := zi (100)) d_86_23 rfl (by decide) ?_
    refine x_bipush (q := 27) (v := zi (100)) d_86_25 rfl (by decide) ?_
    refine xcV2 (q := 30) d_86_27 rfl lk_M_146 mo_78 ⟨by decide +kernel, by decide +kernel⟩ (by simp [Value.category]) (by decide +kernel) (by simp [Value.category]) (by omega) rfl ?_
    refine t_seeFrom (J := va_up (va_up J1 12 0) 26 0) (o := 100) (q := 100) hn (hT1.same rfl rfl rfl rfl rfl rfl) (by decide) (by decide) ?_
    intro G2 a1 a2 a3
    dsimp only [ax_ps]
    have tb2 : TB J1 G2 P N M s (R, some en) := tb1.keep hN2 (fun a ha k hk => by unfold tv; rw [a3 0 (by decide)]) (a3 4 (by decide)) (a3 5 (by decide)) (fun p hp => a2 p (by omega)) rfl
    have hT2 : TW J1 G2 P N M := hT1.same rfl rfl rfl (a3 0 (by decide)) (a3 1 (by decide)) (a3 2 (by decide))
    have hFi := tb2.fab hT2
    have hFo : FAb G2 N 100 := fab_hand hT1 (by decide) a1
    have hkf2 : ∀ x, x < N → kg G2 100 x = kf x := fun x hx => by rw [kg_hand a1 x hx, ← hkf x hx]; unfold kfT farT tv; rw [f1.2 0 (by decide)]
    have hkg2 : ∀ o y, o < N → y < N → kg G2 o y = kfV V P M o y := fun o y ho hy => by
      unfold kg kfV
      rw [tb2.1 o y ho hy, farT_V (V := V) (N := N) (fun i hi k hk => ?_) ho hy]
      unfold tv; rw [a3 0 (by decide), f1.2 0 (by decide)]; exact hV i hi k hk
    have hRS2 : ∀ l a, a < N → RS (kg G2 a) (R a l) N := fun l a ha => ⟨by rw [List.map_congr_left (fun x hx => hkg2 a x ha ((b4 l a ha).2 x hx))]; exact (b4 l a ha).1, (b4 l a ha).2⟩
    have hk2 : ∀ y, y < N → kg G2 100 y % 100 = y := fun y hy => kg_mod (by omega)
    have hkk : ∀ y, y < N → kf y % 100 = y := fun y hy => by rw [← hkf2 y hy]; exact hk2 y hy
    refine xald_0 (q := 31) d_86_30 rfl ?_
    refine yg_entryOf hn (q := 34) d_86_31 rfl fl_M_40 ?_
    refine xist_3 (q := 35) d_86_34 rfl ?_
    refine xald_0 (q := 36) d_86_35 rfl ?_
    refine yg_levels hn (q := 39) d_86_36 rfl fl_M_33 ?_
    refine xald_0 (q := 40) d_86_39 rfl ?_
    refine yg_entryOf hn (q := 43) d_86_40 rfl fl_M_40 ?_
    refine yl_levels (q := 44) hn d_86_43 rfl (by rw [show va_up (va_up J1 12 0) 26 0 16 = (en : Int) from he1]; omega) (by rw [show va_up (va_up J1 12 0) 26 0 16 = (en : Int) from he1]; omega) ?_
    refine xist_4 (q := 46) d_86_44 rfl ?_
    rw [show va_up (va_up J1 12 0) 26 0 16 = (en : Int) from he1, show ((en : Int)).toNat = en by omega, tb2.2.1 en hen]
    refine lt_fbgD (J0 := va_up (va_up J1 12 0) 26 0) (G0 := G2) (R := R) (kf := kf) (s0 := 0) (D9 := mDesc kf R 0 (lev s en) en) hn hJN1 hN2 hFi hFo b1 hRS2 hkf2 ?_ (lev s en) en _ G2 0 hl4 hen FJ.rf (fun _ _ _ _ => rfl) tb2.2.2.1 rfl rfl (Nat.zero_add _)
    intro J3 G3 j3 g3 r3 hd9 h12
    refine xald_0 (q := 80) d_86_79 rfl ?_
    refine x_iconst (q := 81) (v := zi (0)) d_86_80 rfl rfl ?_
    refine xild_3 (q := 82) d_86_81 rfl ?_
    refine x_bipush (q := 84) (v := zi (100)) d_86_82 rfl (by decide) ?_
    refine xild_2 (q := 85) d_86_84 rfl ?_
    refine xcV4 (q := 88) d_86_85 rfl lk_M_132 mo_90 ⟨by decide +kernel, by decide +kernel⟩ (by simp [Value.category]) (by decide +kernel) (by simp [Value.category]) (by omega) rfl ?_
    refine t_go (l := 0) (f := (mDesc kf R 0 (lev s en) en).1) (o := 100) (e := e) hn (by rw [j3 7 (by decide) (by decide)]; exact hJN1) hN2 r3 (by decide) (fun a ha => by rw [g3.ke]; exact hRS2 0 a ha) (fun a ha => g3.fab (hFi a ha)) (by decide) (g3.fab hFo) he he2 hd9 ?_
    intro J4 G4 j4 g4 s4 bt4 t4
    rw [g3.ke] at s4 t4
    rw [mGoing_cg hd9 (fun i _ => b1 0 i) hk2 hkf2] at s4 t4
    have hG4 : FG G2 G4 := fun r a b c => (g4 r a b c).trans (g3 r a b c)
    have hJ4 : ∀ r, r ≠ 12 → r ≠ 21 → r ≠ 26 → J4 r = J1 r := fun r a b c => (j4 r a b).trans ((j3 r a b).trans ((va_un _ _ _ c).trans (va_un _ _ _ a)))
    dsimp only [ax_ps]
    have hT4 : TW J4 G4 P N M := hT2.same (hJ4 1 (by decide) (by decide) (by decide)) (hJ4 7 (by decide) (by decide) (by decide)) (hJ4 3 (by decide) (by decide) (by decide)) (hG4 0 (by decide) (by decide) (by decide)) (hG4 1 (by decide) (by decide) (by decide)) (hG4 2 (by decide) (by decide) (by decide))
    refine x_iconst (q := 89) (v := zi (0)) d_86_88 rfl rfl ?_
    refine xist_4 (q := 91) d_86_89 rfl ?_
    refine lt_fbgT hn hT4 (fun x hx => bt4 x (by omega)) ?_ N 0 G4 (by omega) (fun _ _ => rfl) (fun x hx => absurd hx (Nat.not_lt_zero _))
    intro G5 t g5 h5
    have hG5 : ∀ r, r ≠ 7 → r ≠ 8 → r ≠ 9 → r ≠ 12 → G5 r = G2 r := fun r a b c d => (g5 r d).trans (hG4 r a b c)
    have e66 : G5 6 = G2 6 := hG5 6 (by decide) (by decide) (by decide) (by decide)
    have ek5 : kg G5 100 = kg G2 100 := by unfold kg; rw [e66]
    have efr : ∀ x, x < N → freeT G4 x = fr x := fun x hx => by
      rw [← hfr x hx]; unfold freeT
      rw [hG4 1 (by decide) (by decide) (by decide), hG4 2 (by decide) (by decide) (by decide), a3 1 (by decide), a3 2 (by decide), f1.2 1 (by decide), f1.2 2 (by decide)]
    have hsb5 : SB (G5 12) (kg G5 100) N (mFF fr (mGoing kf (fun i => R i 0) e (mDesc kf R 0 (lev s en) en).1).2.1 []) := by
      rw [ek5]
      exact mFF_SB s4 hk2 (fun x hx => by rw [h5 x hx, efr x hx])
    refine xald_0 (q := 138) d_86_137 rfl ?_
    refine xild_1 (q := 139) d_86_138 rfl ?_
    refine xcV1 (q := 142) d_86_139 rfl lk_M_177 mo_81 ⟨by decide +kernel, by decide +kernel⟩ (by simp [Value.category]) (by decide +kernel) (by simp [Value.category]) (by omega) rfl ?_
    refine t_nearest hn hT4.2.2.2.1 hN2 (by unfold FAb; rw [e66]; exact hFo) hm hsb5 ?_
    intro J6 G6 j6 g6 r6
    dsimp only [ax_ps]
    refine x_vret d_86_142 rfl ?_
    refine k J6 G6 (fun r a b c d e => ?_) (fun r hr => ?_) ?_ ?_ ?_ r6
    · rw [j6 r e, hJ4 r a d e]; exact f1.1 r b c d
    · rw [g6 r (by omega) (by omega), hG5 r (by omega) (by omega) (by omega) (by omega), a3 r (by omega)]; exact f1.2 r (by omega)
    · rw [j6 13 (by decide), hJ4 13 (by decide) (by decide) (by decide)]; exact z1
    · exact tb2.keep hN2 (fun a ha k hk => by unfold tv; rw [g6 0 (by decide) (by decide), hG5 0 (by decide) (by decide) (by decide) (by decide)]) ((g6 4 (by decide) (by decide)).trans (hG5 4 (by decide) (by decide) (by decide) (by decide))) ((g6 5 (by decide) (by decide)).trans (hG5 5 (by decide) (by decide) (by decide) (by decide))) (fun p hp => by rw [g6 6 (by decide) (by decide), e66]) (by rw [j6 16 (by decide), hJ4 16 (by decide) (by decide) (by decide)])
    · rw [j6 12 (by decide), t4, h12]
      show _ = (((mDesc kf R 0 (lev s en) en).2 + (mGoing kf (fun i => R i 0) e (mDesc kf R 0 (lev s en) en).1).1.length : Nat) : Int)
      omega
  · rw [zi_eq0 (by have : (va_up (va_up J1 12 0) 26 0) 7 = N := hJN1; omega) (by have : (va_up (va_up J1 12 0) 26 0) 7 = N := hJN1; omega)] at c18
    refine x_vret d_86_21 rfl ?_
    have hN0 : N = 0 := by have : (va_up (va_up J1 12 0) 26 0) 7 = N := hJN1; omega
    subst hN0
    subst hg
    refine k _ G1 (fun r a b c d e => ?_) (fun r hr => f1.2 r (by omega)) z1 (tb1.keep hN2 (fun _ _ _ _ => rfl) rfl rfl (fun _ _ => rfl) rfl) rfl ⟨by rw [va_us]; exact (congrArg (fun z : List Nat => (z.length : Int)) (List.take_nil (i := m))).symm, fun j hj => ?_⟩
    · rw [va_un _ _ _ e, va_un _ _ _ a]; exact f1.1 r b c d
    · have h0 : ((mFF fr ([] : List Nat) []).take m).length = 0 := by rw [show mFF fr ([] : List Nat) [] = [] from rfl, List.take_nil]; rfl
      exact absurd (show j < ((mFF fr ([] : List Nat) []).take m).length from hj) (by omega)
