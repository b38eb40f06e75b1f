/-! Graph: joinLevel, join, rebuild, search -/
theorem sum_3 (a b : Nat) : (0 : Int) + (a : Int) + (b : Int) = ((a + b : Nat) : Int) := by omega
theorem min_if (a b : Nat) : (if (b : Int) < (a : Int) then (b : Int) else (a : Int)) = (((min a b + 1 : Nat) : Int) - 1) := by
  rw [Nat.min_def]
  split <;> split <;> omega
set_option maxHeartbeats 2000000 in
theorem lq_joinLevel {sc : ax_S} {σ : Nat → ax_C} {I0 : Nat → Int} {F0 : Nat → Nat → Int} {n bc bs : Nat} {K : ax_K} (hn : 22 ≤ n) {P N M : Nat} (hV : VW I0 F0 P N M) {w : Nat → Int} (hw : F0 2 = w) {wd : Nat} (hwd : I0 3 = wd) (hwd6 : wd ≤ 6) {car : Bool} (hcar : I0 4 = if car = true then 1 else 0) {x l f : Nat} {nx : Int} {row : List Nat} (hx : x < N) (hl : l < 5) (hrow : ∀ y ∈ row, y < x) (hrl : row.length ≤ 12) {RF : Nat → Nat → List Nat}
    (k : ∀ I' F', GW F' RF N → FrJ I0 F0 I' F' → K (some (.int (zi nx))) (vg σ I' F', n, bc, bs)) :
    ∀ (d j : Nat) (R : Nat → Nat → List Nat) (I : Nat → Int) (F : Nat → Nat → Int), j + d = row.length → GW F R N → R x l = row → FrJ I0 F0 I F → RF = mLinks (kfW w P M) (fbW w P M) car (limN wd l) l x (row.drop j) R → Ex sc 27 53 [some (.ref 5), some (.int (zi x)), some (.int (zi l)), some (.int (zi f)), some (.int (zi nx)), some (.int (zi row.length)), some (.int (zi j))] [] (vg σ I F, n, bc, bs) K := by
  have hN2 := hV.2.2.2.2.1
  intro d
  induction d with
  | zero =>
    intro j R I F hj hGR hxl hFr hRF
    rw [show row.drop j = [] from List.drop_of_length_le (by omega)] at hRF
    have hRF : RF = R := hRF
    rw [hRF] at k
    refine xild_6 (q := 55) d_27_53 rfl ?_
    refine xild_5 (q := 57) d_27_55 rfl ?_
    refine x_icmp_ge (q := 60) (t := 80) d_27_57 (by decide) rfl (fun c57 => ?_) (fun c57 => ?_)
    · rw [zi_le (by omega) (by omega) (by omega) (by omega)] at c57
      refine xild_4 (q := 82) d_27_80 rfl ?_
      refine x_iret d_27_82 rfl rfl ?_
      exact k I F hGR hFr
    · rw [zi_le (by omega) (by omega) (by omega) (by omega)] at c57
      exact absurd c57 (by omega)
  | succ d ih =>
    intro j R I F hj hGR hxl hFr hRF
    have hjl : j < row.length := by omega
    have hjl2 : j < (R x l).length := by rw [hxl]; exact hjl
    rw [drop_get hjl] at hRF
    have hy := hrow _ (gd_mem hjl)
    refine xild_6 (q := 55) d_27_53 rfl ?_
    refine xild_5 (q := 57) d_27_55 rfl ?_
    refine x_icmp_ge (q := 60) (t := 80) d_27_57 (by decide) rfl (fun c57 => ?_) (fun c57 => ?_)
    · rw [zi_le (by omega) (by omega) (by omega) (by omega)] at c57
      exact absurd c57 (by omega)
    · rw [zi_le (by omega) (by omega) (by omega) (by omega)] at c57
      refine xald_0 (q := 61) d_27_60 rfl ?_
      refine xald_0 (q := 62) d_27_61 rfl ?_
      refine xild_1 (q := 63) d_27_62 rfl ?_
      refine xild_2 (q := 64) d_27_63 rfl ?_
      refine xild_6 (q := 66) d_27_64 rfl ?_
      refine xcV3 (q := 69) d_27_66 rfl lk_G_107 mo_25 ⟨by decide +kernel, by decide +kernel⟩ (by simp [Value.category]) (by decide +kernel) (by simp [Value.category]) (by omega) rfl ?_
      refine c_linkAt hn hGR (i := x) (l := l) (j := j) (by omega) hl hjl2 ?_
      dsimp only [ax_ps]
      rw [hxl]
      refine xild_2 (q := 70) d_27_69 rfl ?_
      refine xild_1 (q := 71) d_27_70 rfl ?_
      refine xcV3 (q := 74) d_27_71 rfl lk_G_124 mo_32 ⟨by decide +kernel, by decide +kernel⟩ (by simp [Value.category]) (by decide +kernel) (by simp [Value.category]) (by omega) rfl ?_
      refine c_linkBack hn (hV.frJ hFr) (hFr.w.trans hw) hGR ((hFr.i (by omega)).trans hwd) hwd6 ((hFr.i (by omega)).trans hcar) (i := row.getD j 0) (l := l) (x := x) (by omega) hl hx ?_
      intro I2 F2 hG2 hFr2
      dsimp only [ax_ps]
      refine xincz_6 (q := 77) d_27_74 rfl ?_
      refine x_goto (t := 53) d_27_77 (by decide) ?_
      rw [show (j : Int) + 1 = ((j + 1 : Nat) : Int) by omega]
      exact ih (j + 1) _ I2 F2 (by omega) hG2 (by rw [rset_n _ _ _ _ (by omega)]; exact hxl) (hFr.tr hFr2) hRF
set_option maxHeartbeats 2000000 in
theorem c_joinLevel {sc : ax_S} {σ : Nat → ax_C} {I : Nat → Int} {F : Nat → Nat → Int} {n bc bs : Nat} {K : ax_K} (hn : 22 ≤ n) {P N M : Nat} (hV : VW I F P N M) {w : Nat → Int} (hw : F 2 = w) {rows : Nat → Nat → List Nat} (hG : GW F rows N) {wd : Nat} (hwd : I 3 = wd) (hwd6 : wd ≤ 6) {car : Bool} (hcar : I 4 = if car = true then 1 else 0) {x l f : Nat} (hx : x < N) (hl : l < 5) (hf : f < x) (hlow : LT rows l x)
    (k : ∀ I' F', GW F' (mJL (kfW w P M) (fbW w P M) car wd rows x l f) N → FrJ I F I' F' → K (some (.int (zi (mHead (mGoing (kfW w P M x) (fun i => rows i l) 12 f).2.1)))) (vg σ I' F', n, bc, bs)) : Ex sc 27 0 (ax_en 27 [.ref 5, .int (zi x), .int (zi l), .int (zi f)]) [] (vg σ I F, n, bc, bs) K := by
  have hN2 := hV.2.2.2.2.1
  have hlr := lim_rl (l := l) hwd6
  have hrl := rl_b l
  have hkk : ∀ y, y < x → kfW w P M x y % 100 = y := fun y hy => (kf_b hV hw (show x ≤ 100 by omega) (show y < 100 by omega)).2.2.2.1
  have hGI := mGoing_GI (e := 12) hf (fun i _ => hlow i) hkk
  have hne := mGoing_ne (kf := kfW w P M x) (row := fun i => rows i l) (f := f) (show 1 ≤ 12 by decide)
  have hlp := List.length_pos_iff.mpr hne
  have hrow := mRow_lt (fb := (fbW w P M)) (car := car) (wd := wd) hf hlow hkk
  have hcl : (mChoose (fbW w P M) car (limN wd l) (mGoing (kfW w P M x) (fun i => rows i l) 12 f).2.1 []).length ≤ limN wd l := mChoose_len _ _ (Nat.zero_le _)
  have hrlen : (mRow (kfW w P M) (fbW w P M) car wd rows x l f).length ≤ 12 := by unfold mRow; rw [List.length_map]; omega
  show Ex sc 27 0 [some (.ref 5), some (.int (zi x)), some (.int (zi l)), some (.int (zi f)), none, none, none] [] (vg σ I F, n, bc, bs) K
  refine xald_0 (q := 1) d_27_0 rfl ?_
  refine xild_3 (q := 2) d_27_1 rfl ?_
  refine xild_2 (q := 3) d_27_2 rfl ?_
  refine x_bipush (q := 5) (v := zi (12)) d_27_3 rfl (by decide) ?_
  refine xild_1 (q := 6) d_27_5 rfl ?_
  refine xcV4 (q := 9) d_27_6 rfl lk_G_94 mo_12 ⟨by decide +kernel, by decide +kernel⟩ (by simp [Value.category]) (by decide +kernel) (by simp [Value.category]) (by omega) rfl ?_
  refine c_go hn hV hw hG (at_ := f) (l := l) (e := 12) (o := x) (by omega) hl (by omega) (by omega) ?_
  intro I1 F1 hGR1 hFr1 hc1
  dsimp only [ax_ps]
  have hJ1 := hFr1.J
  refine xald_0 (q := 10) d_27_9 rfl ?_
  refine xg_G_found hn (q := 13) d_27_10 rfl fl_G_51 ?_
  refine x_iconst (q := 14) (v := zi (0)) d_27_13 rfl rfl ?_
  refine xcV1 (q := 17) d_27_14 rfl lk_G_110 mo_21 ⟨by decide +kernel, by decide +kernel⟩ (by simp [Value.category]) (by decide +kernel) (by simp [Value.category]) (rk_lt (by decide) hn).1 (vg_rk (by decide)) ?_
  refine c_numberAt hn (by decide) hGR1.1 (i := 0) (by omega) ?_
  dsimp only [ax_ps]
  rw [show rkNum (mGoing (kfW w P M x) (fun i => rows i l) 12 f).2.1 0 = ((mHead (mGoing (kfW w P M x) (fun i => rows i l) 12 f).2.1 : Nat) : Int) by unfold rkNum mHead; rw [if_pos (by omega)]; rfl]
  refine xist_4 (q := 19) d_27_17 rfl ?_
  refine xald_0 (q := 20) d_27_19 rfl ?_
  refine xald_0 (q := 21) d_27_20 rfl ?_
  refine xg_G_found hn (q := 24) d_27_21 rfl fl_G_51 ?_
  refine xald_0 (q := 25) d_27_24 rfl ?_
  refine xild_2 (q := 26) d_27_25 rfl ?_
  refine xcV1 (q := 29) d_27_26 rfl lk_G_113 mo_28 ⟨by decide +kernel, by decide +kernel⟩ (by simp [Value.category]) (by decide +kernel) (by simp [Value.category]) (by omega) rfl ?_
  refine c_rowLimit hn ((hJ1.i (by omega)).trans hwd) hl ?_
  dsimp only [ax_ps]
  rw [show (if l = 0 then 2 * (wd : Int) else (wd : Int)) = ((limN wd l : Nat) : Int) by unfold limN; split <;> omega]
  refine xcV2 (q := 32) d_27_29 rfl lk_G_116 mo_29 ⟨by decide +kernel, by decide +kernel⟩ (by simp [Value.category]) (by decide +kernel) (by simp [Value.category]) (by omega) rfl ?_
  refine c_choose hn (hV.frJ hJ1) (hJ1.w.trans hw) (by decide) hGR1.1 (W := limN wd l) (by omega) ((hJ1.i (by omega)).trans hcar) ?_
  intro I2 F2 hL2 hOI2 hOF2
  dsimp only [ax_ps]
  have hJ2 : FrJ I F I2 F2 := hJ1.tr ⟨fun q a b c d => hOI2 q (by omega), fun q a b c d e f => hOF2 q (by omega)⟩
  have hG2 : GW F2 rows N := (hG.fr3 hFr1).same (hOF2 _ (by decide)) (hOF2 _ (by decide))
  refine xald_0 (q := 33) d_27_32 rfl ?_
  refine xild_1 (q := 34) d_27_33 rfl ?_
  refine xild_2 (q := 35) d_27_34 rfl ?_
  refine xald_0 (q := 36) d_27_35 rfl ?_
  refine xg_G_found hn (q := 39) d_27_36 rfl fl_G_51 ?_
  refine xcV3 (q := 42) d_27_39 rfl lk_G_120 mo_31 ⟨by decide +kernel, by decide +kernel⟩ (by simp [Value.category]) (by decide +kernel) (by simp [Value.category]) (by omega) rfl ?_
  refine c_writeRow hn hG2 (by decide) hL2 ((hJ2.i (by omega)).trans hwd) hwd6 (i := x) (l := l) (by omega) hl hcl (fun q hq => ?_) ?_
  · have := hrow (q % 100) (List.mem_map.mpr ⟨q, hq, rfl⟩)
    omega
  intro F3 hG3 hF3
  dsimp only [ax_ps]
  have hJ3 : FrJ I F I2 F3 := hJ2.tr ⟨fun q a b c d => rfl, fun q a b c d e f => hF3 q a b⟩
  have hG3 : GW F3 (rset rows x l (mRow (kfW w P M) (fbW w P M) car wd rows x l f)) N := hG3
  refine xald_0 (q := 43) d_27_42 rfl ?_
  refine xild_1 (q := 44) d_27_43 rfl ?_
  refine xild_2 (q := 45) d_27_44 rfl ?_
  refine xcV2 (q := 48) d_27_45 rfl lk_G_104 mo_24 ⟨by decide +kernel, by decide +kernel⟩ (by simp [Value.category]) (by decide +kernel) (by simp [Value.category]) (by omega) rfl ?_
  refine c_rowSize hn hG3 (i := x) (l := l) (by omega) hl ?_
  dsimp only [ax_ps]
  rw [rset_s]
  refine xist_5 (q := 50) d_27_48 rfl ?_
  refine x_iconst (q := 51) (v := zi (0)) d_27_50 rfl rfl ?_
  refine xist_6 (q := 53) d_27_51 rfl ?_
  exact lq_joinLevel hn hV hw hwd hwd6 hcar hx hl hrow hrlen k _ 0 _ I2 F3 (Nat.zero_add _) hG3 (rset_s _ _ _ _) hJ3 (by rw [List.drop_zero]; rfl)
set_option maxHeartbeats 2000000 in
theorem lq_join {sc : ax_S} {σ : Nat → ax_C} {I0 : Nat → Int} {F0 : Nat → Nat → Int} {n bc bs : Nat} {K : ax_K} (hn : 22 ≤ n) {P N M : Nat} (hV : VW I0 F0 P N M) {w : Nat → Int} (hw : F0 2 = w) {wd : Nat} (hwd : I0 3 = wd) (hwd6 : wd ≤ 6) {car : Bool} (hcar : I0 4 = if car = true then 1 else 0) {x : Nat} {own top : Int} (hx : x < N) {RF : Nat → Nat → List Nat}
    (kk : ∀ I F f e, GW F RF N → FrJ I0 F0 I F → Ex sc 9 68 [some (.ref 5), some (.int (zi x)), some (.int (zi own)), some (.int (zi top)), some (.int (zi f)), some (.int (zi e))] [] (vg σ I F, n, bc, bs) K) :
    ∀ (d : Nat) (R : Nat → Nat → List Nat) (f : Nat) (I : Nat → Int) (F : Nat → Nat → Int), d ≤ 5 → f < x → (∀ l, l < d → LT R l x) → GW F R N → FrJ I0 F0 I F → RF = mJLs (kfW w P M) (fbW w P M) car wd x d R f → Ex sc 9 46 [some (.ref 5), some (.int (zi x)), some (.int (zi own)), some (.int (zi top)), some (.int (zi f)), some (.int (zi ((d : Nat) - 1 : Int)))] [] (vg σ I F, n, bc, bs) K := by
  have hN2 := hV.2.2.2.2.1
  intro d
  induction d with
  | zero =>
    intro R f I F hd hf hlow hGR hFr hRF
    have hRF : RF = R := hRF
    rw [← hRF] at hGR
    refine xild_5 (q := 48) d_9_46 rfl ?_
    refine x_if_lt (q := 51) (t := 68) d_9_48 (by decide) rfl (fun c48 => ?_) (fun c48 => ?_)
    · rw [zi_lt0 (by omega) (by omega)] at c48
      exact kk I F f _ hGR hFr
    · rw [zi_lt0 (by omega) (by omega)] at c48
      exact absurd c48 (by omega)
  | succ d ih =>
    intro R f I F hd hf hlow hGR hFr hRF
    have hkk : ∀ y, y < x → kfW w P M x y % 100 = y := fun y hy => (kf_b hV hw (show x ≤ 100 by omega) (show y < 100 by omega)).2.2.2.1
    rw [show (((d + 1 : Nat) : Int) - 1) = ((d : Nat) : Int) by omega]
    refine xild_5 (q := 48) d_9_46 rfl ?_
    refine x_if_lt (q := 51) (t := 68) d_9_48 (by decide) rfl (fun c48 => ?_) (fun c48 => ?_)
    · rw [zi_lt0 (by omega) (by omega)] at c48
      exact absurd c48 (by omega)
    · rw [zi_lt0 (by omega) (by omega)] at c48
      refine xald_0 (q := 52) d_9_51 rfl ?_
      refine xild_1 (q := 53) d_9_52 rfl ?_
      refine xild_5 (q := 55) d_9_53 rfl ?_
      refine xild_4 (q := 57) d_9_55 rfl ?_
      refine xcV3 (q := 60) d_9_57 rfl lk_G_88 mo_27 ⟨by decide +kernel, by decide +kernel⟩ (by simp [Value.category]) (by decide +kernel) (by simp [Value.category]) (by omega) rfl ?_
      refine c_joinLevel hn (hV.frJ hFr) (hFr.w.trans hw) hGR ((hFr.i (by omega)).trans hwd) hwd6 ((hFr.i (by omega)).trans hcar) (x := x) (l := d) (f := f) hx (by omega) hf (hlow d (by omega)) ?_
      intro I2 F2 hG2 hFr2
      dsimp only [ax_ps]
      refine xist_4 (q := 62) d_9_60 rfl ?_
      refine xincz_5 (q := 65) d_9_62 rfl ?_
      refine x_goto (t := 46) d_9_65 (by decide) ?_
      rw [show ((d : Nat) : Int) + -1 = ((d : Nat) : Int) - 1 by omega]
      refine ih _ _ I2 F2 (by omega) (mHead_lt (by decide) hf (fun i _ => hlow d (by omega) i) hkk) (fun l hl => ?_) hG2 (hFr.tr hFr2) hRF
      intro i y hy
      rw [mJL_other (by omega)] at hy
      exact hlow l (by omega) i y hy
set_option maxHeartbeats 2000000 in
theorem c_join {sc : ax_S} {σ : Nat → ax_C} {I : Nat → Int} {F : Nat → Nat → Int} {n bc bs : Nat} {K : ax_K} (hn : 22 ≤ n) {P N M : Nat} (hV : VW I F P N M) {w : Nat → Int} (hw : F 2 = w) {g : mSt} (hG : GW F g.1 N) {wd : Nat} (hwd : I 3 = wd) (hwd6 : wd ≤ 6) {car : Bool} (hcar : I 4 = if car = true then 1 else 0) {s : Int} (hs : I 8 = s) (hen : I 2 = entI g.2) {x : Nat} (hx : x < N) (hlt : ∀ l, LT g.1 l x) (hent : ∀ e, g.2 = some e → e < x)
    (k : ∀ I' F', GW F' (mJoin (kfW w P M) (fbW w P M) car wd (lev s) g x).1 N → I' 2 = entI (mJoin (kfW w P M) (fbW w P M) car wd (lev s) g x).2 → FrK I F I' F' → K none (vg σ I' F', n, bc, bs)) : Ex sc 9 0 (ax_en 9 [.ref 5, .int (zi x)]) [] (vg σ I F, n, bc, bs) K := by
  have hN2 := hV.2.2.2.2.1
  have hkk : ∀ y, y < x → kfW w P M x y % 100 = y := fun y hy => (kf_b hV hw (show x ≤ 100 by omega) (show y < 100 by omega)).2.2.2.1
  obtain ⟨rows, ent⟩ := g
  show Ex sc 9 0 [some (.ref 5), some (.int (zi x)), none, none, none, none] [] (vg σ I F, n, bc, bs) K
  cases ent with
  | none =>
    have hen : I 2 = -2 := hen
    have k := k (va_up I 2 x) F hG (va_us _ _ _) ⟨fun q a b c d e => va_un _ _ _ a, fun _ _ _ _ _ _ _ => rfl⟩
    refine xald_0 (q := 1) d_9_0 rfl ?_
    refine xg_G_entry hn (q := 4) d_9_1 rfl fl_G_19 ?_
    refine x_bipush (q := 6) (v := zi (-2)) d_9_4 rfl (by decide) ?_
    refine x_icmp_ne (q := 9) (t := 15) d_9_6 (by decide) rfl (fun c6 => ?_) (fun c6 => ?_)
    · rw [zi_eq (by omega) (by omega) (by omega) (by omega)] at c6
      exact absurd hen (by omega)
    · rw [zi_eq (by omega) (by omega) (by omega) (by omega)] at c6
      refine xald_0 (q := 10) d_9_9 rfl ?_
      refine xild_1 (q := 11) d_9_10 rfl ?_
      refine xp_G_entry hn (q := 14) d_9_11 rfl fw_G_19 ?_
      refine x_vret d_9_14 rfl ?_
      exact k
  | some en =>
    have hen : I 2 = (en : Int) := hen
    have henx := hent en rfl
    have ho := lev_le s x
    have ht := lev_le s en
    have hmin : min (lev s x) (lev s en) + 1 ≤ 5 := Nat.succ_le_succ (Nat.le_trans (Nat.min_le_left _ _) ho)
    have hD := mDesc_lt (kf := kfW w P M x) (bot := lev s x) hlt hkk (lev s en - lev s x) en henx
    refine xald_0 (q := 1) d_9_0 rfl ?_
    refine xg_G_entry hn (q := 4) d_9_1 rfl fl_G_19 ?_
    refine x_bipush (q := 6) (v := zi (-2)) d_9_4 rfl (by decide) ?_
    refine x_icmp_ne (q := 9) (t := 15) d_9_6 (by decide) rfl (fun c6 => ?_) (fun c6 => ?_)
    · rw [hen] at c6
      rw [zi_eq (by omega) (by omega) (by omega) (by omega)] at c6
      refine xald_0 (q := 16) d_9_15 rfl ?_
      refine xild_1 (q := 17) d_9_16 rfl ?_
      refine xcV1 (q := 20) d_9_17 rfl lk_G_75 mo_10 ⟨by decide +kernel, by decide +kernel⟩ (by simp [Value.category]) (by decide +kernel) (by simp [Value.category]) (by omega) rfl ?_
      refine c_levelOf hn hs (i := x) ?_
      dsimp only [ax_ps]
      refine xist_2 (q := 21) d_9_20 rfl ?_
      refine xald_0 (q := 22) d_9_21 rfl ?_
      refine xald_0 (q := 23) d_9_22 rfl ?_
      refine xg_G_entry hn (q := 26) d_9_23 rfl fl_G_19 ?_
      rw [hen]
      refine xcV1 (q := 29) d_9_26 rfl lk_G_75 mo_10 ⟨by decide +kernel, by decide +kernel⟩ (by simp [Value.category]) (by decide +kernel) (by simp [Value.category]) (by omega) rfl ?_
      refine c_levelOf hn hs (i := en) ?_
      dsimp only [ax_ps]
      refine xist_3 (q := 30) d_9_29 rfl ?_
      refine xald_0 (q := 31) d_9_30 rfl ?_
      refine xild_3 (q := 32) d_9_31 rfl ?_
      refine xild_2 (q := 33) d_9_32 rfl ?_
      refine xild_1 (q := 34) d_9_33 rfl ?_
      refine xcV3 (q := 37) d_9_34 rfl lk_G_79 mo_11 ⟨by decide +kernel, by decide +kernel⟩ (by simp [Value.category]) (by decide +kernel) (by simp [Value.category]) (by omega) rfl ?_
      refine c_descend hn hV hw hG (top := lev s en) (bot := lev s x) (o := x) (en := en) hen (by omega) ht ho (by omega) ?_
      intro I2 F2 hFr2 hc2
      dsimp only [ax_ps]
      refine xist_4 (q := 39) d_9_37 rfl ?_
      refine xild_2 (q := 40) d_9_39 rfl ?_
      refine xild_3 (q := 41) d_9_40 rfl ?_
      refine z_mmin (by constructor <;> omega) (by constructor <;> omega) (q := 44) d_9_41 rfl li_G_83 (by decide +kernel) (by simp [Value.category]) ?_
      rw [min_if]
      refine xist_5 (q := 46) d_9_44 rfl ?_
      refine lq_join hn hV hw hwd hwd6 hcar hx ?_ _ rows _ I2 F2 hmin hD (fun l _ => hlt l) (hG.fr3 hFr2) hFr2.J rfl
      intro I5 F5 f e hG5 hJ5
      refine xild_2 (q := 69) d_9_68 rfl ?_
      refine xild_3 (q := 70) d_9_69 rfl ?_
      refine x_icmp_le (q := 73) (t := 78) d_9_70 (by decide) rfl (fun c70 => ?_) (fun c70 => ?_)
      · rw [zi_le (by omega) (by omega) (by omega) (by omega)] at c70
        refine x_vret d_9_78 rfl ?_
        first
          | (refine k (va_up I5 2 x) F5 hG5 ?_ ⟨fun q z a b c d => (va_un _ _ _ z).trans (hJ5.1 q a b c d), hJ5.2⟩; rw [va_us]; show (x : Int) = ((if lev s en < lev s x then x else en : Nat) : Int); rw [if_pos (by omega)])
          | (refine k I5 F5 hG5 ?_ hJ5.K; show I5 2 = ((if lev s en < lev s x then x else en : Nat) : Int); rw [if_neg (by omega), hJ5.i (by omega)]; exact hen)
      · rw [zi_le (by omega) (by omega) (by omega) (by omega)] at c70
        refine xald_0 (q := 74) d_9_73 rfl ?_
        refine xild_1 (q := 75) d_9_74 rfl ?_
        refine xp_G_entry hn (q := 78) d_9_75 rfl fw_G_19 ?_
        refine x_vret d_9_78 rfl ?_
        first
          | (refine k (va_up I5 2 x) F5 hG5 ?_ ⟨fun q z a b c d => (va_un _ _ _ z).trans (hJ5.1 q a b c d), hJ5.2⟩; rw [va_us]; show (x : Int) = ((if lev s en < lev s x then x else en : Nat) : Int); rw [if_pos (by omega)])
          | (refine k I5 F5 hG5 ?_ hJ5.K; show I5 2 = ((if lev s en < lev s x then x else en : Nat) : Int); rw [if_neg (by omega), hJ5.i (by omega)]; exact hen)
    · rw [hen] at c6
      rw [zi_eq (by omega) (by omega) (by omega) (by omega)] at c6
      exact absurd c6 (by omega)
set_option maxHeartbeats 2000000 in
theorem lq_rebuild {sc : ax_S} {σ : Nat → ax_C} {I0 : Nat → Int} {F0 : Nat → Nat → Int} {n bc bs : Nat} {K : ax_K} (hn : 22 ≤ n) {P N M : Nat} (hV : VW I0 F0 P N M) {w : Nat → Int} (hw : F0 2 = w) {wd : Nat} (hwd : I0 3 = wd) (hwd6 : wd ≤ 6) {car : Bool} (hcar : I0 4 = if car = true then 1 else 0) {s : Int} (hs : I0 8 = s) {t1 : Option Value}
    (k : ∀ I' F', GW F' (mBuild (kfW w P M) (fbW w P M) car wd (lev s) N).1 N → I' 2 = entI (mBuild (kfW w P M) (fbW w P M) car wd (lev s) N).2 → FrK I0 F0 I' F' → K none (vg σ I' F', n, bc, bs)) :
    ∀ (d j : Nat) (I : Nat → Int) (F : Nat → Nat → Int), j + d = N → GW F (mBuild (kfW w P M) (fbW w P M) car wd (lev s) j).1 N → I 2 = entI (mBuild (kfW w P M) (fbW w P M) car wd (lev s) j).2 → FrK I0 F0 I F → Ex sc 38 32 [some (.ref 5), some (.int (zi j))] [] (vg σ I F, n, bc, bs) K := by
  have hN2 := hV.2.2.2.2.1
  have hN := hV.2.2.2.1
  intro d
  induction d with
  | zero =>
    intro j I F hj hGR hI2 hFr
    have hjN : j = N := by omega
    subst hjN
    have hI0 : I 0 = I0 0 := hFr.i (by omega)
    refine xild_1 (q := 33) d_38_32 rfl ?_
    refine xald_0 (q := 34) d_38_33 rfl ?_
    refine xg_G_vectors hn (q := 37) d_38_34 rfl fl_G_11 ?_
    refine xg_V_total hn (q := 40) d_38_37 rfl fl_G_67 ?_
    refine x_icmp_ge (q := 43) (t := 54) d_38_40 (by decide) rfl (fun c40 => ?_) (fun c40 => ?_)
    · rw [zi_le (by omega) (by omega) (by omega) (by omega)] at c40
      refine x_vret d_38_54 rfl ?_
      exact k I F hGR hI2 hFr
    · rw [zi_le (by omega) (by omega) (by omega) (by omega)] at c40
      exact absurd c40 (by omega)
  | succ d ih =>
    intro j I F hj hGR hI2 hFr
    have hI0 : I 0 = I0 0 := hFr.i (by omega)
    obtain ⟨l1, l2, l3⟩ := mBuild_lt (kfs := (kfW w P M)) (fb := (fbW w P M)) (car := car) (wd := wd) (lv := (lev s)) j (fun o y ho hy => (kf_b hV hw (show o ≤ 100 by omega) (show y < 100 by omega)).2.2.2.1)
    refine xild_1 (q := 33) d_38_32 rfl ?_
    refine xald_0 (q := 34) d_38_33 rfl ?_
    refine xg_G_vectors hn (q := 37) d_38_34 rfl fl_G_11 ?_
    refine xg_V_total hn (q := 40) d_38_37 rfl fl_G_67 ?_
    refine x_icmp_ge (q := 43) (t := 54) d_38_40 (by decide) rfl (fun c40 => ?_) (fun c40 => ?_)
    · rw [zi_le (by omega) (by omega) (by omega) (by omega)] at c40
      exact absurd c40 (by omega)
    · rw [zi_le (by omega) (by omega) (by omega) (by omega)] at c40
      refine xald_0 (q := 44) d_38_43 rfl ?_
      refine xild_1 (q := 45) d_38_44 rfl ?_
      refine xcV1 (q := 48) d_38_45 rfl lk_G_72 mo_9 ⟨by decide +kernel, by decide +kernel⟩ (by simp [Value.category]) (by decide +kernel) (by simp [Value.category]) (by omega) rfl ?_
      refine c_join hn (hV.frK hFr) (hFr.w.trans hw) hGR ((hFr.i (by omega)).trans hwd) hwd6 ((hFr.i (by omega)).trans hcar) ((hFr.i (by omega)).trans hs) hI2 (x := j) (by omega) l1 l2 ?_
      intro I2 F2 hG2 he2 hFr2
      dsimp only [ax_ps]
      refine xincz_1 (q := 51) d_38_48 rfl ?_
      refine x_goto (t := 32) d_38_51 (by decide) ?_
      rw [show (j : Int) + 1 = ((j + 1 : Nat) : Int) by omega]
      exact ih (j + 1) I2 F2 (by omega) hG2 he2 (hFr.tr hFr2)
set_option maxHeartbeats 2000000 in
theorem lq_clear {sc : ax_S} {σ : Nat → ax_C} {I : Nat → Int} {F0 : Nat → Nat → Int} {n bc bs : Nat} {K : ax_K} (hn : 22 ≤ n) (kk : ∀ F, (∀ j, j < 500 → F 4 j = 0) → (∀ j, j ≠ 4 → F j = F0 j) → Ex sc 38 32 [some (.ref 5), some (.int (zi ((0 : Nat) : Int)))] [] (vg σ I F, n, bc, bs) K) : ∀ (d j : Nat) (F : Nat → Nat → Int), j + d = 500 → (∀ r, r ≠ 4 → F r = F0 r) → (∀ x, x < j → F 4 x = 0) → Ex sc 38 8 [some (.ref 5), some (.int (zi j))] [] (vg σ I F, n, bc, bs) K := by
  intro d
  induction d with
  | zero =>
    intro j F hj hF h0
    refine xild_1 (q := 9) d_38_8 rfl ?_
    refine xald_0 (q := 10) d_38_9 rfl ?_
    refine xg_G_rowSizes hn (q := 13) d_38_10 rfl fl_G_36 ?_
    refine xn_rowSizes (q := 14) hn d_38_13 rfl ?_
    refine x_icmp_ge (q := 17) (t := 30) d_38_14 (by decide) rfl (fun c14 => ?_) (fun c14 => ?_)
    · rw [zi_le (by omega) (by omega) (by omega) (by omega)] at c14
      refine x_iconst (q := 31) (v := zi (0)) d_38_30 rfl rfl ?_
      refine xist_1 (q := 32) d_38_31 rfl ?_
      exact kk F (fun x hx => h0 x (by omega)) hF
    · rw [zi_le (by omega) (by omega) (by omega) (by omega)] at c14
      exact absurd c14 (by omega)
  | succ d ih =>
    intro j F hj hF h0
    refine xild_1 (q := 9) d_38_8 rfl ?_
    refine xald_0 (q := 10) d_38_9 rfl ?_
    refine xg_G_rowSizes hn (q := 13) d_38_10 rfl fl_G_36 ?_
    refine xn_rowSizes (q := 14) hn d_38_13 rfl ?_
    refine x_icmp_ge (q := 17) (t := 30) d_38_14 (by decide) rfl (fun c14 => ?_) (fun c14 => ?_)
    · rw [zi_le (by omega) (by omega) (by omega) (by omega)] at c14
      exact absurd c14 (by omega)
    · rw [zi_le (by omega) (by omega) (by omega) (by omega)] at c14
      refine xald_0 (q := 18) d_38_17 rfl ?_
      refine xg_G_rowSizes hn (q := 21) d_38_18 rfl fl_G_36 ?_
      refine xild_1 (q := 22) d_38_21 rfl ?_
      refine x_iconst (q := 23) (v := zi (0)) d_38_22 rfl rfl ?_
      refine xs_rowSizes (e := 0) (q := 24) hn d_38_23 rfl (by omega) (by omega) ?_
      refine xincz_1 (q := 27) d_38_24 rfl ?_
      refine x_goto (t := 8) d_38_27 (by decide) ?_
      rw [show (j : Int) + 1 = ((j + 1 : Nat) : Int) by omega, show ((j : Int)).toNat = j by omega]
      refine ih (j + 1) _ (by omega) (fun r hr => by rw [va_un _ _ _ hr]; exact hF r hr) (fun x hx => ?_)
      rw [va_us]
      by_cases e : x = j
      · rw [e, va_us]
      · rw [va_un _ _ _ e]; exact h0 x (by omega)
set_option maxHeartbeats 2000000 in
theorem c_rebuild {sc : ax_S} {σ : Nat → ax_C} {I : Nat → Int} {F : Nat → Nat → Int} {n bc bs : Nat} {K : ax_K} (hn : 22 ≤ n) {P N M : Nat} (hV : VW I F P N M) {w : Nat → Int} (hw : F 2 = w) {wd : Nat} (hwd : I 3 = wd) (hwd6 : wd ≤ 6) {car : Bool} (hcar : I 4 = if car = true then 1 else 0) {s : Int} (hs : I 8 = s)
    (k : ∀ I' F', GW F' (mBuild (kfW w P M) (fbW w P M) car wd (lev s) N).1 N → I' 2 = entI (mBuild (kfW w P M) (fbW w P M) car wd (lev s) N).2 → FrK I F I' F' → K none (vg σ I' F', n, bc, bs)) : Ex sc 38 0 (ax_en 38 [.ref 5]) [] (vg σ I F, n, bc, bs) K := by
  show Ex sc 38 0 [some (.ref 5), none] [] (vg σ I F, n, bc, bs) K
  refine xald_0 (q := 1) d_38_0 rfl ?_
  refine x_bipush (q := 3) (v := zi (-2)) d_38_1 rfl (by decide) ?_
  refine xp_G_entry hn (q := 6) d_38_3 rfl fw_G_19 ?_
  refine x_iconst (q := 7) (v := zi (0)) d_38_6 rfl rfl ?_
  refine xist_1 (q := 8) d_38_7 rfl ?_
  refine lq_clear hn ?_ 500 0 F (by omega) (fun _ _ => rfl) (fun x hx => absurd hx (Nat.not_lt_zero _))
  intro F1 h0 hF1
  have hFr1 : FrK I F (va_up I 2 (-2)) F1 := ⟨fun q z a b c d => va_un _ _ _ z, fun q a b c d e f => hF1 q b⟩
  refine lq_rebuild (t1 := none) hn (hV.frK hFr1) (hFr1.w.trans hw) ((hFr1.i (by omega)).trans hwd) hwd6 ((hFr1.i (by omega)).trans hcar) ((hFr1.i (by omega)).trans hs) (fun I2 F2 a b c => k I2 F2 a b (hFr1.tr c)) N 0 _ F1 (by omega) ?_ (va_us _ _ _) FrK.rf
  intro a b ha hb
  refine ⟨h0 _ (by omega), Nat.zero_le _, fun q hq => absurd hq (Nat.not_lt_zero _), fun y hy => absurd hy List.not_mem_nil⟩
theorem md_lt {kf : Nat → Nat} {R : Nat → Nat → List Nat} {bot N : Nat} (hR : ∀ i l, i < 100 → l < 5 → ∀ x ∈ R i l, x < N) (hN : N ≤ 100) (hk : ∀ y, y < N → kf y % 100 = y) : ∀ (d f : Nat), bot + d ≤ 4 → f < N → (mDesc kf R bot d f).1 < N
  | 0, _, _, h => h
  | d + 1, _, hb, h => md_lt hR hN hk d _ (by omega) (mHead_lt (by decide) h (fun i hi => hR i (bot + d + 1) (by omega) (by omega)) hk)
set_option maxHeartbeats 2000000 in
theorem c_search {sc : ax_S} {σ : Nat → ax_C} {I : Nat → Int} {F : Nat → Nat → Int} {n bc bs : Nat} {K : ax_K} (hn : 22 ≤ n) {P N M : Nat} (hV : VW I F P N M) {w : Nat → Int} (hw : F 2 = w) {g : mSt} (hG : GW F g.1 N) {s : Int} (hs : I 8 = s) (hen : I 2 = entI g.2) (hent : ∀ e, g.2 = some e → e < N) {e : Nat} (he : 1 ≤ e ∧ e ≤ 60)
    (k : ∀ I' F', RK 0 I' F' (mSearch (kfW w P M 100) (lev s) g e).1 → I' 5 = (mSearch (kfW w P M 100) (lev s) g e).2 → Fr3 I F I' F' → K none (vg σ I' F', n, bc, bs)) : Ex sc 46 0 (ax_en 46 [.ref 5, .int (zi e)]) [] (vg σ I F, n, bc, bs) K := by
  have hN2 := hV.2.2.2.2.1
  have hkk : ∀ y, y < N → kfW w P M 100 y % 100 = y := fun y hy => (kf_b hV hw (Nat.le_refl 100) (show y < 100 by omega)).2.2.2.1
  obtain ⟨rows, ent⟩ := g
  show Ex sc 46 0 [some (.ref 5), some (.int (zi e)), none] [] (vg σ I F, n, bc, bs) K
  cases ent with
  | none =>
    have hen : I 2 = -2 := hen
    refine xald_0 (q := 1) d_46_0 rfl ?_
    refine x_iconst (q := 2) (v := zi (0)) d_46_1 rfl rfl ?_
    refine xp_G_walked hn (q := 5) d_46_2 rfl fw_G_29 ?_
    refine xald_0 (q := 6) d_46_5 rfl ?_
    refine xg_G_found hn (q := 9) d_46_6 rfl fl_G_51 ?_
    refine xcV0 (q := 12) d_46_9 rfl lk_G_91 mo_14 ⟨by decide +kernel, by decide +kernel⟩  (by decide +kernel) (by simp [Value.category]) (rk_lt (by decide) hn).1 (vg_rk (by decide)) ?_
    refine c_empty hn (by decide) ?_
    intro I1 hE hO1
    dsimp only [ax_ps]
    have hF1 : Fr3 I F I1 F := ⟨fun q hq => (hO1 q (g3n hq).2.1).trans (va_un _ _ _ (g3n hq).1), fun _ _ => rfl⟩
    have h15 : I1 5 = 0 := (hO1 5 (by decide)).trans (va_us _ _ _)
    have h12 : I1 2 = I 2 := hF1.1 2 (by unfold G3; omega)
    refine xald_0 (q := 13) d_46_12 rfl ?_
    refine xg_G_entry hn (q := 16) d_46_13 rfl fl_G_19 ?_
    refine x_bipush (q := 18) (v := zi (-2)) d_46_16 rfl (by decide) ?_
    refine x_icmp_eq (q := 21) (t := 46) d_46_18 (by decide) rfl (fun c18 => ?_) (fun c18 => ?_)
    · rw [h12, hen, zi_eq (by omega) (by omega) (by omega) (by omega)] at c18
      refine x_vret d_46_46 rfl ?_
      exact k I1 F hE h15 hF1
    · rw [h12, hen, zi_eq (by omega) (by omega) (by omega) (by omega)] at c18
      exact absurd rfl c18
  | some en =>
    have hen : I 2 = (en : Int) := hen
    have henx := hent en rfl
    have hlv := lev_le s en
    have hlv2 : lev s en - 0 = lev s en := Nat.sub_zero _
    refine xald_0 (q := 1) d_46_0 rfl ?_
    refine x_iconst (q := 2) (v := zi (0)) d_46_1 rfl rfl ?_
    refine xp_G_walked hn (q := 5) d_46_2 rfl fw_G_29 ?_
    refine xald_0 (q := 6) d_46_5 rfl ?_
    refine xg_G_found hn (q := 9) d_46_6 rfl fl_G_51 ?_
    refine xcV0 (q := 12) d_46_9 rfl lk_G_91 mo_14 ⟨by decide +kernel, by decide +kernel⟩  (by decide +kernel) (by simp [Value.category]) (rk_lt (by decide) hn).1 (vg_rk (by decide)) ?_
    refine c_empty hn (by decide) ?_
    intro I1 hE hO1
    dsimp only [ax_ps]
    have hF1 : Fr3 I F I1 F := ⟨fun q hq => (hO1 q (g3n hq).2.1).trans (va_un _ _ _ (g3n hq).1), fun _ _ => rfl⟩
    have h15 : I1 5 = 0 := (hO1 5 (by decide)).trans (va_us _ _ _)
    have h12 : I1 2 = I 2 := hF1.1 2 (by unfold G3; omega)
    have hG1 := hG.fr3 hF1
    have hV1 := hV.fr3 hF1
    refine xald_0 (q := 13) d_46_12 rfl ?_
    refine xg_G_entry hn (q := 16) d_46_13 rfl fl_G_19 ?_
    refine x_bipush (q := 18) (v := zi (-2)) d_46_16 rfl (by decide) ?_
    refine x_icmp_eq (q := 21) (t := 46) d_46_18 (by decide) rfl (fun c18 => ?_) (fun c18 => ?_)
    · rw [h12, hen, zi_eq (by omega) (by omega) (by omega) (by omega)] at c18
      first
        | (exact absurd c18 (by omega))
        | (refine x_vret d_46_46 rfl ?_; refine k I3 F3 hGR3.1 ?_ (hF2.tr hFr3); have hc4 : I3 5 = I2 5 + (((mGoing (kfW w P M 100) (fun i => rows i 0) e (mDesc (kfW w P M 100) rows 0 (lev s en) en).1).1.length : Nat) : Int) := hc3; rw [hc4, hc2, h15]; show _ = (((mDesc (kfW w P M 100) rows 0 (lev s en) en).2 + (mGoing (kfW w P M 100) (fun i => rows i 0) e (mDesc (kfW w P M 100) rows 0 (lev s en) en).1).1.length : Nat) : Int); exact sum_3 _ _)
    · rw [h12, hen, zi_eq (by omega) (by omega) (by omega) (by omega)] at c18
      refine xald_0 (q := 22) d_46_21 rfl ?_
      refine xald_0 (q := 23) d_46_22 rfl ?_
      refine xald_0 (q := 24) d_46_23 rfl ?_
      refine xg_G_entry hn (q := 27) d_46_24 rfl fl_G_19 ?_
      rw [h12, hen]
      refine xcV1 (q := 30) d_46_27 rfl lk_G_75 mo_10 ⟨by decide +kernel, by decide +kernel⟩ (by simp [Value.category]) (by decide +kernel) (by simp [Value.category]) (by omega) rfl ?_
      refine c_levelOf hn ((hF1.1 8 (by unfold G3; omega)).trans hs) (i := en) ?_
      dsimp only [ax_ps]
      refine x_iconst (q := 31) (v := zi (0)) d_46_30 rfl rfl ?_
      refine x_bipush (q := 33) (v := zi (100)) d_46_31 rfl (by decide) ?_
      refine xcV3 (q := 36) d_46_33 rfl lk_G_79 mo_11 ⟨by decide +kernel, by decide +kernel⟩ (by simp [Value.category]) (by decide +kernel) (by simp [Value.category]) (by omega) rfl ?_
      refine c_descend hn hV1 hw hG1 (top := lev s en) (bot := 0) (o := 100) (en := en) (h12.trans hen) henx hlv (by omega) (by omega) ?_
      rw [hlv2]
      intro I2 F2 hFr2 hc2
      dsimp only [ax_ps]
      have hF2 := hF1.tr hFr2
      have hfl : (mDesc (kfW w P M 100) rows 0 (lev s en) en).1 < N := md_lt (fun i l hi hl => (hG i l hi hl).2.2.2) hN2 hkk (lev s en) en (by omega) henx
      refine xist_2 (q := 37) d_46_36 rfl ?_
      refine xald_0 (q := 38) d_46_37 rfl ?_
      refine xild_2 (q := 39) d_46_38 rfl ?_
      refine x_iconst (q := 40) (v := zi (0)) d_46_39 rfl rfl ?_
      refine xild_1 (q := 41) d_46_40 rfl ?_
      refine x_bipush (q := 43) (v := zi (100)) d_46_41 rfl (by decide) ?_
      refine xcV4 (q := 46) d_46_43 rfl lk_G_94 mo_12 ⟨by decide +kernel, by decide +kernel⟩ (by simp [Value.category]) (by decide +kernel) (by simp [Value.category]) (by omega) rfl ?_
      refine c_go hn (hV.fr3 hF2) ((hF2.2 2 (by unfold G3; omega)).trans hw) (hG.fr3 hF2) (l := 0) (e := e) (o := 100) hfl (by omega) he (by omega) ?_
      intro I3 F3 hGR3 hFr3 hc3
      dsimp only [ax_ps]
      first
        | (exact absurd c18 (by omega))
        | (refine x_vret d_46_46 rfl ?_; refine k I3 F3 hGR3.1 ?_ (hF2.tr hFr3); have hc4 : I3 5 = I2 5 + (((mGoing (kfW w P M 100) (fun i => rows i 0) e (mDesc (kfW w P M 100) rows 0 (lev s en) en).1).1.length : Nat) : Int) := hc3; rw [hc4, hc2, h15]; show _ = (((mDesc (kfW w P M 100) rows 0 (lev s en) en).2 + (mGoing (kfW w P M 100) (fun i => rows i 0) e (mDesc (kfW w P M 100) rows 0 (lev s en) en).1).1.length : Nat) : Int); exact sum_3 _ _)
