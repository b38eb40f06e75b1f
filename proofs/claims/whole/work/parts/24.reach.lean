/-! reached: along the rows of level 0 -/
def mFol : List Nat → List Nat → List Nat
  | [], T => T
  | y :: ys, T => if y ∈ T then mFol ys T else mFol ys (T ++ [y])
def mBfs (row : Nat → List Nat) : Nat → Nat → List Nat → List Nat
  | 0, _, T => T
  | d + 1, k, T => if k < T.length then mBfs row d (k + 1) (mFol (row (T.getD k 0)) T) else T
def mReach (g : mSt) : Nat := match g.2 with
  | none => 0
  | some e => (mBfs (fun i => g.1 i 0) 100 0 [e]).length
/-- the trail: apart, below N, in the registers -/
def TR (F : Nat → Nat → Int) (N : Nat) (T : List Nat) : Prop := MT F T ∧ (∀ j, j < T.length → F 6 j = (T.getD j 0 : Nat)) ∧ T.Nodup ∧ ∀ x ∈ T, x < N
theorem TR.len {F : Nat → Nat → Int} {N : Nat} {T : List Nat} (h : TR F N T) : T.length ≤ N := nodup_le N T h.2.2.1 h.2.2.2

theorem tr_add {F : Nat → Nat → Int} {N : Nat} {T : List Nat} (h : TR F N T) {y : Nat} (hy : y ∉ T) (hyN : y < N) : TR (va_up (va_up F 5 (va_up (F 5) y 1)) 6 (va_up (va_up F 5 (va_up (F 5) y 1) 6) T.length (y : Int))) N (T ++ [y]) := by
  obtain ⟨t1, t2, t3, t4⟩ := h
  refine ⟨fun j hj => ?_, fun j hj => ?_, ?_, fun x hx => ?_⟩
  · rw [va_un _ _ _ (by decide), va_us]
    by_cases e : j = y
    · rw [e, va_us, if_pos (List.mem_append_right _ List.mem_cons_self)]
    · rw [va_un _ _ _ e, t1 j hj]
      by_cases h2 : j ∈ T
      · rw [if_pos h2, if_pos (List.mem_append_left _ h2)]
      · rw [if_neg h2, if_neg (fun h3 => by rcases List.mem_append.mp h3 with h3 | h3; exact h2 h3; exact e (List.mem_singleton.mp h3))]
  · rw [List.length_append] at hj
    have hj : j < T.length + 1 := hj
    rw [va_us, gd_app1]
    by_cases e : j = T.length
    · rw [e, va_us, if_pos rfl]
    · rw [va_un _ _ _ e, va_un _ _ _ (by decide), if_neg e]
      exact t2 j (by omega)
  · rw [List.nodup_append]
    exact ⟨t3, List.nodup_cons.mpr ⟨List.not_mem_nil, List.nodup_nil⟩, fun a ha b hb e => hy (by rw [← List.mem_singleton.mp hb, ← e]; exact ha)⟩
  · rcases List.mem_append.mp hx with hx | hx
    · exact t4 x hx
    · rw [List.mem_singleton.mp hx]; exact hyN
set_option maxHeartbeats 2000000 in
theorem lq_follow {sc : ax_S} {σ : Nat → ax_C} {I : Nat → Int} {F0 : Nat → Nat → Int} {n bc bs : Nat} {K : ax_K} (hn : 22 ≤ n) {rows : Nat → Nat → List Nat} {N : Nat} (hN : N ≤ 100) (hG0 : GW F0 rows N) {x : Nat} (hx : x < N) {cm : Int32} {R : List Nat}
    (k : ∀ F', TR F' N R → (∀ j, j ≠ 5 → j ≠ 6 → F' j = F0 j) → K (some (.int (zi R.length))) (vg σ I F', n, bc, bs)) :
    ∀ (d j : Nat) (T : List Nat) (F : Nat → Nat → Int) (t6 : Option Value), j + d = (rows x 0).length → TR F N T → (∀ j, j ≠ 5 → j ≠ 6 → F j = F0 j) → R = mFol ((rows x 0).drop j) T → Ex sc 59 13 [some (.ref 5), some (.int (zi x)), some (.int cm), some (.int (zi T.length)), some (.int (zi (rows x 0).length)), some (.int (zi j)), t6] [] (vg σ I F, n, bc, bs) K := by
  have hrow := hG0 x 0 (by omega) (by omega)
  have hlen := hrow.2.1
  have hrl := rl_b 0
  intro d
  induction d with
  | zero =>
    intro j T F t6 hj hT hF hR
    rw [show (rows x 0).drop j = [] from List.drop_of_length_le (by omega)] at hR
    have hR : R = T := hR
    rw [hR] at k
    refine xild_5 (q := 15) d_59_13 rfl ?_
    refine xild_4 (q := 17) d_59_15 rfl ?_
    refine x_icmp_ge (q := 20) (t := 74) d_59_17 (by decide) rfl (fun c17 => ?_) (fun c17 => ?_)
    · rw [zi_le (by omega) (by omega) (by omega) (by omega)] at c17
      refine xild_3 (q := 75) d_59_74 rfl ?_
      refine x_iret d_59_75 rfl rfl ?_
      exact k F hT hF
    · rw [zi_le (by omega) (by omega) (by omega) (by omega)] at c17
      exact absurd c17 (by omega)
  | succ d ih =>
    intro j T F t6 hj hT hF hR
    have hjl : j < (rows x 0).length := by omega
    rw [drop_get hjl] at hR
    have hy : (rows x 0).getD j 0 < N := hrow.2.2.2 _ (gd_mem hjl)
    have hG : GW F rows N := hG0.same (hF _ (by decide) (by decide)) (hF _ (by decide) (by decide))
    have hTl := hT.len
    obtain ⟨t1, t2, t3, t4⟩ := hT
    have hm := t1 ((rows x 0).getD j 0) (by omega)
    have hR : R = if (rows x 0).getD j 0 ∈ T then mFol ((rows x 0).drop (j + 1)) T else mFol ((rows x 0).drop (j + 1)) (T ++ [(rows x 0).getD j 0]) := hR
    refine xild_5 (q := 15) d_59_13 rfl ?_
    refine xild_4 (q := 17) d_59_15 rfl ?_
    refine x_icmp_ge (q := 20) (t := 74) d_59_17 (by decide) rfl (fun c17 => ?_) (fun c17 => ?_)
    · rw [zi_le (by omega) (by omega) (by omega) (by omega)] at c17
      exact absurd c17 (by omega)
    · rw [zi_le (by omega) (by omega) (by omega) (by omega)] at c17
      refine xald_0 (q := 21) d_59_20 rfl ?_
      refine xild_1 (q := 22) d_59_21 rfl ?_
      refine x_iconst (q := 23) (v := zi (0)) d_59_22 rfl rfl ?_
      refine xild_5 (q := 25) d_59_23 rfl ?_
      refine xcV3 (q := 28) d_59_25 rfl lk_G_107 mo_25 ⟨by decide +kernel, by decide +kernel⟩ (by simp [Value.category]) (by decide +kernel) (by simp [Value.category]) (by omega) rfl ?_
      refine c_linkAt hn hG (i := x) (l := 0) (j := j) (by omega) (by omega) hjl ?_
      dsimp only [ax_ps]
      refine xist_6 (q := 30) d_59_28 rfl ?_
      refine xald_0 (q := 31) d_59_30 rfl ?_
      refine xg_G_met hn (q := 34) d_59_31 rfl fl_G_39 ?_
      refine xild_6 (q := 36) d_59_34 rfl ?_
      refine xl_met (q := 37) hn d_59_36 rfl (by omega) (by omega) ?_
      refine x_if_ne (q := 40) (t := 68) d_59_37 (by decide) rfl (fun c37 => ?_) (fun c37 => ?_)
      · rw [show ((((rows x 0).getD j 0 : Nat) : Int)).toNat = (rows x 0).getD j 0 by omega] at c37
        rw [hm] at c37
        refine xincz_5 (q := 71) d_59_68 rfl ?_
        refine x_goto (t := 13) d_59_71 (by decide) ?_
        rw [show (j : Int) + 1 = ((j + 1 : Nat) : Int) by omega]
        first
          | (have hin : (rows x 0).getD j 0 ∈ T := (by by_cases h : (rows x 0).getD j 0 ∈ T; exact h; rw [if_neg h] at c37; exact absurd rfl c37); rw [if_pos hin] at hR; exact ih (j + 1) T F _ (by omega) ⟨t1, t2, t3, t4⟩ hF hR)
          | (exact absurd c46 (by omega))
          | (rw [if_neg hnt] at hR; rw [show (T.length : Int) + 1 = (((T ++ [(rows x 0).getD j 0]).length : Nat) : Int) by rw [List.length_append]; rfl, show ((((rows x 0).getD j 0 : Nat) : Int)).toNat = (rows x 0).getD j 0 by omega, show ((T.length : Int)).toNat = T.length by omega]; refine ih (j + 1) (T ++ [(rows x 0).getD j 0]) _ _ (by omega) (tr_add ⟨t1, t2, t3, t4⟩ hnt hy) (fun q a b => by rw [va_un _ _ _ b, va_un _ _ _ a]; exact hF q a b) hR)
      · rw [show ((((rows x 0).getD j 0 : Nat) : Int)).toNat = (rows x 0).getD j 0 by omega] at c37
        rw [hm] at c37
        have hnt : (rows x 0).getD j 0 ∉ T := fun h => by rw [if_pos h] at c37; exact absurd c37 (by decide)
        have hnd : ((rows x 0).getD j 0 :: T).Nodup := List.nodup_cons.mpr ⟨hnt, t3⟩
        have hle := nodup_le N _ hnd (fun z hz => by rcases List.mem_cons.mp hz with rfl | hz; exact hy; exact t4 z hz)
        rw [List.length_cons] at hle
        refine xild_3 (q := 41) d_59_40 rfl ?_
        refine xald_0 (q := 42) d_59_41 rfl ?_
        refine xg_G_trail hn (q := 45) d_59_42 rfl fl_G_43 ?_
        refine xn_trail (q := 46) hn d_59_45 rfl ?_
        refine x_icmp_ge (q := 49) (t := 68) d_59_46 (by decide) rfl (fun c46 => ?_) (fun c46 => ?_)
        · rw [zi_le (by omega) (by omega) (by omega) (by omega)] at c46
          refine xincz_5 (q := 71) d_59_68 rfl ?_
          refine x_goto (t := 13) d_59_71 (by decide) ?_
          rw [show (j : Int) + 1 = ((j + 1 : Nat) : Int) by omega]
          first
            | (have hin : (rows x 0).getD j 0 ∈ T := (by by_cases h : (rows x 0).getD j 0 ∈ T; exact h; rw [if_neg h] at c37; exact absurd rfl c37); rw [if_pos hin] at hR; exact ih (j + 1) T F _ (by omega) ⟨t1, t2, t3, t4⟩ hF hR)
            | (exact absurd c46 (by omega))
            | (rw [if_neg hnt] at hR; rw [show (T.length : Int) + 1 = (((T ++ [(rows x 0).getD j 0]).length : Nat) : Int) by rw [List.length_append]; rfl, show ((((rows x 0).getD j 0 : Nat) : Int)).toNat = (rows x 0).getD j 0 by omega, show ((T.length : Int)).toNat = T.length by omega]; refine ih (j + 1) (T ++ [(rows x 0).getD j 0]) _ _ (by omega) (tr_add ⟨t1, t2, t3, t4⟩ hnt hy) (fun q a b => by rw [va_un _ _ _ b, va_un _ _ _ a]; exact hF q a b) hR)
        · rw [zi_le (by omega) (by omega) (by omega) (by omega)] at c46
          refine xald_0 (q := 50) d_59_49 rfl ?_
          refine xg_G_met hn (q := 53) d_59_50 rfl fl_G_39 ?_
          refine xild_6 (q := 55) d_59_53 rfl ?_
          refine x_iconst (q := 56) (v := zi (1)) d_59_55 rfl rfl ?_
          refine xs_met (e := 1) (q := 57) hn (Or.inr rfl) d_59_56 rfl (by omega) (by omega) ?_
          refine xald_0 (q := 58) d_59_57 rfl ?_
          refine xg_G_trail hn (q := 61) d_59_58 rfl fl_G_43 ?_
          refine xild_3 (q := 62) d_59_61 rfl ?_
          refine xild_6 (q := 64) d_59_62 rfl ?_
          refine xs_trail (q := 65) hn d_59_64 rfl (by omega) (by omega) ?_
          refine xincz_3 (q := 68) d_59_65 rfl ?_
          refine xincz_5 (q := 71) d_59_68 rfl ?_
          refine x_goto (t := 13) d_59_71 (by decide) ?_
          rw [show (j : Int) + 1 = ((j + 1 : Nat) : Int) by omega]
          first
            | (have hin : (rows x 0).getD j 0 ∈ T := (by by_cases h : (rows x 0).getD j 0 ∈ T; exact h; rw [if_neg h] at c37; exact absurd rfl c37); rw [if_pos hin] at hR; exact ih (j + 1) T F _ (by omega) ⟨t1, t2, t3, t4⟩ hF hR)
            | (exact absurd c46 (by omega))
            | (rw [if_neg hnt] at hR; rw [show (T.length : Int) + 1 = (((T ++ [(rows x 0).getD j 0]).length : Nat) : Int) by rw [List.length_append]; rfl, show ((((rows x 0).getD j 0 : Nat) : Int)).toNat = (rows x 0).getD j 0 by omega, show ((T.length : Int)).toNat = T.length by omega]; refine ih (j + 1) (T ++ [(rows x 0).getD j 0]) _ _ (by omega) (tr_add ⟨t1, t2, t3, t4⟩ hnt hy) (fun q a b => by rw [va_un _ _ _ b, va_un _ _ _ a]; exact hF q a b) hR)
set_option maxHeartbeats 2000000 in
theorem c_followFrom {sc : ax_S} {σ : Nat → ax_C} {I : Nat → Int} {F : Nat → Nat → Int} {n bc bs : Nat} {K : ax_K} (hn : 22 ≤ n) {rows : Nat → Nat → List Nat} {N : Nat} (hN : N ≤ 100) (hG : GW F rows N) {x : Nat} (hx : x < N) {T : List Nat} (hT : TR F N T)
    (k : ∀ F', TR F' N (mFol (rows x 0) T) → (∀ j, j ≠ 5 → j ≠ 6 → F' j = F j) → K (some (.int (zi (mFol (rows x 0) T).length))) (vg σ I F', n, bc, bs)) : Ex sc 59 0 (ax_en 59 [.ref 5, .int (zi x), .int (zi T.length)]) [] (vg σ I F, n, bc, bs) K := by
  show Ex sc 59 0 [some (.ref 5), some (.int (zi x)), some (.int (zi T.length)), none, none, none, none] [] (vg σ I F, n, bc, bs) K
  refine xild_2 (q := 1) d_59_0 rfl ?_
  refine xist_3 (q := 2) d_59_1 rfl ?_
  refine xald_0 (q := 3) d_59_2 rfl ?_
  refine xild_1 (q := 4) d_59_3 rfl ?_
  refine x_iconst (q := 5) (v := zi (0)) d_59_4 rfl rfl ?_
  refine xcV2 (q := 8) d_59_5 rfl lk_G_104 mo_24 ⟨by decide +kernel, by decide +kernel⟩ (by simp [Value.category]) (by decide +kernel) (by simp [Value.category]) (by omega) rfl ?_
  refine c_rowSize hn hG (i := x) (l := 0) (by omega) (by omega) ?_
  dsimp only [ax_ps]
  refine xist_4 (q := 10) d_59_8 rfl ?_
  refine x_iconst (q := 11) (v := zi (0)) d_59_10 rfl rfl ?_
  refine xist_5 (q := 13) d_59_11 rfl ?_
  exact lq_follow hn hN hG hx k _ 0 T F _ (Nat.zero_add _) hT (fun _ _ _ => rfl) (by rw [List.drop_zero])
theorem mFol_mono : ∀ (ys T : List Nat), T.length ≤ (mFol ys T).length
  | [], _ => Nat.le_refl _
  | y :: ys, T => by
    unfold mFol
    split
    · exact mFol_mono ys T
    · have := mFol_mono ys (T ++ [y])
      rw [List.length_append] at this
      simp at this
      omega
set_option maxHeartbeats 2000000 in
theorem lq_reach {sc : ax_S} {σ : Nat → ax_C} {I : Nat → Int} {F0 : Nat → Nat → Int} {n bc bs : Nat} {K : ax_K} (hn : 22 ≤ n) {rows : Nat → Nat → List Nat} {N : Nat} (hN : N ≤ 100) (hG0 : GW F0 rows N) {R : List Nat}
    (k : ∀ F', (∀ j, j ≠ 5 → j ≠ 6 → F' j = F0 j) → K (some (.int (zi R.length))) (vg σ I F', n, bc, bs)) :
    ∀ (d j : Nat) (T : List Nat) (F : Nat → Nat → Int), j + d = 100 → TR F N T → (∀ j, j ≠ 5 → j ≠ 6 → F j = F0 j) → R = mBfs (fun i => rows i 0) d j T → Ex sc 58 39 [some (.ref 5), some (.int (zi T.length)), some (.int (zi j))] [] (vg σ I F, n, bc, bs) K := by
  intro d
  induction d with
  | zero =>
    intro j T F hj hT hF hR
    have hTl := hT.len
    have hR : R = T := hR
    rw [hR] at k
    refine xild_2 (q := 40) d_58_39 rfl ?_
    refine xild_1 (q := 41) d_58_40 rfl ?_
    refine x_icmp_ge (q := 44) (t := 71) d_58_41 (by decide) rfl (fun c41 => ?_) (fun c41 => ?_)
    · rw [zi_le (by omega) (by omega) (by omega) (by omega)] at c41
      refine xild_1 (q := 72) d_58_71 rfl ?_
      refine x_iret d_58_72 rfl rfl ?_
      exact k F hF
    · rw [zi_le (by omega) (by omega) (by omega) (by omega)] at c41
      refine xild_2 (q := 45) d_58_44 rfl ?_
      refine xald_0 (q := 46) d_58_45 rfl ?_
      refine xg_G_trail hn (q := 49) d_58_46 rfl fl_G_43 ?_
      refine xn_trail (q := 50) hn d_58_49 rfl ?_
      refine x_icmp_ge (q := 53) (t := 71) d_58_50 (by decide) rfl (fun c50 => ?_) (fun c50 => ?_)
      · rw [zi_le (by omega) (by omega) (by omega) (by omega)] at c50
        refine xild_1 (q := 72) d_58_71 rfl ?_
        refine x_iret d_58_72 rfl rfl ?_
        exact k F hF
      · rw [zi_le (by omega) (by omega) (by omega) (by omega)] at c50
        exact absurd c50 (by omega)
  | succ d ih =>
    intro j T F hj hT hF hR
    have hTl := hT.len
    have hG : GW F rows N := hG0.same (hF _ (by decide) (by decide)) (hF _ (by decide) (by decide))
    have hR : R = if j < T.length then mBfs (fun i => rows i 0) d (j + 1) (mFol (rows (T.getD j 0) 0) T) else T := hR
    refine xild_2 (q := 40) d_58_39 rfl ?_
    refine xild_1 (q := 41) d_58_40 rfl ?_
    refine x_icmp_ge (q := 44) (t := 71) d_58_41 (by decide) rfl (fun c41 => ?_) (fun c41 => ?_)
    · rw [zi_le (by omega) (by omega) (by omega) (by omega)] at c41
      first
        | (exact absurd c50 (by omega))
        | (rw [if_neg (by omega)] at hR; rw [hR] at k; refine xild_1 (q := 72) d_58_71 rfl ?_; refine x_iret d_58_72 rfl rfl ?_; exact k F hF)
    · rw [zi_le (by omega) (by omega) (by omega) (by omega)] at c41
      refine xild_2 (q := 45) d_58_44 rfl ?_
      refine xald_0 (q := 46) d_58_45 rfl ?_
      refine xg_G_trail hn (q := 49) d_58_46 rfl fl_G_43 ?_
      refine xn_trail (q := 50) hn d_58_49 rfl ?_
      refine x_icmp_ge (q := 53) (t := 71) d_58_50 (by decide) rfl (fun c50 => ?_) (fun c50 => ?_)
      · rw [zi_le (by omega) (by omega) (by omega) (by omega)] at c50
        first
          | (exact absurd c50 (by omega))
          | (rw [if_neg (by omega)] at hR; rw [hR] at k; refine xild_1 (q := 72) d_58_71 rfl ?_; refine x_iret d_58_72 rfl rfl ?_; exact k F hF)
      · rw [zi_le (by omega) (by omega) (by omega) (by omega)] at c50
        refine xald_0 (q := 54) d_58_53 rfl ?_
        refine xald_0 (q := 55) d_58_54 rfl ?_
        refine xg_G_trail hn (q := 58) d_58_55 rfl fl_G_43 ?_
        refine xild_2 (q := 59) d_58_58 rfl ?_
        refine xl_trail (q := 60) hn d_58_59 rfl (by omega) (by omega) ?_
        rw [show ((j : Int)).toNat = j by omega, hT.2.1 j (by omega)]
        refine xild_1 (q := 61) d_58_60 rfl ?_
        refine xcV2 (q := 64) d_58_61 rfl lk_G_101 mo_59 ⟨by decide +kernel, by decide +kernel⟩ (by simp [Value.category]) (by decide +kernel) (by simp [Value.category]) (by omega) rfl ?_
        refine c_followFrom hn hN hG (x := T.getD j 0) (hT.2.2.2 _ (gd_mem (by omega))) hT ?_
        intro F2 hT2 hF2
        dsimp only [ax_ps]
        refine xist_1 (q := 65) d_58_64 rfl ?_
        refine xincz_2 (q := 68) d_58_65 rfl ?_
        refine x_goto (t := 39) d_58_68 (by decide) ?_
        rw [show (j : Int) + 1 = ((j + 1 : Nat) : Int) by omega]
        rw [if_pos (by omega)] at hR
        exact ih (j + 1) _ F2 (by omega) hT2 (fun q a b => (hF2 q a b).trans (hF q a b)) hR
set_option maxHeartbeats 2000000 in
theorem c_reachable {sc : ax_S} {σ : Nat → ax_C} {I : Nat → Int} {F : Nat → Nat → Int} {n bc bs : Nat} {K : ax_K} (hn : 22 ≤ n) {g : mSt} {N : Nat} (hN : N ≤ 100) (hG : GW F g.1 N) (hen : I 2 = entI g.2) (hent : ∀ e, g.2 = some e → e < N)
    (k : ∀ F', (∀ j, j ≠ 5 → j ≠ 6 → F' j = F j) → K (some (.int (zi (mReach g)))) (vg σ I F', n, bc, bs)) : Ex sc 58 0 (ax_en 58 [.ref 5]) [] (vg σ I F, n, bc, bs) K := by
  obtain ⟨rows, ent⟩ := g
  show Ex sc 58 0 [some (.ref 5), none, none] [] (vg σ I F, n, bc, bs) K
  cases ent with
  | none =>
    have hen : I 2 = -2 := hen
    have k := k F (fun _ _ _ => rfl)
    refine xald_0 (q := 1) d_58_0 rfl ?_
    refine xg_G_entry hn (q := 4) d_58_1 rfl fl_G_19 ?_
    refine x_bipush (q := 6) (v := zi (-2)) d_58_4 rfl (by decide) ?_
    refine x_icmp_ne (q := 9) (t := 11) d_58_6 (by decide) rfl (fun c6 => ?_) (fun c6 => ?_)
    · rw [hen] at c6
      exact absurd rfl c6
    · rw [hen] at c6
      refine x_iconst (q := 10) (v := zi (0)) d_58_9 rfl rfl ?_
      refine x_iret d_58_10 rfl rfl ?_
      exact k
  | some en =>
    have hen : I 2 = (en : Int) := hen
    have henx := hent en rfl
    refine xald_0 (q := 1) d_58_0 rfl ?_
    refine xg_G_entry hn (q := 4) d_58_1 rfl fl_G_19 ?_
    refine x_bipush (q := 6) (v := zi (-2)) d_58_4 rfl (by decide) ?_
    refine x_icmp_ne (q := 9) (t := 11) d_58_6 (by decide) rfl (fun c6 => ?_) (fun c6 => ?_)
    · rw [hen, zi_eq (by omega) (by omega) (by omega) (by omega)] at c6
      refine xald_0 (q := 12) d_58_11 rfl ?_
      refine xcV0 (q := 15) d_58_12 rfl lk_G_98 mo_13 ⟨by decide +kernel, by decide +kernel⟩  (by decide +kernel) (by simp [Value.category]) (by omega) rfl ?_
      refine c_forgetMet hn ?_
      intro F1 hMT hF1
      dsimp only [ax_ps]
      refine xald_0 (q := 16) d_58_15 rfl ?_
      refine xg_G_met hn (q := 19) d_58_16 rfl fl_G_39 ?_
      refine xald_0 (q := 20) d_58_19 rfl ?_
      refine xg_G_entry hn (q := 23) d_58_20 rfl fl_G_19 ?_
      refine x_iconst (q := 24) (v := zi (1)) d_58_23 rfl rfl ?_
      refine xs_met (e := 1) (q := 25) hn (Or.inr rfl) d_58_24 rfl (by omega) (by omega) ?_
      refine xald_0 (q := 26) d_58_25 rfl ?_
      refine xg_G_trail hn (q := 29) d_58_26 rfl fl_G_43 ?_
      refine x_iconst (q := 30) (v := zi (0)) d_58_29 rfl rfl ?_
      refine xald_0 (q := 31) d_58_30 rfl ?_
      refine xg_G_entry hn (q := 34) d_58_31 rfl fl_G_19 ?_
      refine xs_trail (q := 35) hn d_58_34 rfl (by omega) (by omega) ?_
      refine x_iconst (q := 36) (v := zi (1)) d_58_35 rfl rfl ?_
      refine xist_1 (q := 37) d_58_36 rfl ?_
      refine x_iconst (q := 38) (v := zi (0)) d_58_37 rfl rfl ?_
      refine xist_2 (q := 39) d_58_38 rfl ?_
      rw [hen, show ((en : Int)).toNat = en by omega, show ((0 : Int)).toNat = 0 from rfl]
      have hT0 : TR F1 N [] := ⟨hMT, fun j hj => absurd hj (Nat.not_lt_zero _), List.nodup_nil, fun z hz => absurd hz List.not_mem_nil⟩
      have hT1 := tr_add hT0 (y := en) List.not_mem_nil henx
      exact lq_reach hn hN (hG.same (hF1 _ (by decide)) (hF1 _ (by decide))) (R := mBfs (fun i => rows i 0) 100 0 [en]) (fun F2 h2 => k F2 (fun q a b => (h2 q a b).trans (hF1 q a))) 100 0 [en] _ (by omega) hT1 (fun q a b => by rw [va_un _ _ _ b, va_un _ _ _ a]) rfl
    · rw [hen, zi_eq (by omega) (by omega) (by omega) (by omega)] at c6
      exact absurd c6 (by omega)
set_option maxHeartbeats 2000000 in
theorem c_reached {sc : ax_S} {σ : Nat → ax_C} {I : Nat → Int} {F : Nat → Nat → Int} {n bc bs : Nat} {K : ax_K} (hn : 22 ≤ n) {g : mSt} {N : Nat} (hN : N ≤ 100) (hG : GW F g.1 N) (hen : I 2 = entI g.2) (hent : ∀ e, g.2 = some e → e < N)
    (k : ∀ F', (∀ j, j ≠ 5 → j ≠ 6 → F' j = F j) → K (some (.int (zi (mReach g)))) (vg σ I F', n, bc, bs)) : Ex sc 57 0 (ax_en 57 [.ref 0]) [] (vg σ I F, n, bc, bs) K := by
  show Ex sc 57 0 [some (.ref 0)] [] (vg σ I F, n, bc, bs) K
  refine xald_0 (q := 1) d_57_0 rfl ?_
  refine xg_VG_graph hn (q := 4) d_57_1 rfl fl_X_32 ?_
  refine xcV0 (q := 7) d_57_4 rfl lk_X_146 mo_58 ⟨by decide +kernel, by decide +kernel⟩  (by decide +kernel) (by simp [Value.category]) (by omega) rfl ?_
  refine c_reachable hn hN hG hen hent ?_
  intro F2 h2
  dsimp only [ax_ps]
  refine x_iret d_57_7 rfl rfl ?_
  exact k F2 h2
