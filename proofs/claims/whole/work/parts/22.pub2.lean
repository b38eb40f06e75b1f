/-! VectorGraphs: rankFound, exact, look, brief, recall -/
/-- the FREE ones of FOUND -/
def mFF (fr : Nat → Int) : List Nat → List Nat → List Nat
  | [], L => L
  | k :: ks, L => if fr (k % 100) = 1 then mFF fr ks (ins k L) else mFF fr ks L
def FrL (r : Nat) (I : Nat → Int) (F : Nat → Nat → Int) (I' : Nat → Int) (F' : Nat → Nat → Int) : Prop := (∀ j, ¬ G3 j → j ≠ 6 → j ≠ 10 + r → I' j = I j) ∧ ∀ j, ¬ G3 j → j ≠ 10 + r → F' j = F j
theorem mSearch_b {kf : Nat → Nat} {lv : Nat → Nat} {g : mSt} {e N : Nat} (he : 1 ≤ e) (hN : N ≤ 100) (hlv : ∀ i, lv i ≤ 4) (hR : ∀ i l, i < 100 → l < 5 → ∀ x ∈ g.1 i l, x < N) (hk : ∀ y, y < N → kf y % 100 = y) (hent : ∀ e, g.2 = some e → e < N) : Srt (mSearch kf lv g e).1 ∧ (mSearch kf lv g e).1.length ≤ e ∧ ∀ k ∈ (mSearch kf lv g e).1, ∃ x, x < N ∧ k = kf x := by
  unfold mSearch
  split
  · exact ⟨List.Pairwise.nil, Nat.zero_le _, fun _ h => absurd h List.not_mem_nil⟩
  next en hen =>
    have h := mGoing_GI (e := e) (kf := kf) (row := fun i => g.1 i 0) (md_lt (bot := 0) hR hN hk (lv en) en (by have := hlv en; omega) (hent en hen)) (fun i hi => hR i 0 (by omega) (by omega)) hk
    exact ⟨h.1, h.2.2.1, h.2.2.2.2.2.2.1⟩

set_option maxHeartbeats 2000000 in
theorem lq_rankFound {sc : ax_S} {σ : Nat → ax_C} {I0 : Nat → Int} {F0 : Nat → Nat → Int} {n bc bs : Nat} {K : ax_K} (hn : 22 ≤ n) {P N M : Nat} (hV0 : VW I0 F0 P N M) {r : Nat} (hr : r < 6) (hr3 : 3 ≤ r) {L0 : List Nat} (hL0 : RK 0 I0 F0 L0) (hl60 : L0.length ≤ 60) (hnum : ∀ k ∈ L0, k % 100 < N) {e : Int} {R : List Nat}
    (k : ∀ I' F', RK r I' F' R → OffI r I0 I' → OffF r F0 F' → K none (vg σ I' F', n, bc, bs)) :
    ∀ (d j : Nat) (L : List Nat) (I : Nat → Int) (F : Nat → Nat → Int) (t4 : Option Value), j + d = L0.length → L.length ≤ j → Srt L → RK r I F L → OffI r I0 I → OffF r F0 F → R = mFF (fun i => freeI F0 N i) (L0.drop j) L → Ex sc 45 25 [some (.ref 0), some (.ref (rkO r)), some (.int (zi e)), some (.int (zi j)), t4] [] (vg σ I F, n, bc, bs) K := by
  have hN2 := hV0.2.2.2.2.1
  intro d
  induction d with
  | zero =>
    intro j L I F t4 hj hlj hs hL hOI hOF hR
    rw [show L0.drop j = [] from List.drop_of_length_le (by omega)] at hR
    have hR : R = L := hR
    rw [hR] at k
    have h0 : RK 0 I F L0 := hL0.same (hOI _ (by omega)) (hOF _ (by omega))
    have hs0 := h0.1
    refine xild_3 (q := 26) d_45_25 rfl ?_
    refine xald_0 (q := 27) d_45_26 rfl ?_
    refine xg_VG_graph hn (q := 30) d_45_27 rfl fl_X_32 ?_
    refine xg_G_found hn (q := 33) d_45_30 rfl fl_X_165 ?_
    refine xg_R_size (by decide) hn (q := 36) d_45_33 rfl fl_X_110 ?_
    refine x_icmp_ge (q := 39) (t := 87) d_45_36 (by decide) rfl (fun c36 => ?_) (fun c36 => ?_)
    · rw [zi_le (by omega) (by omega) (by omega) (by omega)] at c36
      refine x_vret d_45_87 rfl ?_
      exact k I F hL hOI hOF
    · rw [zi_le (by omega) (by omega) (by omega) (by omega)] at c36
      exact absurd c36 (by omega)
  | succ d ih =>
    intro j L I F t4 hj hlj hs hL hOI hOF hR
    have hjl : j < L0.length := by omega
    rw [drop_get hjl] at hR
    have h0 : RK 0 I F L0 := hL0.same (hOI _ (by omega)) (hOF _ (by omega))
    have hs0 := h0.1
    have hkn := hnum _ (gd_mem hjl)
    have hkb := h0.2.2.2 _ (gd_mem hjl)
    have hV : VW I F P N M := hV0.same (hOI _ (by omega)) (hOI _ (by omega)) (hOI _ (by omega)) (hOF _ (by omega)) (hOF _ (by omega)) (hOF _ (by omega))
    have en1 : rkNum L0 j = ((L0.getD j 0 % 100 : Nat) : Int) := by unfold rkNum; rw [if_pos (by omega), show ((j : Int)).toNat = j by omega]
    have ef1 : rkFar L0 j = ((L0.getD j 0 / 100 : Nat) : Int) := by unfold rkFar; rw [if_pos (by omega), show ((j : Int)).toNat = j by omega]
    have hc : rkC r = 100 := by unfold rkC; split <;> omega
    have efr : freeI F N ((L0.getD j 0 % 100 : Nat) : Int) = freeI F0 N ((L0.getD j 0 % 100 : Nat) : Int) := by unfold freeI; rw [hOF 0 (by omega), hOF 1 (by omega)]
    have h01 : freeI F0 N ((L0.getD j 0 % 100 : Nat) : Int) = 0 ∨ freeI F0 N ((L0.getD j 0 % 100 : Nat) : Int) = 1 := by unfold freeI; split <;> omega
    have hR : R = if freeI F0 N ((L0.getD j 0 % 100 : Nat) : Int) = 1 then mFF (fun i => freeI F0 N i) (L0.drop (j + 1)) (ins (L0.getD j 0) L) else mFF (fun i => freeI F0 N i) (L0.drop (j + 1)) L := hR
    have hkey : L0.getD j 0 / 100 * 100 + L0.getD j 0 % 100 = L0.getD j 0 := by omega
    refine xild_3 (q := 26) d_45_25 rfl ?_
    refine xald_0 (q := 27) d_45_26 rfl ?_
    refine xg_VG_graph hn (q := 30) d_45_27 rfl fl_X_32 ?_
    refine xg_G_found hn (q := 33) d_45_30 rfl fl_X_165 ?_
    refine xg_R_size (by decide) hn (q := 36) d_45_33 rfl fl_X_110 ?_
    refine x_icmp_ge (q := 39) (t := 87) d_45_36 (by decide) rfl (fun c36 => ?_) (fun c36 => ?_)
    · rw [zi_le (by omega) (by omega) (by omega) (by omega)] at c36
      exact absurd c36 (by omega)
    · rw [zi_le (by omega) (by omega) (by omega) (by omega)] at c36
      refine xald_0 (q := 40) d_45_39 rfl ?_
      refine xg_VG_graph hn (q := 43) d_45_40 rfl fl_X_32 ?_
      refine xg_G_found hn (q := 46) d_45_43 rfl fl_X_165 ?_
      refine xild_3 (q := 47) d_45_46 rfl ?_
      refine xcV1 (q := 50) d_45_47 rfl lk_X_120 mo_21 ⟨by decide +kernel, by decide +kernel⟩ (by simp [Value.category]) (by decide +kernel) (by simp [Value.category]) (rk_lt (by decide) hn).1 (vg_rk (by decide)) ?_
      refine c_numberAt hn (by decide) h0 (i := (j : Int)) (by omega) ?_
      dsimp only [ax_ps]
      rw [en1]
      refine xist_4 (q := 52) d_45_50 rfl ?_
      refine xald_0 (q := 53) d_45_52 rfl ?_
      refine xg_VG_vectors hn (q := 56) d_45_53 rfl fl_X_23 ?_
      refine xild_4 (q := 58) d_45_56 rfl ?_
      refine xcV1 (q := 61) d_45_58 rfl lk_X_156 mo_42 ⟨by decide +kernel, by decide +kernel⟩ (by simp [Value.category]) (by decide +kernel) (by simp [Value.category]) (by omega) rfl ?_
      refine c_isFree hn hV (i := ((L0.getD j 0 % 100 : Nat) : Int)) (by omega) ?_
      dsimp only [ax_ps]
      rw [efr]
      refine x_if_eq (q := 64) (t := 81) d_45_61 (by decide) rfl (fun c61 => ?_) (fun c61 => ?_)
      · rw [zi_eq0 (by omega) (by omega)] at c61
        refine xincz_3 (q := 84) d_45_81 rfl ?_
        refine x_goto (t := 25) d_45_84 (by decide) ?_
        rw [show (j : Int) + 1 = ((j + 1 : Nat) : Int) by omega]
        first
          | (rw [if_neg (by omega)] at hR; exact ih (j + 1) L I F _ (by omega) (by omega) hs hL hOI hOF hR)
          | (rw [if_pos (by omega)] at hR; exact ih (j + 1) _ I2 F2 _ (by omega) (by rw [ins_len]; omega) (ins_srt hs) hL2 (fun q hq => (hOI2 q hq).trans (hOI q hq)) (fun q hq => (hOF2 q hq).trans (hOF q hq)) hR)
      · rw [zi_eq0 (by omega) (by omega)] at c61
        refine xald_1 (q := 65) d_45_64 rfl ?_
        refine xild_4 (q := 67) d_45_65 rfl ?_
        refine xald_0 (q := 68) d_45_67 rfl ?_
        refine xg_VG_graph hn (q := 71) d_45_68 rfl fl_X_32 ?_
        refine xg_G_found hn (q := 74) d_45_71 rfl fl_X_165 ?_
        refine xild_3 (q := 75) d_45_74 rfl ?_
        refine xcV1 (q := 78) d_45_75 rfl lk_X_168 mo_22 ⟨by decide +kernel, by decide +kernel⟩ (by simp [Value.category]) (by decide +kernel) (by simp [Value.category]) (rk_lt (by decide) hn).1 (vg_rk (by decide)) ?_
        refine c_farAt hn (by decide) h0 (i := (j : Int)) (by omega) ?_
        dsimp only [ax_ps]
        rw [ef1]
        refine xcV2 (q := 81) d_45_78 rfl lk_X_128 mo_19 ⟨by decide +kernel, by decide +kernel⟩ (by simp [Value.category]) (by decide +kernel) (by simp [Value.category]) (rk_lt hr hn).1 (vg_rk hr) ?_
        refine c_put hn hr hL (by omega) (num := L0.getD j 0 % 100) (far := L0.getD j 0 / 100) (by omega) hs ?_
        intro I2 F2 hL2 hOI2 hOF2
        dsimp only [ax_ps]
        rw [hkey] at hL2
        refine xincz_3 (q := 84) d_45_81 rfl ?_
        refine x_goto (t := 25) d_45_84 (by decide) ?_
        rw [show (j : Int) + 1 = ((j + 1 : Nat) : Int) by omega]
        first
          | (rw [if_neg (by omega)] at hR; exact ih (j + 1) L I F _ (by omega) (by omega) hs hL hOI hOF hR)
          | (rw [if_pos (by omega)] at hR; exact ih (j + 1) _ I2 F2 _ (by omega) (by rw [ins_len]; omega) (ins_srt hs) hL2 (fun q hq => (hOI2 q hq).trans (hOI q hq)) (fun q hq => (hOF2 q hq).trans (hOF q hq)) hR)
set_option maxHeartbeats 2000000 in
theorem c_rankFound {sc : ax_S} {σ : Nat → ax_C} {I : Nat → Int} {F : Nat → Nat → Int} {n bc bs : Nat} {K : ax_K} (hn : 22 ≤ n) {P N M : Nat} (hV : VW I F P N M) {w : Nat → Int} (hw : F 2 = w) {g : mSt} (hG : GW F g.1 N) {s : Int} (hs : I 8 = s) (hen : I 2 = entI g.2) (hent : ∀ e, g.2 = some e → e < N) {r : Nat} (hr : r < 6) (hr3 : 3 ≤ r) {e : Nat} (he : 1 ≤ e ∧ e ≤ 60)
    (k : ∀ I' F', RK r I' F' (mFF (fun i : Nat => freeI F N i) (mSearch (kfW w P M 100) (lev s) g e).1 []) → I' 6 = (mSearch (kfW w P M 100) (lev s) g e).2 → FrL r I F I' F' → K none (vg σ I' F', n, bc, bs)) : Ex sc 45 0 (ax_en 45 [.ref 0, .ref (rkO r), .int (zi e)]) [] (vg σ I F, n, bc, bs) K := by
  have hN2 := hV.2.2.2.2.1
  have hkk : ∀ y, y < N → kfW w P M 100 y % 100 = y := fun y hy => (kf_b hV hw (Nat.le_refl 100) (show y < 100 by omega)).2.2.2.1
  obtain ⟨s1, s2, s3⟩ := mSearch_b (kf := kfW w P M 100) (lv := lev s) (g := g) (e := e) he.1 hN2 (lev_le s) (fun i l hi hl => (hG i l hi hl).2.2.2) hkk hent
  show Ex sc 45 0 [some (.ref 0), some (.ref (rkO r)), some (.int (zi e)), none, none] [] (vg σ I F, n, bc, bs) K
  refine xald_0 (q := 1) d_45_0 rfl ?_
  refine xg_VG_graph hn (q := 4) d_45_1 rfl fl_X_32 ?_
  refine xild_2 (q := 5) d_45_4 rfl ?_
  refine xcV1 (q := 8) d_45_5 rfl lk_X_159 mo_46 ⟨by decide +kernel, by decide +kernel⟩ (by simp [Value.category]) (by decide +kernel) (by simp [Value.category]) (by omega) rfl ?_
  refine c_search hn hV hw hG hs hen hent he ?_
  intro I1 F1 hL1 h15 hF1
  dsimp only [ax_ps]
  refine xald_0 (q := 9) d_45_8 rfl ?_
  refine xald_0 (q := 10) d_45_9 rfl ?_
  refine xg_VG_graph hn (q := 13) d_45_10 rfl fl_X_32 ?_
  refine xg_G_walked hn (q := 16) d_45_13 rfl fl_X_162 ?_
  refine xp_VG_latestSteps hn (q := 19) d_45_16 rfl fw_X_49 ?_
  refine xald_1 (q := 20) d_45_19 rfl ?_
  refine xcV0 (q := 23) d_45_20 rfl lk_X_87 mo_14 ⟨by decide +kernel, by decide +kernel⟩  (by decide +kernel) (by simp [Value.category]) (rk_lt hr hn).1 (vg_rk hr) ?_
  refine c_empty hn hr ?_
  intro I2 hE hO2
  dsimp only [ax_ps]
  refine x_iconst (q := 24) (v := zi (0)) d_45_23 rfl rfl ?_
  refine xist_3 (q := 25) d_45_24 rfl ?_
  have hoi : ∀ j, j ≠ 6 → j ≠ 10 + r → I2 j = I1 j := fun j a b => (hO2 j b).trans (va_un _ _ _ a)
  have h26 : I2 6 = I1 5 := (hO2 6 (by omega)).trans (va_us _ _ _)
  have hV2 : VW I2 F1 P N M := (hV.fr3 hF1).same (hoi _ (by omega) (by omega)) (hoi _ (by omega) (by omega)) (hoi _ (by omega) (by omega)) rfl rfl rfl
  refine lq_rankFound hn hV2 hr hr3 (hL1.same (hoi _ (by omega) (by omega)) rfl) (by omega) (fun q hq => ?_) (R := mFF (fun i : Nat => freeI F N i) (mSearch (kfW w P M 100) (lev s) g e).1 []) ?_ _ 0 [] I2 F1 _ (Nat.zero_add _) (Nat.le_refl _) List.Pairwise.nil hE OffI.rf OffF.rf ?_
  · obtain ⟨z, hz, rfl⟩ := s3 q hq
    rw [hkk z hz]; exact hz
  · intro I3 F3 hL3 hOI3 hOF3
    refine k I3 F3 hL3 ?_ ⟨fun j a b c => ?_, fun j a c => ?_⟩
    · rw [hOI3 6 (by omega), h26, h15]
    · rw [hOI3 j c, hoi j b c]; exact hF1.1 j a
    · rw [hOF3 j c]; exact hF1.2 j a
  · rw [List.drop_zero]
    have e0 : F1 0 = F 0 := hF1.2 0 (by unfold G3; omega)
    have e1 : F1 1 = F 1 := hF1.2 1 (by unfold G3; omega)
    congr 1
    funext i
    unfold freeI
    rw [e0, e1]
set_option maxHeartbeats 2000000 in
theorem c_exact {sc : ax_S} {σ : Nat → ax_C} {I : Nat → Int} {F : Nat → Nat → Int} {n bc bs : Nat} {K : ax_K} (hn : 22 ≤ n) {P N M : Nat} (hV : VW I F P N M) {w : Nat → Int} (hw : F 2 = w) {i : Int} (hi : I32 i)
    (k1 : 1 ≤ i ∧ i ≤ 100 → ∀ I' F', RK 3 I' F' ((mFree (kfQ w P M 100) (fun i : Nat => freeI F N i) N).take i.toNat) → OffI 3 I I' → OffF 3 F F' → K (some (.int (zi ((mFree (kfQ w P M 100) (fun i : Nat => freeI F N i) N).take i.toNat).length))) (vg σ I' F', n, bc, bs)) (k2 : ¬ (1 ≤ i ∧ i ≤ 100) → K (some (.int (zi (-1)))) (vg σ I F, n, bc, bs)) : Ex sc 40 0 (ax_en 40 [.ref 0, .int (zi i)]) [] (vg σ I F, n, bc, bs) K := by
  show Ex sc 40 0 [some (.ref 0), some (.int (zi i))] [] (vg σ I F, n, bc, bs) K
  refine xild_1 (q := 1) d_40_0 rfl ?_
  refine x_iconst (q := 2) (v := zi (1)) d_40_1 rfl rfl ?_
  refine x_icmp_lt (q := 5) (t := 11) d_40_2 (by decide) rfl (fun c2 => ?_) (fun c2 => ?_)
  · rw [zi_lt (by omega) (by omega) (by omega) (by omega)] at c2
    refine x_iconst (q := 12) (v := zi (-1)) d_40_11 rfl rfl ?_
    refine x_iret d_40_12 rfl rfl ?_
    first
      | (exact k2 (by omega))
      | (rw [hL2.1]; exact k1 (by omega) I2 F1 hL2 (fun q hq => (hO2 q hq).trans (hOI1 q hq)) hOF1)
  · rw [zi_lt (by omega) (by omega) (by omega) (by omega)] at c2
    refine xild_1 (q := 6) d_40_5 rfl ?_
    refine x_bipush (q := 8) (v := zi (100)) d_40_6 rfl (by decide) ?_
    refine x_icmp_le (q := 11) (t := 13) d_40_8 (by decide) rfl (fun c8 => ?_) (fun c8 => ?_)
    · rw [zi_le (by omega) (by omega) (by omega) (by omega)] at c8
      refine xald_0 (q := 14) d_40_13 rfl ?_
      refine xald_0 (q := 15) d_40_14 rfl ?_
      refine xg_VG_last hn (q := 18) d_40_15 rfl fl_X_39 ?_
      refine x_bipush (q := 20) (v := zi (100)) d_40_18 rfl (by decide) ?_
      refine xcV2 (q := 23) d_40_20 rfl lk_X_103 mo_41 ⟨by decide +kernel, by decide +kernel⟩ (by simp [Value.category]) (by decide +kernel) (by simp [Value.category]) (by omega) rfl ?_
      refine c_rankFree hn hV hw (r := 3) (by decide) (by decide) (q := 100) (by omega) ?_
      intro I1 F1 hL1 hOI1 hOF1
      dsimp only [ax_ps]
      refine xald_0 (q := 24) d_40_23 rfl ?_
      refine xg_VG_last hn (q := 27) d_40_24 rfl fl_X_39 ?_
      refine xild_1 (q := 28) d_40_27 rfl ?_
      rw [show i = ((i.toNat : Nat) : Int) by omega]
      refine xcV1 (q := 31) d_40_28 rfl lk_X_107 mo_20 ⟨by decide +kernel, by decide +kernel⟩ (by simp [Value.category]) (by decide +kernel) (by simp [Value.category]) (rk_lt (by decide) hn).1 (vg_rk (by decide)) ?_
      refine c_cutTo hn (by decide) hL1 (m := i.toNat) (by omega) ?_
      intro I2 hL2 hO2
      dsimp only [ax_ps]
      refine xald_0 (q := 32) d_40_31 rfl ?_
      refine xg_VG_last hn (q := 35) d_40_32 rfl fl_X_39 ?_
      refine xg_R_size (by decide) hn (q := 38) d_40_35 rfl fl_X_110 ?_
      refine x_iret d_40_38 rfl rfl ?_
      first
        | (exact k2 (by omega))
        | (rw [hL2.1]; exact k1 (by omega) I2 F1 hL2 (fun q hq => (hO2 q hq).trans (hOI1 q hq)) hOF1)
    · rw [zi_le (by omega) (by omega) (by omega) (by omega)] at c8
      refine x_iconst (q := 12) (v := zi (-1)) d_40_11 rfl rfl ?_
      refine x_iret d_40_12 rfl rfl ?_
      first
        | (exact k2 (by omega))
        | (rw [hL2.1]; exact k1 (by omega) I2 F1 hL2 (fun q hq => (hO2 q hq).trans (hOI1 q hq)) hOF1)
set_option maxHeartbeats 2000000 in
theorem c_look {sc : ax_S} {σ : Nat → ax_C} {I : Nat → Int} {F : Nat → Nat → Int} {n bc bs : Nat} {K : ax_K} (hn : 22 ≤ n) {P N M : Nat} (hV : VW I F P N M) {w : Nat → Int} (hw : F 2 = w) {g : mSt} (hG : GW F g.1 N) {s : Int} (hs : I 8 = s) (hen : I 2 = entI g.2) (hent : ∀ e, g.2 = some e → e < N) {i e : Int} (hi : I32 i) (he : I32 e)
    (k1 : 1 ≤ i ∧ i ≤ e ∧ e ≤ 60 → ∀ I' F', RK 3 I' F' ((mFF (fun i : Nat => freeI F N i) (mSearch (kfW w P M 100) (lev s) g e.toNat).1 []).take i.toNat) → I' 6 = (mSearch (kfW w P M 100) (lev s) g e.toNat).2 → FrL 3 I F I' F' → K (some (.int (zi ((mFF (fun i : Nat => freeI F N i) (mSearch (kfW w P M 100) (lev s) g e.toNat).1 []).take i.toNat).length))) (vg σ I' F', n, bc, bs)) (k2 : ¬ (1 ≤ i ∧ i ≤ e ∧ e ≤ 60) → K (some (.int (zi (-1)))) (vg σ I F, n, bc, bs)) : Ex sc 43 0 (ax_en 43 [.ref 0, .int (zi i), .int (zi e)]) [] (vg σ I F, n, bc, bs) K := by
  show Ex sc 43 0 [some (.ref 0), some (.int (zi i)), some (.int (zi e))] [] (vg σ I F, n, bc, bs) K
  by_cases hh : 1 ≤ i ∧ i ≤ e ∧ e ≤ 60
  · have HH : mayI i e = 1 := if_pos hh
    refine xild_1 (q := 1) d_43_0 rfl ?_
    refine xild_2 (q := 2) d_43_1 rfl ?_
    refine xcS2 (q := 5) d_43_2 rfl lk_X_113 mo_44 ⟨by decide +kernel, by decide +kernel⟩ (by simp [Value.category]) (by decide +kernel) (by simp [Value.category])  ?_
    refine c_mayLook hi he ?_
    dsimp only [ax_ps]
    rw [HH]
    refine x_if_ne (q := 8) (t := 10) d_43_5 (by decide) rfl (fun c5 => ?_) (fun c5 => ?_)
    · rw [zi_eq0 (by omega) (by omega)] at c5
      refine xald_0 (q := 11) d_43_10 rfl ?_
      refine xald_0 (q := 12) d_43_11 rfl ?_
      refine xg_VG_last hn (q := 15) d_43_12 rfl fl_X_39 ?_
      refine xild_2 (q := 16) d_43_15 rfl ?_
      rw [show e = ((e.toNat : Nat) : Int) by omega]
      refine xcV2 (q := 19) d_43_16 rfl lk_X_117 mo_45 ⟨by decide +kernel, by decide +kernel⟩ (by simp [Value.category]) (by decide +kernel) (by simp [Value.category]) (by omega) rfl ?_
      refine c_rankFound hn hV hw hG hs hen hent (r := 3) (by decide) (by decide) (e := e.toNat) (by omega) ?_
      intro I1 F1 hL1 h16 hF1
      dsimp only [ax_ps]
      refine xald_0 (q := 20) d_43_19 rfl ?_
      refine xg_VG_last hn (q := 23) d_43_20 rfl fl_X_39 ?_
      refine xild_1 (q := 24) d_43_23 rfl ?_
      rw [show i = ((i.toNat : Nat) : Int) by omega]
      refine xcV1 (q := 27) d_43_24 rfl lk_X_107 mo_20 ⟨by decide +kernel, by decide +kernel⟩ (by simp [Value.category]) (by decide +kernel) (by simp [Value.category]) (rk_lt (by decide) hn).1 (vg_rk (by decide)) ?_
      refine c_cutTo hn (by decide) hL1 (m := i.toNat) (by omega) ?_
      intro I2 hL2 hO2
      dsimp only [ax_ps]
      refine xald_0 (q := 28) d_43_27 rfl ?_
      refine xg_VG_last hn (q := 31) d_43_28 rfl fl_X_39 ?_
      refine xg_R_size (by decide) hn (q := 34) d_43_31 rfl fl_X_110 ?_
      refine x_iret d_43_34 rfl rfl ?_
      rw [hL2.1]
      exact k1 hh I2 F1 hL2 ((hO2 6 (by decide)).trans h16) ⟨fun q a b c => (hO2 q c).trans (hF1.1 q a b c), hF1.2⟩
    · rw [zi_eq0 (by omega) (by omega)] at c5
      exact absurd c5 (by decide)
  · have HH : mayI i e = 0 := if_neg hh
    refine xild_1 (q := 1) d_43_0 rfl ?_
    refine xild_2 (q := 2) d_43_1 rfl ?_
    refine xcS2 (q := 5) d_43_2 rfl lk_X_113 mo_44 ⟨by decide +kernel, by decide +kernel⟩ (by simp [Value.category]) (by decide +kernel) (by simp [Value.category])  ?_
    refine c_mayLook hi he ?_
    dsimp only [ax_ps]
    rw [HH]
    refine x_if_ne (q := 8) (t := 10) d_43_5 (by decide) rfl (fun c5 => ?_) (fun c5 => ?_)
    · rw [zi_eq0 (by omega) (by omega)] at c5
      exact absurd c5 (by decide)
    · rw [zi_eq0 (by omega) (by omega)] at c5
      refine x_iconst (q := 9) (v := zi (-1)) d_43_8 rfl rfl ?_
      refine x_iret d_43_9 rfl rfl ?_
      exact k2 hh
theorem mFree_mem (kf : Nat → Nat) (fr : Nat → Int) : ∀ (n k : Nat), k ∈ mFree kf fr n → ∃ x, x < n ∧ k = kf x
  | 0, _, h => absurd h List.not_mem_nil
  | n + 1, k, h => by
    unfold mFree at h
    split at h
    · rcases ins_mem.mp h with h | h
      · exact ⟨n, Nat.lt_succ_self n, h⟩
      · obtain ⟨x, h1, h2⟩ := mFree_mem kf fr n k h
        exact ⟨x, by omega, h2⟩
    · obtain ⟨x, h1, h2⟩ := mFree_mem kf fr n k h
      exact ⟨x, by omega, h2⟩
set_option maxHeartbeats 2000000 in
theorem lq_brief {sc : ax_S} {σ : Nat → ax_C} {I0 : Nat → Int} {F0 : Nat → Nat → Int} {n bc bs : Nat} {K : ax_K} (hn : 22 ≤ n) {P N M : Nat} (hV0 : VW I0 F0 P N M) {w : Nat → Int} (hw0 : F0 2 = w) {L0 : List Nat} (hL0 : RK 4 I0 F0 L0) (hl : L0.length ≤ 100) (hnum : ∀ k ∈ L0, k % 100 < N) {i m q : Int} {R : List Nat}
    (kk : ∀ I F a b, RK 3 I F R → OffI 3 I0 I → OffF 3 F0 F → Ex sc 47 107 [some (.ref 0), some (.int (zi i)), some (.int (zi m)), some (.int (zi q)), a, b] [] (vg σ I F, n, bc, bs) K) :
    ∀ (d j : Nat) (L : List Nat) (I : Nat → Int) (F : Nat → Nat → Int) (t5 : Option Value), j + d = L0.length → L.length = j → Srt L → RK 3 I F L → OffI 3 I0 I → OffF 3 F0 F → R = mPool (kfQ w P M 100) ((L0.drop j).map (· % 100)) L → Ex sc 47 56 [some (.ref 0), some (.int (zi i)), some (.int (zi m)), some (.int (zi q)), some (.int (zi j)), t5] [] (vg σ I F, n, bc, bs) K := by
  have hN2 := hV0.2.2.2.2.1
  intro d
  induction d with
  | zero =>
    intro j L I F t5 hj hlj hs hL hOI hOF hR
    rw [show L0.drop j = [] from List.drop_of_length_le (by omega)] at hR
    have hR : R = L := hR
    rw [hR] at kk
    have h0 : RK 4 I F L0 := hL0.same (hOI _ (by omega)) (hOF _ (by omega))
    have hs0 := h0.1
    refine xild_4 (q := 58) d_47_56 rfl ?_
    refine xald_0 (q := 59) d_47_58 rfl ?_
    refine xg_VG_scratch hn (q := 62) d_47_59 rfl fl_X_43 ?_
    refine xg_R_size (by decide) hn (q := 65) d_47_62 rfl fl_X_110 ?_
    refine x_icmp_ge (q := 68) (t := 107) d_47_65 (by decide) rfl (fun c65 => ?_) (fun c65 => ?_)
    · rw [zi_le (by omega) (by omega) (by omega) (by omega)] at c65
      exact kk I F _ _ hL hOI hOF
    · rw [zi_le (by omega) (by omega) (by omega) (by omega)] at c65
      exact absurd c65 (by omega)
  | succ d ih =>
    intro j L I F t5 hj hlj hs hL hOI hOF hR
    have hjl : j < L0.length := by omega
    rw [drop_get hjl] at hR
    have h0 : RK 4 I F L0 := hL0.same (hOI _ (by omega)) (hOF _ (by omega))
    have hs0 := h0.1
    have hkn := hnum _ (gd_mem hjl)
    have hV : VW I F P N M := hV0.same (hOI _ (by omega)) (hOI _ (by omega)) (hOI _ (by omega)) (hOF _ (by omega)) (hOF _ (by omega)) (hOF _ (by omega))
    have hw : F 2 = w := (hOF 2 (by omega)).trans hw0
    have en1 : rkNum L0 j = ((L0.getD j 0 % 100 : Nat) : Int) := by unfold rkNum; rw [if_pos (by omega), show ((j : Int)).toNat = j by omega]
    obtain ⟨b1, b2, b3, b4⟩ := kfq_b hV hw (Nat.le_refl 100) (show L0.getD j 0 % 100 < 100 by omega)
    have hR : R = mPool (kfQ w P M 100) ((L0.drop (j + 1)).map (· % 100)) (ins (kfQ w P M 100 (L0.getD j 0 % 100)) L) := hR
    refine xild_4 (q := 58) d_47_56 rfl ?_
    refine xald_0 (q := 59) d_47_58 rfl ?_
    refine xg_VG_scratch hn (q := 62) d_47_59 rfl fl_X_43 ?_
    refine xg_R_size (by decide) hn (q := 65) d_47_62 rfl fl_X_110 ?_
    refine x_icmp_ge (q := 68) (t := 107) d_47_65 (by decide) rfl (fun c65 => ?_) (fun c65 => ?_)
    · rw [zi_le (by omega) (by omega) (by omega) (by omega)] at c65
      exact absurd c65 (by omega)
    · rw [zi_le (by omega) (by omega) (by omega) (by omega)] at c65
      refine xald_0 (q := 69) d_47_68 rfl ?_
      refine xg_VG_scratch hn (q := 72) d_47_69 rfl fl_X_43 ?_
      refine xild_4 (q := 74) d_47_72 rfl ?_
      refine xcV1 (q := 77) d_47_74 rfl lk_X_120 mo_21 ⟨by decide +kernel, by decide +kernel⟩ (by simp [Value.category]) (by decide +kernel) (by simp [Value.category]) (rk_lt (by decide) hn).1 (vg_rk (by decide)) ?_
      refine c_numberAt hn (by decide) h0 (i := (j : Int)) (by omega) ?_
      dsimp only [ax_ps]
      rw [en1]
      refine xist_5 (q := 79) d_47_77 rfl ?_
      refine xald_0 (q := 80) d_47_79 rfl ?_
      refine xg_VG_last hn (q := 83) d_47_80 rfl fl_X_39 ?_
      refine xild_5 (q := 85) d_47_83 rfl ?_
      refine xald_0 (q := 86) d_47_85 rfl ?_
      refine xg_VG_vectors hn (q := 89) d_47_86 rfl fl_X_23 ?_
      refine x_bipush (q := 91) (v := zi (100)) d_47_89 rfl (by decide) ?_
      refine xild_5 (q := 93) d_47_91 rfl ?_
      refine x_bipush (q := 95) (v := zi (100)) d_47_93 rfl (by decide) ?_
      refine xcV3 (q := 98) d_47_95 rfl lk_X_124 mo_17 ⟨by decide +kernel, by decide +kernel⟩ (by simp [Value.category]) (by decide +kernel) (by simp [Value.category]) (by omega) rfl ?_
      refine c_apart hn hV (a := 100) (b := L0.getD j 0 % 100) (q := 100) (by omega) (by omega) (by omega) ?_
      dsimp only [ax_ps]
      rw [farV_w hw, show farW w P M 100 100 (L0.getD j 0 % 100) = (((farW w P M 100 100 (L0.getD j 0 % 100)).toNat : Nat) : Int) by omega]
      refine xcV2 (q := 101) d_47_98 rfl lk_X_128 mo_19 ⟨by decide +kernel, by decide +kernel⟩ (by simp [Value.category]) (by decide +kernel) (by simp [Value.category]) (rk_lt (by decide) hn).1 (vg_rk (by decide)) ?_
      refine c_put hn (by decide) hL (show L.length < 100 by omega) (num := L0.getD j 0 % 100) (far := (farW w P M 100 100 (L0.getD j 0 % 100)).toNat) b3 hs ?_
      intro I2 F2 hL2 hOI2 hOF2
      dsimp only [ax_ps]
      refine xincz_4 (q := 104) d_47_101 rfl ?_
      refine x_goto (t := 56) d_47_104 (by decide) ?_
      rw [show (j : Int) + 1 = ((j + 1 : Nat) : Int) by omega]
      exact ih (j + 1) _ I2 F2 _ (by omega) (by rw [ins_len]; omega) (ins_srt hs) hL2 (fun q hq => (hOI2 q hq).trans (hOI q hq)) (fun q hq => (hOF2 q hq).trans (hOF q hq)) hR
set_option maxHeartbeats 2000000 in
theorem c_brief {sc : ax_S} {σ : Nat → ax_C} {I : Nat → Int} {F : Nat → Nat → Int} {n bc bs : Nat} {K : ax_K} (hn : 22 ≤ n) {P N M : Nat} (hV : VW I F P N M) {w : Nat → Int} (hw : F 2 = w) {i m q : Int} (hi : I32 i) (hm : I32 m) (hq : I32 q)
    (k1 : 1 ≤ i ∧ i ≤ m ∧ m ≤ 100 ∧ 1 ≤ q ∧ q ≤ 100 → ∀ I' F', RK 3 I' F' ((mPool (kfQ w P M 100) (((mFree (kfQ w P M q.toNat) (fun i : Nat => freeI F N i) N).take m.toNat).map (· % 100)) []).take i.toNat) → (∀ j, j ≠ 10 + 3 → j ≠ 10 + 4 → I' j = I j) → (∀ j, j ≠ 10 + 3 → j ≠ 10 + 4 → F' j = F j) → K (some (.int (zi ((mPool (kfQ w P M 100) (((mFree (kfQ w P M q.toNat) (fun i : Nat => freeI F N i) N).take m.toNat).map (· % 100)) []).take i.toNat).length))) (vg σ I' F', n, bc, bs)) (k2 : ¬ (1 ≤ i ∧ i ≤ m ∧ m ≤ 100 ∧ 1 ≤ q ∧ q ≤ 100) → K (some (.int (zi (-1)))) (vg σ I F, n, bc, bs)) : Ex sc 47 0 (ax_en 47 [.ref 0, .int (zi i), .int (zi m), .int (zi q)]) [] (vg σ I F, n, bc, bs) K := by
  have hN2 := hV.2.2.2.2.1
  show Ex sc 47 0 [some (.ref 0), some (.int (zi i)), some (.int (zi m)), some (.int (zi q)), none, none] [] (vg σ I F, n, bc, bs) K
  refine xild_1 (q := 1) d_47_0 rfl ?_
  refine x_iconst (q := 2) (v := zi (1)) d_47_1 rfl rfl ?_
  refine x_icmp_lt (q := 5) (t := 27) d_47_2 (by decide) rfl (fun c2 => ?_) (fun c2 => ?_)
  · rw [zi_lt (by omega) (by omega) (by omega) (by omega)] at c2
    refine x_iconst (q := 28) (v := zi (-1)) d_47_27 rfl rfl ?_
    refine x_iret d_47_28 rfl rfl ?_
    exact k2 (by omega)
  · rw [zi_lt (by omega) (by omega) (by omega) (by omega)] at c2
    refine xild_2 (q := 6) d_47_5 rfl ?_
    refine xild_1 (q := 7) d_47_6 rfl ?_
    refine x_icmp_lt (q := 10) (t := 27) d_47_7 (by decide) rfl (fun c7 => ?_) (fun c7 => ?_)
    · rw [zi_lt (by omega) (by omega) (by omega) (by omega)] at c7
      refine x_iconst (q := 28) (v := zi (-1)) d_47_27 rfl rfl ?_
      refine x_iret d_47_28 rfl rfl ?_
      exact k2 (by omega)
    · rw [zi_lt (by omega) (by omega) (by omega) (by omega)] at c7
      refine xild_2 (q := 11) d_47_10 rfl ?_
      refine x_bipush (q := 13) (v := zi (100)) d_47_11 rfl (by decide) ?_
      refine x_icmp_gt (q := 16) (t := 27) d_47_13 (by decide) rfl (fun c13 => ?_) (fun c13 => ?_)
      · rw [zi_lt (by omega) (by omega) (by omega) (by omega)] at c13
        refine x_iconst (q := 28) (v := zi (-1)) d_47_27 rfl rfl ?_
        refine x_iret d_47_28 rfl rfl ?_
        exact k2 (by omega)
      · rw [zi_lt (by omega) (by omega) (by omega) (by omega)] at c13
        refine xild_3 (q := 17) d_47_16 rfl ?_
        refine x_iconst (q := 18) (v := zi (1)) d_47_17 rfl rfl ?_
        refine x_icmp_lt (q := 21) (t := 27) d_47_18 (by decide) rfl (fun c18 => ?_) (fun c18 => ?_)
        · rw [zi_lt (by omega) (by omega) (by omega) (by omega)] at c18
          refine x_iconst (q := 28) (v := zi (-1)) d_47_27 rfl rfl ?_
          refine x_iret d_47_28 rfl rfl ?_
          exact k2 (by omega)
        · rw [zi_lt (by omega) (by omega) (by omega) (by omega)] at c18
          refine xild_3 (q := 22) d_47_21 rfl ?_
          refine x_bipush (q := 24) (v := zi (100)) d_47_22 rfl (by decide) ?_
          refine x_icmp_le (q := 27) (t := 29) d_47_24 (by decide) rfl (fun c24 => ?_) (fun c24 => ?_)
          · rw [zi_le (by omega) (by omega) (by omega) (by omega)] at c24
            refine xald_0 (q := 30) d_47_29 rfl ?_
            refine xald_0 (q := 31) d_47_30 rfl ?_
            refine xg_VG_scratch hn (q := 34) d_47_31 rfl fl_X_43 ?_
            refine xild_3 (q := 35) d_47_34 rfl ?_
            rw [show q = ((q.toNat : Nat) : Int) by omega]
            refine xcV2 (q := 38) d_47_35 rfl lk_X_103 mo_41 ⟨by decide +kernel, by decide +kernel⟩ (by simp [Value.category]) (by decide +kernel) (by simp [Value.category]) (by omega) rfl ?_
            refine c_rankFree hn hV hw (r := 4) (by decide) (by decide) (q := q.toNat) (by omega) ?_
            intro I1 F1 hL1 hOI1 hOF1
            dsimp only [ax_ps]
            refine xald_0 (q := 39) d_47_38 rfl ?_
            refine xg_VG_scratch hn (q := 42) d_47_39 rfl fl_X_43 ?_
            refine xild_2 (q := 43) d_47_42 rfl ?_
            rw [show m = ((m.toNat : Nat) : Int) by omega]
            refine xcV1 (q := 46) d_47_43 rfl lk_X_107 mo_20 ⟨by decide +kernel, by decide +kernel⟩ (by simp [Value.category]) (by decide +kernel) (by simp [Value.category]) (rk_lt (by decide) hn).1 (vg_rk (by decide)) ?_
            refine c_cutTo hn (by decide) hL1 (m := m.toNat) (by omega) ?_
            intro I2 hL2 hO2
            dsimp only [ax_ps]
            refine xald_0 (q := 47) d_47_46 rfl ?_
            refine xg_VG_last hn (q := 50) d_47_47 rfl fl_X_39 ?_
            refine xcV0 (q := 53) d_47_50 rfl lk_X_87 mo_14 ⟨by decide +kernel, by decide +kernel⟩  (by decide +kernel) (by simp [Value.category]) (rk_lt (by decide) hn).1 (vg_rk (by decide)) ?_
            refine c_empty hn (by decide) ?_
            intro I3 hE hO3
            dsimp only [ax_ps]
            refine x_iconst (q := 54) (v := zi (0)) d_47_53 rfl rfl ?_
            refine xist_4 (q := 56) d_47_54 rfl ?_
            have hV3 : VW I3 F1 P N M := hV.same (by rw [hO3 _ (by decide), hO2 _ (by decide), hOI1 _ (by decide)]) (by rw [hO3 _ (by decide), hO2 _ (by decide), hOI1 _ (by decide)]) (by rw [hO3 _ (by decide), hO2 _ (by decide), hOI1 _ (by decide)]) (hOF1 _ (by decide)) (hOF1 _ (by decide)) (hOF1 _ (by decide))
            have hL3 := hL2.same (I' := I3) (hO3 _ (by decide)) rfl
            refine lq_brief hn hV3 ((hOF1 2 (by decide)).trans hw) hL3 (by rw [List.length_take]; omega) (fun z hz => ?_) (R := (mPool (kfQ w P M 100) (((mFree (kfQ w P M q.toNat) (fun i : Nat => freeI F N i) N).take m.toNat).map (· % 100)) [])) ?_ _ 0 [] I3 F1 _ (Nat.zero_add _) rfl List.Pairwise.nil hE OffI.rf OffF.rf (by rw [List.drop_zero])
            · obtain ⟨x, hx, rfl⟩ := mFree_mem _ _ _ _ (List.mem_of_mem_take hz)
              rw [(kfq_b hV hw (show q.toNat ≤ 100 by omega) (show x < 100 by omega)).2.2.2]; exact hx
            intro I4 F4 ta tb hL4 hOI4 hOF4
            refine xald_0 (q := 108) d_47_107 rfl ?_
            refine xg_VG_last hn (q := 111) d_47_108 rfl fl_X_39 ?_
            refine xild_1 (q := 112) d_47_111 rfl ?_
            rw [show i = ((i.toNat : Nat) : Int) by omega]
            refine xcV1 (q := 115) d_47_112 rfl lk_X_107 mo_20 ⟨by decide +kernel, by decide +kernel⟩ (by simp [Value.category]) (by decide +kernel) (by simp [Value.category]) (rk_lt (by decide) hn).1 (vg_rk (by decide)) ?_
            refine c_cutTo hn (by decide) hL4 (m := i.toNat) (by omega) ?_
            intro I5 hL5 hO5
            dsimp only [ax_ps]
            refine xald_0 (q := 116) d_47_115 rfl ?_
            refine xg_VG_last hn (q := 119) d_47_116 rfl fl_X_39 ?_
            refine xg_R_size (by decide) hn (q := 122) d_47_119 rfl fl_X_110 ?_
            refine x_iret d_47_122 rfl rfl ?_
            rw [hL5.1]
            exact k1 (by omega) I5 F4 hL5 (fun j a b => by rw [hO5 j a, hOI4 j a, hO3 j a, hO2 j b, hOI1 j b]) (fun j a b => by rw [hOF4 j a, hOF1 j b])
          · rw [zi_le (by omega) (by omega) (by omega) (by omega)] at c24
            refine x_iconst (q := 28) (v := zi (-1)) d_47_27 rfl rfl ?_
            refine x_iret d_47_28 rfl rfl ?_
            exact k2 (by omega)
/-- how many numbers of L stand in L2 -/
def cntH (L2 : List Nat) : List Nat → Int
  | [] => 0
  | k :: ks => rkHas L2 (k % 100) + cntH L2 ks
set_option maxHeartbeats 2000000 in
theorem lq_recall {sc : ax_S} {σ : Nat → ax_C} {I : Nat → Int} {F : Nat → Nat → Int} {n bc bs : Nat} {K : ax_K} (hn : 22 ≤ n) {L0 L2 : List Nat} (h5 : RK 5 I F L0) (h4 : RK 4 I F L2) {i e R : Int} (k : K (some (.int (zi R))) (vg σ I F, n, bc, bs)) :
    ∀ (d j : Nat) (c : Int), j + d = L0.length → R = c + cntH L2 (L0.drop j) → Ex sc 48 50 [some (.ref 0), some (.int (zi i)), some (.int (zi e)), some (.int (zi c)), some (.int (zi j))] [] (vg σ I F, n, bc, bs) K := by
  have hs0 := h5.1
  have hc0 := h5.2.1
  have hcc : rkC 5 = 100 := rfl
  intro d
  induction d with
  | zero =>
    intro j c hj hR
    rw [show L0.drop j = [] from List.drop_of_length_le (by omega)] at hR
    have hR : R = c + 0 := hR
    refine xild_4 (q := 52) d_48_50 rfl ?_
    refine xald_0 (q := 53) d_48_52 rfl ?_
    refine xg_VG_looked hn (q := 56) d_48_53 rfl fl_X_46 ?_
    refine xg_R_size (by decide) hn (q := 59) d_48_56 rfl fl_X_110 ?_
    refine x_icmp_ge (q := 62) (t := 90) d_48_59 (by decide) rfl (fun c59 => ?_) (fun c59 => ?_)
    · rw [zi_le (by omega) (by omega) (by omega) (by omega)] at c59
      refine xild_3 (q := 91) d_48_90 rfl ?_
      refine x_iret d_48_91 rfl rfl ?_
      rw [hR, Int.add_zero] at k
      exact k
    · rw [zi_le (by omega) (by omega) (by omega) (by omega)] at c59
      exact absurd c59 (by omega)
  | succ d ih =>
    intro j c hj hR
    have hjl : j < L0.length := by omega
    rw [drop_get hjl] at hR
    have hR : R = c + (rkHas L2 (L0.getD j 0 % 100) + cntH L2 (L0.drop (j + 1))) := hR
    have en1 : rkNum L0 j = ((L0.getD j 0 % 100 : Nat) : Int) := by unfold rkNum; rw [if_pos (by omega), show ((j : Int)).toNat = j by omega]
    have h01 : rkHas L2 (L0.getD j 0 % 100) = 0 ∨ rkHas L2 (L0.getD j 0 % 100) = 1 := by unfold rkHas; split <;> omega
    refine xild_4 (q := 52) d_48_50 rfl ?_
    refine xald_0 (q := 53) d_48_52 rfl ?_
    refine xg_VG_looked hn (q := 56) d_48_53 rfl fl_X_46 ?_
    refine xg_R_size (by decide) hn (q := 59) d_48_56 rfl fl_X_110 ?_
    refine x_icmp_ge (q := 62) (t := 90) d_48_59 (by decide) rfl (fun c59 => ?_) (fun c59 => ?_)
    · rw [zi_le (by omega) (by omega) (by omega) (by omega)] at c59
      exact absurd c59 (by omega)
    · rw [zi_le (by omega) (by omega) (by omega) (by omega)] at c59
      refine xald_0 (q := 63) d_48_62 rfl ?_
      refine xg_VG_scratch hn (q := 66) d_48_63 rfl fl_X_43 ?_
      refine xald_0 (q := 67) d_48_66 rfl ?_
      refine xg_VG_looked hn (q := 70) d_48_67 rfl fl_X_46 ?_
      refine xild_4 (q := 72) d_48_70 rfl ?_
      refine xcV1 (q := 75) d_48_72 rfl lk_X_120 mo_21 ⟨by decide +kernel, by decide +kernel⟩ (by simp [Value.category]) (by decide +kernel) (by simp [Value.category]) (rk_lt (by decide) hn).1 (vg_rk (by decide)) ?_
      refine c_numberAt hn (by decide) h5 (i := (j : Int)) (by omega) ?_
      dsimp only [ax_ps]
      rw [en1]
      refine xcV1 (q := 78) d_48_75 rfl lk_X_131 mo_49 ⟨by decide +kernel, by decide +kernel⟩ (by simp [Value.category]) (by decide +kernel) (by simp [Value.category]) (rk_lt (by decide) hn).1 (vg_rk (by decide)) ?_
      refine c_holds hn (by decide) h4 (x := L0.getD j 0 % 100) (by omega) ?_
      dsimp only [ax_ps]
      refine x_if_eq (q := 81) (t := 84) d_48_78 (by decide) rfl (fun c78 => ?_) (fun c78 => ?_)
      · rw [zi_eq0 (by omega) (by omega)] at c78
        refine xincz_4 (q := 87) d_48_84 rfl ?_
        refine x_goto (t := 50) d_48_87 (by decide) ?_
        rw [show (j : Int) + 1 = ((j + 1 : Nat) : Int) by omega]
        exact ih (j + 1) _ (by omega) (by omega)
      · rw [zi_eq0 (by omega) (by omega)] at c78
        refine xincz_3 (q := 84) d_48_81 rfl ?_
        refine xincz_4 (q := 87) d_48_84 rfl ?_
        refine x_goto (t := 50) d_48_87 (by decide) ?_
        rw [show (j : Int) + 1 = ((j + 1 : Nat) : Int) by omega]
        exact ih (j + 1) _ (by omega) (by omega)
set_option maxHeartbeats 2000000 in
theorem c_recall {sc : ax_S} {σ : Nat → ax_C} {I : Nat → Int} {F : Nat → Nat → Int} {n bc bs : Nat} {K : ax_K} (hn : 22 ≤ n) {P N M : Nat} (hV : VW I F P N M) {w : Nat → Int} (hw : F 2 = w) {g : mSt} (hG : GW F g.1 N) {s : Int} (hs : I 8 = s) (hen : I 2 = entI g.2) (hent : ∀ e, g.2 = some e → e < N) {i e : Int} (hi : I32 i) (he : I32 e)
    (k1 : 1 ≤ i ∧ i ≤ e ∧ e ≤ 60 → ∀ (I' : Nat → Int) (F' : Nat → Nat → Int), I' 6 = ((mSearch (kfW w P M 100) (lev s) g e.toNat).2 : Int) → (∀ j, ¬ G3 j → j ≠ 6 → j ≠ 10 + 4 → j ≠ 10 + 5 → I' j = I j) → (∀ j, ¬ G3 j → j ≠ 10 + 4 → j ≠ 10 + 5 → F' j = F j) → K (some (.int (zi (cntH ((mFree (kfQ w P M 100) (fun i : Nat => freeI F N i) N).take i.toNat) ((mFF (fun i : Nat => freeI F N i) (mSearch (kfW w P M 100) (lev s) g e.toNat).1 []).take i.toNat))))) (vg σ I' F', n, bc, bs)) (k2 : ¬ (1 ≤ i ∧ i ≤ e ∧ e ≤ 60) → K (some (.int (zi (-1)))) (vg σ I F, n, bc, bs)) : Ex sc 48 0 (ax_en 48 [.ref 0, .int (zi i), .int (zi e)]) [] (vg σ I F, n, bc, bs) K := by
  show Ex sc 48 0 [some (.ref 0), some (.int (zi i)), some (.int (zi e)), none, none] [] (vg σ I F, n, bc, bs) K
  by_cases hh : 1 ≤ i ∧ i ≤ e ∧ e ≤ 60
  · have HH : mayI i e = 1 := if_pos hh
    refine xild_1 (q := 1) d_48_0 rfl ?_
    refine xild_2 (q := 2) d_48_1 rfl ?_
    refine xcS2 (q := 5) d_48_2 rfl lk_X_113 mo_44 ⟨by decide +kernel, by decide +kernel⟩ (by simp [Value.category]) (by decide +kernel) (by simp [Value.category])  ?_
    refine c_mayLook hi he ?_
    dsimp only [ax_ps]
    rw [HH]
    refine x_if_ne (q := 8) (t := 10) d_48_5 (by decide) rfl (fun c5 => ?_) (fun c5 => ?_)
    · rw [zi_eq0 (by omega) (by omega)] at c5
      refine xald_0 (q := 11) d_48_10 rfl ?_
      refine xald_0 (q := 12) d_48_11 rfl ?_
      refine xg_VG_scratch hn (q := 15) d_48_12 rfl fl_X_43 ?_
      refine x_bipush (q := 17) (v := zi (100)) d_48_15 rfl (by decide) ?_
      refine xcV2 (q := 20) d_48_17 rfl lk_X_103 mo_41 ⟨by decide +kernel, by decide +kernel⟩ (by simp [Value.category]) (by decide +kernel) (by simp [Value.category]) (by omega) rfl ?_
      refine c_rankFree hn hV hw (r := 4) (by decide) (by decide) (q := 100) (by omega) ?_
      intro I1 F1 hL1 hOI1 hOF1
      dsimp only [ax_ps]
      refine xald_0 (q := 21) d_48_20 rfl ?_
      refine xg_VG_scratch hn (q := 24) d_48_21 rfl fl_X_43 ?_
      refine xild_1 (q := 25) d_48_24 rfl ?_
      rw [show i = ((i.toNat : Nat) : Int) by omega]
      refine xcV1 (q := 28) d_48_25 rfl lk_X_107 mo_20 ⟨by decide +kernel, by decide +kernel⟩ (by simp [Value.category]) (by decide +kernel) (by simp [Value.category]) (rk_lt (by decide) hn).1 (vg_rk (by decide)) ?_
      refine c_cutTo hn (by decide) hL1 (m := i.toNat) (by omega) ?_
      intro I2 hL2 hO2
      dsimp only [ax_ps]
      have hoi2 : ∀ j, j ≠ 10 + 4 → I2 j = I j := fun j a => by rw [hO2 j a, hOI1 j a]
      have hV2 : VW I2 F1 P N M := hV.same (hoi2 _ (by decide)) (hoi2 _ (by decide)) (hoi2 _ (by decide)) (hOF1 _ (by decide)) (hOF1 _ (by decide)) (hOF1 _ (by decide))
      have efr : (fun i : Nat => freeI F1 N i) = (fun i : Nat => freeI F N i) := by funext i; unfold freeI; rw [hOF1 0 (by decide), hOF1 1 (by decide)]
      refine xald_0 (q := 29) d_48_28 rfl ?_
      refine xald_0 (q := 30) d_48_29 rfl ?_
      refine xg_VG_looked hn (q := 33) d_48_30 rfl fl_X_46 ?_
      refine xild_2 (q := 34) d_48_33 rfl ?_
      rw [show e = ((e.toNat : Nat) : Int) by omega]
      refine xcV2 (q := 37) d_48_34 rfl lk_X_117 mo_45 ⟨by decide +kernel, by decide +kernel⟩ (by simp [Value.category]) (by decide +kernel) (by simp [Value.category]) (by omega) rfl ?_
      refine c_rankFound hn hV2 ((hOF1 2 (by decide)).trans hw) (hG.same (hOF1 _ (by decide)) (hOF1 _ (by decide))) ((hoi2 8 (by decide)).trans hs) ((hoi2 2 (by decide)).trans hen) hent (r := 5) (by decide) (by decide) (e := e.toNat) (by omega) ?_
      intro I3 F3 hL3 h36 hF3
      dsimp only [ax_ps]
      rw [efr] at hL3
      refine xald_0 (q := 38) d_48_37 rfl ?_
      refine xg_VG_looked hn (q := 41) d_48_38 rfl fl_X_46 ?_
      refine xild_1 (q := 42) d_48_41 rfl ?_
      refine xcV1 (q := 45) d_48_42 rfl lk_X_107 mo_20 ⟨by decide +kernel, by decide +kernel⟩ (by simp [Value.category]) (by decide +kernel) (by simp [Value.category]) (rk_lt (by decide) hn).1 (vg_rk (by decide)) ?_
      refine c_cutTo hn (by decide) hL3 (m := i.toNat) (by omega) ?_
      intro I4 hL4 hO4
      dsimp only [ax_ps]
      refine x_iconst (q := 46) (v := zi (0)) d_48_45 rfl rfl ?_
      refine xist_3 (q := 47) d_48_46 rfl ?_
      refine x_iconst (q := 48) (v := zi (0)) d_48_47 rfl rfl ?_
      refine xist_4 (q := 50) d_48_48 rfl ?_
      have h4 := hL2.same (I' := I4) (F' := F3) ((hO4 _ (by decide)).trans (hF3.1 _ (by unfold G3; omega) (by decide) (by decide))) (hF3.2 _ (by unfold G3; omega) (by decide))
      refine lq_recall hn hL4 h4 ?_ _ 0 0 (Nat.zero_add _) (by rw [List.drop_zero, Int.zero_add])
      exact k1 hh I4 F3 ((hO4 6 (by decide)).trans h36) (fun j a b c d => by rw [hO4 j d, hF3.1 j a b d, hoi2 j c]) (fun j a c d => by rw [hF3.2 j a d, hOF1 j c])
    · rw [zi_eq0 (by omega) (by omega)] at c5
      exact absurd c5 (by decide)
  · have HH : mayI i e = 0 := if_neg hh
    refine xild_1 (q := 1) d_48_0 rfl ?_
    refine xild_2 (q := 2) d_48_1 rfl ?_
    refine xcS2 (q := 5) d_48_2 rfl lk_X_113 mo_44 ⟨by decide +kernel, by decide +kernel⟩ (by simp [Value.category]) (by decide +kernel) (by simp [Value.category])  ?_
    refine c_mayLook hi he ?_
    dsimp only [ax_ps]
    rw [HH]
    refine x_if_ne (q := 8) (t := 10) d_48_5 (by decide) rfl (fun c5 => ?_) (fun c5 => ?_)
    · rw [zi_eq0 (by omega) (by omega)] at c5
      exact absurd c5 (by decide)
    · rw [zi_eq0 (by omega) (by omega)] at c5
      refine x_iconst (q := 9) (v := zi (-1)) d_48_8 rfl rfl ?_
      refine x_iret d_48_9 rfl rfl ?_
      exact k2 hh
