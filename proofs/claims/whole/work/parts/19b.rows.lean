/-! Graph: writeRow, linkBack -/
set_option maxHeartbeats 2000000 in
theorem lq_writeRow {sc : ax_S} {σ : Nat → ax_C} {I : Nat → Int} {F0 : Nat → Nat → Int} {n bc bs : Nat} {K : ax_K} (hn : 22 ≤ n) {rows : Nat → Nat → List Nat} {N : Nat} (hG : GW F0 rows N) {r : Nat} (hr : r < 6) {L : List Nat} (hL0 : RK r I F0 L) {i l : Nat} (hi : i < 100) (hl : l < 5) (hlen : L.length ≤ rlN l) (hnum : ∀ x ∈ L, x % 100 < N)
    (k : ∀ F', GW F' (rset rows i l (L.map (· % 100))) N → (∀ j, j ≠ 3 → j ≠ 4 → F' j = F0 j) → K none (vg σ I F', n, bc, bs)) :
    ∀ (d j : Nat) (F : Nat → Nat → Int), j + d = L.length → (∀ q, q ≠ 3 → F q = F0 q) → (∀ p, ¬ (rsN i l ≤ p ∧ p < rsN i l + rlN l) → F 3 p = F0 3 p) → (∀ q, q < j → F 3 (rsN i l + q) = (L.getD q 0 % 100 : Nat)) → Ex sc 31 24 [some (.ref 5), some (.int (zi i)), some (.int (zi l)), some (.ref (rkO r)), some (.int (zi (rsN i l))), some (.int (zi L.length)), some (.int (zi j))] [] (vg σ I F, n, bc, bs) K := by
  have hrl := rl_b l
  intro d
  induction d with
  | zero =>
    intro j F hj hF hF3 hw
    have hcl := hL0.2.1
    have hc2 := rkC_le r
    have hlm : (L.map (· % 100)).length = L.length := List.length_map ..
    have k := k (va_up F 4 (va_up (F 4) (i * 5 + l) (L.length : Int))) (fun a b ha hb => by
      obtain ⟨g1, g2, g3, g4⟩ := hG a b ha hb
      by_cases hab : a = i ∧ b = l
      · obtain ⟨rfl, rfl⟩ := hab
        rw [rset_s, va_us, va_us, hlm]
        refine ⟨rfl, hlen, fun q hq => ?_, fun x hx => ?_⟩
        · rw [va_un _ _ _ (by decide), hw q (by omega), List.getD_eq_getElem?_getD (l := L.map _), List.getElem?_map, List.getElem?_eq_getElem hq, List.getD_eq_getElem?_getD, List.getElem?_eq_getElem hq]
          rfl
        · obtain ⟨y, hy, rfl⟩ := List.mem_map.mp hx
          exact hnum y hy
      · rw [rset_n _ _ _ _ hab, va_us, va_un _ _ _ (by omega), hF 4 (by decide)]
        refine ⟨g1, g2, fun q hq => ?_, g4⟩
        rw [va_un _ _ _ (by decide), hF3 _ (rs_apart hb hl (by omega) hab)]
        exact g3 q hq) (fun q h3 h4 => by rw [va_un _ _ _ h4]; exact hF q h3)
    refine xild_6 (q := 26) d_31_24 rfl ?_
    refine xild_5 (q := 28) d_31_26 rfl ?_
    refine x_icmp_ge (q := 31) (t := 53) d_31_28 (by decide) rfl (fun c28 => ?_) (fun c28 => ?_)
    · rw [zi_le (by omega) (by omega) (by omega) (by omega)] at c28
      refine xald_0 (q := 54) d_31_53 rfl ?_
      refine xg_G_rowSizes hn (q := 57) d_31_54 rfl fl_G_36 ?_
      refine xild_1 (q := 58) d_31_57 rfl ?_
      refine x_iconst (q := 59) (v := zi (5)) d_31_58 rfl rfl ?_
      refine z_imul (q := 60) d_31_59 rfl ?_
      refine xild_2 (q := 61) d_31_60 rfl ?_
      refine z_iadd (q := 62) d_31_61 rfl ?_
      refine xild_5 (q := 64) d_31_62 rfl ?_
      refine xs_rowSizes (q := 65) hn d_31_64 rfl (by omega) (by omega) ?_
      refine x_vret d_31_65 rfl ?_
      rw [show ((i : Int) * 5 + (l : Int)).toNat = i * 5 + l by omega]
      exact k
    · rw [zi_le (by omega) (by omega) (by omega) (by omega)] at c28
      exact absurd c28 (by omega)
  | succ d ih =>
    intro j F hj hF hF3 hw
    have hcl := hL0.2.1
    have hc2 := rkC_le r
    have hL : RK r I F L := hL0.same rfl (hF _ (by omega))
    have hb := rs_b hi hl (show j < rlN l by omega)
    have en1 : rkNum L j = ((L.getD j 0 % 100 : Nat) : Int) := by unfold rkNum; rw [if_pos (by omega), show ((j : Int)).toNat = j by omega]
    refine xild_6 (q := 26) d_31_24 rfl ?_
    refine xild_5 (q := 28) d_31_26 rfl ?_
    refine x_icmp_ge (q := 31) (t := 53) d_31_28 (by decide) rfl (fun c28 => ?_) (fun c28 => ?_)
    · rw [zi_le (by omega) (by omega) (by omega) (by omega)] at c28
      exact absurd c28 (by omega)
    · rw [zi_le (by omega) (by omega) (by omega) (by omega)] at c28
      refine xald_0 (q := 32) d_31_31 rfl ?_
      refine xg_G_links hn (q := 35) d_31_32 rfl fl_G_32 ?_
      refine xild_4 (q := 37) d_31_35 rfl ?_
      refine xild_6 (q := 39) d_31_37 rfl ?_
      refine z_iadd (q := 40) d_31_39 rfl ?_
      refine xald_3 (q := 41) d_31_40 rfl ?_
      refine xild_6 (q := 43) d_31_41 rfl ?_
      refine xcV1 (q := 46) d_31_43 rfl lk_G_110 mo_21 ⟨by decide +kernel, by decide +kernel⟩ (by simp [Value.category]) (by decide +kernel) (by simp [Value.category]) (rk_lt hr hn).1 (vg_rk hr) ?_
      refine c_numberAt hn hr hL (i := (j : Int)) (by omega) ?_
      dsimp only [ax_ps]
      rw [en1]
      refine xs_links (q := 47) hn d_31_46 rfl (by omega) (by omega) ?_
      refine xincz_6 (q := 50) d_31_47 rfl ?_
      refine x_goto (t := 24) d_31_50 (by decide) ?_
      rw [show (j : Int) + 1 = ((j + 1 : Nat) : Int) by omega, show (((rsN i l : Nat) : Int) + (j : Int)).toNat = rsN i l + j by omega]
      refine ih (j + 1) _ (by omega) (fun q hq => by rw [va_un _ _ _ hq]; exact hF q hq) (fun p hp => ?_) (fun q hq => ?_)
      · rw [va_us, va_un _ _ _ (fun e => hp (by rw [e]; omega))]; exact hF3 p hp
      · rw [va_us]
        by_cases e : q = j
        · rw [e, va_us]
        · rw [va_un _ _ _ (by omega)]; exact hw q (by omega)
set_option maxHeartbeats 2000000 in
theorem c_writeRow {sc : ax_S} {σ : Nat → ax_C} {I : Nat → Int} {F : Nat → Nat → Int} {n bc bs : Nat} {K : ax_K} (hn : 22 ≤ n) {rows : Nat → Nat → List Nat} {N : Nat} (hG : GW F rows N) {r : Nat} (hr : r < 6) {L : List Nat} (hL : RK r I F L) {wd : Nat} (hwd : I 3 = wd) (hwd6 : wd ≤ 6) {i l : Nat} (hi : i < 100) (hl : l < 5) (hlen : L.length ≤ limN wd l) (hnum : ∀ x ∈ L, x % 100 < N)
    (k : ∀ F', GW F' (rset rows i l (L.map (· % 100))) N → (∀ j, j ≠ 3 → j ≠ 4 → F' j = F j) → K none (vg σ I F', n, bc, bs)) : Ex sc 31 0 (ax_en 31 [.ref 5, .int (zi i), .int (zi l), .ref (rkO r)]) [] (vg σ I F, n, bc, bs) K := by
  have hI := hL.1
  have hcl := hL.2.1
  have hc2 := rkC_le r
  have hlr := lim_rl (l := l) hwd6
  show Ex sc 31 0 [some (.ref 5), some (.int (zi i)), some (.int (zi l)), some (.ref (rkO r)), none, none, none] [] (vg σ I F, n, bc, bs) K
  refine xild_1 (q := 1) d_31_0 rfl ?_
  refine xild_2 (q := 2) d_31_1 rfl ?_
  refine xcS2 (q := 5) d_31_2 rfl lk_G_63 mo_26 ⟨by decide +kernel, by decide +kernel⟩ (by simp [Value.category]) (by decide +kernel) (by simp [Value.category])  ?_
  refine c_rowStart hi hl ?_
  dsimp only [ax_ps]
  refine xist_4 (q := 7) d_31_5 rfl ?_
  refine xald_3 (q := 8) d_31_7 rfl ?_
  refine xg_R_size hr hn (q := 11) d_31_8 rfl fl_G_135 ?_
  refine xald_0 (q := 12) d_31_11 rfl ?_
  refine xild_2 (q := 13) d_31_12 rfl ?_
  refine xcV1 (q := 16) d_31_13 rfl lk_G_113 mo_28 ⟨by decide +kernel, by decide +kernel⟩ (by simp [Value.category]) (by decide +kernel) (by simp [Value.category]) (by omega) rfl ?_
  refine c_rowLimit hn hwd hl ?_
  dsimp only [ax_ps]
  rw [show (if l = 0 then 2 * (wd : Int) else (wd : Int)) = ((limN wd l : Nat) : Int) by unfold limN; split <;> omega]
  refine z_mmin (by constructor <;> omega) (by have := rl_b l; constructor <;> omega) (q := 19) d_31_16 rfl li_G_83 (by decide +kernel) (by simp [Value.category]) ?_
  rw [show (if ((limN wd l : Nat) : Int) < I (10 + r) then ((limN wd l : Nat) : Int) else I (10 + r)) = (L.length : Int) by rw [hI, if_neg (by omega)]]
  refine xist_5 (q := 21) d_31_19 rfl ?_
  refine x_iconst (q := 22) (v := zi (0)) d_31_21 rfl rfl ?_
  refine xist_6 (q := 24) d_31_22 rfl ?_
  exact lq_writeRow hn hG hr hL hi hl (by omega) hnum k L.length 0 F (by omega) (fun _ _ => rfl) (fun _ _ => rfl) (fun q hq => absurd hq (Nat.not_lt_zero _))
set_option maxHeartbeats 2000000 in
theorem lq_linkBack {sc : ax_S} {σ : Nat → ax_C} {I0 : Nat → Int} {F0 : Nat → Nat → Int} {n bc bs : Nat} {K : ax_K} (hn : 22 ≤ n) {P N M : Nat} (hV0 : VW I0 F0 P N M) {w : Nat → Int} (hw0 : F0 2 = w) {rows : Nat → Nat → List Nat} (hG0 : GW F0 rows N) {i l x : Nat} (hi : i < N) (hl : l < 5)
    (kk : ∀ I F t6, RK 2 I F (mPool (kfW w P M i) (rows i l) []) → OffI 2 I0 I → OffF 2 F0 F → Ex sc 32 62 [some (.ref 5), some (.int (zi i)), some (.int (zi l)), some (.int (zi x)), some (.int (zi (rows i l).length)), some (.int (zi (rows i l).length)), t6] [] (vg σ I F, n, bc, bs) K) :
    ∀ (d j : Nat) (L : List Nat) (I : Nat → Int) (F : Nat → Nat → Int) (t6 : Option Value), j + d = (rows i l).length → L.length = j → Srt L → mPool (kfW w P M i) ((rows i l).drop j) L = mPool (kfW w P M i) (rows i l) [] → RK 2 I F L → OffI 2 I0 I → OffF 2 F0 F → Ex sc 32 18 [some (.ref 5), some (.int (zi i)), some (.int (zi l)), some (.int (zi x)), some (.int (zi (rows i l).length)), some (.int (zi j)), t6] [] (vg σ I F, n, bc, bs) K := by
  have hN2 := hV0.2.2.2.2.1
  have hrow := hG0 i l (by omega) hl
  have hlen := hrow.2.1
  have hrl := rl_b l
  intro d
  induction d with
  | zero =>
    intro j L I F t6 hj hlj hs hp hL hOI hOF
    have hjl : j = (rows i l).length := by omega
    subst hjl
    rw [List.drop_length] at hp
    have hp : L = mPool (kfW w P M i) (rows i l) [] := hp
    rw [hp] at hL
    refine xild_5 (q := 20) d_32_18 rfl ?_
    refine xild_4 (q := 22) d_32_20 rfl ?_
    refine x_icmp_ge (q := 25) (t := 62) d_32_22 (by decide) rfl (fun c22 => ?_) (fun c22 => ?_)
    · rw [zi_le (by omega) (by omega) (by omega) (by omega)] at c22
      exact kk I F t6 hL hOI hOF
    · rw [zi_le (by omega) (by omega) (by omega) (by omega)] at c22
      exact absurd c22 (by omega)
  | succ d ih =>
    intro j L I F t6 hj hlj hs hp hL hOI hOF
    have hjl : j < (rows i l).length := by omega
    rw [drop_get hjl] at hp
    have hy : (rows i l).getD j 0 < N := hrow.2.2.2 _ (gd_mem hjl)
    have hV : VW I F P N M := hV0.same (hOI _ (by decide)) (hOI _ (by decide)) (hOI _ (by decide)) (hOF _ (by decide)) (hOF _ (by decide)) (hOF _ (by decide))
    have hG : GW F rows N := hG0.same (hOF _ (by decide)) (hOF _ (by decide))
    have hw : F 2 = w := (hOF _ (by decide)).trans hw0
    obtain ⟨b1, b2, b3, b4, b5⟩ := kf_b hV hw (show i ≤ 100 by omega) (show (rows i l).getD j 0 < 100 by omega)
    refine xild_5 (q := 20) d_32_18 rfl ?_
    refine xild_4 (q := 22) d_32_20 rfl ?_
    refine x_icmp_ge (q := 25) (t := 62) d_32_22 (by decide) rfl (fun c22 => ?_) (fun c22 => ?_)
    · rw [zi_le (by omega) (by omega) (by omega) (by omega)] at c22
      exact absurd c22 (by omega)
    · rw [zi_le (by omega) (by omega) (by omega) (by omega)] at c22
      refine xald_0 (q := 26) d_32_25 rfl ?_
      refine xild_1 (q := 27) d_32_26 rfl ?_
      refine xild_2 (q := 28) d_32_27 rfl ?_
      refine xild_5 (q := 30) d_32_28 rfl ?_
      refine xcV3 (q := 33) d_32_30 rfl lk_G_107 mo_25 ⟨by decide +kernel, by decide +kernel⟩ (by simp [Value.category]) (by decide +kernel) (by simp [Value.category]) (by omega) rfl ?_
      refine c_linkAt hn hG (i := i) (l := l) (j := j) (by omega) hl hjl ?_
      dsimp only [ax_ps]
      refine xist_6 (q := 35) d_32_33 rfl ?_
      refine xald_0 (q := 36) d_32_35 rfl ?_
      refine xg_G_pool hn (q := 39) d_32_36 rfl fl_G_58 ?_
      refine xild_6 (q := 41) d_32_39 rfl ?_
      refine xald_0 (q := 42) d_32_41 rfl ?_
      refine xg_G_vectors hn (q := 45) d_32_42 rfl fl_G_11 ?_
      refine xild_1 (q := 46) d_32_45 rfl ?_
      refine xild_6 (q := 48) d_32_46 rfl ?_
      refine x_bipush (q := 50) (v := zi (100)) d_32_48 rfl (by decide) ?_
      refine xcV3 (q := 53) d_32_50 rfl lk_G_128 mo_17 ⟨by decide +kernel, by decide +kernel⟩ (by simp [Value.category]) (by decide +kernel) (by simp [Value.category]) (by omega) rfl ?_
      refine c_apart hn hV (a := i) (b := (rows i l).getD j 0) (q := 100) (by omega) (by omega) (by omega) ?_
      dsimp only [ax_ps]
      rw [farV_w hw, show farW w P M 100 i ((rows i l).getD j 0) = (((farW w P M 100 i ((rows i l).getD j 0)).toNat : Nat) : Int) by omega]
      have hkey : (farW w P M 100 i ((rows i l).getD j 0)).toNat * 100 + (rows i l).getD j 0 = (kfW w P M i) ((rows i l).getD j 0) := rfl
      refine xcV2 (q := 56) d_32_53 rfl lk_G_131 mo_19 ⟨by decide +kernel, by decide +kernel⟩ (by simp [Value.category]) (by decide +kernel) (by simp [Value.category]) (rk_lt (by decide) hn).1 (vg_rk (by decide)) ?_
      refine c_put hn (by decide) hL (show L.length < 13 by omega) (num := (rows i l).getD j 0) (far := (farW w P M 100 i ((rows i l).getD j 0)).toNat) (by rw [hkey]; exact b3) hs ?_
      intro I2 F2 hL2 hOI2 hOF2
      dsimp only [ax_ps]
      rw [hkey] at hL2
      refine xincz_5 (q := 59) d_32_56 rfl ?_
      refine x_goto (t := 18) d_32_59 (by decide) ?_
      rw [show (j : Int) + 1 = ((j + 1 : Nat) : Int) by omega]
      exact ih (j + 1) _ I2 F2 _ (by omega) (by rw [ins_len]; omega) (ins_srt hs) hp hL2 (fun q hq => (hOI2 q hq).trans (hOI q hq)) (fun q hq => (hOF2 q hq).trans (hOF q hq))
set_option maxHeartbeats 2000000 in
theorem lb_end {sc : ax_S} {σ : Nat → ax_C} {I : Nat → Int} {F : Nat → Nat → Int} {n bc bs : Nat} {K : ax_K} (hn : 22 ≤ n) {rows : Nat → Nat → List Nat} {N : Nat} (hG : GW F rows N) {L : List Nat} (hL : RK 2 I F L) {wd : Nat} (hwd : I 3 = wd) (hwd6 : wd ≤ 6) {i l : Nat} (hi : i < N) (hN2 : N ≤ 100) (hl : l < 5) (hlen : L.length ≤ limN wd l) (hnum : ∀ x ∈ L, x % 100 < N) {x3 x4 x5 x6 : Option Value}
    (k : ∀ F', GW F' (rset rows i l (L.map (· % 100))) N → (∀ j, j ≠ 3 → j ≠ 4 → F' j = F j) → K none (vg σ I F', n, bc, bs)) : Ex sc 32 109 [some (.ref 5), some (.int (zi i)), some (.int (zi l)), x3, x4, x5, x6] [] (vg σ I F, n, bc, bs) K := by
  refine xald_0 (q := 110) d_32_109 rfl ?_
  refine xild_1 (q := 111) d_32_110 rfl ?_
  refine xild_2 (q := 112) d_32_111 rfl ?_
  refine xald_0 (q := 113) d_32_112 rfl ?_
  refine xg_G_pool hn (q := 116) d_32_113 rfl fl_G_58 ?_
  refine xcV3 (q := 119) d_32_116 rfl lk_G_120 mo_31 ⟨by decide +kernel, by decide +kernel⟩ (by simp [Value.category]) (by decide +kernel) (by simp [Value.category]) (by omega) rfl ?_
  refine c_writeRow hn hG (by decide) hL hwd hwd6 (i := i) (l := l) (by omega) hl hlen hnum ?_
  intro F5 hG5 hF5
  dsimp only [ax_ps]
  refine x_vret d_32_119 rfl ?_
  exact k F5 hG5 hF5
set_option maxHeartbeats 2000000 in
theorem c_linkBack {sc : ax_S} {σ : Nat → ax_C} {I : Nat → Int} {F : Nat → Nat → Int} {n bc bs : Nat} {K : ax_K} (hn : 22 ≤ n) {P N M : Nat} (hV : VW I F P N M) {w : Nat → Int} (hw : F 2 = w) {rows : Nat → Nat → List Nat} (hG : GW F rows N) {wd : Nat} (hwd : I 3 = wd) (hwd6 : wd ≤ 6) {car : Bool} (hcar : I 4 = if car = true then 1 else 0) {i l x : Nat} (hi : i < N) (hl : l < 5) (hx : x < N)
    (k : ∀ I' F', GW F' (rset rows i l (mBack (kfW w P M i) (fbW w P M) car (limN wd l) (rows i l) x)) N → FrJ I F I' F' → K none (vg σ I' F', n, bc, bs)) : Ex sc 32 0 (ax_en 32 [.ref 5, .int (zi i), .int (zi l), .int (zi x)]) [] (vg σ I F, n, bc, bs) K := by
  have hN2 := hV.2.2.2.2.1
  have hrow := hG i l (by omega) hl
  have hlen := hrow.2.1
  have hrl := rl_b l
  have hlr := lim_rl (l := l) hwd6
  obtain ⟨b1, b2, b3, b4, b5⟩ := kf_b hV hw (show i ≤ 100 by omega) (show x < 100 by omega)
  have hkk : ∀ z, z < N → (kfW w P M i) z % 100 = z := fun z hz => (kf_b hV hw (show i ≤ 100 by omega) (show z < 100 by omega)).2.2.2.1
  show Ex sc 32 0 [some (.ref 5), some (.int (zi i)), some (.int (zi l)), some (.int (zi x)), none, none, none] [] (vg σ I F, n, bc, bs) K
  refine xald_0 (q := 1) d_32_0 rfl ?_
  refine xg_G_pool hn (q := 4) d_32_1 rfl fl_G_58 ?_
  refine xcV0 (q := 7) d_32_4 rfl lk_G_91 mo_14 ⟨by decide +kernel, by decide +kernel⟩  (by decide +kernel) (by simp [Value.category]) (rk_lt (by decide) hn).1 (vg_rk (by decide)) ?_
  refine c_empty hn (by decide) ?_
  intro I1 hE hO1
  dsimp only [ax_ps]
  have hV1 : VW I1 F P N M := hV.same (hO1 _ (by decide)) (hO1 _ (by decide)) (hO1 _ (by decide)) rfl rfl rfl
  have hw1 := hw
  have hG1 := hG
  refine xald_0 (q := 8) d_32_7 rfl ?_
  refine xild_1 (q := 9) d_32_8 rfl ?_
  refine xild_2 (q := 10) d_32_9 rfl ?_
  refine xcV2 (q := 13) d_32_10 rfl lk_G_104 mo_24 ⟨by decide +kernel, by decide +kernel⟩ (by simp [Value.category]) (by decide +kernel) (by simp [Value.category]) (by omega) rfl ?_
  refine c_rowSize hn hG (i := i) (l := l) (by omega) hl ?_
  dsimp only [ax_ps]
  refine xist_4 (q := 15) d_32_13 rfl ?_
  refine x_iconst (q := 16) (v := zi (0)) d_32_15 rfl rfl ?_
  refine xist_5 (q := 18) d_32_16 rfl ?_
  refine lq_linkBack hn hV1 hw1 hG1 hi hl ?_ (rows i l).length 0 [] I1 F _ (by omega) rfl List.Pairwise.nil (by rw [List.drop_zero]) hE OffI.rf OffF.rf
  intro I2 F2 t6 hL2 hOI2a hOF2
  have hOI2 : OffI 2 I I2 := fun q hq => (hOI2a q hq).trans (hO1 q hq)
  have hV2 : VW I2 F2 P N M := hV.same (hOI2 _ (by decide)) (hOI2 _ (by decide)) (hOI2 _ (by decide)) (hOF2 _ (by decide)) (hOF2 _ (by decide)) (hOF2 _ (by decide))
  have hw2 : F2 2 = w := (hOF2 _ (by decide)).trans hw
  have hpl : (mPool (kfW w P M i) (rows i l) []).length = (rows i l).length := by rw [mPool_len]; simp
  refine xald_0 (q := 63) d_32_62 rfl ?_
  refine xg_G_pool hn (q := 66) d_32_63 rfl fl_G_58 ?_
  refine xild_3 (q := 67) d_32_66 rfl ?_
  refine xald_0 (q := 68) d_32_67 rfl ?_
  refine xg_G_vectors hn (q := 71) d_32_68 rfl fl_G_11 ?_
  refine xild_1 (q := 72) d_32_71 rfl ?_
  refine xild_3 (q := 73) d_32_72 rfl ?_
  refine x_bipush (q := 75) (v := zi (100)) d_32_73 rfl (by decide) ?_
  refine xcV3 (q := 78) d_32_75 rfl lk_G_128 mo_17 ⟨by decide +kernel, by decide +kernel⟩ (by simp [Value.category]) (by decide +kernel) (by simp [Value.category]) (by omega) rfl ?_
  refine c_apart hn hV2 (a := i) (b := x) (q := 100) (by omega) (by omega) (by omega) ?_
  dsimp only [ax_ps]
  rw [farV_w hw2, show farW w P M 100 i x = (((farW w P M 100 i x).toNat : Nat) : Int) by omega]
  have hkey : (farW w P M 100 i x).toNat * 100 + x = (kfW w P M i) x := rfl
  refine xcV2 (q := 81) d_32_78 rfl lk_G_131 mo_19 ⟨by decide +kernel, by decide +kernel⟩ (by simp [Value.category]) (by decide +kernel) (by simp [Value.category]) (rk_lt (by decide) hn).1 (vg_rk (by decide)) ?_
  refine c_put hn (by decide) hL2 (show (mPool (kfW w P M i) (rows i l) []).length < 13 by omega) (num := x) (far := (farW w P M 100 i x).toNat) (by rw [hkey]; exact b3) (mPool_srt _ _ List.Pairwise.nil) ?_
  intro I3 F3 hL3 hOI3 hOF3
  dsimp only [ax_ps]
  rw [hkey] at hL3
  have hs3 := hL3.1
  have hs3l := hL3.2.1
  have hil : (ins ((kfW w P M i) x) (mPool (kfW w P M i) (rows i l) [])).length = (rows i l).length + 1 := by rw [ins_len]; omega
  have hwd3 : I3 3 = wd := by rw [hOI3 _ (by decide), hOI2 _ (by decide)]; exact hwd
  have hV3 : VW I3 F3 P N M := hV2.same (hOI3 _ (by decide)) (hOI3 _ (by decide)) (hOI3 _ (by decide)) (hOF3 _ (by decide)) (hOF3 _ (by decide)) (hOF3 _ (by decide))
  have hw3 : F3 2 = w := (hOF3 _ (by decide)).trans hw2
  have hcar3 : I3 4 = if car = true then 1 else 0 := by rw [hOI3 _ (by decide), hOI2 _ (by decide)]; exact hcar
  have hG3 : GW F3 rows N := hG.same (by rw [hOF3 _ (by decide), hOF2 _ (by decide)]) (by rw [hOF3 _ (by decide), hOF2 _ (by decide)])
  have hnum : ∀ q ∈ mPick (fbW w P M) car (limN wd l) (ins ((kfW w P M i) x) (mPool (kfW w P M i) (rows i l) [])), q % 100 < N := fun q hq => by
    rcases ins_mem.mp (mPick_mem hq) with rfl | hq
    · rw [hkk x hx]; exact hx
    · rcases (mPool_mem _ _ [] q).mp hq with hq | ⟨z, hz, rfl⟩
      · cases hq
      · rw [hkk z (hrow.2.2.2 z hz)]; exact hrow.2.2.2 z hz
  refine xald_0 (q := 82) d_32_81 rfl ?_
  refine xg_G_pool hn (q := 85) d_32_82 rfl fl_G_58 ?_
  refine xg_R_size (by decide) hn (q := 88) d_32_85 rfl fl_G_135 ?_
  refine xald_0 (q := 89) d_32_88 rfl ?_
  refine xild_2 (q := 90) d_32_89 rfl ?_
  refine xcV1 (q := 93) d_32_90 rfl lk_G_113 mo_28 ⟨by decide +kernel, by decide +kernel⟩ (by simp [Value.category]) (by decide +kernel) (by simp [Value.category]) (by omega) rfl ?_
  refine c_rowLimit hn hwd3 hl ?_
  dsimp only [ax_ps]
  rw [show (if l = 0 then 2 * (wd : Int) else (wd : Int)) = ((limN wd l : Nat) : Int) by unfold limN; split <;> omega]
  refine x_icmp_le (q := 96) (t := 109) d_32_93 (by decide) rfl (fun c93 => ?_) (fun c93 => ?_)
  · rw [zi_le (by rw [hs3]; omega) (by rw [hs3]; omega) (by omega) (by omega)] at c93
    first
      | (have ep : mPick (fbW w P M) car (limN wd l) (ins ((kfW w P M i) x) (mPool (kfW w P M i) (rows i l) [])) = ins ((kfW w P M i) x) (mPool (kfW w P M i) (rows i l) []) := (by unfold mPick; rw [if_neg (by omega)]); have hb : (mBack (kfW w P M i) (fbW w P M) car (limN wd l) (rows i l) x) = (ins ((kfW w P M i) x) (mPool (kfW w P M i) (rows i l) [])).map (· % 100) := (by unfold mBack; rw [ep]); rw [hb] at k; rw [ep] at hnum; refine lb_end hn hG3 hL3 hwd3 hwd6 hi hN2 hl (by omega) hnum ?_; intro F5 hG5 hF5; exact k I3 F5 hG5 ⟨fun q a b c d => by rw [hOI3 q (by omega), hOI2 q (by omega)], fun q a b c d e f => by rw [hF5 q a b, hOF3 q (by omega), hOF2 q (by omega)]⟩)
      | (have ep : mPick (fbW w P M) car (limN wd l) (ins ((kfW w P M i) x) (mPool (kfW w P M i) (rows i l) [])) = mChoose (fbW w P M) car (limN wd l) (ins ((kfW w P M i) x) (mPool (kfW w P M i) (rows i l) [])) [] := (by unfold mPick; rw [if_pos (by omega)]); have hb : (mBack (kfW w P M i) (fbW w P M) car (limN wd l) (rows i l) x) = (mChoose (fbW w P M) car (limN wd l) (ins ((kfW w P M i) x) (mPool (kfW w P M i) (rows i l) [])) []).map (· % 100) := (by unfold mBack; rw [ep]); rw [hb] at k; rw [ep] at hnum; refine lb_end hn (hG3.same (hOF4 _ (by decide)) (hOF4 _ (by decide))) hL4 ((hOI4 _ (by decide)).trans hwd3) hwd6 hi hN2 hl (mChoose_len _ _ (Nat.zero_le _)) hnum ?_; intro F5 hG5 hF5; exact k I4 F5 hG5 ⟨fun q a b c d => by rw [hOI4 q (by omega), hOI3 q (by omega), hOI2 q (by omega)], fun q a b c d e f => by rw [hF5 q a b, hOF4 q (by omega), hOF3 q (by omega), hOF2 q (by omega)]⟩)
  · rw [zi_le (by rw [hs3]; omega) (by rw [hs3]; omega) (by omega) (by omega)] at c93
    refine xald_0 (q := 97) d_32_96 rfl ?_
    refine xald_0 (q := 98) d_32_97 rfl ?_
    refine xg_G_pool hn (q := 101) d_32_98 rfl fl_G_58 ?_
    refine xald_0 (q := 102) d_32_101 rfl ?_
    refine xild_2 (q := 103) d_32_102 rfl ?_
    refine xcV1 (q := 106) d_32_103 rfl lk_G_113 mo_28 ⟨by decide +kernel, by decide +kernel⟩ (by simp [Value.category]) (by decide +kernel) (by simp [Value.category]) (by omega) rfl ?_
    refine c_rowLimit hn hwd3 hl ?_
    dsimp only [ax_ps]
    rw [show (if l = 0 then 2 * (wd : Int) else (wd : Int)) = ((limN wd l : Nat) : Int) by unfold limN; split <;> omega]
    refine xcV2 (q := 109) d_32_106 rfl lk_G_116 mo_29 ⟨by decide +kernel, by decide +kernel⟩ (by simp [Value.category]) (by decide +kernel) (by simp [Value.category]) (by omega) rfl ?_
    refine c_choose hn hV3 hw3 (by decide) hL3 (W := limN wd l) (by omega) hcar3 ?_
    intro I4 F4 hL4 hOI4 hOF4
    dsimp only [ax_ps]
    first
      | (have ep : mPick (fbW w P M) car (limN wd l) (ins ((kfW w P M i) x) (mPool (kfW w P M i) (rows i l) [])) = ins ((kfW w P M i) x) (mPool (kfW w P M i) (rows i l) []) := (by unfold mPick; rw [if_neg (by omega)]); have hb : (mBack (kfW w P M i) (fbW w P M) car (limN wd l) (rows i l) x) = (ins ((kfW w P M i) x) (mPool (kfW w P M i) (rows i l) [])).map (· % 100) := (by unfold mBack; rw [ep]); rw [hb] at k; rw [ep] at hnum; refine lb_end hn hG3 hL3 hwd3 hwd6 hi hN2 hl (by omega) hnum ?_; intro F5 hG5 hF5; exact k I3 F5 hG5 ⟨fun q a b c d => by rw [hOI3 q (by omega), hOI2 q (by omega)], fun q a b c d e f => by rw [hF5 q a b, hOF3 q (by omega), hOF2 q (by omega)]⟩)
      | (have ep : mPick (fbW w P M) car (limN wd l) (ins ((kfW w P M i) x) (mPool (kfW w P M i) (rows i l) [])) = mChoose (fbW w P M) car (limN wd l) (ins ((kfW w P M i) x) (mPool (kfW w P M i) (rows i l) [])) [] := (by unfold mPick; rw [if_pos (by omega)]); have hb : (mBack (kfW w P M i) (fbW w P M) car (limN wd l) (rows i l) x) = (mChoose (fbW w P M) car (limN wd l) (ins ((kfW w P M i) x) (mPool (kfW w P M i) (rows i l) [])) []).map (· % 100) := (by unfold mBack; rw [ep]); rw [hb] at k; rw [ep] at hnum; refine lb_end hn (hG3.same (hOF4 _ (by decide)) (hOF4 _ (by decide))) hL4 ((hOI4 _ (by decide)).trans hwd3) hwd6 hi hN2 hl (mChoose_len _ _ (Nat.zero_le _)) hnum ?_; intro F5 hG5 hF5; exact k I4 F5 hG5 ⟨fun q a b c d => by rw [hOI4 q (by omega), hOI3 q (by omega), hOI2 q (by omega)], fun q a b c d e f => by rw [hF5 q a b, hOF4 q (by omega), hOF3 q (by omega), hOF2 q (by omega)]⟩)
