/-! THE REFERENCE: nearCount, nearOf, outermost -/
theorem cntI_congr {p p' : Nat → Int} : ∀ (N : Nat), (∀ x, x < N → p x = p' x) → cntI p N = cntI p' N
  | 0, _ => rfl
  | N + 1, h => by
    show cntI p N + _ = cntI p' N + _
    rw [cntI_congr N (fun x hx => h x (by omega)), h N (by omega)]
theorem cnt_len : ∀ (N : Nat) (L : List Nat), L.Nodup → (∀ x ∈ L, x < N) → cntI (fun x => if x ∈ L then 1 else 0) N = L.length
  | 0, L, _, h => by
    cases L with
    | nil => rfl
    | cons a l => exact absurd (h a List.mem_cons_self) (Nat.not_lt_zero _)
  | N + 1, L, hd, h => by
    show cntI (fun x => if x ∈ L then 1 else 0) N + (if (if N ∈ L then (1 : Int) else 0) = 1 then 1 else 0) = L.length
    by_cases hN : N ∈ L
    · have h1 := cnt_len N (L.erase N) (hd.erase N) (fun x hx => by
        have h2 := (hd.mem_erase_iff).mp hx
        have h3 := h x h2.2
        have h4 := h2.1
        omega)
      have h5 : cntI (fun x => if x ∈ L.erase N then 1 else 0) N = cntI (fun x => if x ∈ L then 1 else 0) N := cntI_congr N (fun x hx => by
        have : x ∈ L.erase N ↔ x ∈ L := ⟨fun h => List.mem_of_mem_erase h, fun h => (hd.mem_erase_iff).mpr ⟨by omega, h⟩⟩
        by_cases hx2 : x ∈ L
        · rw [if_pos hx2, if_pos (this.mpr hx2)]
        · rw [if_neg hx2, if_neg (fun z => hx2 (this.mp z))])
      rw [← h5, h1, if_pos (if_pos hN), List.length_erase_of_mem hN]
      have : 0 < L.length := List.length_pos_of_mem hN
      omega
    · have h1 := cnt_len N L hd (fun x hx => by
        have h3 := h x hx
        have h4 : x ≠ N := fun e => hN (e ▸ hx)
        omega)
      rw [h1, if_neg (by rw [if_neg hN]; decide)]
      omega
/-- a row in order of its keys -/
def RS (kf : Nat → Nat) (L : List Nat) (N : Nat) : Prop := (L.map kf).Pairwise (· < ·) ∧ ∀ x ∈ L, x < N
theorem RS.nodup {kf : Nat → Nat} {L : List Nat} {N : Nat} (h : RS kf L N) : L.Nodup := by
  have h1 := List.pairwise_map.mp h.1
  exact h1.imp (fun hab e => by rw [e] at hab; exact Nat.lt_irrefl _ hab)
theorem RS.lt {kf : Nat → Nat} {L : List Nat} {N : Nat} (h : RS kf L N) {i j : Nat} (hi : i < j) (hj : j < L.length) : kf (L.getD i 0) < kf (L.getD j 0) := by
  have h1 := List.pairwise_iff_getElem.mp (List.pairwise_map.mp h.1) i j (by omega) hj hi
  rw [List.getD_eq_getElem?_getD, List.getElem?_eq_getElem (show i < L.length by omega), List.getD_eq_getElem?_getD, List.getElem?_eq_getElem hj]
  exact h1
theorem RS.cnt {kf : Nat → Nat} {L : List Nat} {N : Nat} (h : RS kf L N) {t : Nat} (ht : t < L.length) : cntI (fun x => if x ∈ L ∧ kf x < kf (L.getD t 0) then 1 else 0) N = t := by
  have hl : (L.take t).length = t := by rw [List.length_take]; omega
  have h1 := cnt_len N (L.take t) (h.nodup.sublist (List.take_sublist t L)) (fun x hx => h.2 x (List.mem_of_mem_take hx))
  rw [hl] at h1
  rw [← h1]
  apply cntI_congr
  intro x _
  have : (x ∈ L ∧ kf x < kf (L.getD t 0)) ↔ x ∈ L.take t := by
    constructor
    · rintro ⟨hx, hlt⟩
      obtain ⟨i, hi, rfl⟩ := List.getElem_of_mem hx
      have e1 : L.getD i 0 = L[i] := by rw [List.getD_eq_getElem?_getD, List.getElem?_eq_getElem hi]; rfl
      have hit : i < t := by
        rcases Nat.lt_trichotomy i t with q | q | q
        · exact q
        · rw [← q, e1] at hlt; exact absurd hlt (Nat.lt_irrefl _)
        · have := h.lt q hi
          rw [e1] at this
          omega
      exact List.mem_of_getElem? (by rw [List.getElem?_take_of_lt hit]; exact List.getElem?_eq_getElem hi)
    · intro hx
      obtain ⟨i, hi, rfl⟩ := List.getElem_of_mem hx
      rw [List.getElem_take]
      have hil : i < t := by omega
      have := h.lt hil ht
      rw [List.getD_eq_getElem?_getD, List.getElem?_eq_getElem (show i < L.length by omega)] at this
      exact ⟨List.getElem_mem _, this⟩
  by_cases q : x ∈ L ∧ kf x < kf (L.getD t 0)
  · rw [if_pos q, if_pos (this.mp q)]
  · rw [if_neg q, if_neg (fun z => q (this.mpr z))]
theorem RS.inj {kf : Nat → Nat} {L : List Nat} {N : Nat} (h : RS kf L N) {i j : Nat} (hi : i < L.length) (hj : j < L.length) (e : L.getD i 0 = L.getD j 0) : i = j := by
  rcases Nat.lt_trichotomy i j with q | q | q
  · have := h.lt q hj
    rw [e] at this
    omega
  · exact q
  · have := h.lt q hi
    rw [e] at this
    omega

set_option maxHeartbeats 2000000 in
theorem lt_nearCount {sc : ax_S} {σ : Nat → ax_C} {J : Nat → Int} {G : Nat → Nat → Int} {n bc bs : Nat} {K : ax_K} (hn : 38 ≤ n) {N : Nat} (hN : J 7 = N) (hN2 : N ≤ 100) {R : Nat → Nat → List Nat} (hR : NR G R) {l i : Nat} (hl : l < 5) (hi : i < 100) (k : K (some (.int (zi (cntI (fun x => if x ∈ (R i l) then 1 else 0) N)))) (mg σ J G, n, bc, bs)) : ∀ (d j : Nat), j + d = N → Ex sc 91 5 [some (.ref 22), some (.int (zi l)), some (.int (zi i)), some (.int (zi (cntI (fun x => if x ∈ (R i l) then 1 else 0) j))), some (.int (zi j))] [] (mg σ J G, n, bc, bs) K := by
  intro d
  induction d with
  | zero =>
    intro j hj
    have hjN : j = N := by omega
    subst hjN
    refine xild_4 (q := 7) d_91_5 rfl ?_
    refine xald_0 (q := 8) d_91_7 rfl ?_
    refine yg_count hn (q := 11) d_91_8 rfl fl_M_76 ?_
    refine x_icmp_ge (q := 14) (t := 39) d_91_11 (by decide) rfl (fun c11 => ?_) (fun c11 => ?_)
    · rw [zi_le (by omega) (by omega) (by omega) (by omega)] at c11
      refine xild_3 (q := 40) d_91_39 rfl ?_
      refine x_iret d_91_40 rfl rfl ?_
      exact k
    · rw [zi_le (by omega) (by omega) (by omega) (by omega)] at c11
      exact absurd c11 (by omega)
  | succ d ih =>
    intro j hj
    have e1 : cntI (fun x => if x ∈ (R i l) then 1 else 0) (j + 1) = cntI (fun x => if x ∈ (R i l) then 1 else 0) j + (if (if j ∈ (R i l) then (1 : Int) else 0) = 1 then 1 else 0) := rfl
    refine xild_4 (q := 7) d_91_5 rfl ?_
    refine xald_0 (q := 8) d_91_7 rfl ?_
    refine yg_count hn (q := 11) d_91_8 rfl fl_M_76 ?_
    refine x_icmp_ge (q := 14) (t := 39) d_91_11 (by decide) rfl (fun c11 => ?_) (fun c11 => ?_)
    · rw [zi_le (by omega) (by omega) (by omega) (by omega)] at c11
      exact absurd c11 (by omega)
    · rw [zi_le (by omega) (by omega) (by omega) (by omega)] at c11
      refine xald_0 (q := 15) d_91_14 rfl ?_
      refine xild_1 (q := 16) d_91_15 rfl ?_
      refine xild_2 (q := 17) d_91_16 rfl ?_
      refine xild_4 (q := 19) d_91_17 rfl ?_
      refine xcV3 (q := 22) d_91_19 rfl lk_M_96 mo_92 ⟨by decide +kernel, by decide +kernel⟩ (by simp [Value.category]) (by decide +kernel) (by simp [Value.category]) (by omega) rfl ?_
      refine t_isNear hn hR (l := l) (i := i) (j := j) hl hi (by omega) ?_
      dsimp only [ax_ps]
      refine x_if_eq (q := 25) (t := 31) d_91_22 (by decide) rfl (fun c22 => ?_) (fun c22 => ?_)
      · refine xild_3 (q := 32) d_91_31 rfl ?_
        refine xist_3 (q := 33) d_91_32 rfl ?_
        refine xincz_4 (q := 36) d_91_33 rfl ?_
        refine x_goto (t := 5) d_91_36 (by decide) ?_
        rw [show (j : Int) + 1 = ((j + 1 : Nat) : Int) by omega]
        by_cases hm : j ∈ (R i l)
        · first | (rw [if_pos hm] at c22; exact absurd c22 (by decide)) | (rw [if_pos (if_pos hm)] at e1; rw [← e1]; exact ih (j + 1) (by omega))
        · first | (rw [if_neg hm] at c22; exact absurd rfl c22) | (rw [if_neg (by rw [if_neg hm]; decide), Int.add_zero] at e1; rw [← e1]; exact ih (j + 1) (by omega))
      · refine xild_3 (q := 26) d_91_25 rfl ?_
        refine x_iconst (q := 27) (v := zi (1)) d_91_26 rfl rfl ?_
        refine z_iadd (q := 28) d_91_27 rfl ?_
        refine x_goto (t := 32) d_91_28 (by decide) ?_
        refine xist_3 (q := 33) d_91_32 rfl ?_
        refine xincz_4 (q := 36) d_91_33 rfl ?_
        refine x_goto (t := 5) d_91_36 (by decide) ?_
        rw [show (j : Int) + 1 = ((j + 1 : Nat) : Int) by omega]
        by_cases hm : j ∈ (R i l)
        · first | (rw [if_pos hm] at c22; exact absurd c22 (by decide)) | (rw [if_pos (if_pos hm)] at e1; rw [← e1]; exact ih (j + 1) (by omega))
        · first | (rw [if_neg hm] at c22; exact absurd rfl c22) | (rw [if_neg (by rw [if_neg hm]; decide), Int.add_zero] at e1; rw [← e1]; exact ih (j + 1) (by omega))
set_option maxHeartbeats 2000000 in
theorem t_nearCount {sc : ax_S} {σ : Nat → ax_C} {J : Nat → Int} {G : Nat → Nat → Int} {n bc bs : Nat} {K : ax_K} (hn : 38 ≤ n) {N : Nat} (hN : J 7 = N) (hN2 : N ≤ 100) {R : Nat → Nat → List Nat} (hR : NR G R) {l i : Nat} (hl : l < 5) (hi : i < 100) (hd : (R i l).Nodup) (hlt : ∀ x ∈ (R i l), x < N) (k : K (some (.int (zi (R i l).length))) (mg σ J G, n, bc, bs)) : Ex sc 91 0 (ax_en 91 [.ref 22, .int (zi l), .int (zi i)]) [] (mg σ J G, n, bc, bs) K := by
  rw [← cnt_len N (R i l) hd hlt] at k
  show Ex sc 91 0 [some (.ref 22), some (.int (zi l)), some (.int (zi i)), none, none] [] (mg σ J G, n, bc, bs) K
  refine x_iconst (q := 1) (v := zi (0)) d_91_0 rfl rfl ?_
  refine xist_3 (q := 2) d_91_1 rfl ?_
  refine x_iconst (q := 3) (v := zi (0)) d_91_2 rfl rfl ?_
  refine xist_4 (q := 5) d_91_3 rfl ?_
  exact lt_nearCount hn hN hN2 hR hl hi k N 0 (by omega)
set_option maxHeartbeats 2000000 in
theorem lt_nearOfIn {sc : ax_S} {σ : Nat → ax_C} {J : Nat → Int} {G : Nat → Nat → Int} {n bc bs : Nat} {K : ax_K} (hn : 38 ≤ n) {N : Nat} (hN : J 7 = N) (hN2 : N ≤ 100) {R : Nat → Nat → List Nat} (hR : NR G R) {l i m : Nat} (hl : l < 5) (hi : i < N) (hF : FAb G N i) {j : Nat} (hj : j < N) (kk : ∀ t6, Ex sc 93 78 [some (.ref 22), some (.int (zi l)), some (.int (zi i)), some (.int (zi m)), some (.int (zi j)), some (.int (zi (cntI (fun x => if x ∈ (R i l) ∧ (kg G i) x < (kg G i) j then 1 else 0) N))), t6] [] (mg σ J G, n, bc, bs) K) : ∀ (d x : Nat), x + d = N → Ex sc 93 29 [some (.ref 22), some (.int (zi l)), some (.int (zi i)), some (.int (zi m)), some (.int (zi j)), some (.int (zi (cntI (fun x => if x ∈ (R i l) ∧ (kg G i) x < (kg G i) j then 1 else 0) x))), some (.int (zi x))] [] (mg σ J G, n, bc, bs) K := by
  intro d
  induction d with
  | zero =>
    intro x hx
    have hxN : x = N := by omega
    subst hxN
    refine xild_6 (q := 31) d_93_29 rfl ?_
    refine xald_0 (q := 32) d_93_31 rfl ?_
    refine yg_count hn (q := 35) d_93_32 rfl fl_M_76 ?_
    refine x_icmp_ge (q := 38) (t := 78) d_93_35 (by decide) rfl (fun c35 => ?_) (fun c35 => ?_)
    · rw [zi_le (by omega) (by omega) (by omega) (by omega)] at c35
      exact kk _
    · rw [zi_le (by omega) (by omega) (by omega) (by omega)] at c35
      exact absurd c35 (by omega)
  | succ d ih =>
    intro x hx
    have e1 : cntI (fun x => if x ∈ (R i l) ∧ (kg G i) x < (kg G i) j then 1 else 0) (x + 1) = cntI (fun x => if x ∈ (R i l) ∧ (kg G i) x < (kg G i) j then 1 else 0) x + (if (if x ∈ (R i l) ∧ (kg G i) x < (kg G i) j then (1 : Int) else 0) = 1 then 1 else 0) := rfl
    refine xild_6 (q := 31) d_93_29 rfl ?_
    refine xald_0 (q := 32) d_93_31 rfl ?_
    refine yg_count hn (q := 35) d_93_32 rfl fl_M_76 ?_
    refine x_icmp_ge (q := 38) (t := 78) d_93_35 (by decide) rfl (fun c35 => ?_) (fun c35 => ?_)
    · rw [zi_le (by omega) (by omega) (by omega) (by omega)] at c35
      exact absurd c35 (by omega)
    · rw [zi_le (by omega) (by omega) (by omega) (by omega)] at c35
      refine xald_0 (q := 39) d_93_38 rfl ?_
      refine xild_1 (q := 40) d_93_39 rfl ?_
      refine xild_2 (q := 41) d_93_40 rfl ?_
      refine xild_6 (q := 43) d_93_41 rfl ?_
      refine xcV3 (q := 46) d_93_43 rfl lk_M_96 mo_92 ⟨by decide +kernel, by decide +kernel⟩ (by simp [Value.category]) (by decide +kernel) (by simp [Value.category]) (by omega) rfl ?_
      refine t_isNear hn hR (l := l) (i := i) (j := x) hl (by omega) (by omega) ?_
      dsimp only [ax_ps]
      refine x_if_eq (q := 49) (t := 68) d_93_46 (by decide) rfl (fun c46 => ?_) (fun c46 => ?_)
      · refine xild_5 (q := 70) d_93_68 rfl ?_
        refine xist_5 (q := 72) d_93_70 rfl ?_
        refine xincz_6 (q := 75) d_93_72 rfl ?_
        refine x_goto (t := 29) d_93_75 (by decide) ?_
        rw [show (x : Int) + 1 = ((x + 1 : Nat) : Int) by omega]
        by_cases hm : x ∈ (R i l)
        · by_cases hb : (kg G i) x < (kg G i) j
          · first | (rw [if_pos hm] at c46; exact absurd c46 (by decide)) | (rw [if_pos hb] at c58; exact absurd c58 (by decide)) | (rw [if_pos (if_pos ⟨hm, hb⟩)] at e1; rw [← e1]; exact ih (x + 1) (by omega))
          · first | (rw [if_pos hm] at c46; exact absurd c46 (by decide)) | (rw [if_neg hb] at c58; exact absurd rfl c58) | (rw [if_neg (by rw [if_neg (fun z => hb z.2)]; decide), Int.add_zero] at e1; rw [← e1]; exact ih (x + 1) (by omega))
        · first | (rw [if_neg hm] at c46; exact absurd rfl c46) | (rw [if_neg (by rw [if_neg (fun z => hm z.1)]; decide), Int.add_zero] at e1; rw [← e1]; exact ih (x + 1) (by omega))
      · refine xald_0 (q := 50) d_93_49 rfl ?_
        refine xild_2 (q := 51) d_93_50 rfl ?_
        refine xild_6 (q := 53) d_93_51 rfl ?_
        refine xild_4 (q := 55) d_93_53 rfl ?_
        refine xcV3 (q := 58) d_93_55 rfl lk_M_100 mo_83 ⟨by decide +kernel, by decide +kernel⟩ (by simp [Value.category]) (by decide +kernel) (by simp [Value.category]) (by omega) rfl ?_
        refine t_before hn hN2 (o := i) (a := x) (b := j) (by omega) (by omega) hj hF ?_
        dsimp only [ax_ps]
        refine x_if_eq (q := 61) (t := 68) d_93_58 (by decide) rfl (fun c58 => ?_) (fun c58 => ?_)
        · refine xild_5 (q := 70) d_93_68 rfl ?_
          refine xist_5 (q := 72) d_93_70 rfl ?_
          refine xincz_6 (q := 75) d_93_72 rfl ?_
          refine x_goto (t := 29) d_93_75 (by decide) ?_
          rw [show (x : Int) + 1 = ((x + 1 : Nat) : Int) by omega]
          by_cases hm : x ∈ (R i l)
          · by_cases hb : (kg G i) x < (kg G i) j
            · first | (rw [if_pos hm] at c46; exact absurd c46 (by decide)) | (rw [if_pos hb] at c58; exact absurd c58 (by decide)) | (rw [if_pos (if_pos ⟨hm, hb⟩)] at e1; rw [← e1]; exact ih (x + 1) (by omega))
            · first | (rw [if_pos hm] at c46; exact absurd c46 (by decide)) | (rw [if_neg hb] at c58; exact absurd rfl c58) | (rw [if_neg (by rw [if_neg (fun z => hb z.2)]; decide), Int.add_zero] at e1; rw [← e1]; exact ih (x + 1) (by omega))
          · first | (rw [if_neg hm] at c46; exact absurd rfl c46) | (rw [if_neg (by rw [if_neg (fun z => hm z.1)]; decide), Int.add_zero] at e1; rw [← e1]; exact ih (x + 1) (by omega))
        · refine xild_5 (q := 63) d_93_61 rfl ?_
          refine x_iconst (q := 64) (v := zi (1)) d_93_63 rfl rfl ?_
          refine z_iadd (q := 65) d_93_64 rfl ?_
          refine x_goto (t := 70) d_93_65 (by decide) ?_
          refine xist_5 (q := 72) d_93_70 rfl ?_
          refine xincz_6 (q := 75) d_93_72 rfl ?_
          refine x_goto (t := 29) d_93_75 (by decide) ?_
          rw [show (x : Int) + 1 = ((x + 1 : Nat) : Int) by omega]
          by_cases hm : x ∈ (R i l)
          · by_cases hb : (kg G i) x < (kg G i) j
            · first | (rw [if_pos hm] at c46; exact absurd c46 (by decide)) | (rw [if_pos hb] at c58; exact absurd c58 (by decide)) | (rw [if_pos (if_pos ⟨hm, hb⟩)] at e1; rw [← e1]; exact ih (x + 1) (by omega))
            · first | (rw [if_pos hm] at c46; exact absurd c46 (by decide)) | (rw [if_neg hb] at c58; exact absurd rfl c58) | (rw [if_neg (by rw [if_neg (fun z => hb z.2)]; decide), Int.add_zero] at e1; rw [← e1]; exact ih (x + 1) (by omega))
          · first | (rw [if_neg hm] at c46; exact absurd rfl c46) | (rw [if_neg (by rw [if_neg (fun z => hm z.1)]; decide), Int.add_zero] at e1; rw [← e1]; exact ih (x + 1) (by omega))
set_option maxHeartbeats 2000000 in
theorem lt_nearOf {sc : ax_S} {σ : Nat → ax_C} {J : Nat → Int} {G : Nat → Nat → Int} {n bc bs : Nat} {K : ax_K} (hn : 38 ≤ n) {N : Nat} (hN : J 7 = N) (hN2 : N ≤ 100) {R : Nat → Nat → List Nat} (hR : NR G R) {l i m : Nat} (hl : l < 5) (hi : i < N) (hF : FAb G N i) (hS : RS (kg G i) (R i l) N) (hm : m < (R i l).length) (k : K (some (.int (zi ((R i l).getD m 0)))) (mg σ J G, n, bc, bs)) : ∀ (d j : Nat) (t5 t6 : Option Value), j + d = N → j ≤ (R i l).getD m 0 → Ex sc 93 3 [some (.ref 22), some (.int (zi l)), some (.int (zi i)), some (.int (zi m)), some (.int (zi j)), t5, t6] [] (mg σ J G, n, bc, bs) K := by
  have hmN : (R i l).getD m 0 < N := hS.2 _ (gd_mem hm)
  have hmm := nodup_le N (R i l) hS.nodup hS.2
  intro d
  induction d with
  | zero =>
    intro j t5 t6 hj hle
    exact absurd hmN (by omega)
  | succ d ih =>
    intro j t5 t6 hj hle
    refine xild_4 (q := 5) d_93_3 rfl ?_
    refine xald_0 (q := 6) d_93_5 rfl ?_
    refine yg_count hn (q := 9) d_93_6 rfl fl_M_76 ?_
    refine x_icmp_ge (q := 12) (t := 93) d_93_9 (by decide) rfl (fun c9 => ?_) (fun c9 => ?_)
    · rw [zi_le (by omega) (by omega) (by omega) (by omega)] at c9
      exact absurd c9 (by omega)
    · rw [zi_le (by omega) (by omega) (by omega) (by omega)] at c9
      refine xald_0 (q := 13) d_93_12 rfl ?_
      refine xild_1 (q := 14) d_93_13 rfl ?_
      refine xild_2 (q := 15) d_93_14 rfl ?_
      refine xild_4 (q := 17) d_93_15 rfl ?_
      refine xcV3 (q := 20) d_93_17 rfl lk_M_96 mo_92 ⟨by decide +kernel, by decide +kernel⟩ (by simp [Value.category]) (by decide +kernel) (by simp [Value.category]) (by omega) rfl ?_
      refine t_isNear hn hR (l := l) (i := i) (j := j) hl (by omega) (by omega) ?_
      dsimp only [ax_ps]
      refine x_if_eq (q := 23) (t := 87) d_93_20 (by decide) rfl (fun c20 => ?_) (fun c20 => ?_)
      · refine xincz_4 (q := 90) d_93_87 rfl ?_
        refine x_goto (t := 3) d_93_90 (by decide) ?_
        have hnm : j ∉ (R i l) := fun h => by rw [if_pos h] at c20; exact absurd c20 (by decide)
        rw [show (j : Int) + 1 = ((j + 1 : Nat) : Int) by omega]
        refine ih (j + 1) _ _ (by omega) ?_
        have : j ≠ (R i l).getD m 0 := fun e => hnm (by rw [e]; exact gd_mem hm)
        omega
      · refine x_iconst (q := 24) (v := zi (0)) d_93_23 rfl rfl ?_
        refine xist_5 (q := 26) d_93_24 rfl ?_
        refine x_iconst (q := 27) (v := zi (0)) d_93_26 rfl rfl ?_
        refine xist_6 (q := 29) d_93_27 rfl ?_
        have hin : j ∈ (R i l) := by
          by_cases h : j ∈ R i l
          · exact h
          · rw [if_neg h] at c20; exact absurd rfl c20
        obtain ⟨t, htl, hjt0⟩ := List.getElem_of_mem hin
        have hjt : j = (R i l).getD t 0 := by rw [List.getD_eq_getElem?_getD, List.getElem?_eq_getElem htl]; exact hjt0.symm
        have hcnt : cntI (fun x => if x ∈ (R i l) ∧ (kg G i) x < (kg G i) j then 1 else 0) N = t := by
          have := hS.cnt htl
          rw [← hjt] at this
          exact this
        refine lt_nearOfIn hn hN hN2 hR hl hi hF (show j < N by omega) ?_ N 0 (by omega)
        intro t6
        refine xild_5 (q := 80) d_93_78 rfl ?_
        refine xild_3 (q := 81) d_93_80 rfl ?_
        refine x_icmp_ne (q := 84) (t := 87) d_93_81 (by decide) rfl (fun c81 => ?_) (fun c81 => ?_)
        · refine xincz_4 (q := 90) d_93_87 rfl ?_
          refine x_goto (t := 3) d_93_90 (by decide) ?_
          rw [show (j : Int) + 1 = ((j + 1 : Nat) : Int) by omega]
          refine ih (j + 1) _ _ (by omega) ?_
          rw [hcnt] at c81
          rw [zi_eq (by omega) (by omega) (by omega) (by omega)] at c81
          have hne : t ≠ m := fun e => c81 (by rw [e])
          have : j ≠ (R i l).getD m 0 := fun e => hne (hS.inj htl hm (by rw [← hjt]; exact e))
          omega
        · refine xild_4 (q := 86) d_93_84 rfl ?_
          refine x_iret d_93_86 rfl rfl ?_
          rw [hcnt, zi_eq (by omega) (by omega) (by omega) (by omega)] at c81
          have e9 : t = m := by omega
          rw [e9] at hjt
          rw [hjt]
          exact k
set_option maxHeartbeats 2000000 in
theorem t_nearOf {sc : ax_S} {σ : Nat → ax_C} {J : Nat → Int} {G : Nat → Nat → Int} {n bc bs : Nat} {K : ax_K} (hn : 38 ≤ n) {N : Nat} (hN : J 7 = N) (hN2 : N ≤ 100) {R : Nat → Nat → List Nat} (hR : NR G R) {l i m : Nat} (hl : l < 5) (hi : i < N) (hF : FAb G N i) (hS : RS (kg G i) (R i l) N) (hm : m < (R i l).length) (k : K (some (.int (zi ((R i l).getD m 0)))) (mg σ J G, n, bc, bs)) : Ex sc 93 0 (ax_en 93 [.ref 22, .int (zi l), .int (zi i), .int (zi m)]) [] (mg σ J G, n, bc, bs) K := by
  show Ex sc 93 0 [some (.ref 22), some (.int (zi l)), some (.int (zi i)), some (.int (zi m)), none, none, none] [] (mg σ J G, n, bc, bs) K
  refine x_iconst (q := 1) (v := zi (0)) d_93_0 rfl rfl ?_
  refine xist_4 (q := 3) d_93_1 rfl ?_
  exact lt_nearOf hn hN hN2 hR hl hi hF hS hm k N 0 _ _ (by omega) (Nat.zero_le _)
/-- the booleans b are the set of the keys L -/
def SB (b : Nat → Int) (kf : Nat → Nat) (N : Nat) (L : List Nat) : Prop := L.Pairwise (· < ·) ∧ (∀ k ∈ L, ∃ x, x < N ∧ k = kf x) ∧ ∀ x, x < N → b x = if kf x ∈ L then 1 else 0
def outI (L : List Nat) (fst : Bool) : Int := if L = [] then -1 else if fst then ((L.getD 0 0 % 100 : Nat) : Int) else ((L.getD (L.length - 1) 0 % 100 : Nat) : Int)
theorem kg_mod {G : Nat → Nat → Int} {o x : Nat} (hx : x < 100) : kg G o x % 100 = x := by unfold kg; omega
theorem SB.first {b : Nat → Int} {kf : Nat → Nat} {N : Nat} {L : List Nat} (h : SB b kf N L) {y : Nat} (hy : kf y ∈ L) (hmin : ∀ x, x < N → b x = 1 → kf y ≤ kf x) : L.getD 0 0 = kf y := by
  have hl : 0 < L.length := List.length_pos_of_mem hy
  obtain ⟨x, hx, e⟩ := h.2.1 _ (gd_mem hl)
  have h1 := hmin x hx (by rw [h.2.2 x hx, if_pos (by rw [← e]; exact gd_mem hl)])
  have h2 : L.getD 0 0 ≤ kf y := by
    obtain ⟨i, hi, e2⟩ := List.getElem_of_mem hy
    have := srt_get (h.1.imp (fun z => Nat.le_of_lt z)) (Nat.zero_le i) hi
    rw [List.getD_eq_getElem?_getD (l := L) (i := i), List.getElem?_eq_getElem hi] at this
    rw [← e2]
    exact this
  omega
theorem SB.last {b : Nat → Int} {kf : Nat → Nat} {N : Nat} {L : List Nat} (h : SB b kf N L) {y : Nat} (hy : kf y ∈ L) (hmax : ∀ x, x < N → b x = 1 → kf x ≤ kf y) : L.getD (L.length - 1) 0 = kf y := by
  have hl : 0 < L.length := List.length_pos_of_mem hy
  obtain ⟨x, hx, e⟩ := h.2.1 _ (gd_mem (show L.length - 1 < L.length by omega))
  have h1 := hmax x hx (by rw [h.2.2 x hx, if_pos (by rw [← e]; exact gd_mem (by omega))])
  have h2 : kf y ≤ L.getD (L.length - 1) 0 := by
    obtain ⟨i, hi, e2⟩ := List.getElem_of_mem hy
    have := srt_get (h.1.imp (fun z => Nat.le_of_lt z)) (show i ≤ L.length - 1 by omega) (show L.length - 1 < L.length by omega)
    rw [List.getD_eq_getElem?_getD (l := L) (i := i), List.getElem?_eq_getElem hi] at this
    rw [← e2]
    exact this
  omega
theorem out_skip {b : Nat → Int} {kf : Nat → Nat} {j : Nat} {best : Int} {fst : Bool} (h : ((best : Int) = -1 ∧ (∀ x, x < j → b x = 0)) ∨ (∃ z : Nat, (best : Int) = z ∧ z < j ∧ b z = 1 ∧ ∀ x, x < j → b x = 1 → (if fst = true then kf z ≤ kf x else kf x ≤ kf z))) (h0 : b j = 0) : ((best : Int) = -1 ∧ (∀ x, x < j + 1 → b x = 0)) ∨ (∃ z : Nat, (best : Int) = z ∧ z < j + 1 ∧ b z = 1 ∧ ∀ x, x < j + 1 → b x = 1 → (if fst = true then kf z ≤ kf x else kf x ≤ kf z)) := by
  rcases h with ⟨h1, h2⟩ | ⟨y, h1, h2, h3, h4⟩
  · exact Or.inl ⟨h1, fun x hx => by rcases Nat.lt_or_ge x j with q | q; exact h2 x q; rw [show x = j by omega]; exact h0⟩
  · exact Or.inr ⟨y, h1, by omega, h3, fun x hx h5 => by rcases Nat.lt_or_ge x j with q | q; exact h4 x q h5; rw [show x = j by omega, h0] at h5; exact absurd h5 (by decide)⟩
theorem out_first {b : Nat → Int} {kf : Nat → Nat} {j : Nat} {best : Int} {fst : Bool} (h : ((best : Int) = -1 ∧ (∀ x, x < j → b x = 0)) ∨ (∃ z : Nat, (best : Int) = z ∧ z < j ∧ b z = 1 ∧ ∀ x, x < j → b x = 1 → (if fst = true then kf z ≤ kf x else kf x ≤ kf z))) (hb : best < 0) (h1 : b j = 1) : ((j : Int) = -1 ∧ (∀ x, x < j + 1 → b x = 0)) ∨ (∃ z : Nat, (j : Int) = z ∧ z < j + 1 ∧ b z = 1 ∧ ∀ x, x < j + 1 → b x = 1 → (if fst = true then kf z ≤ kf x else kf x ≤ kf z)) := by
  rcases h with ⟨_, h2⟩ | ⟨y, h3, _⟩
  · refine Or.inr ⟨j, rfl, by omega, h1, fun x hx h5 => ?_⟩
    rcases Nat.lt_or_ge x j with q | q
    · rw [h2 x q] at h5; exact absurd h5 (by decide)
    · rw [show x = j by omega]; split <;> exact Nat.le_refl _
  · omega
theorem out_new {b : Nat → Int} {kf : Nat → Nat} {j y : Nat} {fst : Bool} (hyj : y < j) (hy1 : b y = 1) (hym : ∀ x, x < j → b x = 1 → (if fst = true then kf y ≤ kf x else kf x ≤ kf y)) (hne : kf y ≠ kf j) (h1 : b j = 1) (hc : zi (if kf j < kf y then 1 else 0) = zi (if fst = true then 1 else 0)) : ((j : Int) = -1 ∧ (∀ x, x < j + 1 → b x = 0)) ∨ (∃ z : Nat, (j : Int) = z ∧ z < j + 1 ∧ b z = 1 ∧ ∀ x, x < j + 1 → b x = 1 → (if fst = true then kf z ≤ kf x else kf x ≤ kf z)) := by
  refine Or.inr ⟨j, rfl, by omega, h1, fun x hx h5 => ?_⟩
  cases fst with
  | true =>
    rw [if_pos rfl] at hc ⊢
    have hlt : kf j < kf y := by
      by_cases q : kf j < kf y
      · exact q
      · rw [if_neg q] at hc; exact absurd hc (by decide)
    rcases Nat.lt_or_ge x j with q | q
    · have := hym x q h5
      rw [if_pos rfl] at this
      omega
    · rw [show x = j by omega]; exact Nat.le_refl _
  | false =>
    rw [if_neg (show ¬ (false = true) by decide)] at hc ⊢
    have hlt : ¬ kf j < kf y := by
      intro q
      rw [if_pos q] at hc; exact absurd hc (by decide)
    rcases Nat.lt_or_ge x j with q | q
    · have := hym x q h5
      rw [if_neg (show ¬ (false = true) by decide)] at this
      omega
    · rw [show x = j by omega]; exact Nat.le_refl _
theorem out_keep {b : Nat → Int} {kf : Nat → Nat} {j y : Nat} {fst : Bool} (hyj : y < j) (hy1 : b y = 1) (hym : ∀ x, x < j → b x = 1 → (if fst = true then kf y ≤ kf x else kf x ≤ kf y)) (hne : kf y ≠ kf j) (h1 : b j = 1) (hc : ¬ zi (if kf j < kf y then 1 else 0) = zi (if fst = true then 1 else 0)) : ((y : Int) = -1 ∧ (∀ x, x < j + 1 → b x = 0)) ∨ (∃ z : Nat, (y : Int) = z ∧ z < j + 1 ∧ b z = 1 ∧ ∀ x, x < j + 1 → b x = 1 → (if fst = true then kf z ≤ kf x else kf x ≤ kf z)) := by
  refine Or.inr ⟨y, rfl, by omega, hy1, fun x hx h5 => ?_⟩
  rcases Nat.lt_or_ge x j with q | q
  · exact hym x q h5
  · rw [show x = j by omega]
    cases fst with
    | true =>
      rw [if_pos rfl] at hc ⊢
      by_cases q : kf j < kf y
      · rw [if_pos q] at hc; exact absurd rfl hc
      · omega
    | false =>
      rw [if_neg (show ¬ (false = true) by decide)] at hc ⊢
      by_cases q : kf j < kf y
      · omega
      · rw [if_neg q] at hc; exact absurd rfl hc
set_option maxHeartbeats 2000000 in
theorem lt_outer {sc : ax_S} {σ : Nat → ax_C} {J : Nat → Int} {G : Nat → Nat → Int} {n bc bs : Nat} {K : ax_K} (hn : 38 ≤ n) {N : Nat} (hN : J 7 = N) (hN2 : N ≤ 100) {r : Nat} (hr : mBool r) {o : Nat} (ho : o ≤ 100) (hF : FAb G N o) {L : List Nat} (hS : SB (G r) (kg G o) N L) {fst : Bool} (k : K (some (.int (zi (outI L fst)))) (mg σ J G, n, bc, bs)) :
    ∀ (d j : Nat) (best : Int), j + d = N → (best = -1 ∧ (∀ x, x < j → G r x = 0)) ∨ (∃ y : Nat, best = y ∧ y < j ∧ G r y = 1 ∧ ∀ x, x < j → G r x = 1 → (if fst = true then (kg G o) y ≤ (kg G o) x else (kg G o) x ≤ (kg G o) y)) → Ex sc 82 6 [some (.ref 22), some (.ref (maO r)), some (.int (zi o)), some (.int (zi (if fst = true then 1 else 0))), some (.int (zi best)), some (.int (zi j))] [] (mg σ J G, n, bc, bs) K := by
  have h01 : ∀ x, x < N → G r x = 0 ∨ G r x = 1 := fun x hx => by rw [hS.2.2 x hx]; split <;> omega
  intro d
  induction d with
  | zero =>
    intro j best hj hb
    have hjN : j = N := by omega
    subst hjN
    have hout : outI L fst = best := by
      rcases hb with ⟨rfl, h0⟩ | ⟨y, rfl, hy, hy1, hm⟩
      · unfold outI
        rw [if_pos]
        cases L with
        | nil => rfl
        | cons a l =>
          obtain ⟨x, hx, e⟩ := hS.2.1 a List.mem_cons_self
          have h1 := h0 x hx
          rw [hS.2.2 x hx, if_pos (by rw [← e]; exact List.mem_cons_self)] at h1
          exact absurd h1 (by decide)
      · have hyL : (kg G o) y ∈ L := by
          by_cases h : (kg G o) y ∈ L
          · exact h
          · rw [hS.2.2 y hy, if_neg h] at hy1; exact absurd hy1 (by decide)
        unfold outI
        rw [if_neg (List.ne_nil_of_mem hyL)]
        cases fst with
        | true =>
          rw [if_pos rfl, hS.first hyL (fun x hx h1 => by have := hm x hx h1; rwa [if_pos rfl] at this), kg_mod (by omega)]
        | false =>
          rw [if_neg (by decide), hS.last hyL (fun x hx h1 => by have := hm x hx h1; rwa [if_neg (by decide)] at this), kg_mod (by omega)]
    rw [hout] at k
    refine xild_5 (q := 8) d_82_6 rfl ?_
    refine xald_0 (q := 9) d_82_8 rfl ?_
    refine yg_count hn (q := 12) d_82_9 rfl fl_M_76 ?_
    refine x_icmp_ge (q := 15) (t := 50) d_82_12 (by decide) rfl (fun c12 => ?_) (fun c12 => ?_)
    · rw [zi_le (by omega) (by omega) (by omega) (by omega)] at c12
      refine xild_4 (q := 52) d_82_50 rfl ?_
      refine x_iret d_82_52 rfl rfl ?_
      exact k
    · rw [zi_le (by omega) (by omega) (by omega) (by omega)] at c12
      exact absurd c12 (by omega)
  | succ d ih =>
    intro j best hj hb
    have hj01 := h01 j (by omega)
    have hbb : -1 ≤ best ∧ best < j := by rcases hb with ⟨rfl, _⟩ | ⟨y, rfl, hy, _⟩ <;> omega
    have hne : ∀ y, y < N → y ≠ j → (kg G o) y ≠ (kg G o) j := fun y hy h e => h (by have h1 := kg_mod (G := G) (o := o) (show y < 100 by omega); rw [e, kg_mod (by omega)] at h1; exact h1.symm)
    refine xild_5 (q := 8) d_82_6 rfl ?_
    refine xald_0 (q := 9) d_82_8 rfl ?_
    refine yg_count hn (q := 12) d_82_9 rfl fl_M_76 ?_
    refine x_icmp_ge (q := 15) (t := 50) d_82_12 (by decide) rfl (fun c12 => ?_) (fun c12 => ?_)
    · rw [zi_le (by omega) (by omega) (by omega) (by omega)] at c12
      exact absurd c12 (by omega)
    · rw [zi_le (by omega) (by omega) (by omega) (by omega)] at c12
      refine xald_1 (q := 16) d_82_15 rfl ?_
      refine xild_5 (q := 18) d_82_16 rfl ?_
      refine yl_b hr (q := 19) hn d_82_18 rfl (by omega) (by omega) ?_
      refine x_if_eq (q := 22) (t := 44) d_82_19 (by decide) rfl (fun c19 => ?_) (fun c19 => ?_)
      · rw [show ((j : Int)).toNat = j by omega, zi_eq0 (by omega) (by omega)] at c19
        refine xincz_5 (q := 47) d_82_44 rfl ?_
        refine x_goto (t := 6) d_82_47 (by decide) ?_
        rw [show (j : Int) + 1 = ((j + 1 : Nat) : Int) by omega]
        first
          | (exact ih (j + 1) best (by omega) (out_skip hb c19))
          | (exact ih (j + 1) (j : Int) (by omega) (out_first hb c24 hj1))
          | (exact ih (j + 1) (j : Int) (by omega) (out_new hyj hy1 hym hny hj1 c37))
          | (exact ih (j + 1) (y : Int) (by omega) (out_keep hyj hy1 hym hny hj1 c37))
      · rw [show ((j : Int)).toNat = j by omega, zi_eq0 (by omega) (by omega)] at c19
        have hj1 : G r j = 1 := by
          rcases hj01 with h | h
          · exact absurd h c19
          · exact h
        refine xild_4 (q := 24) d_82_22 rfl ?_
        refine x_if_lt (q := 27) (t := 40) d_82_24 (by decide) rfl (fun c24 => ?_) (fun c24 => ?_)
        · rw [zi_lt0 (by omega) (by omega)] at c24
          refine xild_5 (q := 42) d_82_40 rfl ?_
          refine xist_4 (q := 44) d_82_42 rfl ?_
          refine xincz_5 (q := 47) d_82_44 rfl ?_
          refine x_goto (t := 6) d_82_47 (by decide) ?_
          rw [show (j : Int) + 1 = ((j + 1 : Nat) : Int) by omega]
          first
            | (exact ih (j + 1) best (by omega) (out_skip hb c19))
            | (exact ih (j + 1) (j : Int) (by omega) (out_first hb c24 hj1))
            | (exact ih (j + 1) (j : Int) (by omega) (out_new hyj hy1 hym hny hj1 c37))
            | (exact ih (j + 1) (y : Int) (by omega) (out_keep hyj hy1 hym hny hj1 c37))
        · rw [zi_lt0 (by omega) (by omega)] at c24
          refine xald_0 (q := 28) d_82_27 rfl ?_
          refine xild_2 (q := 29) d_82_28 rfl ?_
          refine xild_5 (q := 31) d_82_29 rfl ?_
          refine xild_4 (q := 33) d_82_31 rfl ?_
          obtain ⟨y, hby, hyj, hy1, hym⟩ : ∃ y : Nat, best = y ∧ y < j ∧ G r y = 1 ∧ ∀ x, x < j → G r x = 1 → (if fst = true then (kg G o) y ≤ (kg G o) x else (kg G o) x ≤ (kg G o) y) := by
            rcases hb with ⟨rfl, _⟩ | h
            · exact absurd c24 (by omega)
            · exact h
          subst hby
          refine xcV3 (q := 36) d_82_33 rfl lk_M_100 mo_83 ⟨by decide +kernel, by decide +kernel⟩ (by simp [Value.category]) (by decide +kernel) (by simp [Value.category]) (by omega) rfl ?_
          refine t_before hn hN2 (o := o) (a := j) (b := y) ho (by omega) (by omega) hF ?_
          dsimp only [ax_ps]
          have hny := hne y (by omega) (by omega)
          refine xild_3 (q := 37) d_82_36 rfl ?_
          refine x_icmp_ne (q := 40) (t := 44) d_82_37 (by decide) rfl (fun c37 => ?_) (fun c37 => ?_)
          · refine xincz_5 (q := 47) d_82_44 rfl ?_
            refine x_goto (t := 6) d_82_47 (by decide) ?_
            rw [show (j : Int) + 1 = ((j + 1 : Nat) : Int) by omega]
            first
              | (exact ih (j + 1) best (by omega) (out_skip hb c19))
              | (exact ih (j + 1) (j : Int) (by omega) (out_first hb c24 hj1))
              | (exact ih (j + 1) (j : Int) (by omega) (out_new hyj hy1 hym hny hj1 c37))
              | (exact ih (j + 1) (y : Int) (by omega) (out_keep hyj hy1 hym hny hj1 c37))
          · refine xild_5 (q := 42) d_82_40 rfl ?_
            refine xist_4 (q := 44) d_82_42 rfl ?_
            refine xincz_5 (q := 47) d_82_44 rfl ?_
            refine x_goto (t := 6) d_82_47 (by decide) ?_
            rw [show (j : Int) + 1 = ((j + 1 : Nat) : Int) by omega]
            first
              | (exact ih (j + 1) best (by omega) (out_skip hb c19))
              | (exact ih (j + 1) (j : Int) (by omega) (out_first hb c24 hj1))
              | (exact ih (j + 1) (j : Int) (by omega) (out_new hyj hy1 hym hny hj1 c37))
              | (exact ih (j + 1) (y : Int) (by omega) (out_keep hyj hy1 hym hny hj1 c37))
set_option maxHeartbeats 2000000 in
theorem t_outer {sc : ax_S} {σ : Nat → ax_C} {J : Nat → Int} {G : Nat → Nat → Int} {n bc bs : Nat} {K : ax_K} (hn : 38 ≤ n) {N : Nat} (hN : J 7 = N) (hN2 : N ≤ 100) {r : Nat} (hr : mBool r) {o : Nat} (ho : o ≤ 100) (hF : FAb G N o) {L : List Nat} (hS : SB (G r) (kg G o) N L) (fst : Bool) {f : Int} (hf : f = if fst = true then 1 else 0) (k : K (some (.int (zi (outI L fst)))) (mg σ J G, n, bc, bs)) : Ex sc 82 0 (ax_en 82 [.ref 22, .ref (maO r), .int (zi o), .int (zi f)]) [] (mg σ J G, n, bc, bs) K := by
  subst hf
  show Ex sc 82 0 [some (.ref 22), some (.ref (maO r)), some (.int (zi o)), some (.int (zi (if fst = true then 1 else 0))), none, none] [] (mg σ J G, n, bc, bs) K
  refine x_iconst (q := 1) (v := zi (-1)) d_82_0 rfl rfl ?_
  refine xist_4 (q := 3) d_82_1 rfl ?_
  refine x_iconst (q := 4) (v := zi (0)) d_82_3 rfl rfl ?_
  refine xist_5 (q := 6) d_82_4 rfl ?_
  exact lt_outer hn hN hN2 hr ho hF hS k N 0 (-1) (by omega) (Or.inl ⟨rfl, fun x hx => absurd hx (Nat.not_lt_zero _)⟩)
