/-! Graph: rows, met, GOING -/
def rsN (i l : Nat) : Nat := i * 36 + (if l = 0 then 0 else 12 + (l - 1) * 6)
def rlN (l : Nat) : Nat := if l = 0 then 12 else 6
/-- the rows of neighbours; numbers below N -/
def GW (F : Nat → Nat → Int) (rows : Nat → Nat → List Nat) (N : Nat) : Prop := ∀ i l, i < 100 → l < 5 → F 4 (i * 5 + l) = (rows i l).length ∧ (rows i l).length ≤ rlN l ∧ (∀ k, k < (rows i l).length → F 3 (rsN i l + k) = ((rows i l).getD k 0 : Nat)) ∧ ∀ x ∈ rows i l, x < N
theorem rs_b {i l k : Nat} (hi : i < 100) (hl : l < 5) (hk : k < rlN l) : rsN i l + k < 3600 := by
  unfold rlN at hk
  unfold rsN
  split at hk <;> split <;> omega
theorem rl_b (l : Nat) : rlN l ≤ 12 := by unfold rlN; split <;> omega
/-- which are met -/
def MT (F : Nat → Nat → Int) (S : List Nat) : Prop := ∀ j, j < 100 → F 5 j = if j ∈ S then 1 else 0
def G3 (j : Nat) : Prop := j = 5 ∨ j = 10 ∨ j = 11
/-- off the registers of a GOING nothing has changed -/
def Fr3 (I : Nat → Int) (F : Nat → Nat → Int) (I' : Nat → Int) (F' : Nat → Nat → Int) : Prop := (∀ j, ¬ G3 j → I' j = I j) ∧ ∀ j, ¬ G3 j → F' j = F j
theorem Fr3.rf {I : Nat → Int} {F : Nat → Nat → Int} : Fr3 I F I F := ⟨fun _ _ => rfl, fun _ _ => rfl⟩
theorem Fr3.tr {I I' I2 : Nat → Int} {F F' F2 : Nat → Nat → Int} (h : Fr3 I F I' F') (h2 : Fr3 I' F' I2 F2) : Fr3 I F I2 F2 := ⟨fun j hj => (h2.1 j hj).trans (h.1 j hj), fun j hj => (h2.2 j hj).trans (h.2 j hj)⟩
theorem VW.same {I I' : Nat → Int} {F F' : Nat → Nat → Int} {P N M : Nat} (h : VW I F P N M) (h7 : I' 7 = I 7) (h0 : I' 0 = I 0) (h1 : I' 1 = I 1) (f2 : F' 2 = F 2) (f0 : F' 0 = F 0) (f1 : F' 1 = F 1) : VW I' F' P N M := by
  unfold VW
  rw [h7, h0, h1, f2, f0, f1]
  exact h
theorem VW.fr3 {I I' : Nat → Int} {F F' : Nat → Nat → Int} {P N M : Nat} (h : VW I F P N M) (hf : Fr3 I F I' F') : VW I' F' P N M := h.same (hf.1 7 (by unfold G3; omega)) (hf.1 0 (by unfold G3; omega)) (hf.1 1 (by unfold G3; omega)) (hf.2 2 (by unfold G3; omega)) (hf.2 0 (by unfold G3; omega)) (hf.2 1 (by unfold G3; omega))
theorem GW.same {F F' : Nat → Nat → Int} {rows : Nat → Nat → List Nat} {N : Nat} (h : GW F rows N) (f3 : F' 3 = F 3) (f4 : F' 4 = F 4) : GW F' rows N := by
  unfold GW
  rw [f3, f4]
  exact h
theorem GW.fr3 {I I' : Nat → Int} {F F' : Nat → Nat → Int} {rows : Nat → Nat → List Nat} {N : Nat} (h : GW F rows N) (hf : Fr3 I F I' F') : GW F' rows N := h.same (hf.2 3 (by unfold G3; omega)) (hf.2 4 (by unfold G3; omega))
theorem RK.same {r : Nat} {I I' : Nat → Int} {F F' : Nat → Nat → Int} {L : List Nat} (h : RK r I F L) (hI : I' (10 + r) = I (10 + r)) (hF : F' (10 + r) = F (10 + r)) : RK r I' F' L := by
  unfold RK
  rw [hI, hF]
  exact h
/-- FAR and keys by the values w -/
def farW (w : Nat → Int) (P M q a b : Nat) : Int := farI M P q (fun k => w (a * P + k)) (fun k => w (b * P + k))
def kfW (w : Nat → Int) (P M o x : Nat) : Nat := (farW w P M 100 o x).toNat * 100 + x
theorem farV_w {F : Nat → Nat → Int} {w : Nat → Int} {P M q a b : Nat} (h : F 2 = w) : farV F P M q a b = farW w P M q a b := by
  subst h
  rfl
theorem kf_b {I : Nat → Int} {F : Nat → Nat → Int} {P N M : Nat} (h : VW I F P N M) {w : Nat → Int} (hw : F 2 = w) {o x : Nat} (ho : o ≤ 100) (hx : x < 100) : 0 ≤ farW w P M 100 o x ∧ farW w P M 100 o x ≤ 320000 ∧ kfW w P M o x < 40000000 ∧ kfW w P M o x % 100 = x ∧ kfW w P M o x / 100 = (farW w P M 100 o x).toNat := by
  have h1 := h.far (q := 100) (a := o) (b := x) (by omega) ho (by omega)
  rw [farV_w hw] at h1
  unfold kfW
  omega

set_option maxHeartbeats 1000000 in
theorem c_rowSize {sc : ax_S} {σ : Nat → ax_C} {I : Nat → Int} {F : Nat → Nat → Int} {n bc bs : Nat} {K : ax_K} (hn : 22 ≤ n) {rows : Nat → Nat → List Nat} {N : Nat} (hG : GW F rows N) {i l : Nat} (hi : i < 100) (hl : l < 5) (k : K (some (.int (zi (rows i l).length))) (vg σ I F, n, bc, bs)) : Ex sc 24 0 (ax_en 24 [.ref 5, .int (zi i), .int (zi l)]) [] (vg σ I F, n, bc, bs) K := by
  have h1 := (hG i l hi hl).1
  show Ex sc 24 0 [some (.ref 5), some (.int (zi i)), some (.int (zi l))] [] (vg σ I F, n, bc, bs) K
  refine xald_0 (q := 1) d_24_0 rfl ?_
  refine xg_G_rowSizes hn (q := 4) d_24_1 rfl fl_G_36 ?_
  refine xild_1 (q := 5) d_24_4 rfl ?_
  refine x_iconst (q := 6) (v := zi (5)) d_24_5 rfl rfl ?_
  refine z_imul (q := 7) d_24_6 rfl ?_
  refine xild_2 (q := 8) d_24_7 rfl ?_
  refine z_iadd (q := 9) d_24_8 rfl ?_
  refine xl_rowSizes (q := 10) hn d_24_9 rfl (by omega) (by omega) ?_
  rw [show ((i : Int) * 5 + (l : Int)).toNat = i * 5 + l by omega, h1]
  refine x_iret d_24_10 rfl rfl ?_
  exact k
set_option maxHeartbeats 1000000 in
theorem c_rowStart {sc : ax_S} {h : ax_H} {K : ax_K} {i l : Nat} (hi : i < 100) (hl : l < 5) (k : K (some (.int (zi (rsN i l)))) h) : Ex sc 26 0 (ax_en 26 [.int (zi i), .int (zi l)]) [] h K := by
  show Ex sc 26 0 [some (.int (zi i)), some (.int (zi l)), none] [] h K
  refine xild_0 (q := 1) d_26_0 rfl ?_
  refine x_bipush (q := 3) (v := zi (36)) d_26_1 rfl (by decide) ?_
  refine z_imul (q := 4) d_26_3 rfl ?_
  refine xist_2 (q := 5) d_26_4 rfl ?_
  refine xild_1 (q := 6) d_26_5 rfl ?_
  refine x_if_ne (q := 9) (t := 13) d_26_6 (by decide) rfl (fun c6 => ?_) (fun c6 => ?_)
  · rw [zi_eq0 (by omega) (by omega)] at c6
    refine xild_2 (q := 14) d_26_13 rfl ?_
    refine x_bipush (q := 16) (v := zi (12)) d_26_14 rfl (by decide) ?_
    refine z_iadd (q := 17) d_26_16 rfl ?_
    refine xild_1 (q := 18) d_26_17 rfl ?_
    refine x_iconst (q := 19) (v := zi (1)) d_26_18 rfl rfl ?_
    refine z_isub (q := 20) d_26_19 rfl ?_
    refine x_bipush (q := 22) (v := zi (6)) d_26_20 rfl (by decide) ?_
    refine z_imul (q := 23) d_26_22 rfl ?_
    refine z_iadd (q := 24) d_26_23 rfl ?_
    refine x_iret d_26_24 rfl rfl ?_
    first
      | (rw [show (i : Int) * 36 = ((rsN i l : Nat) : Int) by (unfold rsN; rw [if_pos (by omega)]; omega)]; exact k)
      | (rw [show (i : Int) * 36 + 12 + ((l : Int) - 1) * 6 = ((rsN i l : Nat) : Int) by (unfold rsN; rw [if_neg (by omega)]; omega)]; exact k)
  · rw [zi_eq0 (by omega) (by omega)] at c6
    refine xild_2 (q := 10) d_26_9 rfl ?_
    refine x_goto (t := 24) d_26_10 (by decide) ?_
    refine x_iret d_26_24 rfl rfl ?_
    first
      | (rw [show (i : Int) * 36 = ((rsN i l : Nat) : Int) by (unfold rsN; rw [if_pos (by omega)]; omega)]; exact k)
      | (rw [show (i : Int) * 36 + 12 + ((l : Int) - 1) * 6 = ((rsN i l : Nat) : Int) by (unfold rsN; rw [if_neg (by omega)]; omega)]; exact k)
set_option maxHeartbeats 1000000 in
theorem c_linkAt {sc : ax_S} {σ : Nat → ax_C} {I : Nat → Int} {F : Nat → Nat → Int} {n bc bs : Nat} {K : ax_K} (hn : 22 ≤ n) {rows : Nat → Nat → List Nat} {N : Nat} (hG : GW F rows N) {i l j : Nat} (hi : i < 100) (hl : l < 5) (hj : j < (rows i l).length) (k : K (some (.int (zi ((rows i l).getD j 0)))) (vg σ I F, n, bc, bs)) : Ex sc 25 0 (ax_en 25 [.ref 5, .int (zi i), .int (zi l), .int (zi j)]) [] (vg σ I F, n, bc, bs) K := by
  obtain ⟨h1, h2, h3, h4⟩ := hG i l hi hl
  have h5 := rs_b hi hl (show j < rlN l by omega)
  show Ex sc 25 0 [some (.ref 5), some (.int (zi i)), some (.int (zi l)), some (.int (zi j))] [] (vg σ I F, n, bc, bs) K
  refine xald_0 (q := 1) d_25_0 rfl ?_
  refine xg_G_links hn (q := 4) d_25_1 rfl fl_G_32 ?_
  refine xild_1 (q := 5) d_25_4 rfl ?_
  refine xild_2 (q := 6) d_25_5 rfl ?_
  refine xcS2 (q := 9) d_25_6 rfl lk_G_63 mo_26 ⟨by decide +kernel, by decide +kernel⟩ (by simp [Value.category]) (by decide +kernel) (by simp [Value.category])  ?_
  refine c_rowStart hi hl ?_
  dsimp only [ax_ps]
  refine xild_3 (q := 10) d_25_9 rfl ?_
  refine z_iadd (q := 11) d_25_10 rfl ?_
  refine xl_links (q := 12) hn d_25_11 rfl (by omega) (by omega) ?_
  rw [show (((rsN i l : Nat) : Int) + (j : Int)).toNat = rsN i l + j by omega, h3 j hj]
  refine x_iret d_25_12 rfl rfl ?_
  exact k
set_option maxHeartbeats 1000000 in
theorem c_rowLimit {sc : ax_S} {σ : Nat → ax_C} {I : Nat → Int} {F : Nat → Nat → Int} {n bc bs : Nat} {K : ax_K} (hn : 22 ≤ n) {w : Nat} (hw : I 3 = w) {l : Nat} (hl : l < 5) (k : K (some (.int (zi (if l = 0 then 2 * (w : Int) else w)))) (vg σ I F, n, bc, bs)) : Ex sc 28 0 (ax_en 28 [.ref 5, .int (zi l)]) [] (vg σ I F, n, bc, bs) K := by
  show Ex sc 28 0 [some (.ref 5), some (.int (zi l))] [] (vg σ I F, n, bc, bs) K
  refine xild_1 (q := 1) d_28_0 rfl ?_
  refine x_if_ne (q := 4) (t := 13) d_28_1 (by decide) rfl (fun c1 => ?_) (fun c1 => ?_)
  · rw [zi_eq0 (by omega) (by omega)] at c1
    refine xald_0 (q := 14) d_28_13 rfl ?_
    refine xg_G_width hn (q := 17) d_28_14 rfl fl_G_22 ?_
    refine x_iret d_28_17 rfl rfl ?_
    rw [hw]
    first
      | (rw [if_pos (by omega)] at k; exact k)
      | (rw [if_neg (by omega)] at k; exact k)
  · rw [zi_eq0 (by omega) (by omega)] at c1
    refine x_iconst (q := 5) (v := zi (2)) d_28_4 rfl rfl ?_
    refine xald_0 (q := 6) d_28_5 rfl ?_
    refine xg_G_width hn (q := 9) d_28_6 rfl fl_G_22 ?_
    refine z_imul (q := 10) d_28_9 rfl ?_
    refine x_goto (t := 17) d_28_10 (by decide) ?_
    refine x_iret d_28_17 rfl rfl ?_
    rw [hw]
    first
      | (rw [if_pos (by omega)] at k; exact k)
      | (rw [if_neg (by omega)] at k; exact k)
set_option maxHeartbeats 1000000 in
theorem lq_forget {sc : ax_S} {σ : Nat → ax_C} {I : Nat → Int} {F0 : Nat → Nat → Int} {n bc bs : Nat} {K : ax_K} (hn : 22 ≤ n) (k : ∀ F', MT F' [] → (∀ j, j ≠ 5 → F' j = F0 j) → K none (vg σ I F', n, bc, bs)) : ∀ (d j : Nat) (F : Nat → Nat → Int), j + d = 100 → (∀ r, r ≠ 5 → F r = F0 r) → (∀ x, x < j → F 5 x = 0) → Ex sc 13 2 [some (.ref 5), some (.int (zi j))] [] (vg σ I F, n, bc, bs) K := by
  intro d
  induction d with
  | zero =>
    intro j F hj hF h0
    refine xild_1 (q := 3) d_13_2 rfl ?_
    refine xald_0 (q := 4) d_13_3 rfl ?_
    refine xg_G_met hn (q := 7) d_13_4 rfl fl_G_39 ?_
    refine xn_met (q := 8) hn d_13_7 rfl ?_
    refine x_icmp_ge (q := 11) (t := 24) d_13_8 (by decide) rfl (fun c8 => ?_) (fun c8 => ?_)
    · rw [zi_le (by omega) (by omega) (by omega) (by omega)] at c8
      refine x_vret d_13_24 rfl ?_
      exact k F (fun x hx => by rw [h0 x (by omega), if_neg (by simp)]) hF
    · rw [zi_le (by omega) (by omega) (by omega) (by omega)] at c8
      exact absurd c8 (by omega)
  | succ d ih =>
    intro j F hj hF h0
    refine xild_1 (q := 3) d_13_2 rfl ?_
    refine xald_0 (q := 4) d_13_3 rfl ?_
    refine xg_G_met hn (q := 7) d_13_4 rfl fl_G_39 ?_
    refine xn_met (q := 8) hn d_13_7 rfl ?_
    refine x_icmp_ge (q := 11) (t := 24) d_13_8 (by decide) rfl (fun c8 => ?_) (fun c8 => ?_)
    · rw [zi_le (by omega) (by omega) (by omega) (by omega)] at c8
      exact absurd c8 (by omega)
    · rw [zi_le (by omega) (by omega) (by omega) (by omega)] at c8
      refine xald_0 (q := 12) d_13_11 rfl ?_
      refine xg_G_met hn (q := 15) d_13_12 rfl fl_G_39 ?_
      refine xild_1 (q := 16) d_13_15 rfl ?_
      refine x_iconst (q := 17) (v := zi (0)) d_13_16 rfl rfl ?_
      refine xs_met (e := 0) (q := 18) hn (Or.inl rfl) d_13_17 rfl (by omega) (by omega) ?_
      refine xincz_1 (q := 21) d_13_18 rfl ?_
      refine x_goto (t := 2) d_13_21 (by decide) ?_
      rw [show (j : Int) + 1 = ((j + 1 : Nat) : Int) by omega, show ((j : Int)).toNat = j by omega]
      refine ih (j + 1) _ (by omega) (fun r hr => by rw [va_un _ _ _ hr]; exact hF r hr) (fun x hx => ?_)
      rw [va_us]
      by_cases e : x = j
      · rw [e, va_us]
      · rw [va_un _ _ _ e]; exact h0 x (by omega)
set_option maxHeartbeats 1000000 in
theorem c_forgetMet {sc : ax_S} {σ : Nat → ax_C} {I : Nat → Int} {F : Nat → Nat → Int} {n bc bs : Nat} {K : ax_K} (hn : 22 ≤ n) (k : ∀ F', MT F' [] → (∀ j, j ≠ 5 → F' j = F j) → K none (vg σ I F', n, bc, bs)) : Ex sc 13 0 (ax_en 13 [.ref 5]) [] (vg σ I F, n, bc, bs) K := by
  show Ex sc 13 0 [some (.ref 5), none] [] (vg σ I F, n, bc, bs) K
  refine x_iconst (q := 1) (v := zi (0)) d_13_0 rfl rfl ?_
  refine xist_1 (q := 2) d_13_1 rfl ?_
  exact lq_forget hn k 100 0 F (by omega) (fun _ _ => rfl) (fun x hx => absurd hx (Nat.not_lt_zero _))
/-- the registers hold the state of a GOING -/
def GR (I : Nat → Int) (F : Nat → Nat → Int) (S : mG) : Prop := RK 0 I F S.2.1 ∧ RK 1 I F S.2.2 ∧ MT F S.1
theorem g3n {j : Nat} (h : ¬ G3 j) : j ≠ 5 ∧ j ≠ 10 + 0 ∧ j ≠ 10 + 1 := by unfold G3 at h; omega
set_option maxHeartbeats 1000000 in
theorem c_meet {sc : ax_S} {σ : Nat → ax_C} {I : Nat → Int} {F : Nat → Nat → Int} {n bc bs : Nat} {K : ax_K} (hn : 22 ≤ n) {P N M : Nat} (hV : VW I F P N M) {w : Nat → Int} (hw : F 2 = w) {x e o : Nat} (hx : x < N) (he : 1 ≤ e ∧ e ≤ 60) (ho : o ≤ 100) {S : mG} (hGI : GI (kfW w P M o) e N S) (hGR : GR I F S) (k : ∀ I' F', GR I' F' (mMeet (kfW w P M o) e x S) → I' 5 = I 5 + (if x ∈ S.1 then 0 else 1) → Fr3 I F I' F' → K none (vg σ I' F', n, bc, bs)) : Ex sc 15 0 (ax_en 15 [.ref 5, .int (zi x), .int (zi e), .int (zi o)]) [] (vg σ I F, n, bc, bs) K := by
  have hN2 := hV.2.2.2.2.1
  obtain ⟨b1, b2, b3, b4, b5⟩ := kf_b hV hw ho (show x < 100 by omega)
  obtain ⟨hR0, hR1, hMT⟩ := hGR
  have hm := hMT x (by omega)
  show Ex sc 15 0 [some (.ref 5), some (.int (zi x)), some (.int (zi e)), some (.int (zi o)), none] [] (vg σ I F, n, bc, bs) K
  refine xald_0 (q := 1) d_15_0 rfl ?_
  refine xg_G_vectors hn (q := 4) d_15_1 rfl fl_G_11 ?_
  refine xild_1 (q := 5) d_15_4 rfl ?_
  refine xcV1 (q := 8) d_15_5 rfl lk_G_157 mo_16 ⟨by decide +kernel, by decide +kernel⟩ (by simp [Value.category]) (by decide +kernel) (by simp [Value.category]) (by omega) rfl ?_
  refine c_has hn hV (i := (x : Int)) (by omega) ?_
  dsimp only [ax_ps]
  have HH : hasI N (x : Int) = 1 := if_pos (by omega)
  rw [HH]
  refine x_if_eq (q := 11) (t := 20) d_15_8 (by decide) rfl (fun c8 => ?_) (fun c8 => ?_)
  · rw [zi_eq0 (by omega) (by omega)] at c8
    first
      | (exact absurd c8 (by decide))
      | (refine x_vret d_15_20 rfl ?_; have hin : x ∈ S.1 := (by by_cases h : x ∈ S.1; exact h; rw [if_neg h] at hm; omega); have e1 : mMeet (kfW w P M o) e x S = S := (by unfold mMeet; rw [if_pos hin]); refine k I F (by rw [e1]; exact ⟨hR0, hR1, hMT⟩) (by rw [if_pos hin]; omega) Fr3.rf)
  · rw [zi_eq0 (by omega) (by omega)] at c8
    refine xald_0 (q := 12) d_15_11 rfl ?_
    refine xg_G_met hn (q := 15) d_15_12 rfl fl_G_39 ?_
    refine xild_1 (q := 16) d_15_15 rfl ?_
    refine xl_met (q := 17) hn d_15_16 rfl (by omega) (by omega) ?_
    refine x_if_eq (q := 20) (t := 21) d_15_17 (by decide) rfl (fun c17 => ?_) (fun c17 => ?_)
    · rw [show ((x : Int)).toNat = x by omega] at c17
      rw [zi_eq0 (by rw [hm]; split <;> omega) (by rw [hm]; split <;> omega)] at c17
      have hnm : x ∉ S.1 := fun h => by rw [if_pos h] at hm; omega
      have hroom := hGI.room hx hnm
      have hL0 := hGI.2.2.1
      refine xald_0 (q := 22) d_15_21 rfl ?_
      refine xg_G_met hn (q := 25) d_15_22 rfl fl_G_39 ?_
      refine xild_1 (q := 26) d_15_25 rfl ?_
      refine x_iconst (q := 27) (v := zi (1)) d_15_26 rfl rfl ?_
      refine xs_met (e := 1) (q := 28) hn (Or.inr rfl) d_15_27 rfl (by omega) (by omega) ?_
      rw [show ((x : Int)).toNat = x by omega]
      generalize hF1 : va_up F 5 (va_up (F 5) x 1) = F1
      refine xald_0 (q := 29) d_15_28 rfl ?_
      refine x_dup (q := 30) d_15_29 rfl rfl ?_
      refine xg_G_walked hn (q := 33) d_15_30 rfl fl_G_29 ?_
      refine x_iconst (q := 34) (v := zi (1)) d_15_33 rfl rfl ?_
      refine z_iadd (q := 35) d_15_34 rfl ?_
      refine xp_G_walked hn (q := 38) d_15_35 rfl fw_G_29 ?_
      generalize hI1 : va_up I 5 (I 5 + 1) = I1
      have hoI : ∀ j, j ≠ 5 → I1 j = I j := fun j hj => by rw [← hI1]; exact va_un _ _ _ hj
      have hoF : ∀ j, j ≠ 5 → F1 j = F j := fun j hj => by rw [← hF1]; exact va_un _ _ _ hj
      have hI5 : I1 5 = I 5 + 1 := by rw [← hI1]; exact va_us _ _ _
      have hMT1 : MT F1 (x :: S.1) := by
        intro j hj
        rw [← hF1, va_us]
        by_cases e : j = x
        · rw [e, va_us, if_pos List.mem_cons_self]
        · rw [va_un _ _ _ e, hMT j hj]
          by_cases h2 : j ∈ S.1
          · rw [if_pos h2, if_pos (List.mem_cons_of_mem _ h2)]
          · rw [if_neg h2, if_neg (fun h3 => by rcases List.mem_cons.mp h3 with h3 | h3; exact e h3; exact h2 h3)]
      have hR0a : RK 0 I1 F1 S.2.1 := hR0.same (hoI _ (by decide)) (hoF _ (by decide))
      have hR1a : RK 1 I1 F1 S.2.2 := hR1.same (hoI _ (by decide)) (hoF _ (by decide))
      have hV1 : VW I1 F1 P N M := hV.same (hoI _ (by decide)) (hoI _ (by decide)) (hoI _ (by decide)) (hoF _ (by decide)) (hoF _ (by decide)) (hoF _ (by decide))
      have hw1 : F1 2 = w := (hoF 2 (by decide)).trans hw
      clear hF1 hI1
      have hfr1 : ∀ (Ia : Nat → Int) (Fa : Nat → Nat → Int), (∀ j, j ≠ 5 → j ≠ 10 + 0 → j ≠ 10 + 1 → Ia j = I1 j) → (∀ j, j ≠ 5 → j ≠ 10 + 0 → j ≠ 10 + 1 → Fa j = F1 j) → Fr3 I F Ia Fa := fun Ia Fa h1 h2 => ⟨fun j hj => (h1 j (g3n hj).1 (g3n hj).2.1 (g3n hj).2.2).trans (hoI j (g3n hj).1), fun j hj => (h2 j (g3n hj).1 (g3n hj).2.1 (g3n hj).2.2).trans (hoF j (g3n hj).1)⟩
      have hsz := hR0a.1
      skip
      refine xald_0 (q := 39) d_15_38 rfl ?_
      refine xg_G_vectors hn (q := 42) d_15_39 rfl fl_G_11 ?_
      refine xild_3 (q := 43) d_15_42 rfl ?_
      refine xild_1 (q := 44) d_15_43 rfl ?_
      refine x_bipush (q := 46) (v := zi (100)) d_15_44 rfl (by decide) ?_
      refine xcV3 (q := 49) d_15_46 rfl lk_G_128 mo_17 ⟨by decide +kernel, by decide +kernel⟩ (by simp [Value.category]) (by decide +kernel) (by simp [Value.category]) (by omega) rfl ?_
      refine c_apart hn hV1 (a := o) (b := x) (q := 100) ho (by omega) (by omega) ?_
      dsimp only [ax_ps]
      rw [farV_w hw1, show farW w P M 100 o x = (((farW w P M 100 o x).toNat : Nat) : Int) by omega]
      generalize hfr : (farW w P M 100 o x).toNat = fr at b3 b4 b5 ⊢
      have hkey : kfW w P M o x = fr * 100 + x := by unfold kfW; rw [hfr]
      refine xist_4 (q := 51) d_15_49 rfl ?_
      refine xald_0 (q := 52) d_15_51 rfl ?_
      refine xg_G_found hn (q := 55) d_15_52 rfl fl_G_51 ?_
      refine xg_R_size (by decide) hn (q := 58) d_15_55 rfl fl_G_135 ?_
      refine xild_2 (q := 59) d_15_58 rfl ?_
      refine x_icmp_lt (q := 62) (t := 75) d_15_59 (by decide) rfl (fun c59 => ?_) (fun c59 => ?_)
      · rw [zi_lt (by omega) (by omega) (by omega) (by omega)] at c59
        refine xald_0 (q := 76) d_15_75 rfl ?_
        refine xg_G_found hn (q := 79) d_15_76 rfl fl_G_51 ?_
        refine xild_1 (q := 80) d_15_79 rfl ?_
        refine xild_4 (q := 82) d_15_80 rfl ?_
        refine xcV2 (q := 85) d_15_82 rfl lk_G_131 mo_19 ⟨by decide +kernel, by decide +kernel⟩ (by simp [Value.category]) (by decide +kernel) (by simp [Value.category]) (rk_lt (by decide) hn).1 (vg_rk (by decide)) ?_
        refine c_put hn (by decide) hR0a (show S.2.1.length < 61 by omega) (num := x) (far := fr) (by omega) hGI.1 ?_
        intro I2 F2 hR0b hOI hOF
        dsimp only [ax_ps]
        refine xald_0 (q := 86) d_15_85 rfl ?_
        refine xg_G_found hn (q := 89) d_15_86 rfl fl_G_51 ?_
        refine xild_2 (q := 90) d_15_89 rfl ?_
        refine xcV1 (q := 93) d_15_90 rfl lk_G_144 mo_20 ⟨by decide +kernel, by decide +kernel⟩ (by simp [Value.category]) (by decide +kernel) (by simp [Value.category]) (rk_lt (by decide) hn).1 (vg_rk (by decide)) ?_
        refine c_cutTo hn (by decide) hR0b (m := e) (by omega) ?_
        intro I3 hR0c hOI2
        dsimp only [ax_ps]
        have hR1b : RK 1 I3 F2 S.2.2 := hR1a.same ((hOI2 _ (by decide)).trans (hOI _ (by decide))) (hOF _ (by decide))
        refine xald_0 (q := 94) d_15_93 rfl ?_
        refine xg_G_open hn (q := 97) d_15_94 rfl fl_G_55 ?_
        refine xild_1 (q := 98) d_15_97 rfl ?_
        refine xild_4 (q := 100) d_15_98 rfl ?_
        refine xcV2 (q := 103) d_15_100 rfl lk_G_131 mo_19 ⟨by decide +kernel, by decide +kernel⟩ (by simp [Value.category]) (by decide +kernel) (by simp [Value.category]) (rk_lt (by decide) hn).1 (vg_rk (by decide)) ?_
        refine c_put hn (by decide) hR1b (show S.2.2.length < 100 by omega) (num := x) (far := fr) (by omega) hGI.2.1 ?_
        intro I4 F4 hR1c hOI3 hOF3
        dsimp only [ax_ps]
        refine x_vret d_15_103 rfl ?_
        first
          | (have hcond : ¬ (S.2.1.length < e ∨ ¬ lastLt S.2.1 (kfW w P M o x)) := (by have hq := hR0a.1; rw [hkey]; intro hc; rcases hc with hc | hc; exact c59 (by omega); apply hc; unfold rkLB at c72; split at c72; assumption; exact absurd rfl c72); have e1 : mMeet (kfW w P M o) e x S = (x :: S.1, S.2.1, S.2.2) := (by unfold mMeet; rw [if_neg hnm, if_neg hcond]); refine k I1 F1 (by rw [e1]; exact ⟨hR0a, hR1a, hMT1⟩) (by rw [if_neg hnm]; exact hI5) (hfr1 _ _ (fun _ _ _ _ => rfl) (fun _ _ _ _ => rfl)))
          | (have hcond : S.2.1.length < e ∨ ¬ lastLt S.2.1 (kfW w P M o x) := (by have hq := hR0a.1; rw [hkey]; first | exact Or.inl (by omega) | (right; intro hc; unfold rkLB at c72; rw [if_pos hc] at c72; exact absurd c72 (by decide))); have e1 : mMeet (kfW w P M o) e x S = (x :: S.1, (ins (kfW w P M o x) S.2.1).take e, ins (kfW w P M o x) S.2.2) := (by unfold mMeet; rw [if_neg hnm, if_pos hcond]); have hq0 : I4 5 = I 5 + 1 := (by rw [hOI3 _ (by decide), hOI2 _ (by decide), hOI _ (by decide)]; exact hI5); refine k I4 F4 (by rw [e1, hkey]; exact ⟨hR0c.same (hOI3 _ (by decide)) (hOF3 _ (by decide)), hR1c, fun j hj => by rw [hOF3 _ (by decide), hOF _ (by decide)]; exact hMT1 j hj⟩) (by rw [if_neg hnm]; exact hq0) (hfr1 _ _ (fun j h1 h2 h3 => by rw [hOI3 j h3, hOI2 j h2, hOI j h2]) (fun j h1 h2 h3 => by rw [hOF3 j h3, hOF j h2])))
      · rw [zi_lt (by omega) (by omega) (by omega) (by omega)] at c59
        refine xald_0 (q := 63) d_15_62 rfl ?_
        refine xg_G_found hn (q := 66) d_15_63 rfl fl_G_51 ?_
        refine xild_1 (q := 67) d_15_66 rfl ?_
        refine xild_4 (q := 69) d_15_67 rfl ?_
        refine xcV2 (q := 72) d_15_69 rfl lk_G_153 mo_18 ⟨by decide +kernel, by decide +kernel⟩ (by simp [Value.category]) (by decide +kernel) (by simp [Value.category]) (rk_lt (by decide) hn).1 (vg_rk (by decide)) ?_
        refine c_lastIsBefore hn (by decide) hR0a (num := x) (far := fr) (by omega) ?_
        dsimp only [ax_ps]
        have hlb : rkLB S.2.1 (fr * 100 + x) = 0 ∨ rkLB S.2.1 (fr * 100 + x) = 1 := by unfold rkLB; split <;> omega
        refine x_if_ne (q := 75) (t := 103) d_15_72 (by decide) rfl (fun c72 => ?_) (fun c72 => ?_)
        · rw [zi_eq0 (by omega) (by omega)] at c72
          refine x_vret d_15_103 rfl ?_
          first
            | (have hcond : ¬ (S.2.1.length < e ∨ ¬ lastLt S.2.1 (kfW w P M o x)) := (by have hq := hR0a.1; rw [hkey]; intro hc; rcases hc with hc | hc; exact c59 (by omega); apply hc; unfold rkLB at c72; split at c72; assumption; exact absurd rfl c72); have e1 : mMeet (kfW w P M o) e x S = (x :: S.1, S.2.1, S.2.2) := (by unfold mMeet; rw [if_neg hnm, if_neg hcond]); refine k I1 F1 (by rw [e1]; exact ⟨hR0a, hR1a, hMT1⟩) (by rw [if_neg hnm]; exact hI5) (hfr1 _ _ (fun _ _ _ _ => rfl) (fun _ _ _ _ => rfl)))
            | (have hcond : S.2.1.length < e ∨ ¬ lastLt S.2.1 (kfW w P M o x) := (by have hq := hR0a.1; rw [hkey]; first | exact Or.inl (by omega) | (right; intro hc; unfold rkLB at c72; rw [if_pos hc] at c72; exact absurd c72 (by decide))); have e1 : mMeet (kfW w P M o) e x S = (x :: S.1, (ins (kfW w P M o x) S.2.1).take e, ins (kfW w P M o x) S.2.2) := (by unfold mMeet; rw [if_neg hnm, if_pos hcond]); have hq0 : I4 5 = I 5 + 1 := (by rw [hOI3 _ (by decide), hOI2 _ (by decide), hOI _ (by decide)]; exact hI5); refine k I4 F4 (by rw [e1, hkey]; exact ⟨hR0c.same (hOI3 _ (by decide)) (hOF3 _ (by decide)), hR1c, fun j hj => by rw [hOF3 _ (by decide), hOF _ (by decide)]; exact hMT1 j hj⟩) (by rw [if_neg hnm]; exact hq0) (hfr1 _ _ (fun j h1 h2 h3 => by rw [hOI3 j h3, hOI2 j h2, hOI j h2]) (fun j h1 h2 h3 => by rw [hOF3 j h3, hOF j h2])))
        · rw [zi_eq0 (by omega) (by omega)] at c72
          refine xald_0 (q := 76) d_15_75 rfl ?_
          refine xg_G_found hn (q := 79) d_15_76 rfl fl_G_51 ?_
          refine xild_1 (q := 80) d_15_79 rfl ?_
          refine xild_4 (q := 82) d_15_80 rfl ?_
          refine xcV2 (q := 85) d_15_82 rfl lk_G_131 mo_19 ⟨by decide +kernel, by decide +kernel⟩ (by simp [Value.category]) (by decide +kernel) (by simp [Value.category]) (rk_lt (by decide) hn).1 (vg_rk (by decide)) ?_
          refine c_put hn (by decide) hR0a (show S.2.1.length < 61 by omega) (num := x) (far := fr) (by omega) hGI.1 ?_
          intro I2 F2 hR0b hOI hOF
          dsimp only [ax_ps]
          refine xald_0 (q := 86) d_15_85 rfl ?_
          refine xg_G_found hn (q := 89) d_15_86 rfl fl_G_51 ?_
          refine xild_2 (q := 90) d_15_89 rfl ?_
          refine xcV1 (q := 93) d_15_90 rfl lk_G_144 mo_20 ⟨by decide +kernel, by decide +kernel⟩ (by simp [Value.category]) (by decide +kernel) (by simp [Value.category]) (rk_lt (by decide) hn).1 (vg_rk (by decide)) ?_
          refine c_cutTo hn (by decide) hR0b (m := e) (by omega) ?_
          intro I3 hR0c hOI2
          dsimp only [ax_ps]
          have hR1b : RK 1 I3 F2 S.2.2 := hR1a.same ((hOI2 _ (by decide)).trans (hOI _ (by decide))) (hOF _ (by decide))
          refine xald_0 (q := 94) d_15_93 rfl ?_
          refine xg_G_open hn (q := 97) d_15_94 rfl fl_G_55 ?_
          refine xild_1 (q := 98) d_15_97 rfl ?_
          refine xild_4 (q := 100) d_15_98 rfl ?_
          refine xcV2 (q := 103) d_15_100 rfl lk_G_131 mo_19 ⟨by decide +kernel, by decide +kernel⟩ (by simp [Value.category]) (by decide +kernel) (by simp [Value.category]) (rk_lt (by decide) hn).1 (vg_rk (by decide)) ?_
          refine c_put hn (by decide) hR1b (show S.2.2.length < 100 by omega) (num := x) (far := fr) (by omega) hGI.2.1 ?_
          intro I4 F4 hR1c hOI3 hOF3
          dsimp only [ax_ps]
          refine x_vret d_15_103 rfl ?_
          first
            | (have hcond : ¬ (S.2.1.length < e ∨ ¬ lastLt S.2.1 (kfW w P M o x)) := (by have hq := hR0a.1; rw [hkey]; intro hc; rcases hc with hc | hc; exact c59 (by omega); apply hc; unfold rkLB at c72; split at c72; assumption; exact absurd rfl c72); have e1 : mMeet (kfW w P M o) e x S = (x :: S.1, S.2.1, S.2.2) := (by unfold mMeet; rw [if_neg hnm, if_neg hcond]); refine k I1 F1 (by rw [e1]; exact ⟨hR0a, hR1a, hMT1⟩) (by rw [if_neg hnm]; exact hI5) (hfr1 _ _ (fun _ _ _ _ => rfl) (fun _ _ _ _ => rfl)))
            | (have hcond : S.2.1.length < e ∨ ¬ lastLt S.2.1 (kfW w P M o x) := (by have hq := hR0a.1; rw [hkey]; first | exact Or.inl (by omega) | (right; intro hc; unfold rkLB at c72; rw [if_pos hc] at c72; exact absurd c72 (by decide))); have e1 : mMeet (kfW w P M o) e x S = (x :: S.1, (ins (kfW w P M o x) S.2.1).take e, ins (kfW w P M o x) S.2.2) := (by unfold mMeet; rw [if_neg hnm, if_pos hcond]); have hq0 : I4 5 = I 5 + 1 := (by rw [hOI3 _ (by decide), hOI2 _ (by decide), hOI _ (by decide)]; exact hI5); refine k I4 F4 (by rw [e1, hkey]; exact ⟨hR0c.same (hOI3 _ (by decide)) (hOF3 _ (by decide)), hR1c, fun j hj => by rw [hOF3 _ (by decide), hOF _ (by decide)]; exact hMT1 j hj⟩) (by rw [if_neg hnm]; exact hq0) (hfr1 _ _ (fun j h1 h2 h3 => by rw [hOI3 j h3, hOI2 j h2, hOI j h2]) (fun j h1 h2 h3 => by rw [hOF3 j h3, hOF j h2])))
    · rw [show ((x : Int)).toNat = x by omega] at c17
      rw [zi_eq0 (by rw [hm]; split <;> omega) (by rw [hm]; split <;> omega)] at c17
      first
        | (exact absurd c8 (by decide))
        | (refine x_vret d_15_20 rfl ?_; have hin : x ∈ S.1 := (by by_cases h : x ∈ S.1; exact h; rw [if_neg h] at hm; omega); have e1 : mMeet (kfW w P M o) e x S = S := (by unfold mMeet; rw [if_pos hin]); refine k I F (by rw [e1]; exact ⟨hR0, hR1, hMT⟩) (by rw [if_pos hin]; omega) Fr3.rf)
