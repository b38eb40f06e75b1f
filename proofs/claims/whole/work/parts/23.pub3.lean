/-! closeUp, clean, rule, count, add -/
def keepL (rm : Nat → Int) : Nat → List Nat
  | 0 => []
  | n + 1 => if rm n = 0 then keepL rm n ++ [n] else keepL rm n
theorem keep_b (rm : Nat → Int) : ∀ n, (keepL rm n).length ≤ n
  | 0 => Nat.le_refl _
  | n + 1 => by
    have := keep_b rm n
    unfold keepL
    split
    · rw [List.length_append]; simp; omega
    · omega
theorem cpy_vec {F : Nat → Nat → Int} {P a b u k : Nat} (hk : k < P) : vec (cpyF F P a b) P u k = if u = b then vec F P a k else vec F P u k := by
  unfold vec cpyF
  rw [va_us]
  unfold va_cpy
  by_cases e : u = b
  · subst e
    rw [if_pos (by omega), if_pos rfl]
    congr 1
    omega
  · rw [if_neg e, if_neg]
    intro h
    rcases Nat.lt_or_ge u b with h1 | h1
    · have := Nat.mul_le_mul_right P (show u + 1 ≤ b by omega)
      rw [Nat.add_mul] at this
      omega
    · have := Nat.mul_le_mul_right P (show b + 1 ≤ u by omega)
      rw [Nat.add_mul] at this
      omega
theorem VW.cpy {I : Nat → Int} {F : Nat → Nat → Int} {P N M : Nat} (h : VW I F P N M) {a b : Nat} (ha : a ≤ 100) : VW I (cpyF F P a b) P N M := by
  obtain ⟨h1, h2, h3, h4, h5, h6, h7, h8, h9, h10⟩ := h
  refine ⟨h1, h2, h3, h4, h5, h6, h7, fun j hj => ?_, fun j hj => by rw [cpy_0 _ _ _ _ (by decide)]; exact h9 j hj, fun j hj => by rw [cpy_0 _ _ _ _ (by decide)]; exact h10 j hj⟩
  have hm := Nat.mul_le_mul_right P ha
  show -100 ≤ va_up F 2 _ 2 j ∧ va_up F 2 _ 2 j ≤ 100
  rw [va_us]
  unfold va_cpy
  split
  · exact h8 _ (by omega)
  · exact h8 _ hj
theorem VW.b0 {I : Nat → Int} {F : Nat → Nat → Int} {P N M : Nat} (h : VW I F P N M) {i : Nat} {e : Int} (he : e = 0 ∨ e = 1) : VW I (va_up F 0 (va_up (F 0) i e)) P N M := by
  obtain ⟨h1, h2, h3, h4, h5, h6, h7, h8, h9, h10⟩ := h
  refine ⟨h1, h2, h3, h4, h5, h6, h7, fun j hj => by rw [va_un _ _ _ (by decide)]; exact h8 j hj, fun j hj => ?_, fun j hj => by rw [va_un _ _ _ (by decide)]; exact h10 j hj⟩
  rw [va_us]
  by_cases e1 : j = i
  · rw [e1, va_us]; exact he
  · rw [va_un _ _ _ e1]; exact h9 j hj
theorem VW.b1 {I : Nat → Int} {F : Nat → Nat → Int} {P N M : Nat} (h : VW I F P N M) {i : Nat} {e : Int} (he : e = 0 ∨ e = 1) : VW I (va_up F 1 (va_up (F 1) i e)) P N M := by
  obtain ⟨h1, h2, h3, h4, h5, h6, h7, h8, h9, h10⟩ := h
  refine ⟨h1, h2, h3, h4, h5, h6, h7, fun j hj => by rw [va_un _ _ _ (by decide)]; exact h8 j hj, fun j hj => by rw [va_un _ _ _ (by decide)]; exact h9 j hj, fun j hj => ?_⟩
  rw [va_us]
  by_cases e1 : j = i
  · rw [e1, va_us]; exact he
  · rw [va_un _ _ _ e1]; exact h10 j hj
theorem VW.tot {I : Nat → Int} {F : Nat → Nat → Int} {P N M : Nat} (h : VW I F P N M) {t : Nat} (ht : t ≤ 100) : VW (va_up I 0 t) F P t M := by
  obtain ⟨h1, h2, h3, h4, h5, h6, h7, h8, h9, h10⟩ := h
  exact ⟨(va_un _ _ _ (by decide)).trans h1, h2, h3, va_us _ _ _, ht, (va_un _ _ _ (by decide)).trans h6, h7, h8, h9, h10⟩
theorem VW.mea {I : Nat → Int} {F : Nat → Nat → Int} {P N M : Nat} (h : VW I F P N M) {t : Nat} (ht : t ≤ 2) : VW (va_up I 1 t) F P N t := by
  obtain ⟨h1, h2, h3, h4, h5, h6, h7, h8, h9, h10⟩ := h
  exact ⟨(va_un _ _ _ (by decide)).trans h1, h2, h3, (va_un _ _ _ (by decide)).trans h4, h5, va_us _ _ _, ht, h8, h9, h10⟩
theorem gd_app1 {L : List Nat} {x u : Nat} : (L ++ [x]).getD u 0 = if u = L.length then x else L.getD u 0 := by
  rw [List.getD_eq_getElem?_getD, List.getD_eq_getElem?_getD]
  by_cases h : u < L.length
  · rw [List.getElem?_append_left h, if_neg (by omega)]
  · rw [List.getElem?_append_right (by omega)]
    by_cases e : u = L.length
    · rw [if_pos e, e, Nat.sub_self]; rfl
    · rw [if_neg e, List.getElem?_eq_none (by simp; omega), List.getElem?_eq_none (by omega)]

theorem cl_step {I : Nat → Int} {F0 F : Nat → Nat → Int} {P N M j d : Nat} {G : Nat → (Nat → Nat → Int) → Prop} (hV3 : VW I (va_up (va_up (cpyF F P j (keepL (F0 0) j).length) 1 (va_up (cpyF F P j (keepL (F0 0) j).length 1) (keepL (F0 0) j).length (cpyF F P j (keepL (F0 0) j).length 1 j))) 0 (va_up (va_up (cpyF F P j (keepL (F0 0) j).length) 1 (va_up (cpyF F P j (keepL (F0 0) j).length 1) (keepL (F0 0) j).length (cpyF F P j (keepL (F0 0) j).length 1 j)) 0) (keepL (F0 0) j).length 0)) P N M) (hA : (∀ u, u < (keepL (F0 0) j).length → (∀ q, q < P → vec F P u q = vec F0 P ((keepL (F0 0) j).getD u 0) q) ∧ F 1 u = F0 1 ((keepL (F0 0) j).getD u 0) ∧ F 0 u = 0)) (hB : ∀ u, j ≤ u → u ≤ 100 → ∀ q, q < P → vec F P u q = vec F0 P u q) (hB2 : ∀ u, j ≤ u → u < 100 → F 0 u = F0 0 u ∧ F 1 u = F0 1 u) (hD : ∀ j, j ≠ 0 → j ≠ 1 → j ≠ 2 → F j = F0 j) (hkb : (keepL (F0 0) j).length ≤ j) (ek : keepL (F0 0) (j + 1) = keepL (F0 0) j ++ [j]) (el : (keepL (F0 0) (j + 1)).length = (keepL (F0 0) j).length + 1)
    (ih : ∀ (j : Nat) (F : Nat → Nat → Int), j + d = N → VW I F P N M → (∀ u, u < (keepL (F0 0) j).length → (∀ q, q < P → vec F P u q = vec F0 P ((keepL (F0 0) j).getD u 0) q) ∧ F 1 u = F0 1 ((keepL (F0 0) j).getD u 0) ∧ F 0 u = 0) → (∀ u, j ≤ u → u ≤ 100 → ∀ q, q < P → vec F P u q = vec F0 P u q) → (∀ u, j ≤ u → u < 100 → F 0 u = F0 0 u ∧ F 1 u = F0 1 u) → (∀ j, j ≠ 0 → j ≠ 1 → j ≠ 2 → F j = F0 j) → G j F) (hjd : j + 1 + d = N) : G (j + 1) (va_up (va_up (cpyF F P j (keepL (F0 0) j).length) 1 (va_up (cpyF F P j (keepL (F0 0) j).length 1) (keepL (F0 0) j).length (cpyF F P j (keepL (F0 0) j).length 1 j))) 0 (va_up (va_up (cpyF F P j (keepL (F0 0) j).length) 1 (va_up (cpyF F P j (keepL (F0 0) j).length 1) (keepL (F0 0) j).length (cpyF F P j (keepL (F0 0) j).length 1 j)) 0) (keepL (F0 0) j).length 0)) := by
  have hN2 := hV3.2.2.2.2.1
  have h1 : ∀ u, (va_up (va_up (cpyF F P j (keepL (F0 0) j).length) 1 (va_up (cpyF F P j (keepL (F0 0) j).length 1) (keepL (F0 0) j).length (cpyF F P j (keepL (F0 0) j).length 1 j))) 0 (va_up (va_up (cpyF F P j (keepL (F0 0) j).length) 1 (va_up (cpyF F P j (keepL (F0 0) j).length 1) (keepL (F0 0) j).length (cpyF F P j (keepL (F0 0) j).length 1 j)) 0) (keepL (F0 0) j).length 0)) 1 u = if u = (keepL (F0 0) j).length then F 1 j else F 1 u := fun u => by
    rw [va_un _ _ _ (by decide), va_us, cpy_0 _ _ _ _ (by decide)]
    by_cases e : u = (keepL (F0 0) j).length
    · rw [e, va_us, if_pos rfl]
    · rw [va_un _ _ _ e, if_neg e]
  have h0 : ∀ u, (va_up (va_up (cpyF F P j (keepL (F0 0) j).length) 1 (va_up (cpyF F P j (keepL (F0 0) j).length 1) (keepL (F0 0) j).length (cpyF F P j (keepL (F0 0) j).length 1 j))) 0 (va_up (va_up (cpyF F P j (keepL (F0 0) j).length) 1 (va_up (cpyF F P j (keepL (F0 0) j).length 1) (keepL (F0 0) j).length (cpyF F P j (keepL (F0 0) j).length 1 j)) 0) (keepL (F0 0) j).length 0)) 0 u = if u = (keepL (F0 0) j).length then 0 else F 0 u := fun u => by
    rw [va_us, va_un _ 1 _ (by decide), cpy_0 _ _ _ _ (by decide)]
    by_cases e : u = (keepL (F0 0) j).length
    · rw [e, va_us, if_pos rfl]
    · rw [va_un _ _ _ e, if_neg e]
  have h2 : ∀ u q, q < P → vec (va_up (va_up (cpyF F P j (keepL (F0 0) j).length) 1 (va_up (cpyF F P j (keepL (F0 0) j).length 1) (keepL (F0 0) j).length (cpyF F P j (keepL (F0 0) j).length 1 j))) 0 (va_up (va_up (cpyF F P j (keepL (F0 0) j).length) 1 (va_up (cpyF F P j (keepL (F0 0) j).length 1) (keepL (F0 0) j).length (cpyF F P j (keepL (F0 0) j).length 1 j)) 0) (keepL (F0 0) j).length 0)) P u q = if u = (keepL (F0 0) j).length then vec F P j q else vec F P u q := fun u q hq => by
    rw [← cpy_vec hq]
    unfold vec
    rw [va_un _ 0 _ (by decide), va_un _ 1 _ (by decide)]
  refine ih (j + 1) _ hjd hV3 (fun u hu => ?_) (fun u hu1 hu2 q hq => ?_) (fun u hu1 hu2 => ?_) (fun r a b c => ?_)
  · rw [ek, gd_app1]
    by_cases e : u = (keepL (F0 0) j).length
    · rw [if_pos e]
      refine ⟨fun q hq => ?_, ?_, ?_⟩
      · rw [h2 u q hq, if_pos e, hB j (Nat.le_refl _) (by omega) q hq]
      · rw [h1 u, if_pos e, (hB2 j (Nat.le_refl _) (by omega)).2]
      · rw [h0 u, if_pos e]
    · rw [if_neg e]
      obtain ⟨a1, a2, a3⟩ := hA u (by omega)
      refine ⟨fun q hq => ?_, ?_, ?_⟩
      · rw [h2 u q hq, if_neg e, a1 q hq]
      · rw [h1 u, if_neg e, a2]
      · rw [h0 u, if_neg e, a3]
  · rw [h2 u q hq, if_neg (by omega)]; exact hB u (by omega) hu2 q hq
  · rw [h0 u, h1 u, if_neg (by omega), if_neg (by omega)]; exact hB2 u (by omega) hu2
  · rw [va_un _ _ _ a, va_un _ _ _ b, cpy_0 _ _ _ _ c]; exact hD r a b c
set_option maxHeartbeats 2000000 in
theorem lq_closeUp {sc : ax_S} {σ : Nat → ax_C} {I : Nat → Int} {F0 : Nat → Nat → Int} {n bc bs : Nat} {K : ax_K} (hn : 22 ≤ n) {P N M : Nat} (hV0 : VW I F0 P N M)
    (k : ∀ F, VW (va_up I 0 (keepL (F0 0) N).length) F P (keepL (F0 0) N).length M → (∀ u, u < (keepL (F0 0) N).length → (∀ q, q < P → vec F P u q = vec F0 P ((keepL (F0 0) N).getD u 0) q) ∧ F 1 u = F0 1 ((keepL (F0 0) N).getD u 0) ∧ F 0 u = 0) → (∀ q, q < P → vec F P 100 q = vec F0 P 100 q) → (∀ j, j ≠ 0 → j ≠ 1 → j ≠ 2 → F j = F0 j) → K (some (.int (zi (N - (keepL (F0 0) N).length)))) (vg σ (va_up I 0 (keepL (F0 0) N).length) F, n, bc, bs)) :
    ∀ (d j : Nat) (F : Nat → Nat → Int), j + d = N → VW I F P N M → (∀ u, u < (keepL (F0 0) j).length → (∀ q, q < P → vec F P u q = vec F0 P ((keepL (F0 0) j).getD u 0) q) ∧ F 1 u = F0 1 ((keepL (F0 0) j).getD u 0) ∧ F 0 u = 0) → (∀ u, j ≤ u → u ≤ 100 → ∀ q, q < P → vec F P u q = vec F0 P u q) → (∀ u, j ≤ u → u < 100 → F 0 u = F0 0 u ∧ F 1 u = F0 1 u) → (∀ j, j ≠ 0 → j ≠ 1 → j ≠ 2 → F j = F0 j) → Ex sc 37 4 [some (.ref 1), some (.int (zi (keepL (F0 0) j).length)), some (.int (zi j))] [] (vg σ I F, n, bc, bs) K := by
  intro d
  induction d with
  | zero =>
    intro j F hj hV hA hB hB2 hD
    obtain ⟨hP, hP1, hP2, hN, hN2, hM, hM2, hv, hrm, hbr⟩ := id hV
    have hjN : j = N := by omega
    subst hjN
    have hkb := keep_b (F0 0) j
    refine xild_2 (q := 5) d_37_4 rfl ?_
    refine xald_0 (q := 6) d_37_5 rfl ?_
    refine xg_V_total hn (q := 9) d_37_6 rfl fl_V_26 ?_
    refine x_icmp_ge (q := 12) (t := 55) d_37_9 (by decide) rfl (fun c9 => ?_) (fun c9 => ?_)
    · rw [zi_le (by omega) (by omega) (by omega) (by omega)] at c9
      refine xald_0 (q := 56) d_37_55 rfl ?_
      refine xg_V_total hn (q := 59) d_37_56 rfl fl_V_26 ?_
      refine xild_1 (q := 60) d_37_59 rfl ?_
      refine z_isub (q := 61) d_37_60 rfl ?_
      refine xist_2 (q := 62) d_37_61 rfl ?_
      refine xald_0 (q := 63) d_37_62 rfl ?_
      refine xild_1 (q := 64) d_37_63 rfl ?_
      refine xp_V_total hn (q := 67) d_37_64 rfl fw_V_26 ?_
      refine xild_2 (q := 68) d_37_67 rfl ?_
      refine x_iret d_37_68 rfl rfl ?_
      rw [hN]
      exact k F (hV.tot (by omega)) hA (hB 100 (by omega) (Nat.le_refl _)) hD
    · rw [zi_le (by omega) (by omega) (by omega) (by omega)] at c9
      exact absurd c9 (by omega)
  | succ d ih =>
    intro j F hj hV hA hB hB2 hD
    obtain ⟨hP, hP1, hP2, hN, hN2, hM, hM2, hv, hrm, hbr⟩ := id hV
    have hkb := keep_b (F0 0) j
    have hj0 := hB2 j (Nat.le_refl _) (by omega)
    have h01 := hrm j (by omega)
    have h02 := hbr j (by omega)
    have ek : keepL (F0 0) (j + 1) = if F0 0 j = 0 then keepL (F0 0) j ++ [j] else keepL (F0 0) j := rfl
    refine xild_2 (q := 5) d_37_4 rfl ?_
    refine xald_0 (q := 6) d_37_5 rfl ?_
    refine xg_V_total hn (q := 9) d_37_6 rfl fl_V_26 ?_
    refine x_icmp_ge (q := 12) (t := 55) d_37_9 (by decide) rfl (fun c9 => ?_) (fun c9 => ?_)
    · rw [zi_le (by omega) (by omega) (by omega) (by omega)] at c9
      exact absurd c9 (by omega)
    · rw [zi_le (by omega) (by omega) (by omega) (by omega)] at c9
      refine xald_0 (q := 13) d_37_12 rfl ?_
      refine xg_V_removed hn (q := 16) d_37_13 rfl fl_V_15 ?_
      refine xild_2 (q := 17) d_37_16 rfl ?_
      refine xl_removed (q := 18) hn d_37_17 rfl (by omega) (by omega) ?_
      rw [show ((j : Int)).toNat = j by omega]
      refine x_if_ne (q := 21) (t := 49) d_37_18 (by decide) rfl (fun c18 => ?_) (fun c18 => ?_)
      · rw [zi_eq0 (by omega) (by omega)] at c18
        refine xincz_2 (q := 52) d_37_49 rfl ?_
        refine x_goto (t := 4) d_37_52 (by decide) ?_
        rw [show (j : Int) + 1 = ((j + 1 : Nat) : Int) by omega]
        first
          | (rw [if_neg (by omega)] at ek; rw [← ek]; rw [← ek] at hA; exact ih (j + 1) F (by omega) hV hA (fun u h1 h2 => hB u (by omega) h2) (fun u h1 h2 => hB2 u (by omega) h2) hD)
          | (rw [if_pos (by omega)] at ek; have el : (keepL (F0 0) (j + 1)).length = (keepL (F0 0) j).length + 1 := (by rw [ek, List.length_append]; rfl); rw [show ((keepL (F0 0) j).length : Int) + 1 = (((keepL (F0 0) (j + 1)).length : Nat) : Int) by omega, show (((keepL (F0 0) j).length : Nat) : Int).toNat = (keepL (F0 0) j).length by omega, show ((j : Int)).toNat = j by omega]; have hV3 := (hVc.b1 (i := (keepL (F0 0) j).length) (e := cpyF F P j (keepL (F0 0) j).length 1 j) (by rw [cpy_0 _ _ _ _ (by decide)]; exact h02)).b0 (i := (keepL (F0 0) j).length) (e := 0) (Or.inl rfl); exact cl_step hV3 hA hB hB2 hD hkb ek el ih (by omega))
      · rw [zi_eq0 (by omega) (by omega)] at c18
        refine xald_0 (q := 22) d_37_21 rfl ?_
        refine xild_2 (q := 23) d_37_22 rfl ?_
        refine xild_1 (q := 24) d_37_23 rfl ?_
        refine xcV2 (q := 27) d_37_24 rfl lk_V_36 mo_8 ⟨by decide +kernel, by decide +kernel⟩ (by simp [Value.category]) (by decide +kernel) (by simp [Value.category]) (by omega) rfl ?_
        refine c_copy hn hV (a := j) (b := (keepL (F0 0) j).length) (by omega) (by omega) ?_
        dsimp only [ax_ps]
        have hVc := hV.cpy (a := j) (b := (keepL (F0 0) j).length) (by omega)
        refine xald_0 (q := 28) d_37_27 rfl ?_
        refine xg_V_barred hn (q := 31) d_37_28 rfl fl_V_19 ?_
        refine xild_1 (q := 32) d_37_31 rfl ?_
        refine xald_0 (q := 33) d_37_32 rfl ?_
        refine xg_V_barred hn (q := 36) d_37_33 rfl fl_V_19 ?_
        refine xild_2 (q := 37) d_37_36 rfl ?_
        refine xl_barred (q := 38) hn d_37_37 rfl (by omega) (by omega) ?_
        refine xs_barred (q := 39) hn (by rw [show ((j : Int)).toNat = j by omega, cpy_0 _ _ _ _ (by decide)]; exact h02) d_37_38 rfl (by omega) (by omega) ?_
        refine xald_0 (q := 40) d_37_39 rfl ?_
        refine xg_V_removed hn (q := 43) d_37_40 rfl fl_V_15 ?_
        refine xild_1 (q := 44) d_37_43 rfl ?_
        refine x_iconst (q := 45) (v := zi (0)) d_37_44 rfl rfl ?_
        refine xs_removed (e := 0) (q := 46) hn (Or.inl rfl) d_37_45 rfl (by omega) (by omega) ?_
        refine xincz_1 (q := 49) d_37_46 rfl ?_
        refine xincz_2 (q := 52) d_37_49 rfl ?_
        refine x_goto (t := 4) d_37_52 (by decide) ?_
        rw [show (j : Int) + 1 = ((j + 1 : Nat) : Int) by omega]
        first
          | (rw [if_neg (by omega)] at ek; rw [← ek]; rw [← ek] at hA; exact ih (j + 1) F (by omega) hV hA (fun u h1 h2 => hB u (by omega) h2) (fun u h1 h2 => hB2 u (by omega) h2) hD)
          | (rw [if_pos (by omega)] at ek; have el : (keepL (F0 0) (j + 1)).length = (keepL (F0 0) j).length + 1 := (by rw [ek, List.length_append]; rfl); rw [show ((keepL (F0 0) j).length : Int) + 1 = (((keepL (F0 0) (j + 1)).length : Nat) : Int) by omega, show (((keepL (F0 0) j).length : Nat) : Int).toNat = (keepL (F0 0) j).length by omega, show ((j : Int)).toNat = j by omega]; have hV3 := (hVc.b1 (i := (keepL (F0 0) j).length) (e := cpyF F P j (keepL (F0 0) j).length 1 j) (by rw [cpy_0 _ _ _ _ (by decide)]; exact h02)).b0 (i := (keepL (F0 0) j).length) (e := 0) (Or.inl rfl); exact cl_step hV3 hA hB hB2 hD hkb ek el ih (by omega))
set_option maxHeartbeats 2000000 in
theorem c_closeUp {sc : ax_S} {σ : Nat → ax_C} {I : Nat → Int} {F : Nat → Nat → Int} {n bc bs : Nat} {K : ax_K} (hn : 22 ≤ n) {P N M : Nat} (hV : VW I F P N M)
    (k : ∀ F', VW (va_up I 0 (keepL (F 0) N).length) F' P (keepL (F 0) N).length M → (∀ u, u < (keepL (F 0) N).length → (∀ q, q < P → vec F' P u q = vec F P ((keepL (F 0) N).getD u 0) q) ∧ F' 1 u = F 1 ((keepL (F 0) N).getD u 0) ∧ F' 0 u = 0) → (∀ q, q < P → vec F' P 100 q = vec F P 100 q) → (∀ j, j ≠ 0 → j ≠ 1 → j ≠ 2 → F' j = F j) → K (some (.int (zi (N - (keepL (F 0) N).length)))) (vg σ (va_up I 0 (keepL (F 0) N).length) F', n, bc, bs)) : Ex sc 37 0 (ax_en 37 [.ref 1]) [] (vg σ I F, n, bc, bs) K := by
  show Ex sc 37 0 [some (.ref 1), none, none] [] (vg σ I F, n, bc, bs) K
  refine x_iconst (q := 1) (v := zi (0)) d_37_0 rfl rfl ?_
  refine xist_1 (q := 2) d_37_1 rfl ?_
  refine x_iconst (q := 3) (v := zi (0)) d_37_2 rfl rfl ?_
  refine xist_2 (q := 4) d_37_3 rfl ?_
  exact lq_closeUp hn hV k N 0 F (by omega) hV (fun u hu => absurd hu (Nat.not_lt_zero _)) (fun _ _ _ _ _ => rfl) (fun _ _ _ => ⟨rfl, rfl⟩) (fun _ _ _ _ => rfl)
set_option maxHeartbeats 2000000 in
theorem c_clean {sc : ax_S} {σ : Nat → ax_C} {I : Nat → Int} {F : Nat → Nat → Int} {n bc bs : Nat} {K : ax_K} (hn : 22 ≤ n) {P N M : Nat} (hV : VW I F P N M) {wd : Nat} (hwd : I 3 = wd) (hwd6 : wd ≤ 6) {car : Bool} (hcar : I 4 = if car = true then 1 else 0) {s : Int} (hs : I 8 = s)
    (k : ∀ I' F' w, VW I' F' P (keepL (F 0) N).length M → F' 2 = w → (∀ u, u < (keepL (F 0) N).length → (∀ q, q < P → vec F' P u q = vec F P ((keepL (F 0) N).getD u 0) q) ∧ F' 1 u = F 1 ((keepL (F 0) N).getD u 0) ∧ F' 0 u = 0) → (∀ q, q < P → vec F' P 100 q = vec F P 100 q) → GW F' (mBuild (kfW w P M) (fbW w P M) car wd (lev s) (keepL (F 0) N).length).1 (keepL (F 0) N).length → I' 2 = entI (mBuild (kfW w P M) (fbW w P M) car wd (lev s) (keepL (F 0) N).length).2 → RK 3 I' F' [] → (∀ j, 2 < j → j < 10 → j ≠ 5 → I' j = I j) → K (some (.int (zi (N - (keepL (F 0) N).length)))) (vg σ I' F', n, bc, bs)) : Ex sc 36 0 (ax_en 36 [.ref 0]) [] (vg σ I F, n, bc, bs) K := by
  show Ex sc 36 0 [some (.ref 0), none] [] (vg σ I F, n, bc, bs) K
  refine xald_0 (q := 1) d_36_0 rfl ?_
  refine xg_VG_vectors hn (q := 4) d_36_1 rfl fl_X_23 ?_
  refine xcV0 (q := 7) d_36_4 rfl lk_X_84 mo_37 ⟨by decide +kernel, by decide +kernel⟩  (by decide +kernel) (by simp [Value.category]) (by omega) rfl ?_
  refine c_closeUp hn hV ?_
  intro F1 hV1 hA1 hH1 hF1
  dsimp only [ax_ps]
  refine xist_1 (q := 8) d_36_7 rfl ?_
  refine xald_0 (q := 9) d_36_8 rfl ?_
  refine xg_VG_last hn (q := 12) d_36_9 rfl fl_X_39 ?_
  refine xcV0 (q := 15) d_36_12 rfl lk_X_87 mo_14 ⟨by decide +kernel, by decide +kernel⟩  (by decide +kernel) (by simp [Value.category]) (rk_lt (by decide) hn).1 (vg_rk (by decide)) ?_
  refine c_empty hn (by decide) ?_
  intro I2 hE hO2
  dsimp only [ax_ps]
  have hV2 : VW I2 F1 P (keepL (F 0) N).length M := hV1.same (hO2 _ (by decide)) (hO2 _ (by decide)) (hO2 _ (by decide)) rfl rfl rfl
  have hi2 : ∀ j, j ≠ 0 → j ≠ 10 + 3 → I2 j = I j := fun j a b => (hO2 j b).trans (va_un _ _ _ a)
  refine xald_0 (q := 16) d_36_15 rfl ?_
  refine xg_VG_graph hn (q := 19) d_36_16 rfl fl_X_32 ?_
  refine xcV0 (q := 22) d_36_19 rfl lk_X_90 mo_38 ⟨by decide +kernel, by decide +kernel⟩  (by decide +kernel) (by simp [Value.category]) (by omega) rfl ?_
  refine c_rebuild hn hV2 rfl ((hi2 3 (by decide) (by decide)).trans hwd) hwd6 ((hi2 4 (by decide) (by decide)).trans hcar) ((hi2 8 (by decide) (by decide)).trans hs) ?_
  intro I3 F3 hG3 he3 hF3
  dsimp only [ax_ps]
  refine xild_1 (q := 23) d_36_22 rfl ?_
  refine x_iret d_36_23 rfl rfl ?_
  have f0 : F3 0 = F1 0 := hF3.2 0 (by decide) (by decide) (by decide) (by decide) (by decide) (by decide)
  have f1 : F3 1 = F1 1 := hF3.2 1 (by decide) (by decide) (by decide) (by decide) (by decide) (by decide)
  have f2 : F3 2 = F1 2 := hF3.w
  refine k I3 F3 (F1 2) (hV2.frK hF3) f2 (fun u hu => ?_) (fun q hq => ?_) hG3 he3 (hE.same (hF3.1 _ (by decide) (by decide) (by decide) (by decide) (by decide)) (hF3.2 _ (by decide) (by decide) (by decide) (by decide) (by decide) (by decide))) (fun j a b c => ?_)
  · rw [f0, f1]
    refine ⟨fun q hq => ?_, (hA1 u hu).2⟩
    rw [← (hA1 u hu).1 q hq]
    unfold vec
    rw [f2]
  · rw [← hH1 q hq]
    unfold vec
    rw [f2]
  · rw [hF3.1 j (by omega) c (by omega) (by omega) (by omega), hi2 j (by omega) (by omega)]
set_option maxHeartbeats 2000000 in
theorem rule_tl {sc : ax_S} {σ : Nat → ax_C} {I : Nat → Int} {F : Nat → Nat → Int} {n bc bs : Nat} {K : ax_K} (hn : 22 ≤ n) {P N M : Nat} (hV : VW I F P N M) {w : Nat → Int} (hw : F 2 = w) {wd : Nat} (hwd : I 3 = wd) (hwd6 : wd ≤ 6) {car : Bool} (hcar : I 4 = if car = true then 1 else 0) {s : Int} (hs : I 8 = s) {x1 x2 : Option Value} {was : Int} (hwas : 0 ≤ was ∧ was ≤ 100)
    (k : ∀ I' F', GW F' (mBuild (kfW w P M) (fbW w P M) car wd (lev s) N).1 N → I' 2 = entI (mBuild (kfW w P M) (fbW w P M) car wd (lev s) N).2 → FrK I F I' F' → K (some (.int (zi was))) (vg σ I' F', n, bc, bs)) : Ex sc 39 116 [some (.ref 0), x1, x2, some (.int (zi was))] [] (vg σ I F, n, bc, bs) K := by
  refine xild_3 (q := 117) d_39_116 rfl ?_
  refine x_iconst (q := 118) (v := zi (-1)) d_39_117 rfl rfl ?_
  refine x_icmp_eq (q := 121) (t := 128) d_39_118 (by decide) rfl (fun c118 => ?_) (fun c118 => ?_)
  · rw [zi_eq (by omega) (by omega) (by omega) (by omega)] at c118
    refine xild_3 (q := 129) d_39_128 rfl ?_
    refine x_iret d_39_129 rfl rfl ?_
    first
      | (exact absurd c118 (by omega))
      | (exact k I3 F3 hG3 he3 hF3)
  · rw [zi_eq (by omega) (by omega) (by omega) (by omega)] at c118
    refine xald_0 (q := 122) d_39_121 rfl ?_
    refine xg_VG_graph hn (q := 125) d_39_122 rfl fl_X_32 ?_
    refine xcV0 (q := 128) d_39_125 rfl lk_X_90 mo_38 ⟨by decide +kernel, by decide +kernel⟩  (by decide +kernel) (by simp [Value.category]) (by omega) rfl ?_
    refine c_rebuild hn hV hw hwd hwd6 hcar hs ?_
    intro I3 F3 hG3 he3 hF3
    dsimp only [ax_ps]
    refine xild_3 (q := 129) d_39_128 rfl ?_
    refine x_iret d_39_129 rfl rfl ?_
    first
      | (exact absurd c118 (by omega))
      | (exact k I3 F3 hG3 he3 hF3)
set_option maxHeartbeats 2000000 in
theorem c_rule {sc : ax_S} {σ : Nat → ax_C} {I : Nat → Int} {F : Nat → Nat → Int} {n bc bs : Nat} {K : ax_K} (hn : 22 ≤ n) {P N M : Nat} (hV : VW I F P N M) {w : Nat → Int} (hw : F 2 = w) {wd : Nat} (hwd : I 3 = wd) (hwd6 : wd ≤ 6) {car : Bool} (hcar : I 4 = if car = true then 1 else 0) {s : Int} (hs : I 8 = s) (hwd2 : 2 ≤ wd) {a v : Int} (ha : I32 a) (hv3 : I32 v)
    (k0 : (a = 0 ∧ 0 ≤ v ∧ v ≤ 2 → ∀ I' F', GW F' (mBuild (kfW w P v.toNat) (fbW w P v.toNat) car wd (lev s) N).1 N → I' 2 = entI (mBuild (kfW w P v.toNat) (fbW w P v.toNat) car wd (lev s) N).2 → FrK (va_up I 1 v) F I' F' → K (some (.int (zi M))) (vg σ I' F', n, bc, bs)))
    (k1 : (a = 1 ∧ 2 ≤ v ∧ v ≤ 6 → ∀ I' F', GW F' (mBuild (kfW w P M) (fbW w P M) car v.toNat (lev s) N).1 N → I' 2 = entI (mBuild (kfW w P M) (fbW w P M) car v.toNat (lev s) N).2 → FrK (va_up I 3 v) F I' F' → K (some (.int (zi wd))) (vg σ I' F', n, bc, bs)))
    (k2 : (a = 2 ∧ 0 ≤ v ∧ v ≤ 1 → ∀ I' F', GW F' (mBuild (kfW w P M) (fbW w P M) (decide (v = 1)) wd (lev s) N).1 N → I' 2 = entI (mBuild (kfW w P M) (fbW w P M) (decide (v = 1)) wd (lev s) N).2 → FrK (va_up I 4 v) F I' F' → K (some (.int (zi (I 4)))) (vg σ I' F', n, bc, bs)))
    (kb : ¬ (a = 0 ∧ 0 ≤ v ∧ v ≤ 2) → ¬ (a = 1 ∧ 2 ≤ v ∧ v ≤ 6) → ¬ (a = 2 ∧ 0 ≤ v ∧ v ≤ 1) → K (some (.int (zi (-1)))) (vg σ I F, n, bc, bs)) : Ex sc 39 0 (ax_en 39 [.ref 0, .int (zi a), .int (zi v)]) [] (vg σ I F, n, bc, bs) K := by
  obtain ⟨hP, hP1, hP2, hN, hN2, hM, hM2, hv, hrm, hbr⟩ := id hV
  have h4 : I 4 = 0 ∨ I 4 = 1 := by rw [hcar]; split <;> omega
  show Ex sc 39 0 [some (.ref 0), some (.int (zi a)), some (.int (zi v)), none] [] (vg σ I F, n, bc, bs) K
  by_cases q0 : a = 0 ∧ 0 ≤ v ∧ v ≤ 2
  · obtain ⟨rfl, q1, q2⟩ := q0
    have hV1 : VW (va_up I 1 v) F P N v.toNat := by
      have h := hV.mea (t := v.toNat) (by omega)
      rwa [show ((v.toNat : Nat) : Int) = v by omega] at h
    refine x_iconst (q := 1) (v := zi (-1)) d_39_0 rfl rfl ?_
    refine xist_3 (q := 2) d_39_1 rfl ?_
    refine xild_1 (q := 3) d_39_2 rfl ?_
    refine x_if_ne (q := 6) (t := 34) d_39_3 (by decide) rfl (fun c3 => ?_) (fun c3 => ?_)
    · first | exact absurd rfl c3 | exact absurd c7 (by omega) | exact absurd c12 (by omega)
    · refine xild_2 (q := 7) d_39_6 rfl ?_
      refine x_if_lt (q := 10) (t := 34) d_39_7 (by decide) rfl (fun c7 => ?_) (fun c7 => ?_)
      · rw [zi_lt0 (by omega) (by omega)] at c7
        first | exact absurd rfl c3 | exact absurd c7 (by omega) | exact absurd c12 (by omega)
      · rw [zi_lt0 (by omega) (by omega)] at c7
        refine xild_2 (q := 11) d_39_10 rfl ?_
        refine x_iconst (q := 12) (v := zi (2)) d_39_11 rfl rfl ?_
        refine x_icmp_gt (q := 15) (t := 34) d_39_12 (by decide) rfl (fun c12 => ?_) (fun c12 => ?_)
        · rw [zi_lt (by omega) (by omega) (by omega) (by omega)] at c12
          first | exact absurd rfl c3 | exact absurd c7 (by omega) | exact absurd c12 (by omega)
        · rw [zi_lt (by omega) (by omega) (by omega) (by omega)] at c12
          refine xald_0 (q := 16) d_39_15 rfl ?_
          refine xg_VG_vectors hn (q := 19) d_39_16 rfl fl_X_23 ?_
          refine xg_V_measure hn (q := 22) d_39_19 rfl fl_X_93 ?_
          refine xist_3 (q := 23) d_39_22 rfl ?_
          refine xald_0 (q := 24) d_39_23 rfl ?_
          refine xg_VG_vectors hn (q := 27) d_39_24 rfl fl_X_23 ?_
          refine xild_2 (q := 28) d_39_27 rfl ?_
          refine xp_V_measure hn (q := 31) d_39_28 rfl fw_X_93 ?_
          refine x_goto (t := 116) d_39_31 (by decide) ?_
          rw [hM]
          exact rule_tl hn hV1 hw ((va_un _ _ _ (by decide)).trans hwd) hwd6 ((va_un _ _ _ (by decide)).trans hcar) ((va_un _ _ _ (by decide)).trans hs) (by omega) (k0 ⟨rfl, q1, q2⟩)
  · by_cases q1 : a = 1 ∧ 2 ≤ v ∧ v ≤ 6
    · obtain ⟨rfl, q1, q2⟩ := q1
      refine x_iconst (q := 1) (v := zi (-1)) d_39_0 rfl rfl ?_
      refine xist_3 (q := 2) d_39_1 rfl ?_
      refine xild_1 (q := 3) d_39_2 rfl ?_
      refine x_if_ne (q := 6) (t := 34) d_39_3 (by decide) rfl (fun c3 => ?_) (fun c3 => ?_)
      · refine xild_1 (q := 35) d_39_34 rfl ?_
        refine x_iconst (q := 36) (v := zi (1)) d_39_35 rfl rfl ?_
        refine x_icmp_ne (q := 39) (t := 69) d_39_36 (by decide) rfl (fun c36 => ?_) (fun c36 => ?_)
        · first | exact absurd rfl c36 | exact absurd c41 (by omega) | exact absurd c47 (by omega)
        · refine xild_2 (q := 40) d_39_39 rfl ?_
          refine x_iconst (q := 41) (v := zi (2)) d_39_40 rfl rfl ?_
          refine x_icmp_lt (q := 44) (t := 69) d_39_41 (by decide) rfl (fun c41 => ?_) (fun c41 => ?_)
          · rw [zi_lt (by omega) (by omega) (by omega) (by omega)] at c41
            first | exact absurd rfl c36 | exact absurd c41 (by omega) | exact absurd c47 (by omega)
          · rw [zi_lt (by omega) (by omega) (by omega) (by omega)] at c41
            refine xild_2 (q := 45) d_39_44 rfl ?_
            refine x_bipush (q := 47) (v := zi (6)) d_39_45 rfl (by decide) ?_
            refine x_icmp_gt (q := 50) (t := 69) d_39_47 (by decide) rfl (fun c47 => ?_) (fun c47 => ?_)
            · rw [zi_lt (by omega) (by omega) (by omega) (by omega)] at c47
              first | exact absurd rfl c36 | exact absurd c41 (by omega) | exact absurd c47 (by omega)
            · rw [zi_lt (by omega) (by omega) (by omega) (by omega)] at c47
              refine xald_0 (q := 51) d_39_50 rfl ?_
              refine xg_VG_graph hn (q := 54) d_39_51 rfl fl_X_32 ?_
              refine xg_G_width hn (q := 57) d_39_54 rfl fl_X_96 ?_
              refine xist_3 (q := 58) d_39_57 rfl ?_
              refine xald_0 (q := 59) d_39_58 rfl ?_
              refine xg_VG_graph hn (q := 62) d_39_59 rfl fl_X_32 ?_
              refine xild_2 (q := 63) d_39_62 rfl ?_
              refine xp_G_width hn (q := 66) d_39_63 rfl fw_X_96 ?_
              refine x_goto (t := 116) d_39_66 (by decide) ?_
              rw [hwd]
              exact rule_tl hn (hV.same (va_un _ _ _ (by decide)) (va_un _ _ _ (by decide)) (va_un _ _ _ (by decide)) rfl rfl rfl) hw (wd := v.toNat) (by rw [va_us]; omega) (by omega) ((va_un _ _ _ (by decide)).trans hcar) ((va_un _ _ _ (by decide)).trans hs) (by omega) (k1 ⟨rfl, q1, q2⟩)
      · exact absurd c3 (by decide)
    · by_cases q2 : a = 2 ∧ 0 ≤ v ∧ v ≤ 1
      · obtain ⟨rfl, q3, q4⟩ := q2
        have k2 := k2 ⟨rfl, q3, q4⟩
        have hv01 : v = 0 ∨ v = 1 := by omega
        rcases hv01 with rfl | rfl
        · refine x_iconst (q := 1) (v := zi (-1)) d_39_0 rfl rfl ?_
          refine xist_3 (q := 2) d_39_1 rfl ?_
          refine xild_1 (q := 3) d_39_2 rfl ?_
          refine x_if_ne (q := 6) (t := 34) d_39_3 (by decide) rfl (fun c3 => ?_) (fun c3 => ?_)
          · refine xild_1 (q := 35) d_39_34 rfl ?_
            refine x_iconst (q := 36) (v := zi (1)) d_39_35 rfl rfl ?_
            refine x_icmp_ne (q := 39) (t := 69) d_39_36 (by decide) rfl (fun c36 => ?_) (fun c36 => ?_)
            · refine xild_1 (q := 70) d_39_69 rfl ?_
              refine x_iconst (q := 71) (v := zi (2)) d_39_70 rfl rfl ?_
              refine x_icmp_ne (q := 74) (t := 116) d_39_71 (by decide) rfl (fun c71 => ?_) (fun c71 => ?_)
              · first | exact absurd rfl c71 | exact absurd rfl c75 | exact absurd rfl c80 | exact absurd c105 (by decide) | exact absurd rfl c105 | (rw [show I 4 = 0 by omega] at k2; exact rule_tl hn (hV.same (va_un _ _ _ (by decide)) (va_un _ _ _ (by decide)) (va_un _ _ _ (by decide)) rfl rfl rfl) hw ((va_un _ _ _ (by decide)).trans hwd) hwd6 (car := decide ((0 : Int) = 1)) (va_us _ _ _) ((va_un _ _ _ (by decide)).trans hs) (by omega) k2) | (rw [show I 4 = 1 by omega] at k2; exact rule_tl hn (hV.same (va_un _ _ _ (by decide)) (va_un _ _ _ (by decide)) (va_un _ _ _ (by decide)) rfl rfl rfl) hw ((va_un _ _ _ (by decide)).trans hwd) hwd6 (car := decide ((0 : Int) = 1)) (va_us _ _ _) ((va_un _ _ _ (by decide)).trans hs) (by omega) k2)
              · refine xild_2 (q := 75) d_39_74 rfl ?_
                refine x_if_eq (q := 78) (t := 83) d_39_75 (by decide) rfl (fun c75 => ?_) (fun c75 => ?_)
                · refine xald_0 (q := 84) d_39_83 rfl ?_
                  refine xg_VG_graph hn (q := 87) d_39_84 rfl fl_X_32 ?_
                  refine xg_G_careful hn (q := 90) d_39_87 rfl fl_X_99 ?_
                  refine x_if_eq (q := 93) (t := 97) d_39_90 (by decide) rfl (fun c90 => ?_) (fun c90 => ?_)
                  · rw [zi_eq0 (by omega) (by omega)] at c90
                    refine x_iconst (q := 98) (v := zi (0)) d_39_97 rfl rfl ?_
                    refine xist_3 (q := 99) d_39_98 rfl ?_
                    refine xald_0 (q := 100) d_39_99 rfl ?_
                    refine xg_VG_graph hn (q := 103) d_39_100 rfl fl_X_32 ?_
                    refine xild_2 (q := 104) d_39_103 rfl ?_
                    refine x_iconst (q := 105) (v := zi (1)) d_39_104 rfl rfl ?_
                    refine x_icmp_ne (q := 108) (t := 112) d_39_105 (by decide) rfl (fun c105 => ?_) (fun c105 => ?_)
                    · refine x_iconst (q := 113) (v := zi (0)) d_39_112 rfl rfl ?_
                      refine xp_G_careful hn (by omega) (q := 116) d_39_113 rfl fw_X_99 ?_
                      first | exact absurd rfl c71 | exact absurd rfl c75 | exact absurd rfl c80 | exact absurd c105 (by decide) | exact absurd rfl c105 | (rw [show I 4 = 0 by omega] at k2; exact rule_tl hn (hV.same (va_un _ _ _ (by decide)) (va_un _ _ _ (by decide)) (va_un _ _ _ (by decide)) rfl rfl rfl) hw ((va_un _ _ _ (by decide)).trans hwd) hwd6 (car := decide ((0 : Int) = 1)) (va_us _ _ _) ((va_un _ _ _ (by decide)).trans hs) (by omega) k2) | (rw [show I 4 = 1 by omega] at k2; exact rule_tl hn (hV.same (va_un _ _ _ (by decide)) (va_un _ _ _ (by decide)) (va_un _ _ _ (by decide)) rfl rfl rfl) hw ((va_un _ _ _ (by decide)).trans hwd) hwd6 (car := decide ((0 : Int) = 1)) (va_us _ _ _) ((va_un _ _ _ (by decide)).trans hs) (by omega) k2)
                    · refine x_iconst (q := 109) (v := zi (1)) d_39_108 rfl rfl ?_
                      refine x_goto (t := 113) d_39_109 (by decide) ?_
                      refine xp_G_careful hn (by omega) (q := 116) d_39_113 rfl fw_X_99 ?_
                      first | exact absurd rfl c71 | exact absurd rfl c75 | exact absurd rfl c80 | exact absurd c105 (by decide) | exact absurd rfl c105 | (rw [show I 4 = 0 by omega] at k2; exact rule_tl hn (hV.same (va_un _ _ _ (by decide)) (va_un _ _ _ (by decide)) (va_un _ _ _ (by decide)) rfl rfl rfl) hw ((va_un _ _ _ (by decide)).trans hwd) hwd6 (car := decide ((0 : Int) = 1)) (va_us _ _ _) ((va_un _ _ _ (by decide)).trans hs) (by omega) k2) | (rw [show I 4 = 1 by omega] at k2; exact rule_tl hn (hV.same (va_un _ _ _ (by decide)) (va_un _ _ _ (by decide)) (va_un _ _ _ (by decide)) rfl rfl rfl) hw ((va_un _ _ _ (by decide)).trans hwd) hwd6 (car := decide ((0 : Int) = 1)) (va_us _ _ _) ((va_un _ _ _ (by decide)).trans hs) (by omega) k2)
                  · rw [zi_eq0 (by omega) (by omega)] at c90
                    refine x_iconst (q := 94) (v := zi (1)) d_39_93 rfl rfl ?_
                    refine x_goto (t := 98) d_39_94 (by decide) ?_
                    refine xist_3 (q := 99) d_39_98 rfl ?_
                    refine xald_0 (q := 100) d_39_99 rfl ?_
                    refine xg_VG_graph hn (q := 103) d_39_100 rfl fl_X_32 ?_
                    refine xild_2 (q := 104) d_39_103 rfl ?_
                    refine x_iconst (q := 105) (v := zi (1)) d_39_104 rfl rfl ?_
                    refine x_icmp_ne (q := 108) (t := 112) d_39_105 (by decide) rfl (fun c105 => ?_) (fun c105 => ?_)
                    · refine x_iconst (q := 113) (v := zi (0)) d_39_112 rfl rfl ?_
                      refine xp_G_careful hn (by omega) (q := 116) d_39_113 rfl fw_X_99 ?_
                      first | exact absurd rfl c71 | exact absurd rfl c75 | exact absurd rfl c80 | exact absurd c105 (by decide) | exact absurd rfl c105 | (rw [show I 4 = 0 by omega] at k2; exact rule_tl hn (hV.same (va_un _ _ _ (by decide)) (va_un _ _ _ (by decide)) (va_un _ _ _ (by decide)) rfl rfl rfl) hw ((va_un _ _ _ (by decide)).trans hwd) hwd6 (car := decide ((0 : Int) = 1)) (va_us _ _ _) ((va_un _ _ _ (by decide)).trans hs) (by omega) k2) | (rw [show I 4 = 1 by omega] at k2; exact rule_tl hn (hV.same (va_un _ _ _ (by decide)) (va_un _ _ _ (by decide)) (va_un _ _ _ (by decide)) rfl rfl rfl) hw ((va_un _ _ _ (by decide)).trans hwd) hwd6 (car := decide ((0 : Int) = 1)) (va_us _ _ _) ((va_un _ _ _ (by decide)).trans hs) (by omega) k2)
                    · refine x_iconst (q := 109) (v := zi (1)) d_39_108 rfl rfl ?_
                      refine x_goto (t := 113) d_39_109 (by decide) ?_
                      refine xp_G_careful hn (by omega) (q := 116) d_39_113 rfl fw_X_99 ?_
                      first | exact absurd rfl c71 | exact absurd rfl c75 | exact absurd rfl c80 | exact absurd c105 (by decide) | exact absurd rfl c105 | (rw [show I 4 = 0 by omega] at k2; exact rule_tl hn (hV.same (va_un _ _ _ (by decide)) (va_un _ _ _ (by decide)) (va_un _ _ _ (by decide)) rfl rfl rfl) hw ((va_un _ _ _ (by decide)).trans hwd) hwd6 (car := decide ((0 : Int) = 1)) (va_us _ _ _) ((va_un _ _ _ (by decide)).trans hs) (by omega) k2) | (rw [show I 4 = 1 by omega] at k2; exact rule_tl hn (hV.same (va_un _ _ _ (by decide)) (va_un _ _ _ (by decide)) (va_un _ _ _ (by decide)) rfl rfl rfl) hw ((va_un _ _ _ (by decide)).trans hwd) hwd6 (car := decide ((0 : Int) = 1)) (va_us _ _ _) ((va_un _ _ _ (by decide)).trans hs) (by omega) k2)
                · refine xild_2 (q := 79) d_39_78 rfl ?_
                  refine x_iconst (q := 80) (v := zi (1)) d_39_79 rfl rfl ?_
                  refine x_icmp_ne (q := 83) (t := 116) d_39_80 (by decide) rfl (fun c80 => ?_) (fun c80 => ?_)
                  · first | exact absurd rfl c71 | exact absurd rfl c75 | exact absurd rfl c80 | exact absurd c105 (by decide) | exact absurd rfl c105 | (rw [show I 4 = 0 by omega] at k2; exact rule_tl hn (hV.same (va_un _ _ _ (by decide)) (va_un _ _ _ (by decide)) (va_un _ _ _ (by decide)) rfl rfl rfl) hw ((va_un _ _ _ (by decide)).trans hwd) hwd6 (car := decide ((0 : Int) = 1)) (va_us _ _ _) ((va_un _ _ _ (by decide)).trans hs) (by omega) k2) | (rw [show I 4 = 1 by omega] at k2; exact rule_tl hn (hV.same (va_un _ _ _ (by decide)) (va_un _ _ _ (by decide)) (va_un _ _ _ (by decide)) rfl rfl rfl) hw ((va_un _ _ _ (by decide)).trans hwd) hwd6 (car := decide ((0 : Int) = 1)) (va_us _ _ _) ((va_un _ _ _ (by decide)).trans hs) (by omega) k2)
                  · refine xald_0 (q := 84) d_39_83 rfl ?_
                    refine xg_VG_graph hn (q := 87) d_39_84 rfl fl_X_32 ?_
                    refine xg_G_careful hn (q := 90) d_39_87 rfl fl_X_99 ?_
                    refine x_if_eq (q := 93) (t := 97) d_39_90 (by decide) rfl (fun c90 => ?_) (fun c90 => ?_)
                    · rw [zi_eq0 (by omega) (by omega)] at c90
                      refine x_iconst (q := 98) (v := zi (0)) d_39_97 rfl rfl ?_
                      refine xist_3 (q := 99) d_39_98 rfl ?_
                      refine xald_0 (q := 100) d_39_99 rfl ?_
                      refine xg_VG_graph hn (q := 103) d_39_100 rfl fl_X_32 ?_
                      refine xild_2 (q := 104) d_39_103 rfl ?_
                      refine x_iconst (q := 105) (v := zi (1)) d_39_104 rfl rfl ?_
                      refine x_icmp_ne (q := 108) (t := 112) d_39_105 (by decide) rfl (fun c105 => ?_) (fun c105 => ?_)
                      · refine x_iconst (q := 113) (v := zi (0)) d_39_112 rfl rfl ?_
                        refine xp_G_careful hn (by omega) (q := 116) d_39_113 rfl fw_X_99 ?_
                        first | exact absurd rfl c71 | exact absurd rfl c75 | exact absurd rfl c80 | exact absurd c105 (by decide) | exact absurd rfl c105 | (rw [show I 4 = 0 by omega] at k2; exact rule_tl hn (hV.same (va_un _ _ _ (by decide)) (va_un _ _ _ (by decide)) (va_un _ _ _ (by decide)) rfl rfl rfl) hw ((va_un _ _ _ (by decide)).trans hwd) hwd6 (car := decide ((0 : Int) = 1)) (va_us _ _ _) ((va_un _ _ _ (by decide)).trans hs) (by omega) k2) | (rw [show I 4 = 1 by omega] at k2; exact rule_tl hn (hV.same (va_un _ _ _ (by decide)) (va_un _ _ _ (by decide)) (va_un _ _ _ (by decide)) rfl rfl rfl) hw ((va_un _ _ _ (by decide)).trans hwd) hwd6 (car := decide ((0 : Int) = 1)) (va_us _ _ _) ((va_un _ _ _ (by decide)).trans hs) (by omega) k2)
                      · refine x_iconst (q := 109) (v := zi (1)) d_39_108 rfl rfl ?_
                        refine x_goto (t := 113) d_39_109 (by decide) ?_
                        refine xp_G_careful hn (by omega) (q := 116) d_39_113 rfl fw_X_99 ?_
                        first | exact absurd rfl c71 | exact absurd rfl c75 | exact absurd rfl c80 | exact absurd c105 (by decide) | exact absurd rfl c105 | (rw [show I 4 = 0 by omega] at k2; exact rule_tl hn (hV.same (va_un _ _ _ (by decide)) (va_un _ _ _ (by decide)) (va_un _ _ _ (by decide)) rfl rfl rfl) hw ((va_un _ _ _ (by decide)).trans hwd) hwd6 (car := decide ((0 : Int) = 1)) (va_us _ _ _) ((va_un _ _ _ (by decide)).trans hs) (by omega) k2) | (rw [show I 4 = 1 by omega] at k2; exact rule_tl hn (hV.same (va_un _ _ _ (by decide)) (va_un _ _ _ (by decide)) (va_un _ _ _ (by decide)) rfl rfl rfl) hw ((va_un _ _ _ (by decide)).trans hwd) hwd6 (car := decide ((0 : Int) = 1)) (va_us _ _ _) ((va_un _ _ _ (by decide)).trans hs) (by omega) k2)
                    · rw [zi_eq0 (by omega) (by omega)] at c90
                      refine x_iconst (q := 94) (v := zi (1)) d_39_93 rfl rfl ?_
                      refine x_goto (t := 98) d_39_94 (by decide) ?_
                      refine xist_3 (q := 99) d_39_98 rfl ?_
                      refine xald_0 (q := 100) d_39_99 rfl ?_
                      refine xg_VG_graph hn (q := 103) d_39_100 rfl fl_X_32 ?_
                      refine xild_2 (q := 104) d_39_103 rfl ?_
                      refine x_iconst (q := 105) (v := zi (1)) d_39_104 rfl rfl ?_
                      refine x_icmp_ne (q := 108) (t := 112) d_39_105 (by decide) rfl (fun c105 => ?_) (fun c105 => ?_)
                      · refine x_iconst (q := 113) (v := zi (0)) d_39_112 rfl rfl ?_
                        refine xp_G_careful hn (by omega) (q := 116) d_39_113 rfl fw_X_99 ?_
                        first | exact absurd rfl c71 | exact absurd rfl c75 | exact absurd rfl c80 | exact absurd c105 (by decide) | exact absurd rfl c105 | (rw [show I 4 = 0 by omega] at k2; exact rule_tl hn (hV.same (va_un _ _ _ (by decide)) (va_un _ _ _ (by decide)) (va_un _ _ _ (by decide)) rfl rfl rfl) hw ((va_un _ _ _ (by decide)).trans hwd) hwd6 (car := decide ((0 : Int) = 1)) (va_us _ _ _) ((va_un _ _ _ (by decide)).trans hs) (by omega) k2) | (rw [show I 4 = 1 by omega] at k2; exact rule_tl hn (hV.same (va_un _ _ _ (by decide)) (va_un _ _ _ (by decide)) (va_un _ _ _ (by decide)) rfl rfl rfl) hw ((va_un _ _ _ (by decide)).trans hwd) hwd6 (car := decide ((0 : Int) = 1)) (va_us _ _ _) ((va_un _ _ _ (by decide)).trans hs) (by omega) k2)
                      · refine x_iconst (q := 109) (v := zi (1)) d_39_108 rfl rfl ?_
                        refine x_goto (t := 113) d_39_109 (by decide) ?_
                        refine xp_G_careful hn (by omega) (q := 116) d_39_113 rfl fw_X_99 ?_
                        first | exact absurd rfl c71 | exact absurd rfl c75 | exact absurd rfl c80 | exact absurd c105 (by decide) | exact absurd rfl c105 | (rw [show I 4 = 0 by omega] at k2; exact rule_tl hn (hV.same (va_un _ _ _ (by decide)) (va_un _ _ _ (by decide)) (va_un _ _ _ (by decide)) rfl rfl rfl) hw ((va_un _ _ _ (by decide)).trans hwd) hwd6 (car := decide ((0 : Int) = 1)) (va_us _ _ _) ((va_un _ _ _ (by decide)).trans hs) (by omega) k2) | (rw [show I 4 = 1 by omega] at k2; exact rule_tl hn (hV.same (va_un _ _ _ (by decide)) (va_un _ _ _ (by decide)) (va_un _ _ _ (by decide)) rfl rfl rfl) hw ((va_un _ _ _ (by decide)).trans hwd) hwd6 (car := decide ((0 : Int) = 1)) (va_us _ _ _) ((va_un _ _ _ (by decide)).trans hs) (by omega) k2)
            · exact absurd c36 (by decide)
          · exact absurd c3 (by decide)
        · refine x_iconst (q := 1) (v := zi (-1)) d_39_0 rfl rfl ?_
          refine xist_3 (q := 2) d_39_1 rfl ?_
          refine xild_1 (q := 3) d_39_2 rfl ?_
          refine x_if_ne (q := 6) (t := 34) d_39_3 (by decide) rfl (fun c3 => ?_) (fun c3 => ?_)
          · refine xild_1 (q := 35) d_39_34 rfl ?_
            refine x_iconst (q := 36) (v := zi (1)) d_39_35 rfl rfl ?_
            refine x_icmp_ne (q := 39) (t := 69) d_39_36 (by decide) rfl (fun c36 => ?_) (fun c36 => ?_)
            · refine xild_1 (q := 70) d_39_69 rfl ?_
              refine x_iconst (q := 71) (v := zi (2)) d_39_70 rfl rfl ?_
              refine x_icmp_ne (q := 74) (t := 116) d_39_71 (by decide) rfl (fun c71 => ?_) (fun c71 => ?_)
              · first | exact absurd rfl c71 | exact absurd rfl c75 | exact absurd rfl c80 | exact absurd c105 (by decide) | exact absurd rfl c105 | (rw [show I 4 = 0 by omega] at k2; exact rule_tl hn (hV.same (va_un _ _ _ (by decide)) (va_un _ _ _ (by decide)) (va_un _ _ _ (by decide)) rfl rfl rfl) hw ((va_un _ _ _ (by decide)).trans hwd) hwd6 (car := decide ((1 : Int) = 1)) (va_us _ _ _) ((va_un _ _ _ (by decide)).trans hs) (by omega) k2) | (rw [show I 4 = 1 by omega] at k2; exact rule_tl hn (hV.same (va_un _ _ _ (by decide)) (va_un _ _ _ (by decide)) (va_un _ _ _ (by decide)) rfl rfl rfl) hw ((va_un _ _ _ (by decide)).trans hwd) hwd6 (car := decide ((1 : Int) = 1)) (va_us _ _ _) ((va_un _ _ _ (by decide)).trans hs) (by omega) k2)
              · refine xild_2 (q := 75) d_39_74 rfl ?_
                refine x_if_eq (q := 78) (t := 83) d_39_75 (by decide) rfl (fun c75 => ?_) (fun c75 => ?_)
                · refine xald_0 (q := 84) d_39_83 rfl ?_
                  refine xg_VG_graph hn (q := 87) d_39_84 rfl fl_X_32 ?_
                  refine xg_G_careful hn (q := 90) d_39_87 rfl fl_X_99 ?_
                  refine x_if_eq (q := 93) (t := 97) d_39_90 (by decide) rfl (fun c90 => ?_) (fun c90 => ?_)
                  · rw [zi_eq0 (by omega) (by omega)] at c90
                    refine x_iconst (q := 98) (v := zi (0)) d_39_97 rfl rfl ?_
                    refine xist_3 (q := 99) d_39_98 rfl ?_
                    refine xald_0 (q := 100) d_39_99 rfl ?_
                    refine xg_VG_graph hn (q := 103) d_39_100 rfl fl_X_32 ?_
                    refine xild_2 (q := 104) d_39_103 rfl ?_
                    refine x_iconst (q := 105) (v := zi (1)) d_39_104 rfl rfl ?_
                    refine x_icmp_ne (q := 108) (t := 112) d_39_105 (by decide) rfl (fun c105 => ?_) (fun c105 => ?_)
                    · refine x_iconst (q := 113) (v := zi (0)) d_39_112 rfl rfl ?_
                      refine xp_G_careful hn (by omega) (q := 116) d_39_113 rfl fw_X_99 ?_
                      first | exact absurd rfl c71 | exact absurd rfl c75 | exact absurd rfl c80 | exact absurd c105 (by decide) | exact absurd rfl c105 | (rw [show I 4 = 0 by omega] at k2; exact rule_tl hn (hV.same (va_un _ _ _ (by decide)) (va_un _ _ _ (by decide)) (va_un _ _ _ (by decide)) rfl rfl rfl) hw ((va_un _ _ _ (by decide)).trans hwd) hwd6 (car := decide ((1 : Int) = 1)) (va_us _ _ _) ((va_un _ _ _ (by decide)).trans hs) (by omega) k2) | (rw [show I 4 = 1 by omega] at k2; exact rule_tl hn (hV.same (va_un _ _ _ (by decide)) (va_un _ _ _ (by decide)) (va_un _ _ _ (by decide)) rfl rfl rfl) hw ((va_un _ _ _ (by decide)).trans hwd) hwd6 (car := decide ((1 : Int) = 1)) (va_us _ _ _) ((va_un _ _ _ (by decide)).trans hs) (by omega) k2)
                    · refine x_iconst (q := 109) (v := zi (1)) d_39_108 rfl rfl ?_
                      refine x_goto (t := 113) d_39_109 (by decide) ?_
                      refine xp_G_careful hn (by omega) (q := 116) d_39_113 rfl fw_X_99 ?_
                      first | exact absurd rfl c71 | exact absurd rfl c75 | exact absurd rfl c80 | exact absurd c105 (by decide) | exact absurd rfl c105 | (rw [show I 4 = 0 by omega] at k2; exact rule_tl hn (hV.same (va_un _ _ _ (by decide)) (va_un _ _ _ (by decide)) (va_un _ _ _ (by decide)) rfl rfl rfl) hw ((va_un _ _ _ (by decide)).trans hwd) hwd6 (car := decide ((1 : Int) = 1)) (va_us _ _ _) ((va_un _ _ _ (by decide)).trans hs) (by omega) k2) | (rw [show I 4 = 1 by omega] at k2; exact rule_tl hn (hV.same (va_un _ _ _ (by decide)) (va_un _ _ _ (by decide)) (va_un _ _ _ (by decide)) rfl rfl rfl) hw ((va_un _ _ _ (by decide)).trans hwd) hwd6 (car := decide ((1 : Int) = 1)) (va_us _ _ _) ((va_un _ _ _ (by decide)).trans hs) (by omega) k2)
                  · rw [zi_eq0 (by omega) (by omega)] at c90
                    refine x_iconst (q := 94) (v := zi (1)) d_39_93 rfl rfl ?_
                    refine x_goto (t := 98) d_39_94 (by decide) ?_
                    refine xist_3 (q := 99) d_39_98 rfl ?_
                    refine xald_0 (q := 100) d_39_99 rfl ?_
                    refine xg_VG_graph hn (q := 103) d_39_100 rfl fl_X_32 ?_
                    refine xild_2 (q := 104) d_39_103 rfl ?_
                    refine x_iconst (q := 105) (v := zi (1)) d_39_104 rfl rfl ?_
                    refine x_icmp_ne (q := 108) (t := 112) d_39_105 (by decide) rfl (fun c105 => ?_) (fun c105 => ?_)
                    · refine x_iconst (q := 113) (v := zi (0)) d_39_112 rfl rfl ?_
                      refine xp_G_careful hn (by omega) (q := 116) d_39_113 rfl fw_X_99 ?_
                      first | exact absurd rfl c71 | exact absurd rfl c75 | exact absurd rfl c80 | exact absurd c105 (by decide) | exact absurd rfl c105 | (rw [show I 4 = 0 by omega] at k2; exact rule_tl hn (hV.same (va_un _ _ _ (by decide)) (va_un _ _ _ (by decide)) (va_un _ _ _ (by decide)) rfl rfl rfl) hw ((va_un _ _ _ (by decide)).trans hwd) hwd6 (car := decide ((1 : Int) = 1)) (va_us _ _ _) ((va_un _ _ _ (by decide)).trans hs) (by omega) k2) | (rw [show I 4 = 1 by omega] at k2; exact rule_tl hn (hV.same (va_un _ _ _ (by decide)) (va_un _ _ _ (by decide)) (va_un _ _ _ (by decide)) rfl rfl rfl) hw ((va_un _ _ _ (by decide)).trans hwd) hwd6 (car := decide ((1 : Int) = 1)) (va_us _ _ _) ((va_un _ _ _ (by decide)).trans hs) (by omega) k2)
                    · refine x_iconst (q := 109) (v := zi (1)) d_39_108 rfl rfl ?_
                      refine x_goto (t := 113) d_39_109 (by decide) ?_
                      refine xp_G_careful hn (by omega) (q := 116) d_39_113 rfl fw_X_99 ?_
                      first | exact absurd rfl c71 | exact absurd rfl c75 | exact absurd rfl c80 | exact absurd c105 (by decide) | exact absurd rfl c105 | (rw [show I 4 = 0 by omega] at k2; exact rule_tl hn (hV.same (va_un _ _ _ (by decide)) (va_un _ _ _ (by decide)) (va_un _ _ _ (by decide)) rfl rfl rfl) hw ((va_un _ _ _ (by decide)).trans hwd) hwd6 (car := decide ((1 : Int) = 1)) (va_us _ _ _) ((va_un _ _ _ (by decide)).trans hs) (by omega) k2) | (rw [show I 4 = 1 by omega] at k2; exact rule_tl hn (hV.same (va_un _ _ _ (by decide)) (va_un _ _ _ (by decide)) (va_un _ _ _ (by decide)) rfl rfl rfl) hw ((va_un _ _ _ (by decide)).trans hwd) hwd6 (car := decide ((1 : Int) = 1)) (va_us _ _ _) ((va_un _ _ _ (by decide)).trans hs) (by omega) k2)
                · refine xild_2 (q := 79) d_39_78 rfl ?_
                  refine x_iconst (q := 80) (v := zi (1)) d_39_79 rfl rfl ?_
                  refine x_icmp_ne (q := 83) (t := 116) d_39_80 (by decide) rfl (fun c80 => ?_) (fun c80 => ?_)
                  · first | exact absurd rfl c71 | exact absurd rfl c75 | exact absurd rfl c80 | exact absurd c105 (by decide) | exact absurd rfl c105 | (rw [show I 4 = 0 by omega] at k2; exact rule_tl hn (hV.same (va_un _ _ _ (by decide)) (va_un _ _ _ (by decide)) (va_un _ _ _ (by decide)) rfl rfl rfl) hw ((va_un _ _ _ (by decide)).trans hwd) hwd6 (car := decide ((1 : Int) = 1)) (va_us _ _ _) ((va_un _ _ _ (by decide)).trans hs) (by omega) k2) | (rw [show I 4 = 1 by omega] at k2; exact rule_tl hn (hV.same (va_un _ _ _ (by decide)) (va_un _ _ _ (by decide)) (va_un _ _ _ (by decide)) rfl rfl rfl) hw ((va_un _ _ _ (by decide)).trans hwd) hwd6 (car := decide ((1 : Int) = 1)) (va_us _ _ _) ((va_un _ _ _ (by decide)).trans hs) (by omega) k2)
                  · refine xald_0 (q := 84) d_39_83 rfl ?_
                    refine xg_VG_graph hn (q := 87) d_39_84 rfl fl_X_32 ?_
                    refine xg_G_careful hn (q := 90) d_39_87 rfl fl_X_99 ?_
                    refine x_if_eq (q := 93) (t := 97) d_39_90 (by decide) rfl (fun c90 => ?_) (fun c90 => ?_)
                    · rw [zi_eq0 (by omega) (by omega)] at c90
                      refine x_iconst (q := 98) (v := zi (0)) d_39_97 rfl rfl ?_
                      refine xist_3 (q := 99) d_39_98 rfl ?_
                      refine xald_0 (q := 100) d_39_99 rfl ?_
                      refine xg_VG_graph hn (q := 103) d_39_100 rfl fl_X_32 ?_
                      refine xild_2 (q := 104) d_39_103 rfl ?_
                      refine x_iconst (q := 105) (v := zi (1)) d_39_104 rfl rfl ?_
                      refine x_icmp_ne (q := 108) (t := 112) d_39_105 (by decide) rfl (fun c105 => ?_) (fun c105 => ?_)
                      · refine x_iconst (q := 113) (v := zi (0)) d_39_112 rfl rfl ?_
                        refine xp_G_careful hn (by omega) (q := 116) d_39_113 rfl fw_X_99 ?_
                        first | exact absurd rfl c71 | exact absurd rfl c75 | exact absurd rfl c80 | exact absurd c105 (by decide) | exact absurd rfl c105 | (rw [show I 4 = 0 by omega] at k2; exact rule_tl hn (hV.same (va_un _ _ _ (by decide)) (va_un _ _ _ (by decide)) (va_un _ _ _ (by decide)) rfl rfl rfl) hw ((va_un _ _ _ (by decide)).trans hwd) hwd6 (car := decide ((1 : Int) = 1)) (va_us _ _ _) ((va_un _ _ _ (by decide)).trans hs) (by omega) k2) | (rw [show I 4 = 1 by omega] at k2; exact rule_tl hn (hV.same (va_un _ _ _ (by decide)) (va_un _ _ _ (by decide)) (va_un _ _ _ (by decide)) rfl rfl rfl) hw ((va_un _ _ _ (by decide)).trans hwd) hwd6 (car := decide ((1 : Int) = 1)) (va_us _ _ _) ((va_un _ _ _ (by decide)).trans hs) (by omega) k2)
                      · refine x_iconst (q := 109) (v := zi (1)) d_39_108 rfl rfl ?_
                        refine x_goto (t := 113) d_39_109 (by decide) ?_
                        refine xp_G_careful hn (by omega) (q := 116) d_39_113 rfl fw_X_99 ?_
                        first | exact absurd rfl c71 | exact absurd rfl c75 | exact absurd rfl c80 | exact absurd c105 (by decide) | exact absurd rfl c105 | (rw [show I 4 = 0 by omega] at k2; exact rule_tl hn (hV.same (va_un _ _ _ (by decide)) (va_un _ _ _ (by decide)) (va_un _ _ _ (by decide)) rfl rfl rfl) hw ((va_un _ _ _ (by decide)).trans hwd) hwd6 (car := decide ((1 : Int) = 1)) (va_us _ _ _) ((va_un _ _ _ (by decide)).trans hs) (by omega) k2) | (rw [show I 4 = 1 by omega] at k2; exact rule_tl hn (hV.same (va_un _ _ _ (by decide)) (va_un _ _ _ (by decide)) (va_un _ _ _ (by decide)) rfl rfl rfl) hw ((va_un _ _ _ (by decide)).trans hwd) hwd6 (car := decide ((1 : Int) = 1)) (va_us _ _ _) ((va_un _ _ _ (by decide)).trans hs) (by omega) k2)
                    · rw [zi_eq0 (by omega) (by omega)] at c90
                      refine x_iconst (q := 94) (v := zi (1)) d_39_93 rfl rfl ?_
                      refine x_goto (t := 98) d_39_94 (by decide) ?_
                      refine xist_3 (q := 99) d_39_98 rfl ?_
                      refine xald_0 (q := 100) d_39_99 rfl ?_
                      refine xg_VG_graph hn (q := 103) d_39_100 rfl fl_X_32 ?_
                      refine xild_2 (q := 104) d_39_103 rfl ?_
                      refine x_iconst (q := 105) (v := zi (1)) d_39_104 rfl rfl ?_
                      refine x_icmp_ne (q := 108) (t := 112) d_39_105 (by decide) rfl (fun c105 => ?_) (fun c105 => ?_)
                      · refine x_iconst (q := 113) (v := zi (0)) d_39_112 rfl rfl ?_
                        refine xp_G_careful hn (by omega) (q := 116) d_39_113 rfl fw_X_99 ?_
                        first | exact absurd rfl c71 | exact absurd rfl c75 | exact absurd rfl c80 | exact absurd c105 (by decide) | exact absurd rfl c105 | (rw [show I 4 = 0 by omega] at k2; exact rule_tl hn (hV.same (va_un _ _ _ (by decide)) (va_un _ _ _ (by decide)) (va_un _ _ _ (by decide)) rfl rfl rfl) hw ((va_un _ _ _ (by decide)).trans hwd) hwd6 (car := decide ((1 : Int) = 1)) (va_us _ _ _) ((va_un _ _ _ (by decide)).trans hs) (by omega) k2) | (rw [show I 4 = 1 by omega] at k2; exact rule_tl hn (hV.same (va_un _ _ _ (by decide)) (va_un _ _ _ (by decide)) (va_un _ _ _ (by decide)) rfl rfl rfl) hw ((va_un _ _ _ (by decide)).trans hwd) hwd6 (car := decide ((1 : Int) = 1)) (va_us _ _ _) ((va_un _ _ _ (by decide)).trans hs) (by omega) k2)
                      · refine x_iconst (q := 109) (v := zi (1)) d_39_108 rfl rfl ?_
                        refine x_goto (t := 113) d_39_109 (by decide) ?_
                        refine xp_G_careful hn (by omega) (q := 116) d_39_113 rfl fw_X_99 ?_
                        first | exact absurd rfl c71 | exact absurd rfl c75 | exact absurd rfl c80 | exact absurd c105 (by decide) | exact absurd rfl c105 | (rw [show I 4 = 0 by omega] at k2; exact rule_tl hn (hV.same (va_un _ _ _ (by decide)) (va_un _ _ _ (by decide)) (va_un _ _ _ (by decide)) rfl rfl rfl) hw ((va_un _ _ _ (by decide)).trans hwd) hwd6 (car := decide ((1 : Int) = 1)) (va_us _ _ _) ((va_un _ _ _ (by decide)).trans hs) (by omega) k2) | (rw [show I 4 = 1 by omega] at k2; exact rule_tl hn (hV.same (va_un _ _ _ (by decide)) (va_un _ _ _ (by decide)) (va_un _ _ _ (by decide)) rfl rfl rfl) hw ((va_un _ _ _ (by decide)).trans hwd) hwd6 (car := decide ((1 : Int) = 1)) (va_us _ _ _) ((va_un _ _ _ (by decide)).trans hs) (by omega) k2)
            · exact absurd c36 (by decide)
          · exact absurd c3 (by decide)
      · refine x_iconst (q := 1) (v := zi (-1)) d_39_0 rfl rfl ?_
        refine xist_3 (q := 2) d_39_1 rfl ?_
        refine xild_1 (q := 3) d_39_2 rfl ?_
        refine x_if_ne (q := 6) (t := 34) d_39_3 (by decide) rfl (fun c3 => ?_) (fun c3 => ?_)
        · rw [zi_eq0 (by omega) (by omega)] at c3
          refine xild_1 (q := 35) d_39_34 rfl ?_
          refine x_iconst (q := 36) (v := zi (1)) d_39_35 rfl rfl ?_
          refine x_icmp_ne (q := 39) (t := 69) d_39_36 (by decide) rfl (fun c36 => ?_) (fun c36 => ?_)
          · rw [zi_eq (by omega) (by omega) (by omega) (by omega)] at c36
            refine xild_1 (q := 70) d_39_69 rfl ?_
            refine x_iconst (q := 71) (v := zi (2)) d_39_70 rfl rfl ?_
            refine x_icmp_ne (q := 74) (t := 116) d_39_71 (by decide) rfl (fun c71 => ?_) (fun c71 => ?_)
            · rw [zi_eq (by omega) (by omega) (by omega) (by omega)] at c71
              refine xild_3 (q := 117) d_39_116 rfl ?_
              refine x_iconst (q := 118) (v := zi (-1)) d_39_117 rfl rfl ?_
              refine x_icmp_eq (q := 121) (t := 128) d_39_118 (by decide) rfl (fun c118 => ?_) (fun c118 => ?_)
              · refine xild_3 (q := 129) d_39_128 rfl ?_
                refine x_iret d_39_129 rfl rfl ?_
                exact kb q0 q1 q2
              · exact absurd rfl c118
            · rw [zi_eq (by omega) (by omega) (by omega) (by omega)] at c71
              refine xild_2 (q := 75) d_39_74 rfl ?_
              refine x_if_eq (q := 78) (t := 83) d_39_75 (by decide) rfl (fun c75 => ?_) (fun c75 => ?_)
              · rw [zi_eq0 (by omega) (by omega)] at c75
                exact absurd ⟨c71, by omega, by omega⟩ q2
              · rw [zi_eq0 (by omega) (by omega)] at c75
                refine xild_2 (q := 79) d_39_78 rfl ?_
                refine x_iconst (q := 80) (v := zi (1)) d_39_79 rfl rfl ?_
                refine x_icmp_ne (q := 83) (t := 116) d_39_80 (by decide) rfl (fun c80 => ?_) (fun c80 => ?_)
                · rw [zi_eq (by omega) (by omega) (by omega) (by omega)] at c80
                  refine xild_3 (q := 117) d_39_116 rfl ?_
                  refine x_iconst (q := 118) (v := zi (-1)) d_39_117 rfl rfl ?_
                  refine x_icmp_eq (q := 121) (t := 128) d_39_118 (by decide) rfl (fun c118 => ?_) (fun c118 => ?_)
                  · refine xild_3 (q := 129) d_39_128 rfl ?_
                    refine x_iret d_39_129 rfl rfl ?_
                    exact kb q0 q1 q2
                  · exact absurd rfl c118
                · rw [zi_eq (by omega) (by omega) (by omega) (by omega)] at c80
                  exact absurd ⟨c71, by omega, by omega⟩ q2
          · rw [zi_eq (by omega) (by omega) (by omega) (by omega)] at c36
            refine xild_2 (q := 40) d_39_39 rfl ?_
            refine x_iconst (q := 41) (v := zi (2)) d_39_40 rfl rfl ?_
            refine x_icmp_lt (q := 44) (t := 69) d_39_41 (by decide) rfl (fun c41 => ?_) (fun c41 => ?_)
            · rw [zi_lt (by omega) (by omega) (by omega) (by omega)] at c41
              refine xild_1 (q := 70) d_39_69 rfl ?_
              refine x_iconst (q := 71) (v := zi (2)) d_39_70 rfl rfl ?_
              refine x_icmp_ne (q := 74) (t := 116) d_39_71 (by decide) rfl (fun c71 => ?_) (fun c71 => ?_)
              · rw [zi_eq (by omega) (by omega) (by omega) (by omega)] at c71
                refine xild_3 (q := 117) d_39_116 rfl ?_
                refine x_iconst (q := 118) (v := zi (-1)) d_39_117 rfl rfl ?_
                refine x_icmp_eq (q := 121) (t := 128) d_39_118 (by decide) rfl (fun c118 => ?_) (fun c118 => ?_)
                · refine xild_3 (q := 129) d_39_128 rfl ?_
                  refine x_iret d_39_129 rfl rfl ?_
                  exact kb q0 q1 q2
                · exact absurd rfl c118
              · rw [zi_eq (by omega) (by omega) (by omega) (by omega)] at c71
                refine xild_2 (q := 75) d_39_74 rfl ?_
                refine x_if_eq (q := 78) (t := 83) d_39_75 (by decide) rfl (fun c75 => ?_) (fun c75 => ?_)
                · rw [zi_eq0 (by omega) (by omega)] at c75
                  exact absurd ⟨c71, by omega, by omega⟩ q2
                · rw [zi_eq0 (by omega) (by omega)] at c75
                  refine xild_2 (q := 79) d_39_78 rfl ?_
                  refine x_iconst (q := 80) (v := zi (1)) d_39_79 rfl rfl ?_
                  refine x_icmp_ne (q := 83) (t := 116) d_39_80 (by decide) rfl (fun c80 => ?_) (fun c80 => ?_)
                  · rw [zi_eq (by omega) (by omega) (by omega) (by omega)] at c80
                    refine xild_3 (q := 117) d_39_116 rfl ?_
                    refine x_iconst (q := 118) (v := zi (-1)) d_39_117 rfl rfl ?_
                    refine x_icmp_eq (q := 121) (t := 128) d_39_118 (by decide) rfl (fun c118 => ?_) (fun c118 => ?_)
                    · refine xild_3 (q := 129) d_39_128 rfl ?_
                      refine x_iret d_39_129 rfl rfl ?_
                      exact kb q0 q1 q2
                    · exact absurd rfl c118
                  · rw [zi_eq (by omega) (by omega) (by omega) (by omega)] at c80
                    exact absurd ⟨c71, by omega, by omega⟩ q2
            · rw [zi_lt (by omega) (by omega) (by omega) (by omega)] at c41
              refine xild_2 (q := 45) d_39_44 rfl ?_
              refine x_bipush (q := 47) (v := zi (6)) d_39_45 rfl (by decide) ?_
              refine x_icmp_gt (q := 50) (t := 69) d_39_47 (by decide) rfl (fun c47 => ?_) (fun c47 => ?_)
              · rw [zi_lt (by omega) (by omega) (by omega) (by omega)] at c47
                refine xild_1 (q := 70) d_39_69 rfl ?_
                refine x_iconst (q := 71) (v := zi (2)) d_39_70 rfl rfl ?_
                refine x_icmp_ne (q := 74) (t := 116) d_39_71 (by decide) rfl (fun c71 => ?_) (fun c71 => ?_)
                · rw [zi_eq (by omega) (by omega) (by omega) (by omega)] at c71
                  refine xild_3 (q := 117) d_39_116 rfl ?_
                  refine x_iconst (q := 118) (v := zi (-1)) d_39_117 rfl rfl ?_
                  refine x_icmp_eq (q := 121) (t := 128) d_39_118 (by decide) rfl (fun c118 => ?_) (fun c118 => ?_)
                  · refine xild_3 (q := 129) d_39_128 rfl ?_
                    refine x_iret d_39_129 rfl rfl ?_
                    exact kb q0 q1 q2
                  · exact absurd rfl c118
                · rw [zi_eq (by omega) (by omega) (by omega) (by omega)] at c71
                  refine xild_2 (q := 75) d_39_74 rfl ?_
                  refine x_if_eq (q := 78) (t := 83) d_39_75 (by decide) rfl (fun c75 => ?_) (fun c75 => ?_)
                  · rw [zi_eq0 (by omega) (by omega)] at c75
                    exact absurd ⟨c71, by omega, by omega⟩ q2
                  · rw [zi_eq0 (by omega) (by omega)] at c75
                    refine xild_2 (q := 79) d_39_78 rfl ?_
                    refine x_iconst (q := 80) (v := zi (1)) d_39_79 rfl rfl ?_
                    refine x_icmp_ne (q := 83) (t := 116) d_39_80 (by decide) rfl (fun c80 => ?_) (fun c80 => ?_)
                    · rw [zi_eq (by omega) (by omega) (by omega) (by omega)] at c80
                      refine xild_3 (q := 117) d_39_116 rfl ?_
                      refine x_iconst (q := 118) (v := zi (-1)) d_39_117 rfl rfl ?_
                      refine x_icmp_eq (q := 121) (t := 128) d_39_118 (by decide) rfl (fun c118 => ?_) (fun c118 => ?_)
                      · refine xild_3 (q := 129) d_39_128 rfl ?_
                        refine x_iret d_39_129 rfl rfl ?_
                        exact kb q0 q1 q2
                      · exact absurd rfl c118
                    · rw [zi_eq (by omega) (by omega) (by omega) (by omega)] at c80
                      exact absurd ⟨c71, by omega, by omega⟩ q2
              · rw [zi_lt (by omega) (by omega) (by omega) (by omega)] at c47
                exact absurd ⟨c36, by omega, by omega⟩ q1
        · rw [zi_eq0 (by omega) (by omega)] at c3
          refine xild_2 (q := 7) d_39_6 rfl ?_
          refine x_if_lt (q := 10) (t := 34) d_39_7 (by decide) rfl (fun c7 => ?_) (fun c7 => ?_)
          · rw [zi_lt0 (by omega) (by omega)] at c7
            refine xild_1 (q := 35) d_39_34 rfl ?_
            refine x_iconst (q := 36) (v := zi (1)) d_39_35 rfl rfl ?_
            refine x_icmp_ne (q := 39) (t := 69) d_39_36 (by decide) rfl (fun c36 => ?_) (fun c36 => ?_)
            · rw [zi_eq (by omega) (by omega) (by omega) (by omega)] at c36
              refine xild_1 (q := 70) d_39_69 rfl ?_
              refine x_iconst (q := 71) (v := zi (2)) d_39_70 rfl rfl ?_
              refine x_icmp_ne (q := 74) (t := 116) d_39_71 (by decide) rfl (fun c71 => ?_) (fun c71 => ?_)
              · rw [zi_eq (by omega) (by omega) (by omega) (by omega)] at c71
                refine xild_3 (q := 117) d_39_116 rfl ?_
                refine x_iconst (q := 118) (v := zi (-1)) d_39_117 rfl rfl ?_
                refine x_icmp_eq (q := 121) (t := 128) d_39_118 (by decide) rfl (fun c118 => ?_) (fun c118 => ?_)
                · refine xild_3 (q := 129) d_39_128 rfl ?_
                  refine x_iret d_39_129 rfl rfl ?_
                  exact kb q0 q1 q2
                · exact absurd rfl c118
              · rw [zi_eq (by omega) (by omega) (by omega) (by omega)] at c71
                refine xild_2 (q := 75) d_39_74 rfl ?_
                refine x_if_eq (q := 78) (t := 83) d_39_75 (by decide) rfl (fun c75 => ?_) (fun c75 => ?_)
                · rw [zi_eq0 (by omega) (by omega)] at c75
                  exact absurd ⟨c71, by omega, by omega⟩ q2
                · rw [zi_eq0 (by omega) (by omega)] at c75
                  refine xild_2 (q := 79) d_39_78 rfl ?_
                  refine x_iconst (q := 80) (v := zi (1)) d_39_79 rfl rfl ?_
                  refine x_icmp_ne (q := 83) (t := 116) d_39_80 (by decide) rfl (fun c80 => ?_) (fun c80 => ?_)
                  · rw [zi_eq (by omega) (by omega) (by omega) (by omega)] at c80
                    refine xild_3 (q := 117) d_39_116 rfl ?_
                    refine x_iconst (q := 118) (v := zi (-1)) d_39_117 rfl rfl ?_
                    refine x_icmp_eq (q := 121) (t := 128) d_39_118 (by decide) rfl (fun c118 => ?_) (fun c118 => ?_)
                    · refine xild_3 (q := 129) d_39_128 rfl ?_
                      refine x_iret d_39_129 rfl rfl ?_
                      exact kb q0 q1 q2
                    · exact absurd rfl c118
                  · rw [zi_eq (by omega) (by omega) (by omega) (by omega)] at c80
                    exact absurd ⟨c71, by omega, by omega⟩ q2
            · rw [zi_eq (by omega) (by omega) (by omega) (by omega)] at c36
              refine xild_2 (q := 40) d_39_39 rfl ?_
              refine x_iconst (q := 41) (v := zi (2)) d_39_40 rfl rfl ?_
              refine x_icmp_lt (q := 44) (t := 69) d_39_41 (by decide) rfl (fun c41 => ?_) (fun c41 => ?_)
              · rw [zi_lt (by omega) (by omega) (by omega) (by omega)] at c41
                refine xild_1 (q := 70) d_39_69 rfl ?_
                refine x_iconst (q := 71) (v := zi (2)) d_39_70 rfl rfl ?_
                refine x_icmp_ne (q := 74) (t := 116) d_39_71 (by decide) rfl (fun c71 => ?_) (fun c71 => ?_)
                · rw [zi_eq (by omega) (by omega) (by omega) (by omega)] at c71
                  refine xild_3 (q := 117) d_39_116 rfl ?_
                  refine x_iconst (q := 118) (v := zi (-1)) d_39_117 rfl rfl ?_
                  refine x_icmp_eq (q := 121) (t := 128) d_39_118 (by decide) rfl (fun c118 => ?_) (fun c118 => ?_)
                  · refine xild_3 (q := 129) d_39_128 rfl ?_
                    refine x_iret d_39_129 rfl rfl ?_
                    exact kb q0 q1 q2
                  · exact absurd rfl c118
                · rw [zi_eq (by omega) (by omega) (by omega) (by omega)] at c71
                  refine xild_2 (q := 75) d_39_74 rfl ?_
                  refine x_if_eq (q := 78) (t := 83) d_39_75 (by decide) rfl (fun c75 => ?_) (fun c75 => ?_)
                  · rw [zi_eq0 (by omega) (by omega)] at c75
                    exact absurd ⟨c71, by omega, by omega⟩ q2
                  · rw [zi_eq0 (by omega) (by omega)] at c75
                    refine xild_2 (q := 79) d_39_78 rfl ?_
                    refine x_iconst (q := 80) (v := zi (1)) d_39_79 rfl rfl ?_
                    refine x_icmp_ne (q := 83) (t := 116) d_39_80 (by decide) rfl (fun c80 => ?_) (fun c80 => ?_)
                    · rw [zi_eq (by omega) (by omega) (by omega) (by omega)] at c80
                      refine xild_3 (q := 117) d_39_116 rfl ?_
                      refine x_iconst (q := 118) (v := zi (-1)) d_39_117 rfl rfl ?_
                      refine x_icmp_eq (q := 121) (t := 128) d_39_118 (by decide) rfl (fun c118 => ?_) (fun c118 => ?_)
                      · refine xild_3 (q := 129) d_39_128 rfl ?_
                        refine x_iret d_39_129 rfl rfl ?_
                        exact kb q0 q1 q2
                      · exact absurd rfl c118
                    · rw [zi_eq (by omega) (by omega) (by omega) (by omega)] at c80
                      exact absurd ⟨c71, by omega, by omega⟩ q2
              · rw [zi_lt (by omega) (by omega) (by omega) (by omega)] at c41
                refine xild_2 (q := 45) d_39_44 rfl ?_
                refine x_bipush (q := 47) (v := zi (6)) d_39_45 rfl (by decide) ?_
                refine x_icmp_gt (q := 50) (t := 69) d_39_47 (by decide) rfl (fun c47 => ?_) (fun c47 => ?_)
                · rw [zi_lt (by omega) (by omega) (by omega) (by omega)] at c47
                  refine xild_1 (q := 70) d_39_69 rfl ?_
                  refine x_iconst (q := 71) (v := zi (2)) d_39_70 rfl rfl ?_
                  refine x_icmp_ne (q := 74) (t := 116) d_39_71 (by decide) rfl (fun c71 => ?_) (fun c71 => ?_)
                  · rw [zi_eq (by omega) (by omega) (by omega) (by omega)] at c71
                    refine xild_3 (q := 117) d_39_116 rfl ?_
                    refine x_iconst (q := 118) (v := zi (-1)) d_39_117 rfl rfl ?_
                    refine x_icmp_eq (q := 121) (t := 128) d_39_118 (by decide) rfl (fun c118 => ?_) (fun c118 => ?_)
                    · refine xild_3 (q := 129) d_39_128 rfl ?_
                      refine x_iret d_39_129 rfl rfl ?_
                      exact kb q0 q1 q2
                    · exact absurd rfl c118
                  · rw [zi_eq (by omega) (by omega) (by omega) (by omega)] at c71
                    refine xild_2 (q := 75) d_39_74 rfl ?_
                    refine x_if_eq (q := 78) (t := 83) d_39_75 (by decide) rfl (fun c75 => ?_) (fun c75 => ?_)
                    · rw [zi_eq0 (by omega) (by omega)] at c75
                      exact absurd ⟨c71, by omega, by omega⟩ q2
                    · rw [zi_eq0 (by omega) (by omega)] at c75
                      refine xild_2 (q := 79) d_39_78 rfl ?_
                      refine x_iconst (q := 80) (v := zi (1)) d_39_79 rfl rfl ?_
                      refine x_icmp_ne (q := 83) (t := 116) d_39_80 (by decide) rfl (fun c80 => ?_) (fun c80 => ?_)
                      · rw [zi_eq (by omega) (by omega) (by omega) (by omega)] at c80
                        refine xild_3 (q := 117) d_39_116 rfl ?_
                        refine x_iconst (q := 118) (v := zi (-1)) d_39_117 rfl rfl ?_
                        refine x_icmp_eq (q := 121) (t := 128) d_39_118 (by decide) rfl (fun c118 => ?_) (fun c118 => ?_)
                        · refine xild_3 (q := 129) d_39_128 rfl ?_
                          refine x_iret d_39_129 rfl rfl ?_
                          exact kb q0 q1 q2
                        · exact absurd rfl c118
                      · rw [zi_eq (by omega) (by omega) (by omega) (by omega)] at c80
                        exact absurd ⟨c71, by omega, by omega⟩ q2
                · rw [zi_lt (by omega) (by omega) (by omega) (by omega)] at c47
                  exact absurd ⟨c36, by omega, by omega⟩ q1
          · rw [zi_lt0 (by omega) (by omega)] at c7
            refine xild_2 (q := 11) d_39_10 rfl ?_
            refine x_iconst (q := 12) (v := zi (2)) d_39_11 rfl rfl ?_
            refine x_icmp_gt (q := 15) (t := 34) d_39_12 (by decide) rfl (fun c12 => ?_) (fun c12 => ?_)
            · rw [zi_lt (by omega) (by omega) (by omega) (by omega)] at c12
              refine xild_1 (q := 35) d_39_34 rfl ?_
              refine x_iconst (q := 36) (v := zi (1)) d_39_35 rfl rfl ?_
              refine x_icmp_ne (q := 39) (t := 69) d_39_36 (by decide) rfl (fun c36 => ?_) (fun c36 => ?_)
              · rw [zi_eq (by omega) (by omega) (by omega) (by omega)] at c36
                refine xild_1 (q := 70) d_39_69 rfl ?_
                refine x_iconst (q := 71) (v := zi (2)) d_39_70 rfl rfl ?_
                refine x_icmp_ne (q := 74) (t := 116) d_39_71 (by decide) rfl (fun c71 => ?_) (fun c71 => ?_)
                · rw [zi_eq (by omega) (by omega) (by omega) (by omega)] at c71
                  refine xild_3 (q := 117) d_39_116 rfl ?_
                  refine x_iconst (q := 118) (v := zi (-1)) d_39_117 rfl rfl ?_
                  refine x_icmp_eq (q := 121) (t := 128) d_39_118 (by decide) rfl (fun c118 => ?_) (fun c118 => ?_)
                  · refine xild_3 (q := 129) d_39_128 rfl ?_
                    refine x_iret d_39_129 rfl rfl ?_
                    exact kb q0 q1 q2
                  · exact absurd rfl c118
                · rw [zi_eq (by omega) (by omega) (by omega) (by omega)] at c71
                  refine xild_2 (q := 75) d_39_74 rfl ?_
                  refine x_if_eq (q := 78) (t := 83) d_39_75 (by decide) rfl (fun c75 => ?_) (fun c75 => ?_)
                  · rw [zi_eq0 (by omega) (by omega)] at c75
                    exact absurd ⟨c71, by omega, by omega⟩ q2
                  · rw [zi_eq0 (by omega) (by omega)] at c75
                    refine xild_2 (q := 79) d_39_78 rfl ?_
                    refine x_iconst (q := 80) (v := zi (1)) d_39_79 rfl rfl ?_
                    refine x_icmp_ne (q := 83) (t := 116) d_39_80 (by decide) rfl (fun c80 => ?_) (fun c80 => ?_)
                    · rw [zi_eq (by omega) (by omega) (by omega) (by omega)] at c80
                      refine xild_3 (q := 117) d_39_116 rfl ?_
                      refine x_iconst (q := 118) (v := zi (-1)) d_39_117 rfl rfl ?_
                      refine x_icmp_eq (q := 121) (t := 128) d_39_118 (by decide) rfl (fun c118 => ?_) (fun c118 => ?_)
                      · refine xild_3 (q := 129) d_39_128 rfl ?_
                        refine x_iret d_39_129 rfl rfl ?_
                        exact kb q0 q1 q2
                      · exact absurd rfl c118
                    · rw [zi_eq (by omega) (by omega) (by omega) (by omega)] at c80
                      exact absurd ⟨c71, by omega, by omega⟩ q2
              · rw [zi_eq (by omega) (by omega) (by omega) (by omega)] at c36
                refine xild_2 (q := 40) d_39_39 rfl ?_
                refine x_iconst (q := 41) (v := zi (2)) d_39_40 rfl rfl ?_
                refine x_icmp_lt (q := 44) (t := 69) d_39_41 (by decide) rfl (fun c41 => ?_) (fun c41 => ?_)
                · rw [zi_lt (by omega) (by omega) (by omega) (by omega)] at c41
                  refine xild_1 (q := 70) d_39_69 rfl ?_
                  refine x_iconst (q := 71) (v := zi (2)) d_39_70 rfl rfl ?_
                  refine x_icmp_ne (q := 74) (t := 116) d_39_71 (by decide) rfl (fun c71 => ?_) (fun c71 => ?_)
                  · rw [zi_eq (by omega) (by omega) (by omega) (by omega)] at c71
                    refine xild_3 (q := 117) d_39_116 rfl ?_
                    refine x_iconst (q := 118) (v := zi (-1)) d_39_117 rfl rfl ?_
                    refine x_icmp_eq (q := 121) (t := 128) d_39_118 (by decide) rfl (fun c118 => ?_) (fun c118 => ?_)
                    · refine xild_3 (q := 129) d_39_128 rfl ?_
                      refine x_iret d_39_129 rfl rfl ?_
                      exact kb q0 q1 q2
                    · exact absurd rfl c118
                  · rw [zi_eq (by omega) (by omega) (by omega) (by omega)] at c71
                    refine xild_2 (q := 75) d_39_74 rfl ?_
                    refine x_if_eq (q := 78) (t := 83) d_39_75 (by decide) rfl (fun c75 => ?_) (fun c75 => ?_)
                    · rw [zi_eq0 (by omega) (by omega)] at c75
                      exact absurd ⟨c71, by omega, by omega⟩ q2
                    · rw [zi_eq0 (by omega) (by omega)] at c75
                      refine xild_2 (q := 79) d_39_78 rfl ?_
                      refine x_iconst (q := 80) (v := zi (1)) d_39_79 rfl rfl ?_
                      refine x_icmp_ne (q := 83) (t := 116) d_39_80 (by decide) rfl (fun c80 => ?_) (fun c80 => ?_)
                      · rw [zi_eq (by omega) (by omega) (by omega) (by omega)] at c80
                        refine xild_3 (q := 117) d_39_116 rfl ?_
                        refine x_iconst (q := 118) (v := zi (-1)) d_39_117 rfl rfl ?_
                        refine x_icmp_eq (q := 121) (t := 128) d_39_118 (by decide) rfl (fun c118 => ?_) (fun c118 => ?_)
                        · refine xild_3 (q := 129) d_39_128 rfl ?_
                          refine x_iret d_39_129 rfl rfl ?_
                          exact kb q0 q1 q2
                        · exact absurd rfl c118
                      · rw [zi_eq (by omega) (by omega) (by omega) (by omega)] at c80
                        exact absurd ⟨c71, by omega, by omega⟩ q2
                · rw [zi_lt (by omega) (by omega) (by omega) (by omega)] at c41
                  refine xild_2 (q := 45) d_39_44 rfl ?_
                  refine x_bipush (q := 47) (v := zi (6)) d_39_45 rfl (by decide) ?_
                  refine x_icmp_gt (q := 50) (t := 69) d_39_47 (by decide) rfl (fun c47 => ?_) (fun c47 => ?_)
                  · rw [zi_lt (by omega) (by omega) (by omega) (by omega)] at c47
                    refine xild_1 (q := 70) d_39_69 rfl ?_
                    refine x_iconst (q := 71) (v := zi (2)) d_39_70 rfl rfl ?_
                    refine x_icmp_ne (q := 74) (t := 116) d_39_71 (by decide) rfl (fun c71 => ?_) (fun c71 => ?_)
                    · rw [zi_eq (by omega) (by omega) (by omega) (by omega)] at c71
                      refine xild_3 (q := 117) d_39_116 rfl ?_
                      refine x_iconst (q := 118) (v := zi (-1)) d_39_117 rfl rfl ?_
                      refine x_icmp_eq (q := 121) (t := 128) d_39_118 (by decide) rfl (fun c118 => ?_) (fun c118 => ?_)
                      · refine xild_3 (q := 129) d_39_128 rfl ?_
                        refine x_iret d_39_129 rfl rfl ?_
                        exact kb q0 q1 q2
                      · exact absurd rfl c118
                    · rw [zi_eq (by omega) (by omega) (by omega) (by omega)] at c71
                      refine xild_2 (q := 75) d_39_74 rfl ?_
                      refine x_if_eq (q := 78) (t := 83) d_39_75 (by decide) rfl (fun c75 => ?_) (fun c75 => ?_)
                      · rw [zi_eq0 (by omega) (by omega)] at c75
                        exact absurd ⟨c71, by omega, by omega⟩ q2
                      · rw [zi_eq0 (by omega) (by omega)] at c75
                        refine xild_2 (q := 79) d_39_78 rfl ?_
                        refine x_iconst (q := 80) (v := zi (1)) d_39_79 rfl rfl ?_
                        refine x_icmp_ne (q := 83) (t := 116) d_39_80 (by decide) rfl (fun c80 => ?_) (fun c80 => ?_)
                        · rw [zi_eq (by omega) (by omega) (by omega) (by omega)] at c80
                          refine xild_3 (q := 117) d_39_116 rfl ?_
                          refine x_iconst (q := 118) (v := zi (-1)) d_39_117 rfl rfl ?_
                          refine x_icmp_eq (q := 121) (t := 128) d_39_118 (by decide) rfl (fun c118 => ?_) (fun c118 => ?_)
                          · refine xild_3 (q := 129) d_39_128 rfl ?_
                            refine x_iret d_39_129 rfl rfl ?_
                            exact kb q0 q1 q2
                          · exact absurd rfl c118
                        · rw [zi_eq (by omega) (by omega) (by omega) (by omega)] at c80
                          exact absurd ⟨c71, by omega, by omega⟩ q2
                  · rw [zi_lt (by omega) (by omega) (by omega) (by omega)] at c47
                    exact absurd ⟨c36, by omega, by omega⟩ q1
            · rw [zi_lt (by omega) (by omega) (by omega) (by omega)] at c12
              exact absurd ⟨c3, by omega, by omega⟩ q0
def cntR (I : Nat → Int) (F : Nat → Nat → Int) (N : Nat) (L : List Nat) (a : Int) : Int := if a = 0 then N else if a = 1 then cntI (F 0) N else if a = 2 then cntI (F 1) N else if a = 3 then cntI (fun i : Nat => freeI F N i) N else if a = 4 then I 7 else if a = 5 then I 1 else if a = 6 then I 3 else if a = 7 then I 4 else if a = 8 then L.length else -1
set_option maxHeartbeats 2000000 in
theorem c_count {sc : ax_S} {σ : Nat → ax_C} {I : Nat → Int} {F : Nat → Nat → Int} {n bc bs : Nat} {K : ax_K} (hn : 22 ≤ n) {P N M : Nat} (hV : VW I F P N M) (h4 : I 4 = 0 ∨ I 4 = 1) {L : List Nat} (hL : RK 3 I F L) {a : Int} (ha : I32 a) (k : K (some (.int (zi (cntR I F N L a)))) (vg σ I F, n, bc, bs)) : Ex sc 60 0 (ax_en 60 [.ref 0, .int (zi a)]) [] (vg σ I F, n, bc, bs) K := by
  obtain ⟨hP, hP1, hP2, hN, hN2, hM, hM2, hv, hrm, hbr⟩ := id hV
  show Ex sc 60 0 [some (.ref 0), some (.int (zi a))] [] (vg σ I F, n, bc, bs) K
  refine xild_1 (q := 1) d_60_0 rfl ?_
  by_cases hr : a < 0 ∨ 8 < a
  · have e1 : cntR I F N L a = -1 := by unfold cntR; rw [if_neg (by omega), if_neg (by omega), if_neg (by omega), if_neg (by omega), if_neg (by omega), if_neg (by omega), if_neg (by omega), if_neg (by omega), if_neg (by omega)]
    rw [e1] at k
    refine x_tableOut (t := 146) d_60_1 (by rw [zi_t (by omega) (by omega)]; exact hr) (by decide) ?_
    refine x_iconst (q := 147) (v := zi (-1)) d_60_146 rfl rfl ?_
    refine x_iret d_60_147 rfl rfl ?_
    exact k
  · obtain rfl | rfl | rfl | rfl | rfl | rfl | rfl | rfl | rfl : a = 0 ∨ a = 1 ∨ a = 2 ∨ a = 3 ∨ a = 4 ∨ a = 5 ∨ a = 6 ∨ a = 7 ∨ a = 8 := by omega
    · refine x_tableIn (t := 52) d_60_1 (by decide) (by decide) rfl (by decide) ?_
      refine xald_0 (q := 53) d_60_52 rfl ?_
      refine xg_VG_vectors hn (q := 56) d_60_53 rfl fl_X_23 ?_
      refine xg_V_total hn (q := 59) d_60_56 rfl fl_X_59 ?_
      refine x_iret d_60_59 rfl rfl ?_
      rw [hN]
      exact k
    · refine x_tableIn (t := 60) d_60_1 (by decide) (by decide) rfl (by decide) ?_
      refine xald_0 (q := 61) d_60_60 rfl ?_
      refine xg_VG_vectors hn (q := 64) d_60_61 rfl fl_X_23 ?_
      refine xald_0 (q := 65) d_60_64 rfl ?_
      refine xg_VG_vectors hn (q := 68) d_60_65 rfl fl_X_23 ?_
      refine xg_V_removed hn (q := 71) d_60_68 rfl fl_X_77 ?_
      refine xcV1 (q := 74) d_60_71 rfl lk_X_149 mo_61 ⟨by decide +kernel, by decide +kernel⟩ (by simp [Value.category]) (by decide +kernel) (by simp [Value.category]) (by omega) rfl ?_
      refine c_marked_removed hn hV ?_
      dsimp only [ax_ps]
      refine x_iret d_60_74 rfl rfl ?_
      exact k
    · refine x_tableIn (t := 75) d_60_1 (by decide) (by decide) rfl (by decide) ?_
      refine xald_0 (q := 76) d_60_75 rfl ?_
      refine xg_VG_vectors hn (q := 79) d_60_76 rfl fl_X_23 ?_
      refine xald_0 (q := 80) d_60_79 rfl ?_
      refine xg_VG_vectors hn (q := 83) d_60_80 rfl fl_X_23 ?_
      refine xg_V_barred hn (q := 86) d_60_83 rfl fl_X_81 ?_
      refine xcV1 (q := 89) d_60_86 rfl lk_X_149 mo_61 ⟨by decide +kernel, by decide +kernel⟩ (by simp [Value.category]) (by decide +kernel) (by simp [Value.category]) (by omega) rfl ?_
      refine c_marked_barred hn hV ?_
      dsimp only [ax_ps]
      refine x_iret d_60_89 rfl rfl ?_
      exact k
    · refine x_tableIn (t := 90) d_60_1 (by decide) (by decide) rfl (by decide) ?_
      refine xald_0 (q := 91) d_60_90 rfl ?_
      refine xg_VG_vectors hn (q := 94) d_60_91 rfl fl_X_23 ?_
      refine xcV0 (q := 97) d_60_94 rfl lk_X_153 mo_62 ⟨by decide +kernel, by decide +kernel⟩  (by decide +kernel) (by simp [Value.category]) (by omega) rfl ?_
      refine c_freeOnes hn hV ?_
      dsimp only [ax_ps]
      refine x_iret d_60_97 rfl rfl ?_
      exact k
    · refine x_tableIn (t := 98) d_60_1 (by decide) (by decide) rfl (by decide) ?_
      refine xald_0 (q := 99) d_60_98 rfl ?_
      refine xg_VG_vectors hn (q := 102) d_60_99 rfl fl_X_23 ?_
      refine xg_V_parts hn (q := 105) d_60_102 rfl fl_X_53 ?_
      refine x_iret d_60_105 rfl rfl ?_
      exact k
    · refine x_tableIn (t := 106) d_60_1 (by decide) (by decide) rfl (by decide) ?_
      refine xald_0 (q := 107) d_60_106 rfl ?_
      refine xg_VG_vectors hn (q := 110) d_60_107 rfl fl_X_23 ?_
      refine xg_V_measure hn (q := 113) d_60_110 rfl fl_X_93 ?_
      refine x_iret d_60_113 rfl rfl ?_
      exact k
    · refine x_tableIn (t := 114) d_60_1 (by decide) (by decide) rfl (by decide) ?_
      refine xald_0 (q := 115) d_60_114 rfl ?_
      refine xg_VG_graph hn (q := 118) d_60_115 rfl fl_X_32 ?_
      refine xg_G_width hn (q := 121) d_60_118 rfl fl_X_96 ?_
      refine x_iret d_60_121 rfl rfl ?_
      exact k
    · refine x_tableIn (t := 122) d_60_1 (by decide) (by decide) rfl (by decide) ?_
      refine xald_0 (q := 123) d_60_122 rfl ?_
      refine xg_VG_graph hn (q := 126) d_60_123 rfl fl_X_32 ?_
      refine xg_G_careful hn (q := 129) d_60_126 rfl fl_X_99 ?_
      refine x_if_eq (q := 132) (t := 136) d_60_129 (by decide) rfl (fun c129 => ?_) (fun c129 => ?_)
      · rw [zi_eq0 (by omega) (by omega)] at c129
        refine x_iconst (q := 137) (v := zi (0)) d_60_136 rfl rfl ?_
        refine x_iret d_60_137 rfl rfl ?_
        have k : K (some (.int (zi (I 4)))) (vg σ I F, n, bc, bs) := k
        first
          | (rw [show I 4 = 0 by omega] at k; exact k)
          | (rw [show I 4 = 1 by omega] at k; exact k)
      · rw [zi_eq0 (by omega) (by omega)] at c129
        refine x_iconst (q := 133) (v := zi (1)) d_60_132 rfl rfl ?_
        refine x_goto (t := 137) d_60_133 (by decide) ?_
        refine x_iret d_60_137 rfl rfl ?_
        have k : K (some (.int (zi (I 4)))) (vg σ I F, n, bc, bs) := k
        first
          | (rw [show I 4 = 0 by omega] at k; exact k)
          | (rw [show I 4 = 1 by omega] at k; exact k)
    · refine x_tableIn (t := 138) d_60_1 (by decide) (by decide) rfl (by decide) ?_
      refine xald_0 (q := 139) d_60_138 rfl ?_
      refine xg_VG_last hn (q := 142) d_60_139 rfl fl_X_39 ?_
      refine xg_R_size (by decide) hn (q := 145) d_60_142 rfl fl_X_110 ?_
      refine x_iret d_60_145 rfl rfl ?_
      rw [hL.1]
      exact k
theorem VW.app {I : Nat → Int} {F : Nat → Nat → Int} {P N M : Nat} (h : VW I F P N M) (hlt : N < 100) : VW (va_up I 0 (N + 1)) (appF F P N) P (N + 1) M := by
  have h1 := ((h.cpy (a := 100) (b := N) (Nat.le_refl _)).b0 (i := N) (e := 0) (Or.inl rfl)).b1 (i := N) (e := 0) (Or.inl rfl)
  have h2 := h1.tot (t := N + 1) (by omega)
  have e : va_up (va_up (cpyF F P 100 N) 0 (va_up (cpyF F P 100 N 0) N 0)) 1 (va_up (va_up (cpyF F P 100 N) 0 (va_up (cpyF F P 100 N 0) N 0) 1) N 0) = appF F P N := by
    unfold appF
    rw [va_un _ 0 _ (by decide), cpy_0 _ _ _ _ (by decide), cpy_0 _ _ _ _ (by decide)]
  rw [e] at h2
  exact h2
set_option maxHeartbeats 2000000 in
theorem c_add {sc : ax_S} {σ : Nat → ax_C} {I : Nat → Int} {F : Nat → Nat → Int} {n bc bs : Nat} {K : ax_K} (hn : 22 ≤ n) {P N M : Nat} (hV : VW I F P N M) {g : mSt} (hG : GW F g.1 N) {wd : Nat} (hwd : I 3 = wd) (hwd6 : wd ≤ 6) {car : Bool} (hcar : I 4 = if car = true then 1 else 0) {s : Int} (hs : I 8 = s) (hen : I 2 = entI g.2) (hlt : ∀ l, LT g.1 l N) (hent : ∀ e, g.2 = some e → e < N)
    (k1 : N < 100 → ∀ I' F', GW F' (mJoin (kfW (appF F P N 2) P M) (fbW (appF F P N 2) P M) car wd (lev s) g N).1 (N + 1) → I' 2 = entI (mJoin (kfW (appF F P N 2) P M) (fbW (appF F P N 2) P M) car wd (lev s) g N).2 → FrK (va_up I 0 (N + 1)) (appF F P N) I' F' → K (some (.int (zi N))) (vg σ I' F', n, bc, bs)) (k2 : ¬ N < 100 → K (some (.int (zi (-3)))) (vg σ I F, n, bc, bs)) : Ex sc 6 0 (ax_en 6 [.ref 0]) [] (vg σ I F, n, bc, bs) K := by
  obtain ⟨hP, hP1, hP2, hN, hN2, hM, hM2, hv, hrm, hbr⟩ := id hV
  show Ex sc 6 0 [some (.ref 0), none] [] (vg σ I F, n, bc, bs) K
  refine xald_0 (q := 1) d_6_0 rfl ?_
  refine xg_VG_vectors hn (q := 4) d_6_1 rfl fl_X_23 ?_
  refine xg_V_total hn (q := 7) d_6_4 rfl fl_X_59 ?_
  refine x_bipush (q := 9) (v := zi (100)) d_6_7 rfl (by decide) ?_
  refine x_icmp_lt (q := 12) (t := 15) d_6_9 (by decide) rfl (fun c9 => ?_) (fun c9 => ?_)
  · rw [zi_lt (by omega) (by omega) (by omega) (by omega)] at c9
    refine xald_0 (q := 16) d_6_15 rfl ?_
    refine xg_VG_vectors hn (q := 19) d_6_16 rfl fl_X_23 ?_
    refine xcV0 (q := 22) d_6_19 rfl lk_X_62 mo_7 ⟨by decide +kernel, by decide +kernel⟩  (by decide +kernel) (by simp [Value.category]) (by omega) rfl ?_
    refine c_append hn hV (by omega) ?_
    dsimp only [ax_ps]
    have hV1 := hV.app (show N < 100 by omega)
    have f34 : ∀ j, j ≠ 0 → j ≠ 1 → j ≠ 2 → appF F P N j = F j := fun j a b c => by unfold appF; rw [va_un _ _ _ b, va_un _ _ _ a, cpy_0 _ _ _ _ c]
    have hG1 : GW (appF F P N) g.1 (N + 1) := (show GW F g.1 (N + 1) from fun a b ha hb => ⟨(hG a b ha hb).1, (hG a b ha hb).2.1, (hG a b ha hb).2.2.1, fun x hx => Nat.lt_succ_of_lt ((hG a b ha hb).2.2.2 x hx)⟩).same (f34 3 (by decide) (by decide) (by decide)) (f34 4 (by decide) (by decide) (by decide))
    refine xist_1 (q := 23) d_6_22 rfl ?_
    refine xald_0 (q := 24) d_6_23 rfl ?_
    refine xg_VG_graph hn (q := 27) d_6_24 rfl fl_X_32 ?_
    refine xild_1 (q := 28) d_6_27 rfl ?_
    refine xcV1 (q := 31) d_6_28 rfl lk_X_66 mo_9 ⟨by decide +kernel, by decide +kernel⟩ (by simp [Value.category]) (by decide +kernel) (by simp [Value.category]) (by omega) rfl ?_
    refine c_join hn hV1 rfl hG1 ((va_un _ _ _ (by decide)).trans hwd) hwd6 ((va_un _ _ _ (by decide)).trans hcar) ((va_un _ _ _ (by decide)).trans hs) ((va_un _ _ _ (by decide)).trans hen) (x := N) (by omega) hlt hent ?_
    intro I2 F2 hG2 he2 hF2
    dsimp only [ax_ps]
    refine xild_1 (q := 32) d_6_31 rfl ?_
    refine x_iret d_6_32 rfl rfl ?_
    first
      | (exact k2 (by omega))
      | (exact k1 (by omega) I2 F2 hG2 he2 hF2)
  · rw [zi_lt (by omega) (by omega) (by omega) (by omega)] at c9
    refine x_bipush (q := 14) (v := zi (-3)) d_6_12 rfl (by decide) ?_
    refine x_iret d_6_14 rfl rfl ?_
    first
      | (exact k2 (by omega))
      | (exact k1 (by omega) I2 F2 hG2 he2 hF2)
