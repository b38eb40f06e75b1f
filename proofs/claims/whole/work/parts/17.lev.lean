/-! Graph: levelOf, descend, choose -/
set_option maxHeartbeats 2000000 in
theorem lq_levelOf {sc : ax_S} {σ : Nat → ax_C} {I : Nat → Int} {F : Nat → Nat → Int} {n bc bs : Nat} {K : ax_K} (hn : 22 ≤ n) {i : Int} {v : Int} : ∀ (d l : Nat) (h : Int32), l + d = 4 → v = l + levC d h → (k : K (some (.int (zi v))) (vg σ I F, n, bc, bs)) → Ex sc 10 31 [some (.ref 5), some (.int (zi i)), some (.int h), some (.int (zi l))] [] (vg σ I F, n, bc, bs) K := by
  intro d
  induction d with
  | zero =>
    intro l h hl hv k
    refine xild_3 (q := 32) d_10_31 rfl ?_
    refine x_iconst (q := 33) (v := zi (4)) d_10_32 rfl rfl ?_
    refine x_icmp_ge (q := 36) (t := 52) d_10_33 (by decide) rfl (fun c33 => ?_) (fun c33 => ?_)
    · rw [zi_le (by omega) (by omega) (by omega) (by omega)] at c33
      refine xild_3 (q := 53) d_10_52 rfl ?_
      refine x_iret d_10_53 rfl rfl ?_
      have e1 : v = (l : Int) := by rw [hv]; show (l : Int) + ((0 : Nat) : Int) = l; omega
      rw [e1] at k
      exact k
    · rw [zi_le (by omega) (by omega) (by omega) (by omega)] at c33
      exact absurd c33 (by omega)
  | succ d ih =>
    intro l h hl hv k
    have hlv : levC (d + 1) h = if h &&& 3 = 0 then 1 + levC d (ush h 2) else 0 := rfl
    refine xild_3 (q := 32) d_10_31 rfl ?_
    refine x_iconst (q := 33) (v := zi (4)) d_10_32 rfl rfl ?_
    refine x_icmp_ge (q := 36) (t := 52) d_10_33 (by decide) rfl (fun c33 => ?_) (fun c33 => ?_)
    · rw [zi_le (by omega) (by omega) (by omega) (by omega)] at c33
      first
        | (exact absurd c33 (by omega))
        | (rw [if_neg c39] at hlv; refine xild_3 (q := 53) d_10_52 rfl ?_; refine x_iret d_10_53 rfl rfl ?_; have e1 : v = (l : Int) := (by rw [hv, hlv]; omega); rw [e1] at k; exact k)
    · rw [zi_le (by omega) (by omega) (by omega) (by omega)] at c33
      refine xild_2 (q := 37) d_10_36 rfl ?_
      refine x_iconst (q := 38) (v := zi (3)) d_10_37 rfl rfl ?_
      refine x_iand (q := 39) d_10_38 rfl ?_
      rw [show zi 3 = 3 from rfl]
      refine x_if_ne (q := 42) (t := 52) d_10_39 (by decide) rfl (fun c39 => ?_) (fun c39 => ?_)
      · first
          | (exact absurd c33 (by omega))
          | (rw [if_neg c39] at hlv; refine xild_3 (q := 53) d_10_52 rfl ?_; refine x_iret d_10_53 rfl rfl ?_; have e1 : v = (l : Int) := (by rw [hv, hlv]; omega); rw [e1] at k; exact k)
      · refine xild_2 (q := 43) d_10_42 rfl ?_
        refine x_iconst (q := 44) (v := zi (2)) d_10_43 rfl rfl ?_
        refine x_iushr (q := 45) d_10_44 rfl ?_
        rw [show (h.toUInt32 >>> ((zi 2).toUInt32 &&& Int32.toUInt32 31)).toInt32 = ush h 2 from rfl]
        refine xist_2 (q := 46) d_10_45 rfl ?_
        refine xincz_3 (q := 49) d_10_46 rfl ?_
        refine x_goto (t := 31) d_10_49 (by decide) ?_
        rw [if_pos c39] at hlv
        rw [show (l : Int) + 1 = ((l + 1 : Nat) : Int) by omega]
        exact ih (l + 1) _ (by omega) (by rw [hv, hlv]; omega) k
set_option maxHeartbeats 2000000 in
theorem c_levelOf {sc : ax_S} {σ : Nat → ax_C} {I : Nat → Int} {F : Nat → Nat → Int} {n bc bs : Nat} {K : ax_K} (hn : 22 ≤ n) {s : Int} (hs : I 8 = s) {i : Nat} (k : K (some (.int (zi (lev s i)))) (vg σ I F, n, bc, bs)) : Ex sc 10 0 (ax_en 10 [.ref 5, .int (zi i)]) [] (vg σ I F, n, bc, bs) K := by
  show Ex sc 10 0 [some (.ref 5), some (.int (zi i)), none, none] [] (vg σ I F, n, bc, bs) K
  refine xald_0 (q := 1) d_10_0 rfl ?_
  refine xg_G_seed hn (q := 4) d_10_1 rfl fl_G_15 ?_
  refine xild_1 (q := 5) d_10_4 rfl ?_
  refine x_ixor (q := 6) d_10_5 rfl ?_
  refine x_ldc (q := 8) (v := (-1640531535)) d_10_6 rfl kc_G_61 ?_
  refine x_imul (q := 9) d_10_8 rfl ?_
  refine xist_2 (q := 10) d_10_9 rfl ?_
  refine xild_2 (q := 11) d_10_10 rfl ?_
  refine xild_2 (q := 12) d_10_11 rfl ?_
  refine x_bipush (q := 14) (v := zi (16)) d_10_12 rfl (by decide) ?_
  refine x_iushr (q := 15) d_10_14 rfl ?_
  refine x_ixor (q := 16) d_10_15 rfl ?_
  refine xist_2 (q := 17) d_10_16 rfl ?_
  refine xild_2 (q := 18) d_10_17 rfl ?_
  refine x_ldc (q := 20) (v := (-2048144789)) d_10_18 rfl kc_G_62 ?_
  refine x_imul (q := 21) d_10_20 rfl ?_
  refine xist_2 (q := 22) d_10_21 rfl ?_
  refine xild_2 (q := 23) d_10_22 rfl ?_
  refine xild_2 (q := 24) d_10_23 rfl ?_
  refine x_bipush (q := 26) (v := zi (13)) d_10_24 rfl (by decide) ?_
  refine x_iushr (q := 27) d_10_26 rfl ?_
  refine x_ixor (q := 28) d_10_27 rfl ?_
  refine xist_2 (q := 29) d_10_28 rfl ?_
  refine x_iconst (q := 30) (v := zi (0)) d_10_29 rfl rfl ?_
  refine xist_3 (q := 31) d_10_30 rfl ?_
  rw [hs]
  exact lq_levelOf hn 4 0 (hashI (zi s) (zi i)) (by omega) (by unfold lev; omega) k
set_option maxHeartbeats 2000000 in
theorem lq_descend {sc : ax_S} {σ : Nat → ax_C} {I0 : Nat → Int} {F0 : Nat → Nat → Int} {n bc bs : Nat} {K : ax_K} (hn : 22 ≤ n) {P N M : Nat} (hV : VW I0 F0 P N M) {w : Nat → Int} (hw : F0 2 = w) {rows : Nat → Nat → List Nat} (hG : GW F0 rows N) {bot o : Nat} {tp : Int32} (ho : o ≤ 100) :
    ∀ (d f : Nat) (I : Nat → Int) (F : Nat → Nat → Int), bot + d ≤ 4 → f < N → Fr3 I0 F0 I F → (∀ I' F', Fr3 I0 F0 I' F' → I' 5 = I 5 + (mDesc (kfW w P M o) rows bot d f).2 → K (some (.int (zi (mDesc (kfW w P M o) rows bot d f).1))) (vg σ I' F', n, bc, bs)) →
    Ex sc 11 9 [some (.ref 5), some (.int tp), some (.int (zi bot)), some (.int (zi o)), some (.int (zi f)), some (.int (zi ((bot + d : Nat) : Int)))] [] (vg σ I F, n, bc, bs) K := by
  have hN2 := hV.2.2.2.2.1
  intro d
  induction d with
  | zero =>
    intro f I F hb hf hFr k
    refine xild_5 (q := 11) d_11_9 rfl ?_
    refine xild_2 (q := 12) d_11_11 rfl ?_
    refine x_icmp_le (q := 15) (t := 41) d_11_12 (by decide) rfl (fun c12 => ?_) (fun c12 => ?_)
    · rw [zi_le (by omega) (by omega) (by omega) (by omega)] at c12
      refine xild_4 (q := 43) d_11_41 rfl ?_
      refine x_iret d_11_43 rfl rfl ?_
      refine k I F hFr ?_
      show I 5 = I 5 + ((0 : Nat) : Int)
      omega
    · rw [zi_le (by omega) (by omega) (by omega) (by omega)] at c12
      exact absurd c12 (by omega)
  | succ d ih =>
    intro f I F hb hf hFr k
    have hVa := hV.fr3 hFr
    have hwa : F 2 = w := (hFr.2 2 (by unfold G3; omega)).trans hw
    have hGa := hG.fr3 hFr
    have hkk : ∀ x, x < N → (kfW w P M o) x % 100 = x := fun x hx => (kf_b hVa hwa ho (show x < 100 by omega)).2.2.2.1
    have hrr : ∀ i, i < N → ∀ x ∈ rows i (bot + d + 1), x < N := fun i hi => (hG i (bot + d + 1) (by omega) (by omega)).2.2.2
    refine xild_5 (q := 11) d_11_9 rfl ?_
    refine xild_2 (q := 12) d_11_11 rfl ?_
    refine x_icmp_le (q := 15) (t := 41) d_11_12 (by decide) rfl (fun c12 => ?_) (fun c12 => ?_)
    · rw [zi_le (by omega) (by omega) (by omega) (by omega)] at c12
      exact absurd c12 (by omega)
    · rw [zi_le (by omega) (by omega) (by omega) (by omega)] at c12
      refine xald_0 (q := 16) d_11_15 rfl ?_
      refine xild_4 (q := 18) d_11_16 rfl ?_
      refine xild_5 (q := 20) d_11_18 rfl ?_
      refine x_iconst (q := 21) (v := zi (1)) d_11_20 rfl rfl ?_
      refine xild_3 (q := 22) d_11_21 rfl ?_
      rw [show ((bot + (d + 1) : Nat) : Int) = ((bot + d + 1 : Nat) : Int) by omega]
      refine xcV4 (q := 25) d_11_22 rfl lk_G_94 mo_12 ⟨by decide +kernel, by decide +kernel⟩ (by simp [Value.category]) (by decide +kernel) (by simp [Value.category]) (by omega) rfl ?_
      refine c_go hn hVa hwa hGa (at_ := f) (l := bot + d + 1) (e := 1) (o := o) hf (by omega) (by omega) ho ?_
      intro I2 F2 hGR2 hFr2 hc2
      dsimp only [ax_ps]
      have hne := mGoing_ne (kf := (kfW w P M o)) (row := fun i => rows i (bot + d + 1)) (f := f) (Nat.le_refl 1)
      have hlt := mHead_lt (Nat.le_refl 1) hf hrr hkk
      have hlp := List.length_pos_iff.mpr hne
      refine xald_0 (q := 26) d_11_25 rfl ?_
      refine xg_G_found hn (q := 29) d_11_26 rfl fl_G_51 ?_
      refine x_iconst (q := 30) (v := zi (0)) d_11_29 rfl rfl ?_
      refine xcV1 (q := 33) d_11_30 rfl lk_G_110 mo_21 ⟨by decide +kernel, by decide +kernel⟩ (by simp [Value.category]) (by decide +kernel) (by simp [Value.category]) (rk_lt (by decide) hn).1 (vg_rk (by decide)) ?_
      refine c_numberAt hn (by decide) hGR2.1 (i := 0) (by omega) ?_
      dsimp only [ax_ps]
      rw [show rkNum (mGoing (kfW w P M o) (fun i => rows i (bot + d + 1)) 1 f).2.1 0 = ((mHead (mGoing (kfW w P M o) (fun i => rows i (bot + d + 1)) 1 f).2.1 : Nat) : Int) by unfold rkNum mHead; rw [if_pos (by omega)]; rfl]
      refine xist_4 (q := 35) d_11_33 rfl ?_
      refine xincz_5 (q := 38) d_11_35 rfl ?_
      refine x_goto (t := 9) d_11_38 (by decide) ?_
      rw [show ((bot + d + 1 : Nat) : Int) + -1 = ((bot + d : Nat) : Int) by omega]
      refine ih _ I2 F2 (by omega) hlt (hFr.tr hFr2) ?_
      intro I3 F3 hFr3 hc3
      refine k I3 F3 hFr3 ?_
      rw [hc3, hc2]
      show _ = I 5 + (((mGoing (kfW w P M o) (fun i => rows i (bot + d + 1)) 1 f).1.length + _ : Nat) : Int)
      omega
set_option maxHeartbeats 2000000 in
theorem c_descend {sc : ax_S} {σ : Nat → ax_C} {I : Nat → Int} {F : Nat → Nat → Int} {n bc bs : Nat} {K : ax_K} (hn : 22 ≤ n) {P N M : Nat} (hV : VW I F P N M) {w : Nat → Int} (hw : F 2 = w) {rows : Nat → Nat → List Nat} (hG : GW F rows N) {top bot o en : Nat} (hen : I 2 = en) (henN : en < N) (ht : top ≤ 4) (hb : bot ≤ 4) (ho : o ≤ 100)
    (k : ∀ I' F', Fr3 I F I' F' → I' 5 = I 5 + (mDesc (kfW w P M o) rows bot (top - bot) en).2 → K (some (.int (zi (mDesc (kfW w P M o) rows bot (top - bot) en).1))) (vg σ I' F', n, bc, bs)) : Ex sc 11 0 (ax_en 11 [.ref 5, .int (zi top), .int (zi bot), .int (zi o)]) [] (vg σ I F, n, bc, bs) K := by
  show Ex sc 11 0 [some (.ref 5), some (.int (zi top)), some (.int (zi bot)), some (.int (zi o)), none, none] [] (vg σ I F, n, bc, bs) K
  refine xald_0 (q := 1) d_11_0 rfl ?_
  refine xg_G_entry hn (q := 4) d_11_1 rfl fl_G_19 ?_
  refine xist_4 (q := 6) d_11_4 rfl ?_
  refine xild_1 (q := 7) d_11_6 rfl ?_
  refine xist_5 (q := 9) d_11_7 rfl ?_
  rw [hen]
  by_cases hc : bot ≤ top
  · rw [show (top : Int) = ((bot + (top - bot) : Nat) : Int) by omega]
    exact lq_descend hn hV hw hG ho (top - bot) en I F (by omega) henN Fr3.rf k
  · refine xild_5 (q := 11) d_11_9 rfl ?_
    refine xild_2 (q := 12) d_11_11 rfl ?_
    refine x_icmp_le (q := 15) (t := 41) d_11_12 (by decide) rfl (fun c12 => ?_) (fun c12 => ?_)
    · refine xild_4 (q := 43) d_11_41 rfl ?_
      refine x_iret d_11_43 rfl rfl ?_
      rw [show top - bot = 0 by omega] at k
      exact k I F Fr3.rf (by show I 5 = I 5 + ((0 : Nat) : Int); omega)
    · rw [zi_le (by omega) (by omega) (by omega) (by omega)] at c12
      exact absurd c12 (by omega)
