/-! GOING -/
set_option maxHeartbeats 2000000 in
theorem lq_goIn {sc : ax_S} {σ : Nat → ax_C} {I0 : Nat → Int} {F0 : Nat → Nat → Int} {n bc bs : Nat} {K : ax_K} (hn : 22 ≤ n) {P N M : Nat} (hV0 : VW I0 F0 P N M) {w : Nat → Int} (hw0 : F0 2 = w) {rows : Nat → Nat → List Nat} (hG0 : GW F0 rows N) {x l e o : Nat} {fr t fa : Int} (hx : x < N) (hl : l < 5) (he : 1 ≤ e ∧ e ≤ 60) (ho : o ≤ 100) (c : Int) :
    ∀ (d j : Nat) (S : mG) (I : Nat → Int) (F : Nat → Nat → Int), j + d = (rows x l).length → GI (kfW w P M o) e N S → GR I F S → Fr3 I0 F0 I F → I 5 = c + S.1.length →
    (∀ I' F', GI (kfW w P M o) e N (mMeets (kfW w P M o) e ((rows x l).drop j) S) → GR I' F' (mMeets (kfW w P M o) e ((rows x l).drop j) S) → Fr3 I0 F0 I' F' → I' 5 = c + (mMeets (kfW w P M o) e ((rows x l).drop j) S).1.length → Ex sc 12 142 [some (.ref 5), some (.int (zi fr)), some (.int (zi l)), some (.int (zi e)), some (.int (zi o)), some (.int (zi t)), some (.int (zi x)), some (.int (zi fa)), some (.int (zi (rows x l).length)), some (.int (zi (rows x l).length))] [] (vg σ I' F', n, bc, bs) K) →
    Ex sc 12 113 [some (.ref 5), some (.int (zi fr)), some (.int (zi l)), some (.int (zi e)), some (.int (zi o)), some (.int (zi t)), some (.int (zi x)), some (.int (zi fa)), some (.int (zi (rows x l).length)), some (.int (zi j))] [] (vg σ I F, n, bc, bs) K := by
  have hN2 := hV0.2.2.2.2.1
  have hrow := hG0 x l (by omega) hl
  have hlen := hrow.2.1
  have hrl := rl_b l
  intro d
  induction d with
  | zero =>
    intro j S I F hj hGI hGR hFr hc kk
    have hjl : j = (rows x l).length := by omega
    subst hjl
    rw [List.drop_length] at kk
    refine xild_9 (q := 115) d_12_113 rfl ?_
    refine xild_8 (q := 117) d_12_115 rfl ?_
    refine x_icmp_ge (q := 120) (t := 142) d_12_117 (by decide) rfl (fun c117 => ?_) (fun c117 => ?_)
    · rw [zi_le (by omega) (by omega) (by omega) (by omega)] at c117
      exact kk I F hGI hGR hFr hc
    · rw [zi_le (by omega) (by omega) (by omega) (by omega)] at c117
      exact absurd c117 (by omega)
  | succ d ih =>
    intro j S I F hj hGI hGR hFr hc kk
    have hjl : j < (rows x l).length := by omega
    rw [drop_get hjl] at kk
    have hy : (rows x l).getD j 0 < N := hrow.2.2.2 _ (gd_mem hjl)
    have hV := hV0.fr3 hFr
    have hG := hG0.fr3 hFr
    have hw : F 2 = w := (hFr.2 2 (by unfold G3; omega)).trans hw0
    refine xild_9 (q := 115) d_12_113 rfl ?_
    refine xild_8 (q := 117) d_12_115 rfl ?_
    refine x_icmp_ge (q := 120) (t := 142) d_12_117 (by decide) rfl (fun c117 => ?_) (fun c117 => ?_)
    · rw [zi_le (by omega) (by omega) (by omega) (by omega)] at c117
      exact absurd c117 (by omega)
    · rw [zi_le (by omega) (by omega) (by omega) (by omega)] at c117
      refine xald_0 (q := 121) d_12_120 rfl ?_
      refine xald_0 (q := 122) d_12_121 rfl ?_
      refine xild_6 (q := 124) d_12_122 rfl ?_
      refine xild_2 (q := 125) d_12_124 rfl ?_
      refine xild_9 (q := 127) d_12_125 rfl ?_
      refine xcV3 (q := 130) d_12_127 rfl lk_G_107 mo_25 ⟨by decide +kernel, by decide +kernel⟩ (by simp [Value.category]) (by decide +kernel) (by simp [Value.category]) (by omega) rfl ?_
      refine c_linkAt hn hG (i := x) (l := l) (j := j) (by omega) hl hjl ?_
      dsimp only [ax_ps]
      refine xild_3 (q := 131) d_12_130 rfl ?_
      refine xild_4 (q := 133) d_12_131 rfl ?_
      refine xcV3 (q := 136) d_12_133 rfl lk_G_147 mo_15 ⟨by decide +kernel, by decide +kernel⟩ (by simp [Value.category]) (by decide +kernel) (by simp [Value.category]) (by omega) rfl ?_
      refine c_meet hn hV hw hy he ho hGI hGR ?_
      intro I2 F2 hGR2 hc2 hFr2
      dsimp only [ax_ps]
      refine xincz_9 (q := 139) d_12_136 rfl ?_
      refine x_goto (t := 113) d_12_139 (by decide) ?_
      rw [show (j : Int) + 1 = ((j + 1 : Nat) : Int) by omega]
      refine ih (j + 1) (mMeet (kfW w P M o) e ((rows x l).getD j 0) S) I2 F2 (by omega) (hGI.meet hy) hGR2 (hFr.tr hFr2) ?_ kk
      rw [hc2, hc, mMeet_len]
      by_cases hm : (rows x l).getD j 0 ∈ S.1
      · rw [if_pos hm, if_pos hm]; omega
      · rw [if_neg hm, if_neg hm]; omega
set_option maxHeartbeats 2000000 in
theorem lq_go {sc : ax_S} {σ : Nat → ax_C} {I0 : Nat → Int} {F0 : Nat → Nat → Int} {n bc bs : Nat} {K : ax_K} (hn : 22 ≤ n) {P N M : Nat} (hV0 : VW I0 F0 P N M) {w : Nat → Int} (hw0 : F0 2 = w) {rows : Nat → Nat → List Nat} (hG0 : GW F0 rows N) {l e o : Nat} {fr : Int} (hl : l < 5) (he : 1 ≤ e ∧ e ≤ 60) (ho : o ≤ 100) (c : Int) :
    ∀ (d t : Nat) (S : mG) (I : Nat → Int) (F : Nat → Nat → Int) (t6 t7 t8 t9 : Option Value), t + d = 100 → GI (kfW w P M o) e N S → GR I F S → Fr3 I0 F0 I F → I 5 = c + S.1.length →
    (∀ I' F', GR I' F' (mGo (kfW w P M o) (fun i => rows i l) e d S) → Fr3 I0 F0 I' F' → I' 5 = c + (mGo (kfW w P M o) (fun i => rows i l) e d S).1.length → K none (vg σ I' F', n, bc, bs)) →
    Ex sc 12 29 [some (.ref 5), some (.int (zi fr)), some (.int (zi l)), some (.int (zi e)), some (.int (zi o)), some (.int (zi t)), t6, t7, t8, t9] [] (vg σ I F, n, bc, bs) K := by
  have hN2 := hV0.2.2.2.2.1
  intro d
  induction d with
  | zero =>
    intro t S I F t6 t7 t8 t9 ht hGI hGR hFr hc kk
    refine xild_5 (q := 31) d_12_29 rfl ?_
    refine x_bipush (q := 33) (v := zi (100)) d_12_31 rfl (by decide) ?_
    refine x_icmp_ge (q := 36) (t := 148) d_12_33 (by decide) rfl (fun c33 => ?_) (fun c33 => ?_)
    · rw [zi_le (by omega) (by omega) (by omega) (by omega)] at c33
      refine x_vret d_12_148 rfl ?_
      exact kk I F hGR hFr hc
    · rw [zi_le (by omega) (by omega) (by omega) (by omega)] at c33
      exact absurd c33 (by omega)
  | succ d ih =>
    intro t S I F t6 t7 t8 t9 ht hGI hGR hFr hc kk
    have hV := hV0.fr3 hFr
    have hw : F 2 = w := (hFr.2 2 (by unfold G3; omega)).trans hw0
    obtain ⟨hR0, hR1, hMT⟩ := hGR
    have hs1 := hR1.1
    have hs1c := hR1.2.1
    have hs0 := hR0.1
    have hs0c := hGI.2.2.1
    have hcc : S.2.2.length ≤ 100 := hs1c
    refine xild_5 (q := 31) d_12_29 rfl ?_
    refine x_bipush (q := 33) (v := zi (100)) d_12_31 rfl (by decide) ?_
    refine x_icmp_ge (q := 36) (t := 148) d_12_33 (by decide) rfl (fun c33 => ?_) (fun c33 => ?_)
    · rw [zi_le (by omega) (by omega) (by omega) (by omega)] at c33
      first
        | (exact absurd c33 (by omega))
        | (have hne : S.2.2 = [] := List.length_eq_zero_iff.mp (by omega); have hgo : mGo (kfW w P M o) (fun i => rows i l) e (d + 1) S = S := (by show (if S.2.2 = [] then S else _) = S; rw [if_pos hne]); rw [hgo] at kk; refine x_vret d_12_148 rfl ?_; exact kk I F ⟨hR0, hR1, hMT⟩ hFr hc)
        | (have hgo : mGo (kfW w P M o) (fun i => rows i l) e (d + 1) S = (S.1, S.2.1, S.2.2.tail) := (by show (if S.2.2 = [] then S else if e ≤ S.2.1.length ∧ lastLt S.2.1 (S.2.2.getD 0 0) then (S.1, S.2.1, S.2.2.tail) else _) = _; rw [if_neg hne, if_pos]; rw [← hkey]; refine ⟨by omega, ?_⟩; unfold rkLB at c95; split at c95; assumption; exact absurd rfl c95); rw [hgo] at kk; refine x_vret d_12_148 rfl ?_; exact kk I1 F1 ⟨hR0a, hR1a, hMTa⟩ hFr1 hc1)
    · rw [zi_le (by omega) (by omega) (by omega) (by omega)] at c33
      refine xald_0 (q := 37) d_12_36 rfl ?_
      refine xg_G_open hn (q := 40) d_12_37 rfl fl_G_55 ?_
      refine xg_R_size (by decide) hn (q := 43) d_12_40 rfl fl_G_135 ?_
      refine x_if_le (q := 46) (t := 148) d_12_43 (by decide) rfl (fun c43 => ?_) (fun c43 => ?_)
      · rw [zi_le0 (by omega) (by omega)] at c43
        first
          | (exact absurd c33 (by omega))
          | (have hne : S.2.2 = [] := List.length_eq_zero_iff.mp (by omega); have hgo : mGo (kfW w P M o) (fun i => rows i l) e (d + 1) S = S := (by show (if S.2.2 = [] then S else _) = S; rw [if_pos hne]); rw [hgo] at kk; refine x_vret d_12_148 rfl ?_; exact kk I F ⟨hR0, hR1, hMT⟩ hFr hc)
          | (have hgo : mGo (kfW w P M o) (fun i => rows i l) e (d + 1) S = (S.1, S.2.1, S.2.2.tail) := (by show (if S.2.2 = [] then S else if e ≤ S.2.1.length ∧ lastLt S.2.1 (S.2.2.getD 0 0) then (S.1, S.2.1, S.2.2.tail) else _) = _; rw [if_neg hne, if_pos]; rw [← hkey]; refine ⟨by omega, ?_⟩; unfold rkLB at c95; split at c95; assumption; exact absurd rfl c95); rw [hgo] at kk; refine x_vret d_12_148 rfl ?_; exact kk I1 F1 ⟨hR0a, hR1a, hMTa⟩ hFr1 hc1)
      · rw [zi_le0 (by omega) (by omega)] at c43
        have hl0 : 0 < S.2.2.length := by omega
        have hne : S.2.2 ≠ [] := List.length_pos_iff.mp hl0
        obtain ⟨x, hxN, hkx⟩ := hGI.2.2.2.2.2.2.2 _ (gd_mem hl0)
        obtain ⟨b1, b2, b3, b4, b5⟩ := kf_b hV hw ho (show x < 100 by omega)
        have hx0 : S.2.2.getD 0 0 % 100 = x := by rw [hkx]; exact b4
        have e6 : rkNum S.2.2 0 = (x : Int) := by unfold rkNum; rw [if_pos (by omega), show (0 : Int).toNat = 0 from rfl, hx0]
        generalize hfa : S.2.2.getD 0 0 / 100 = fa
        have hkey : fa * 100 + x = S.2.2.getD 0 0 := by omega
        have e7 : rkFar S.2.2 0 = (fa : Int) := by unfold rkFar; rw [if_pos (by omega), show (0 : Int).toNat = 0 from rfl, hfa]
        have hkb : fa * 100 + x < 40000000 := by rw [hkey]; rw [hkx]; exact b3
        refine xald_0 (q := 47) d_12_46 rfl ?_
        refine xg_G_open hn (q := 50) d_12_47 rfl fl_G_55 ?_
        refine x_iconst (q := 51) (v := zi (0)) d_12_50 rfl rfl ?_
        refine xcV1 (q := 54) d_12_51 rfl lk_G_110 mo_21 ⟨by decide +kernel, by decide +kernel⟩ (by simp [Value.category]) (by decide +kernel) (by simp [Value.category]) (rk_lt (by decide) hn).1 (vg_rk (by decide)) ?_
        refine c_numberAt hn (by decide) hR1 (i := 0) (by omega) ?_
        dsimp only [ax_ps]
        rw [e6]
        refine xist_6 (q := 56) d_12_54 rfl ?_
        refine xald_0 (q := 57) d_12_56 rfl ?_
        refine xg_G_open hn (q := 60) d_12_57 rfl fl_G_55 ?_
        refine x_iconst (q := 61) (v := zi (0)) d_12_60 rfl rfl ?_
        refine xcV1 (q := 64) d_12_61 rfl lk_G_138 mo_22 ⟨by decide +kernel, by decide +kernel⟩ (by simp [Value.category]) (by decide +kernel) (by simp [Value.category]) (rk_lt (by decide) hn).1 (vg_rk (by decide)) ?_
        refine c_farAt hn (by decide) hR1 (i := 0) (by omega) ?_
        dsimp only [ax_ps]
        rw [e7]
        refine xist_7 (q := 66) d_12_64 rfl ?_
        refine xald_0 (q := 67) d_12_66 rfl ?_
        refine xg_G_open hn (q := 70) d_12_67 rfl fl_G_55 ?_
        refine xcV0 (q := 73) d_12_70 rfl lk_G_150 mo_23 ⟨by decide +kernel, by decide +kernel⟩  (by decide +kernel) (by simp [Value.category]) (rk_lt (by decide) hn).1 (vg_rk (by decide)) ?_
        refine c_dropFirst hn (by decide) hR1 hl0 ?_
        intro I1 F1 hR1a hOI hOF
        dsimp only [ax_ps]
        have hR0a : RK 0 I1 F1 S.2.1 := hR0.same (hOI _ (by decide)) (hOF _ (by decide))
        have hMTa : MT F1 S.1 := fun j hj => by rw [hOF _ (by decide)]; exact hMT j hj
        have hFr1 : Fr3 I0 F0 I1 F1 := hFr.tr ⟨fun j hj => hOI j (g3n hj).2.2, fun j hj => hOF j (g3n hj).2.2⟩
        have hc1 : I1 5 = c + S.1.length := (hOI _ (by decide)).trans hc
        have hs0a := hR0a.1
        have hG := hG0.fr3 hFr1
        refine xald_0 (q := 74) d_12_73 rfl ?_
        refine xg_G_found hn (q := 77) d_12_74 rfl fl_G_51 ?_
        refine xg_R_size (by decide) hn (q := 80) d_12_77 rfl fl_G_135 ?_
        refine xild_3 (q := 81) d_12_80 rfl ?_
        refine x_icmp_lt (q := 84) (t := 101) d_12_81 (by decide) rfl (fun c81 => ?_) (fun c81 => ?_)
        · rw [zi_lt (by omega) (by omega) (by omega) (by omega)] at c81
          refine xald_0 (q := 102) d_12_101 rfl ?_
          refine xild_6 (q := 104) d_12_102 rfl ?_
          refine xild_2 (q := 105) d_12_104 rfl ?_
          refine xcV2 (q := 108) d_12_105 rfl lk_G_104 mo_24 ⟨by decide +kernel, by decide +kernel⟩ (by simp [Value.category]) (by decide +kernel) (by simp [Value.category]) (by omega) rfl ?_
          refine c_rowSize hn hG (i := x) (l := l) (by omega) hl ?_
          dsimp only [ax_ps]
          refine xist_8 (q := 110) d_12_108 rfl ?_
          refine x_iconst (q := 111) (v := zi (0)) d_12_110 rfl rfl ?_
          refine xist_9 (q := 113) d_12_111 rfl ?_
          have hgo : mGo (kfW w P M o) (fun i => rows i l) e (d + 1) S = mGo (kfW w P M o) (fun i => rows i l) e d (mMeets (kfW w P M o) e (rows x l) (S.1, S.2.1, S.2.2.tail)) := by
            show (if S.2.2 = [] then S else if e ≤ S.2.1.length ∧ lastLt S.2.1 (S.2.2.getD 0 0) then (S.1, S.2.1, S.2.2.tail) else _) = _
            rw [if_neg hne, if_neg, hx0]
            rw [← hkey]
            intro hcc2
            first | exact absurd hcc2.1 (by omega) | (unfold rkLB at c95; rw [if_pos hcc2.2] at c95; exact absurd c95 (by decide))
          refine lq_goIn hn hV0 hw0 hG0 hxN hl he ho c (rows x l).length 0 (S.1, S.2.1, S.2.2.tail) I1 F1 (by omega) hGI.tl ⟨hR0a, hR1a, hMTa⟩ hFr1 hc1 ?_
          rw [List.drop_zero]
          intro I3 F3 hGI3 hGR3 hFr3 hc3
          refine xincz_5 (q := 145) d_12_142 rfl ?_
          refine x_goto (t := 29) d_12_145 (by decide) ?_
          rw [show (t : Int) + 1 = ((t + 1 : Nat) : Int) by omega]
          refine ih (t + 1) _ I3 F3 _ _ _ _ (by omega) hGI3 hGR3 hFr3 hc3 ?_
          rw [hgo] at kk
          exact kk
        · rw [zi_lt (by omega) (by omega) (by omega) (by omega)] at c81
          refine xald_0 (q := 85) d_12_84 rfl ?_
          refine xg_G_found hn (q := 88) d_12_85 rfl fl_G_51 ?_
          refine xild_6 (q := 90) d_12_88 rfl ?_
          refine xild_7 (q := 92) d_12_90 rfl ?_
          refine xcV2 (q := 95) d_12_92 rfl lk_G_153 mo_18 ⟨by decide +kernel, by decide +kernel⟩ (by simp [Value.category]) (by decide +kernel) (by simp [Value.category]) (rk_lt (by decide) hn).1 (vg_rk (by decide)) ?_
          refine c_lastIsBefore hn (by decide) hR0a (num := x) (far := fa) hkb ?_
          dsimp only [ax_ps]
          have hlb : rkLB S.2.1 (fa * 100 + x) = 0 ∨ rkLB S.2.1 (fa * 100 + x) = 1 := by unfold rkLB; split <;> omega
          refine x_if_eq (q := 98) (t := 101) d_12_95 (by decide) rfl (fun c95 => ?_) (fun c95 => ?_)
          · rw [zi_eq0 (by omega) (by omega)] at c95
            refine xald_0 (q := 102) d_12_101 rfl ?_
            refine xild_6 (q := 104) d_12_102 rfl ?_
            refine xild_2 (q := 105) d_12_104 rfl ?_
            refine xcV2 (q := 108) d_12_105 rfl lk_G_104 mo_24 ⟨by decide +kernel, by decide +kernel⟩ (by simp [Value.category]) (by decide +kernel) (by simp [Value.category]) (by omega) rfl ?_
            refine c_rowSize hn hG (i := x) (l := l) (by omega) hl ?_
            dsimp only [ax_ps]
            refine xist_8 (q := 110) d_12_108 rfl ?_
            refine x_iconst (q := 111) (v := zi (0)) d_12_110 rfl rfl ?_
            refine xist_9 (q := 113) d_12_111 rfl ?_
            have hgo : mGo (kfW w P M o) (fun i => rows i l) e (d + 1) S = mGo (kfW w P M o) (fun i => rows i l) e d (mMeets (kfW w P M o) e (rows x l) (S.1, S.2.1, S.2.2.tail)) := by
              show (if S.2.2 = [] then S else if e ≤ S.2.1.length ∧ lastLt S.2.1 (S.2.2.getD 0 0) then (S.1, S.2.1, S.2.2.tail) else _) = _
              rw [if_neg hne, if_neg, hx0]
              rw [← hkey]
              intro hcc2
              first | exact absurd hcc2.1 (by omega) | (unfold rkLB at c95; rw [if_pos hcc2.2] at c95; exact absurd c95 (by decide))
            refine lq_goIn hn hV0 hw0 hG0 hxN hl he ho c (rows x l).length 0 (S.1, S.2.1, S.2.2.tail) I1 F1 (by omega) hGI.tl ⟨hR0a, hR1a, hMTa⟩ hFr1 hc1 ?_
            rw [List.drop_zero]
            intro I3 F3 hGI3 hGR3 hFr3 hc3
            refine xincz_5 (q := 145) d_12_142 rfl ?_
            refine x_goto (t := 29) d_12_145 (by decide) ?_
            rw [show (t : Int) + 1 = ((t + 1 : Nat) : Int) by omega]
            refine ih (t + 1) _ I3 F3 _ _ _ _ (by omega) hGI3 hGR3 hFr3 hc3 ?_
            rw [hgo] at kk
            exact kk
          · rw [zi_eq0 (by omega) (by omega)] at c95
            refine x_goto (t := 148) d_12_98 (by decide) ?_
            first
              | (exact absurd c33 (by omega))
              | (have hne : S.2.2 = [] := List.length_eq_zero_iff.mp (by omega); have hgo : mGo (kfW w P M o) (fun i => rows i l) e (d + 1) S = S := (by show (if S.2.2 = [] then S else _) = S; rw [if_pos hne]); rw [hgo] at kk; refine x_vret d_12_148 rfl ?_; exact kk I F ⟨hR0, hR1, hMT⟩ hFr hc)
              | (have hgo : mGo (kfW w P M o) (fun i => rows i l) e (d + 1) S = (S.1, S.2.1, S.2.2.tail) := (by show (if S.2.2 = [] then S else if e ≤ S.2.1.length ∧ lastLt S.2.1 (S.2.2.getD 0 0) then (S.1, S.2.1, S.2.2.tail) else _) = _; rw [if_neg hne, if_pos]; rw [← hkey]; refine ⟨by omega, ?_⟩; unfold rkLB at c95; split at c95; assumption; exact absurd rfl c95); rw [hgo] at kk; refine x_vret d_12_148 rfl ?_; exact kk I1 F1 ⟨hR0a, hR1a, hMTa⟩ hFr1 hc1)
set_option maxHeartbeats 2000000 in
theorem c_go {sc : ax_S} {σ : Nat → ax_C} {I : Nat → Int} {F : Nat → Nat → Int} {n bc bs : Nat} {K : ax_K} (hn : 22 ≤ n) {P N M : Nat} (hV : VW I F P N M) {w : Nat → Int} (hw : F 2 = w) {rows : Nat → Nat → List Nat} (hG : GW F rows N) {at_ l e o : Nat} (hat : at_ < N) (hl : l < 5) (he : 1 ≤ e ∧ e ≤ 60) (ho : o ≤ 100)
    (k : ∀ I' F', GR I' F' (mGoing (kfW w P M o) (fun i => rows i l) e at_) → Fr3 I F I' F' → I' 5 = I 5 + (mGoing (kfW w P M o) (fun i => rows i l) e at_).1.length → K none (vg σ I' F', n, bc, bs)) : Ex sc 12 0 (ax_en 12 [.ref 5, .int (zi at_), .int (zi l), .int (zi e), .int (zi o)]) [] (vg σ I F, n, bc, bs) K := by
  show Ex sc 12 0 [some (.ref 5), some (.int (zi at_)), some (.int (zi l)), some (.int (zi e)), some (.int (zi o)), none, none, none, none, none] [] (vg σ I F, n, bc, bs) K
  refine xald_0 (q := 1) d_12_0 rfl ?_
  refine xcV0 (q := 4) d_12_1 rfl lk_G_98 mo_13 ⟨by decide +kernel, by decide +kernel⟩  (by decide +kernel) (by simp [Value.category]) (by omega) rfl ?_
  refine c_forgetMet hn ?_
  intro F1 hMT hF1
  dsimp only [ax_ps]
  refine xald_0 (q := 5) d_12_4 rfl ?_
  refine xg_G_found hn (q := 8) d_12_5 rfl fl_G_51 ?_
  refine xcV0 (q := 11) d_12_8 rfl lk_G_91 mo_14 ⟨by decide +kernel, by decide +kernel⟩  (by decide +kernel) (by simp [Value.category]) (rk_lt (by decide) hn).1 (vg_rk (by decide)) ?_
  refine c_empty hn (by decide) ?_
  intro I1 hR0 hO1
  dsimp only [ax_ps]
  refine xald_0 (q := 12) d_12_11 rfl ?_
  refine xg_G_open hn (q := 15) d_12_12 rfl fl_G_55 ?_
  refine xcV0 (q := 18) d_12_15 rfl lk_G_91 mo_14 ⟨by decide +kernel, by decide +kernel⟩  (by decide +kernel) (by simp [Value.category]) (rk_lt (by decide) hn).1 (vg_rk (by decide)) ?_
  refine c_empty hn (by decide) ?_
  intro I2 hR1 hO2
  dsimp only [ax_ps]
  have hFr : Fr3 I F I2 F1 := ⟨fun j hj => (hO2 j (g3n hj).2.2).trans (hO1 j (g3n hj).2.1), fun j hj => hF1 j (g3n hj).1⟩
  have hGR : GR I2 F1 ([], [], []) := ⟨hR0.same (hO2 _ (by decide)) rfl, hR1, hMT⟩
  refine xald_0 (q := 19) d_12_18 rfl ?_
  refine xild_1 (q := 20) d_12_19 rfl ?_
  refine xild_3 (q := 21) d_12_20 rfl ?_
  refine xild_4 (q := 23) d_12_21 rfl ?_
  refine xcV3 (q := 26) d_12_23 rfl lk_G_147 mo_15 ⟨by decide +kernel, by decide +kernel⟩ (by simp [Value.category]) (by decide +kernel) (by simp [Value.category]) (by omega) rfl ?_
  refine c_meet hn (hV.fr3 hFr) ((hFr.2 2 (by unfold G3; omega)).trans hw) hat he ho GI.nil hGR ?_
  intro I3 F3 hGR3 hc3 hFr3
  dsimp only [ax_ps]
  refine x_iconst (q := 27) (v := zi (0)) d_12_26 rfl rfl ?_
  refine xist_5 (q := 29) d_12_27 rfl ?_
  refine lq_go hn hV hw hG hl he ho (I 5) 100 0 _ I3 F3 _ _ _ _ (by omega) (GI.nil.meet hat) hGR3 (hFr.tr hFr3) ?_ k
  rw [hc3, mMeet_len, hO2 _ (by decide), hO1 _ (by decide)]
  rw [if_neg List.not_mem_nil, if_neg List.not_mem_nil]
  simp
