/-! add, rule, clean; the beginning -/
section
variable {sc : ax_S} {σ : Nat → ax_C} {I I' : Nat → Int} {F F' : Nat → Nat → Int} {J J' : Nat → Int} {G G' : Nat → Nat → Int} {P N M wd : Nat} {car : Bool} {s : Int} {V : Nat → Nat → Int} {L L' : List Nat}
theorem app_2 (F : Nat → Nat → Int) (P N : Nat) : appF F P N 2 = cpyF F P 100 N 2 := by
  unfold appF
  rw [va_un _ _ _ (by decide), va_un _ _ _ (by decide)]
theorem app_13 (F : Nat → Nat → Int) (P N : Nat) {r : Nat} (h : 2 < r) : appF F P N r = F r := by
  unfold appF
  rw [va_un _ _ _ (by omega), va_un _ _ _ (by omega), cpy_0 F P 100 N (by omega)]
def addV (F : Nat → Nat → Int) (P N : Nat) (V : Nat → Nat → Int) : Nat → Nat → Int := fun i k => if i = N then vec F P 100 k else V i k
theorem LQ.aV (h : LQ I F J G P N M wd car s V L) : ∀ i, i < N + 1 → ∀ k, k < P → appF F P N 2 (i * P + k) = addV F P N V i k := by
  intro i hi k hk
  rw [app_2]
  show vec (cpyF F P 100 N) P i k = _
  rw [cpy_vec hk]
  unfold addV
  by_cases e : i = N
  · rw [if_pos e, if_pos e]
  · rw [if_neg e, if_neg e]
    exact h.v1 i (by omega) k hk
theorem fw_eq {w : Nat → Int} {U : Nat → Nat → Int} {T P M : Nat} (h : ∀ i, i < T → ∀ k, k < P → w (i * P + k) = U i k) {a b : Nat} (ha : a < T) (hb : b < T) : fbW w P M a b = fbV U P M a b := by
  have e : farW w P M 100 a b = farI M P 100 (U a) (U b) := farI_congr (h a ha) (h b hb)
  show (farW w P M 100 a b).toNat = _
  rw [e]
  rfl
theorem kw_eq {w : Nat → Int} {U : Nat → Nat → Int} {T P M : Nat} (h : ∀ i, i < T → ∀ k, k < P → w (i * P + k) = U i k) {a b : Nat} (ha : a < T) (hb : b < T) : kfW w P M a b = kfV U P M a b := by
  show fbW w P M a b * 100 + b = fbV U P M a b * 100 + b
  rw [fw_eq h ha hb]
theorem kfW_mod {w : Nat → Int} {o x : Nat} (hx : x < 100) : kfW w P M o x % 100 = x := by
  show ((farW w P M 100 o x).toNat * 100 + x) % 100 = x
  omega
theorem bW_eq {w : Nat → Int} {U : Nat → Nat → Int} (hN : N ≤ 100) (h : ∀ i, i < N → ∀ k, k < P → w (i * P + k) = U i k) : mBuild (kfW w P M) (fbW w P M) car wd (lev s) N = mBuild (kfV U P M) (fbV U P M) car wd (lev s) N :=
  mBuild_cg (N := N) (fun o y _ hy => kfW_mod (by omega)) (fun o y ho hy => kw_eq h ho hy) (fun a b ha hb => fw_eq h ha hb) (fun _ _ => rfl) N (Nat.le_refl _)
theorem bV_eq {U U' : Nat → Nat → Int} (hN : N ≤ 100) (h : ∀ i, i < N → ∀ k, k < P → U i k = U' i k) : mBuild (kfV U P M) (fbV U P M) car wd (lev s) N = mBuild (kfV U' P M) (fbV U' P M) car wd (lev s) N := by
  have e : ∀ a b, a < N → b < N → fbV U P M a b = fbV U' P M a b := by
    intro a b ha hb
    have e1 : farI M P 100 (U a) (U b) = farI M P 100 (U' a) (U' b) := farI_congr (h a ha) (h b hb)
    unfold fbV
    rw [e1]
  exact mBuild_cg (N := N) (fun o y _ hy => kfV_mod (by omega)) (fun o y ho hy => by unfold kfV; rw [e o y ho hy]) e (fun _ _ => rfl) N (Nat.le_refl _)
theorem LQ.aB (h : LQ I F J G P N M wd car s V L) (hN : N < 100) : mJoin (kfW (appF F P N 2) P M) (fbW (appF F P N 2) P M) car wd (lev s) (mBuild (kfV V P M) (fbV V P M) car wd (lev s) N) N = mBuild (kfV (addV F P N V) P M) (fbV (addV F P N V) P M) car wd (lev s) (N + 1) := by
  show _ = mJoin (kfV (addV F P N V) P M) (fbV (addV F P N V) P M) car wd (lev s) (mBuild (kfV (addV F P N V) P M) (fbV (addV F P N V) P M) car wd (lev s) N) N
  rw [← bV_eq (U := V) (U' := addV F P N V) (by omega) (fun i hi k _ => by unfold addV; rw [if_neg (by omega)])]
  exact mJoin_cg (N := N + 1) (by omega) (fun o y _ hy => kfW_mod (by omega)) (fun o y ho hy => kw_eq h.aV ho hy) (fun a b ha hb => fw_eq h.aV ha hb) (fun _ _ => rfl) h.lt.1 h.lt.2
theorem s_add (h : INV I F J G) : Same sc INV σ 6 67 [] I F J G := by
  obtain ⟨P, N, M, wd, car, s, V, L, h⟩ := h
  intro K1 hk
  refine c_add (by decide) h.hV h.gr h.w1 h.wh h.c1 h.s1 h.en h.lt.1 h.lt.2 (fun c I' F' hg he fr => hk _ _ _ (fun K2 h2 => ?_)) (fun c => hk _ _ _ (fun K2 h2 => ?_))
  · refine t_add (by decide) h.hT (fun _ J' G' a1 a2 a3 a4 a5 a6 a7 a8 => ?_) (fun c2 => absurd c c2)
    have hP := h.hV.2.2.1
    rw [h.aB c] at hg he
    have hF2 : ∀ i, i < N + 1 → ∀ k, k < P → vec F' P i k = addV F P N V i k := by
      intro i hi k hkk
      show F' 2 (i * P + k) = _
      rw [fr.w]
      exact h.aV i hi k hkk
    have hT' : TW J' G' P (N + 1) M := by
      obtain ⟨b1, b2, b3, b4, b5, b6, b7, b8, b9, b10⟩ := h.hT
      refine ⟨(a1 1 (by decide) (by decide) (by decide)).trans b1, b2, b3, a2, by omega, (a1 3 (by decide) (by decide) (by decide)).trans b6, b7, fun j hj => ?_, fun j hj => ?_, fun j hj => ?_⟩
      · by_cases q : j < 8 * N ∨ 8 * N + 8 ≤ j
        · rw [a5 j q]; exact b8 j hj
        · obtain ⟨t, ht, e⟩ : ∃ t, t < 8 ∧ j = 8 * N + t := ⟨j - 8 * N, by omega, by omega⟩
          rw [e, a6 t ht]
          exact b8 _ (by omega)
      · rw [a7]
        by_cases q : j = N
        · rw [q, va_us]; exact Or.inl rfl
        · rw [va_un _ _ _ q]; exact b9 j hj
      · rw [a8]
        by_cases q : j = N
        · rw [q, va_us]; exact Or.inl rfl
        · rw [va_un _ _ _ q]; exact b10 j hj
    refine h2 _ _ (LQ.mk (P := P) (N := N + 1) (M := M) (wd := wd) (car := car) (s := s) (V := addV F P N V) (L := L) ((h.hV.app c).frK fr) hT' hF2 (fun i hi k hkk => ?_) (fun k hkk => ?_) (fun x hx => ?_) (fun x hx => ?_) ?_ ?_ ?_ ?_ h.wl h.wh ?_ ?_ hg he ?_ ?_ ?_ ?_ (Or.inr a3) (fun e => absurd (a3.symm.trans e) (by decide))).inv
    · show G' 0 (8 * i + k) = _
      unfold addV
      by_cases e : i = N
      · rw [if_pos e, e, a6 k (by omega)]
        exact (h.hd k hkk).symm
      · rw [if_neg e, a5 _ (by omega)]
        exact h.v2 i (by omega) k hkk
    · show F' 2 (100 * P + k) = G' 0 (8 * 100 + k)
      rw [fr.w, app_2, a5 _ (by omega)]
      show vec (cpyF F P 100 N) P 100 k = _
      rw [cpy_vec hkk, if_neg (by omega)]
      exact h.hd k hkk
    · rw [fr.2 0 (by decide) (by decide) (by decide) (by decide) (by decide) (by decide), a8]
      show va_up (F 0) N 0 x = va_up (G 2) N 0 x
      by_cases e : x = N
      · rw [e, va_us, va_us]
      · rw [va_un _ _ _ e, va_un _ _ _ e]; exact h.r0 x (by omega)
    · rw [fr.2 1 (by decide) (by decide) (by decide) (by decide) (by decide) (by decide), a7]
      show va_up (F 1) N 0 x = va_up (G 1) N 0 x
      by_cases e : x = N
      · rw [e, va_us, va_us]
      · rw [va_un _ _ _ e, va_un _ _ _ e]; exact h.r1 x (by omega)
    · exact (fr.i (j := 8) (by omega)).trans h.s1
    · exact (a1 2 (by decide) (by decide) (by decide)).trans h.s2
    · exact (fr.i (j := 3) (by omega)).trans h.w1
    · exact (a1 4 (by decide) (by decide) (by decide)).trans h.w2
    · exact (fr.i (j := 4) (by omega)).trans h.c1
    · exact (a1 5 (by decide) (by decide) (by decide)).trans h.c2
    · exact h.rk.same (fr.i (j := 13) (by omega)) ((fr.2 13 (by decide) (by decide) (by decide) (by decide) (by decide) (by decide)).trans (app_13 F P N (by decide)))
    · exact (a1 11 (by decide) (by decide) (by decide)).trans h.t1
    · rw [a4 3 (by decide)]; exact h.t3
    · exact (fr.i (j := 6) (by omega)).trans (h.st.trans (a1 12 (by decide) (by decide) (by decide)).symm)
  · exact t_add (by decide) h.hT (fun c2 => absurd c2 c) (fun _ => h2 _ _ h.j0.inv)
/-- the rules changed; the graph was built anew -/
theorem LQ.reb (h : LQ I F J G P N M wd car s V L) {M2 wd2 : Nat} {car2 : Bool} (hM : M2 ≤ 2) (hw : 2 ≤ wd2 ∧ wd2 ≤ 6) (hI : ∀ r, r ≠ 1 → r ≠ 2 → r ≠ 3 → r ≠ 4 → r ≠ 5 → r ≠ 10 → r ≠ 11 → r ≠ 12 → I' r = I r) (i1 : I' 1 = M2) (i3 : I' 3 = wd2) (i4 : I' 4 = if car2 = true then 1 else 0) (hF : ∀ r, r ≠ 3 → r ≠ 4 → r ≠ 5 → r ≠ 10 → r ≠ 11 → r ≠ 12 → F' r = F r) (hg : GW F' (mBuild (kfW (F 2) P M2) (fbW (F 2) P M2) car2 wd2 (lev s) N).1 N) (he : I' 2 = entI (mBuild (kfW (F 2) P M2) (fbW (F 2) P M2) car2 wd2 (lev s) N).2) (hJ : ∀ r, r ≠ 0 → r ≠ 3 → r ≠ 4 → r ≠ 5 → r ≠ 13 → J' r = J r) (j3 : J' 3 = M2) (j4 : J' 4 = wd2) (j5 : J' 5 = if car2 = true then 1 else 0) (j13 : J' 13 = 1) : LQ I' F' J' G P N M2 wd2 car2 s V L := by
  rw [bW_eq (U := V) h.n100 h.v1] at hg he
  have f2 : F' 2 = F 2 := hF 2 (by decide) (by decide) (by decide) (by decide) (by decide) (by decide)
  have f0 : F' 0 = F 0 := hF 0 (by decide) (by decide) (by decide) (by decide) (by decide) (by decide)
  have f1 : F' 1 = F 1 := hF 1 (by decide) (by decide) (by decide) (by decide) (by decide) (by decide)
  have f13 : F' 13 = F 13 := hF 13 (by decide) (by decide) (by decide) (by decide) (by decide) (by decide)
  have ji : ∀ r, r ≠ 0 → r ≠ 3 → r ≠ 4 → r ≠ 5 → r ≠ 13 → J' r = J r := hJ
  refine LQ.mk ?_ ?_ (fun i hi k hk => ?_) h.v2 (fun k hk => ?_) (fun x hx => ?_) (fun x hx => ?_) ?_ ?_ i3 j4 hw.1 hw.2 i4 j5 hg he ?_ ?_ h.t3 ?_ (Or.inr j13) (fun e => absurd (j13.symm.trans e) (by decide))
  · obtain ⟨b1, b2, b3, b4, b5, b6, b7, b8, b9, b10⟩ := h.hV
    refine ⟨(hI 7 (by decide) (by decide) (by decide) (by decide) (by decide) (by decide) (by decide) (by decide)).trans b1, b2, b3, (hI 0 (by decide) (by decide) (by decide) (by decide) (by decide) (by decide) (by decide) (by decide)).trans b4, b5, i1, hM, ?_, ?_, ?_⟩
    · rw [f2]; exact b8
    · rw [f0]; exact b9
    · rw [f1]; exact b10
  · obtain ⟨b1, b2, b3, b4, b5, b6, b7, b8, b9, b10⟩ := h.hT
    exact ⟨(hJ 1 (by decide) (by decide) (by decide) (by decide) (by decide)).trans b1, b2, b3, (hJ 7 (by decide) (by decide) (by decide) (by decide) (by decide)).trans b4, b5, j3, hM, b8, b9, b10⟩
  · show F' 2 (i * P + k) = _
    rw [f2]
    exact h.v1 i hi k hk
  · show F' 2 (100 * P + k) = _
    rw [f2]
    exact h.hd k hk
  · rw [f0]; exact h.r0 x hx
  · rw [f1]; exact h.r1 x hx
  · exact (hI 8 (by decide) (by decide) (by decide) (by decide) (by decide) (by decide) (by decide) (by decide)).trans h.s1
  · exact (hJ 2 (by decide) (by decide) (by decide) (by decide) (by decide)).trans h.s2
  · exact h.rk.same (hI 13 (by decide) (by decide) (by decide) (by decide) (by decide) (by decide) (by decide) (by decide)) f13
  · exact (hJ 11 (by decide) (by decide) (by decide) (by decide) (by decide)).trans h.t1
  · exact (hI 6 (by decide) (by decide) (by decide) (by decide) (by decide) (by decide) (by decide) (by decide)).trans (h.st.trans (hJ 12 (by decide) (by decide) (by decide) (by decide) (by decide)).symm)
theorem FrK.io {I1 : Nat → Int} (hf : FrK I1 F I' F') (r : Nat) (hr : r ≠ 2 ∧ r ≠ 5 ∧ r ≠ 10 ∧ r ≠ 11 ∧ r ≠ 12) : I' r = I1 r := hf.1 r hr.1 hr.2.1 hr.2.2.1 hr.2.2.2.1 hr.2.2.2.2
theorem s_rule {a b : Int} (ha : I32 a) (hb : I32 b) (h : INV I F J G) : Same sc INV σ 39 74 [.int (zi a), .int (zi b)] I F J G := by
  obtain ⟨P, N, M, wd, car, s, V, L, h⟩ := h
  have hM2 := h.hV.2.2.2.2.2.2.1
  have hI1 : I 1 = M := h.hV.2.2.2.2.2.1
  have hJ3 : J 3 = M := h.hT.2.2.2.2.2.1
  intro K1 hk
  refine c_rule (by decide) h.hV rfl h.w1 h.wh h.c1 h.s1 h.wl ha hb (fun c I' F' hg he fr => hk _ _ _ (fun K2 h2 => ?_)) (fun c I' F' hg he fr => hk _ _ _ (fun K2 h2 => ?_)) (fun c I' F' hg he fr => hk _ _ _ (fun K2 h2 => ?_)) (fun n0 n1 n2 => hk _ _ _ (fun K2 h2 => ?_))
  · refine t_rule (by decide) h.hT ha hb (fun _ J' a1 a2 a3 => ?_) (fun c2 => absurd c2.1 (by omega)) (fun c2 => absurd c2.1 (by omega)) (fun n0 _ _ => absurd c n0)
    rw [hJ3]
    refine h2 _ _ (h.reb (M2 := b.toNat) (wd2 := wd) (car2 := car) (by omega) ⟨h.wl, h.wh⟩ (fun r q1 q2 q3 q4 q5 q6 q7 q8 => (fr.io r ⟨q2, q5, q6, q7, q8⟩).trans (va_un _ _ _ q1)) ?_ ((fr.io 3 (by omega)).trans h.w1) ((fr.io 4 (by omega)).trans h.c1) fr.2 hg he (fun r q0 q3 q4 q5 q13 => a1 r q0 q3 q13) ?_ ((a1 4 (by decide) (by decide) (by decide)).trans h.w2) ((a1 5 (by decide) (by decide) (by decide)).trans h.c2) a3).inv
    · rw [fr.io 1 (by omega), va_us]; omega
    · rw [a2]; omega
  · refine t_rule (by decide) h.hT ha hb (fun c2 => absurd c2.1 (by omega)) (fun _ J' a1 a2 a3 => ?_) (fun c2 => absurd c2.1 (by omega)) (fun _ n0 _ => absurd c n0)
    rw [h.w2]
    refine h2 _ _ (h.reb (M2 := M) (wd2 := b.toNat) (car2 := car) hM2 (by omega) (fun r q1 q2 q3 q4 q5 q6 q7 q8 => (fr.io r ⟨q2, q5, q6, q7, q8⟩).trans (va_un _ _ _ q3)) ((fr.io 1 (by omega)).trans hI1) ?_ ((fr.io 4 (by omega)).trans h.c1) fr.2 hg he (fun r q0 q3 q4 q5 q13 => a1 r q0 q4 q13) ((a1 3 (by decide) (by decide) (by decide)).trans hJ3) ?_ ((a1 5 (by decide) (by decide) (by decide)).trans h.c2) a3).inv
    · rw [fr.io 3 (by omega), va_us]; omega
    · rw [a2]; omega
  · refine t_rule (by decide) h.hT ha hb (fun c2 => absurd c2.1 (by omega)) (fun c2 => absurd c2.1 (by omega)) (fun _ J' a1 a2 a3 => ?_) (fun _ _ n0 => absurd c n0)
    rw [h.c2, ← h.c1]
    have eb : b = if decide (b = 1) = true then 1 else 0 := by
      by_cases q : b = 1
      · rw [if_pos (decide_eq_true q)]; exact q
      · rw [if_neg (by rw [decide_eq_true_eq]; exact q)]; omega
    refine h2 _ _ (h.reb (M2 := M) (wd2 := wd) (car2 := decide (b = 1)) hM2 ⟨h.wl, h.wh⟩ (fun r q1 q2 q3 q4 q5 q6 q7 q8 => (fr.io r ⟨q2, q5, q6, q7, q8⟩).trans (va_un _ _ _ q4)) ((fr.io 1 (by omega)).trans hI1) ((fr.io 3 (by omega)).trans h.w1) ?_ fr.2 hg he (fun r q0 q3 q4 q5 q13 => a1 r q0 q5 q13) ((a1 3 (by decide) (by decide) (by decide)).trans hJ3) ((a1 4 (by decide) (by decide) (by decide)).trans h.w2) ?_ a3).inv
    · rw [fr.io 4 (by omega), va_us]; exact eb
    · rw [a2]; exact eb
  · exact t_rule (by decide) h.hT ha hb (fun c2 => absurd c2 n0) (fun c2 => absurd c2 n1) (fun c2 => absurd c2 n2) (fun _ _ _ => h2 _ _ h.j0.inv)
theorem s_clean (h : INV I F J G) : Same sc INV σ 36 73 [] I F J G := by
  obtain ⟨P, N, M, wd, car, s, V, L, h⟩ := h
  have eK : keepL (G 2) N = keepL (F 0) N := keepL_cg N (fun x hx => (h.r0 x hx).symm)
  intro K1 hk
  refine c_clean (by decide) h.hV h.w1 h.wh h.c1 h.s1 (fun I' F' w hV' hw hu hh hg he hrk hI => hk _ _ _ (fun K2 h2 => ?_))
  subst hw
  refine t_clean (by decide) h.hT ?_
  rw [eK]
  intro J' G' a1 a2 a3 a4 a5 a6
  have hget := keep_get (F 0) N
  refine h2 _ _ (LQ.mk (V := vec F' P) (L := []) (car := car) (wd := wd) (s := s) hV' a4 (fun _ _ _ _ => rfl) (fun i hi k hkk => ?_) (fun k hkk => ?_) (fun x hx => ?_) (fun x hx => ?_) ?_ ?_ ?_ ?_ h.wl h.wh ?_ ?_ hg he hrk ?_ (fun j hj => absurd hj (Nat.not_lt_zero _)) ?_ (Or.inr a3) (fun e => absurd (a3.symm.trans e) (by decide))).inv
  · rw [(a5 i hi).1 k hkk, (hu i hi).1 k hkk, h.v2 _ (hget i hi) k hkk, h.v1 _ (hget i hi) k hkk]
  · rw [hh k hkk, a6 k hkk]; exact h.hd k hkk
  · rw [(hu x hx).2.2, (a5 x hx).2.2]
  · rw [(hu x hx).2.1, (a5 x hx).2.1]; exact h.r1 _ (hget x hx)
  · exact (hI 8 (by decide) (by decide) (by decide)).trans h.s1
  · exact (a1 2 (by decide) (by decide) (by decide) (by decide)).trans h.s2
  · exact (hI 3 (by decide) (by decide) (by decide)).trans h.w1
  · exact (a1 4 (by decide) (by decide) (by decide) (by decide)).trans h.w2
  · exact (hI 4 (by decide) (by decide) (by decide)).trans h.c1
  · exact (a1 5 (by decide) (by decide) (by decide) (by decide)).trans h.c2
  · exact a2
  · exact (hI 6 (by decide) (by decide) (by decide)).trans (h.st.trans (a1 12 (by decide) (by decide) (by decide) (by decide)).symm)
/-- both new: one state -/
theorem inv_0 (p s : Int) : INV (I0 p s) (fun _ _ => 0) (J0 (prtN p) s) (fun _ _ => 0) := by
  have hp := prt_b p
  refine LQ.inv (LQ.mk (P := prtN p) (N := 0) (M := 0) (wd := 4) (car := true) (s := s) (V := fun _ _ => 0) (L := []) ?_ ?_ (fun i hi => absurd hi (Nat.not_lt_zero _)) (fun i hi => absurd hi (Nat.not_lt_zero _)) (fun _ _ => rfl) (fun i hi => absurd hi (Nat.not_lt_zero _)) (fun i hi => absurd hi (Nat.not_lt_zero _)) rfl rfl rfl rfl (by decide) (by decide) rfl rfl ?_ rfl ?_ rfl (fun j hj => absurd hj (Nat.not_lt_zero _)) rfl (Or.inl rfl) (fun _ => ?_))
  · exact ⟨rfl, hp.1, hp.2, rfl, by decide, rfl, by decide, fun _ _ => (show (-100 : Int) ≤ 0 ∧ (0 : Int) ≤ 100 by decide), fun _ _ => Or.inl rfl, fun _ _ => Or.inl rfl⟩
  · exact ⟨rfl, hp.1, hp.2, rfl, by decide, rfl, by decide, fun _ _ => (show (-100 : Int) ≤ 0 ∧ (0 : Int) ≤ 100 by decide), fun _ _ => Or.inl rfl, fun _ _ => Or.inl rfl⟩
  · intro i l _ _
    exact ⟨rfl, Nat.zero_le _, fun k hk => absurd hk (Nat.not_lt_zero _), fun x hx => absurd hx List.not_mem_nil⟩
  · exact ⟨rfl, by decide, fun j hj => absurd hj (Nat.not_lt_zero _), fun x hx => absurd hx List.not_mem_nil⟩
  · refine ⟨fun a x ha => absurd ha (Nat.not_lt_zero _), fun x hx => absurd hx (Nat.not_lt_zero _), fun l i j _ _ _ => ?_, rfl⟩
    exact (if_neg (fun z => absurd z List.not_mem_nil)).symm
end
