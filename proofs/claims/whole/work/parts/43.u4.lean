/-! THE REFERENCE: reached -/
theorem sub_len : ∀ (L T : List Nat), L.Nodup → (∀ x ∈ L, x ∈ T) → L.length ≤ T.length
  | [], _, _, _ => Nat.zero_le _
  | a :: l, T, hd, h => by
    have hd2 := List.nodup_cons.mp hd
    have ha := h a List.mem_cons_self
    have h1 := sub_len l (T.erase a) hd2.2 (fun x hx => (List.mem_erase_of_ne (show x ≠ a from fun e => hd2.1 (by rw [← e]; exact hx))).mpr (h x (List.mem_cons_of_mem _ hx)))
    have h2 := List.length_erase_of_mem ha
    have h3 : 0 < T.length := List.length_pos_of_mem ha
    rw [List.length_cons]
    omega
theorem mFol_app : ∀ (ys T : List Nat), ∃ U, mFol ys T = T ++ U
  | [], T => ⟨[], (List.append_nil T).symm⟩
  | y :: ys, T => by
    unfold mFol
    split
    · exact mFol_app ys T
    · obtain ⟨U, e⟩ := mFol_app ys (T ++ [y])
      exact ⟨[y] ++ U, by rw [e, List.append_assoc]⟩
theorem mFol_mem : ∀ (ys T : List Nat) (x : Nat), x ∈ mFol ys T ↔ x ∈ T ∨ x ∈ ys
  | [], T, x => by simp [mFol]
  | y :: ys, T, x => by
    unfold mFol
    split
    next h =>
      rw [mFol_mem ys T x]
      constructor
      · rintro (q | q)
        · exact Or.inl q
        · exact Or.inr (List.mem_cons_of_mem _ q)
      · rintro (q | q)
        · exact Or.inl q
        · rcases List.mem_cons.mp q with q | q
          · rw [q]; exact Or.inl h
          · exact Or.inr q
    next h =>
      rw [mFol_mem ys (T ++ [y]) x, List.mem_append, List.mem_singleton, List.mem_cons]
      constructor
      · rintro ((q | q) | q)
        · exact Or.inl q
        · exact Or.inr (Or.inl q)
        · exact Or.inr (Or.inr q)
      · rintro (q | q | q)
        · exact Or.inl (Or.inl q)
        · exact Or.inl (Or.inr q)
        · exact Or.inr q
theorem mFol_nd : ∀ (ys T : List Nat), T.Nodup → (mFol ys T).Nodup
  | [], _, h => h
  | y :: ys, T, h => by
    unfold mFol
    split
    · exact mFol_nd ys T h
    next q => exact mFol_nd ys _ (List.nodup_append.mpr ⟨h, by simp, fun a ha b hb e => q (by rw [List.mem_singleton.mp hb] at e; rw [← e]; exact ha)⟩)
theorem app_get {T U : List Nat} {i : Nat} (h : i < T.length) : (T ++ U).getD i 0 = T.getD i 0 := by rw [List.getD_eq_getElem?_getD, List.getElem?_append_left h, List.getD_eq_getElem?_getD]
theorem mBfs_min {row : Nat → List Nat} {C : Nat → Prop} (hC : ∀ x, C x → ∀ y ∈ row x, C y) : ∀ (d k : Nat) (T : List Nat), (∀ x ∈ T, C x) → ∀ x ∈ mBfs row d k T, C x
  | 0, _, _, h => h
  | d + 1, k, T, h => by
    unfold mBfs
    split
    next q => exact mBfs_min hC d _ _ (fun x hx => ((mFol_mem _ _ _).mp hx).elim (h x) (hC _ (h _ (gd_mem q)) x))
    · exact h
theorem mBfs_nd {row : Nat → List Nat} : ∀ (d k : Nat) (T : List Nat), T.Nodup → (mBfs row d k T).Nodup
  | 0, _, _, h => h
  | d + 1, k, T, h => by
    unfold mBfs
    split
    · exact mBfs_nd d _ _ (mFol_nd _ _ h)
    · exact h
theorem mBfs_sub {row : Nat → List Nat} : ∀ (d k : Nat) (T : List Nat), ∀ x ∈ T, x ∈ mBfs row d k T
  | 0, _, _, _, h => h
  | d + 1, k, T, x, h => by
    unfold mBfs
    split
    · exact mBfs_sub d _ _ x ((mFol_mem _ _ _).mpr (Or.inl h))
    · exact h
theorem mBfs_cl {row : Nat → List Nat} {N : Nat} (hr : ∀ x, x < N → ∀ y ∈ row x, y < N) : ∀ (d k : Nat) (T : List Nat), T.Nodup → (∀ x ∈ T, x < N) → N ≤ k + d → k ≤ T.length → (∀ i, i < k → ∀ y ∈ row (T.getD i 0), y ∈ T) → ∀ x ∈ mBfs row d k T, ∀ y ∈ row x, y ∈ mBfs row d k T := by
  have fin : ∀ (T : List Nat), (∀ i, i < T.length → ∀ y ∈ row (T.getD i 0), y ∈ T) → ∀ x ∈ T, ∀ y ∈ row x, y ∈ T := by
    intro T h x hx y hy
    obtain ⟨i, hi, e⟩ := List.getElem_of_mem hx
    have e1 : T.getD i 0 = x := by rw [List.getD_eq_getElem?_getD, List.getElem?_eq_getElem hi]; exact e
    exact h i hi y (by rw [e1]; exact hy)
  intro d
  induction d with
  | zero =>
    intro k T hd hl hN hk h
    have h1 := nodup_le N T hd hl
    exact fin T (fun i hi => h i (by omega))
  | succ d ih =>
    intro k T hd hl hN hk h
    unfold mBfs
    split
    next q =>
      obtain ⟨U, e⟩ := mFol_app (row (T.getD k 0)) T
      have hm := mFol_mem (row (T.getD k 0)) T
      have hkN := hl _ (gd_mem q)
      refine ih (k + 1) _ (mFol_nd _ _ hd) (fun x hx => ((hm x).mp hx).elim (hl x) (hr _ hkN x)) (by omega) (by rw [e, List.length_append]; omega) (fun i hi y hy => ?_)
      have e2 : (mFol (row (T.getD k 0)) T).getD i 0 = T.getD i 0 := by rw [e]; exact app_get (by omega)
      rw [e2] at hy
      rcases Nat.lt_or_ge i k with q2 | q2
      · exact (hm y).mpr (Or.inl (h i q2 y hy))
      · exact (hm y).mpr (Or.inr (by rw [show i = k by omega] at hy; exact hy))
    next q => exact fin T (fun i hi => h i (by omega))
/-- the reference's met ones, on the way -/
def RE (G : Nat → Nat → Int) (row : Nat → List Nat) (N e : Nat) (S : List Nat) : Prop := S.Nodup ∧ (∀ x ∈ S, x < N) ∧ e ∈ S ∧ (∀ C : Nat → Prop, (∀ x, C x → ∀ y ∈ row x, C y) → C e → ∀ x ∈ S, C x) ∧ ∀ x, x < N → G 7 x = if x ∈ S then 1 else 0
def PI (row : Nat → List Nat) (N : Nat) (S0 S : List Nat) (more : Int) (i k : Nat) : Prop := (more = 0 ∧ S = S0 ∧ ∀ i' k', (i' < i ∨ (i' = i ∧ k' < k)) → k' < N → i' ∈ S0 → k' ∈ row i' → k' ∈ S0) ∨ (more = 1 ∧ S0.length < S.length)
theorem RE.add {G : Nat → Nat → Int} {row : Nat → List Nat} {N e : Nat} {S : List Nat} (h : RE G row N e S) {i c : Nat} (hi : i ∈ S) (hc : c ∈ row i) (hcN : c < N) (hcS : c ∉ S) : RE (va_up G 7 (va_up (G 7) c 1)) row N e (c :: S) := by
  obtain ⟨h1, h2, h3, h4, h5⟩ := h
  refine ⟨List.nodup_cons.mpr ⟨hcS, h1⟩, fun x hx => ?_, List.mem_cons_of_mem _ h3, fun C hC he x hx => ?_, fun x hx => ?_⟩
  · rcases List.mem_cons.mp hx with rfl | hx
    · exact hcN
    · exact h2 x hx
  · rcases List.mem_cons.mp hx with rfl | hx
    · exact hC i (h4 C hC he i hi) x hc
    · exact h4 C hC he x hx
  · rw [va_us]
    exact gt_met hcS (h5 x hx)
theorem PI.grow {row : Nat → List Nat} {N : Nat} {S0 S : List Nat} {more : Int} {i k c : Nat} (h : PI row N S0 S more i k) {i' k' : Nat} : PI row N S0 (c :: S) 1 i' k' := Or.inr ⟨rfl, by
  rw [List.length_cons]
  rcases h with ⟨_, e, _⟩ | ⟨_, e⟩
  · rw [e]; omega
  · omega⟩
theorem PI.step {row : Nat → List Nat} {N : Nat} {S0 S : List Nat} {more : Int} {i k : Nat} (h : PI row N S0 S more i k) (hk : i ∈ S → k ∈ row i → k ∈ S) : PI row N S0 S more i (k + 1) := by
  rcases h with ⟨h1, h2, h3⟩ | h
  · refine Or.inl ⟨h1, h2, fun i' k' hl hN hi hr => ?_⟩
    by_cases e : i' = i ∧ k' = k
    · obtain ⟨rfl, rfl⟩ := e
      rw [← h2]
      exact hk (by rw [h2]; exact hi) hr
    · exact h3 i' k' (by omega) hN hi hr
  · exact Or.inr h
theorem PI.next {row : Nat → List Nat} {N : Nat} {S0 S : List Nat} {more : Int} {i k : Nat} (h : PI row N S0 S more i k) (hk : N ≤ k ∨ i ∉ S) : PI row N S0 S more (i + 1) 0 := by
  rcases h with ⟨h1, h2, h3⟩ | h
  · refine Or.inl ⟨h1, h2, fun i' k' hl hN hi hr => ?_⟩
    by_cases e : i' = i
    · rcases hk with hk | hk
      · exact h3 i' k' (Or.inr ⟨e, by omega⟩) hN hi hr
      · exact absurd (by rw [h2, ← e]; exact hi) hk
    · exact h3 i' k' (Or.inl (by omega)) hN hi hr
  · exact Or.inr h

set_option maxHeartbeats 2000000 in
theorem lt_reK {sc : ax_S} {σ : Nat → ax_C} {J : Nat → Int} {G0 : Nat → Nat → Int} {n bc bs : Nat} {K : ax_K} (hn : 38 ≤ n) {N : Nat} (hN : J 7 = N) (hN2 : N ≤ 100) {R : Nat → Nat → List Nat} (hR : NR G0 R) (hlt : ∀ x, x < N → ∀ y ∈ R x 0, y < N) {e0 : Nat} {S0 : List Nat} {i : Nat} (hi : i < N)
    (kk : ∀ (G : Nat → Nat → Int) (S : List Nat) (more : Int) (t : Option Value), (∀ r, r ≠ 7 → G r = G0 r) → RE G (fun x => R x 0) N e0 S → PI (fun x => R x 0) N S0 S more (i + 1) 0 → Ex sc 107 132 [some (.ref 22), some (.int (zi S.length)), some (.int (zi more)), some (.int (zi i)), t] [] (mg σ J G, n, bc, bs) K) :
    ∀ (d j : Nat) (G : Nat → Nat → Int) (S : List Nat) (more : Int), j + d = N → (∀ r, r ≠ 7 → G r = G0 r) → RE G (fun x => R x 0) N e0 S → PI (fun x => R x 0) N S0 S more i j → Ex sc 107 74 [some (.ref 22), some (.int (zi S.length)), some (.int (zi more)), some (.int (zi i)), some (.int (zi j))] [] (mg σ J G, n, bc, bs) K := by
  intro d
  induction d with
  | zero =>
    intro j G S more hj hG hS hP
    have hj1 : j = N := by omega
    subst hj1
    refine xild_4 (q := 76) d_107_74 rfl ?_
    refine xald_0 (q := 77) d_107_76 rfl ?_
    refine yg_count hn (q := 80) d_107_77 rfl fl_M_76 ?_
    refine x_icmp_ge (q := 83) (t := 132) d_107_80 (by decide) rfl (fun c80 => ?_) (fun c80 => ?_)
    · rw [zi_le (by omega) (by omega) (by omega) (by omega)] at c80
      exact kk G S more _ hG hS (hP.next (Or.inl (Nat.le_refl _)))
    · rw [zi_le (by omega) (by omega) (by omega) (by omega)] at c80
      exact absurd c80 (by omega)
  | succ d ih =>
    intro j G S more hj hG hS hP
    have h7i := hS.2.2.2.2 i hi
    have h7j := hS.2.2.2.2 j (by omega)
    have hR' : NR G R := hR.congr (hG 5 (by decide)) (fun _ _ _ _ => rfl)
    refine xild_4 (q := 76) d_107_74 rfl ?_
    refine xald_0 (q := 77) d_107_76 rfl ?_
    refine yg_count hn (q := 80) d_107_77 rfl fl_M_76 ?_
    refine x_icmp_ge (q := 83) (t := 132) d_107_80 (by decide) rfl (fun c80 => ?_) (fun c80 => ?_)
    · rw [zi_le (by omega) (by omega) (by omega) (by omega)] at c80
      first
        | (exact absurd c80 (by omega))
        | (exact kk G S more _ hG hS (hP.next (Or.inr (fun z => by (rw [if_pos z] at c89; exact absurd c89 (by decide))))))
    · rw [zi_le (by omega) (by omega) (by omega) (by omega)] at c80
      refine xald_0 (q := 84) d_107_83 rfl ?_
      refine yg_met hn (q := 87) d_107_84 rfl fl_M_46 ?_
      refine xild_3 (q := 88) d_107_87 rfl ?_
      refine yl_met (q := 89) hn d_107_88 rfl (by omega) (by omega) ?_
      refine x_if_eq (q := 92) (t := 132) d_107_89 (by decide) rfl (fun c89 => ?_) (fun c89 => ?_)
      · rw [show ((i : Int)).toNat = i by omega, h7i] at c89
        first
          | (exact absurd c80 (by omega))
          | (exact kk G S more _ hG hS (hP.next (Or.inr (fun z => by (rw [if_pos z] at c89; exact absurd c89 (by decide))))))
      · rw [show ((i : Int)).toNat = i by omega, h7i] at c89
        have hiS : i ∈ S := Decidable.byContradiction (fun z => by rw [if_neg z] at c89; exact absurd rfl c89)
        refine xald_0 (q := 93) d_107_92 rfl ?_
        refine yg_met hn (q := 96) d_107_93 rfl fl_M_46 ?_
        refine xild_4 (q := 98) d_107_96 rfl ?_
        refine yl_met (q := 99) hn d_107_98 rfl (by omega) (by omega) ?_
        refine x_if_ne (q := 102) (t := 126) d_107_99 (by decide) rfl (fun c99 => ?_) (fun c99 => ?_)
        · rw [show ((j : Int)).toNat = j by omega, h7j] at c99
          refine xincz_4 (q := 129) d_107_126 rfl ?_
          refine x_goto (t := 74) d_107_129 (by decide) ?_
          rw [show (j : Int) + 1 = ((j + 1 : Nat) : Int) by omega]
          first
            | (have h9 := ih (j + 1) (va_up G 7 (va_up (G 7) j 1)) (j :: S) 1 (by omega) (fun r hr => by (rw [va_un _ _ _ hr]; exact hG r hr)) (hS.add hiS hjr (by omega) hjS) hP.grow; rw [show ((j :: S).length : Int) = (S.length : Int) + 1 from rfl] at h9; exact h9)
            | (have hjS : j ∈ S := Decidable.byContradiction (fun z => by (rw [if_neg z] at c99; exact absurd rfl c99)); exact ih (j + 1) G S more (by omega) hG hS (hP.step (fun _ _ => hjS)))
            | (exact ih (j + 1) G S more (by omega) hG hS (hP.step (fun _ q => by (rw [if_pos (show j ∈ R i 0 from q)] at c110; exact absurd c110 (by decide)))))
        · rw [show ((j : Int)).toNat = j by omega, h7j] at c99
          have hjS : j ∉ S := fun z => by rw [if_pos z] at c99; exact absurd c99 (by decide)
          refine xald_0 (q := 103) d_107_102 rfl ?_
          refine x_iconst (q := 104) (v := zi (0)) d_107_103 rfl rfl ?_
          refine xild_3 (q := 105) d_107_104 rfl ?_
          refine xild_4 (q := 107) d_107_105 rfl ?_
          refine xcV3 (q := 110) d_107_107 rfl lk_M_96 mo_92 ⟨by decide +kernel, by decide +kernel⟩ (by simp [Value.category]) (by decide +kernel) (by simp [Value.category]) (by omega) rfl ?_
          refine t_isNear (l := 0) (i := i) (j := j) hn hR' (by decide) (by omega) (by omega) ?_
          dsimp only [ax_ps]
          refine x_if_eq (q := 113) (t := 126) d_107_110 (by decide) rfl (fun c110 => ?_) (fun c110 => ?_)
          · refine xincz_4 (q := 129) d_107_126 rfl ?_
            refine x_goto (t := 74) d_107_129 (by decide) ?_
            rw [show (j : Int) + 1 = ((j + 1 : Nat) : Int) by omega]
            first
              | (have h9 := ih (j + 1) (va_up G 7 (va_up (G 7) j 1)) (j :: S) 1 (by omega) (fun r hr => by (rw [va_un _ _ _ hr]; exact hG r hr)) (hS.add hiS hjr (by omega) hjS) hP.grow; rw [show ((j :: S).length : Int) = (S.length : Int) + 1 from rfl] at h9; exact h9)
              | (have hjS : j ∈ S := Decidable.byContradiction (fun z => by (rw [if_neg z] at c99; exact absurd rfl c99)); exact ih (j + 1) G S more (by omega) hG hS (hP.step (fun _ _ => hjS)))
              | (exact ih (j + 1) G S more (by omega) hG hS (hP.step (fun _ q => by (rw [if_pos (show j ∈ R i 0 from q)] at c110; exact absurd c110 (by decide)))))
          · have hjr : j ∈ R i 0 := Decidable.byContradiction (fun z => by rw [if_neg z] at c110; exact absurd rfl c110)
            refine xald_0 (q := 114) d_107_113 rfl ?_
            refine yg_met hn (q := 117) d_107_114 rfl fl_M_46 ?_
            refine xild_4 (q := 119) d_107_117 rfl ?_
            refine x_iconst (q := 120) (v := zi (1)) d_107_119 rfl rfl ?_
            refine ys_met (q := 121) hn (Or.inr rfl) d_107_120 rfl (by omega) (by omega) ?_
            rw [show ((j : Int)).toNat = j by omega]
            refine xincz_1 (q := 124) d_107_121 rfl ?_
            refine x_iconst (q := 125) (v := zi (1)) d_107_124 rfl rfl ?_
            refine xist_2 (q := 126) d_107_125 rfl ?_
            refine xincz_4 (q := 129) d_107_126 rfl ?_
            refine x_goto (t := 74) d_107_129 (by decide) ?_
            rw [show (j : Int) + 1 = ((j + 1 : Nat) : Int) by omega]
            first
              | (have h9 := ih (j + 1) (va_up G 7 (va_up (G 7) j 1)) (j :: S) 1 (by omega) (fun r hr => by (rw [va_un _ _ _ hr]; exact hG r hr)) (hS.add hiS hjr (by omega) hjS) hP.grow; rw [show ((j :: S).length : Int) = (S.length : Int) + 1 from rfl] at h9; exact h9)
              | (have hjS : j ∈ S := Decidable.byContradiction (fun z => by (rw [if_neg z] at c99; exact absurd rfl c99)); exact ih (j + 1) G S more (by omega) hG hS (hP.step (fun _ _ => hjS)))
              | (exact ih (j + 1) G S more (by omega) hG hS (hP.step (fun _ q => by (rw [if_pos (show j ∈ R i 0 from q)] at c110; exact absurd c110 (by decide)))))
set_option maxHeartbeats 2000000 in
theorem lt_reI {sc : ax_S} {σ : Nat → ax_C} {J : Nat → Int} {G0 : Nat → Nat → Int} {n bc bs : Nat} {K : ax_K} (hn : 38 ≤ n) {N : Nat} (hN : J 7 = N) (hN2 : N ≤ 100) {R : Nat → Nat → List Nat} (hR : NR G0 R) (hlt : ∀ x, x < N → ∀ y ∈ R x 0, y < N) {e0 : Nat} {S0 : List Nat}
    (kk : ∀ (G : Nat → Nat → Int) (S : List Nat) (more : Int) (t t2 : Option Value), (∀ r, r ≠ 7 → G r = G0 r) → RE G (fun x => R x 0) N e0 S → PI (fun x => R x 0) N S0 S more N 0 → Ex sc 107 138 [some (.ref 22), some (.int (zi S.length)), some (.int (zi more)), t, t2] [] (mg σ J G, n, bc, bs) K) :
    ∀ (d i : Nat) (G : Nat → Nat → Int) (S : List Nat) (more : Int) (t4 : Option Value), i + d = N → (∀ r, r ≠ 7 → G r = G0 r) → RE G (fun x => R x 0) N e0 S → PI (fun x => R x 0) N S0 S more i 0 → Ex sc 107 63 [some (.ref 22), some (.int (zi S.length)), some (.int (zi more)), some (.int (zi i)), t4] [] (mg σ J G, n, bc, bs) K := by
  intro d
  induction d with
  | zero =>
    intro i G S more t4 hj hG hS hP
    have hj1 : i = N := by omega
    subst hj1
    refine xild_3 (q := 64) d_107_63 rfl ?_
    refine xald_0 (q := 65) d_107_64 rfl ?_
    refine yg_count hn (q := 68) d_107_65 rfl fl_M_76 ?_
    refine x_icmp_ge (q := 71) (t := 138) d_107_68 (by decide) rfl (fun c68 => ?_) (fun c68 => ?_)
    · rw [zi_le (by omega) (by omega) (by omega) (by omega)] at c68
      exact kk G S more _ _ hG hS hP
    · rw [zi_le (by omega) (by omega) (by omega) (by omega)] at c68
      exact absurd c68 (by omega)
  | succ d ih =>
    intro i G S more t4 hj hG hS hP
    refine xild_3 (q := 64) d_107_63 rfl ?_
    refine xald_0 (q := 65) d_107_64 rfl ?_
    refine yg_count hn (q := 68) d_107_65 rfl fl_M_76 ?_
    refine x_icmp_ge (q := 71) (t := 138) d_107_68 (by decide) rfl (fun c68 => ?_) (fun c68 => ?_)
    · rw [zi_le (by omega) (by omega) (by omega) (by omega)] at c68
      exact absurd c68 (by omega)
    · rw [zi_le (by omega) (by omega) (by omega) (by omega)] at c68
      refine x_iconst (q := 72) (v := zi (0)) d_107_71 rfl rfl ?_
      refine xist_4 (q := 74) d_107_72 rfl ?_
      refine lt_reK hn hN hN2 hR hlt (show i < N by omega) ?_ N 0 G S more (by omega) hG hS hP
      intro G1 S1 m1 t g1 s1 p1
      refine xincz_3 (q := 135) d_107_132 rfl ?_
      refine x_goto (t := 63) d_107_135 (by decide) ?_
      rw [show (i : Int) + 1 = ((i + 1 : Nat) : Int) by omega]
      exact ih (i + 1) G1 S1 m1 _ (by omega) g1 s1 p1
set_option maxHeartbeats 2000000 in
theorem lt_re {sc : ax_S} {σ : Nat → ax_C} {J : Nat → Int} {G0 : Nat → Nat → Int} {n bc bs : Nat} {K : ax_K} (hn : 38 ≤ n) {N : Nat} (hN : J 7 = N) (hN2 : N ≤ 100) {R : Nat → Nat → List Nat} (hR : NR G0 R) (hlt : ∀ x, x < N → ∀ y ∈ R x 0, y < N) {e0 : Nat}
    (k : ∀ (G : Nat → Nat → Int) (S : List Nat), (∀ r, r ≠ 7 → G r = G0 r) → RE G (fun x => R x 0) N e0 S → (∀ x ∈ S, ∀ y ∈ R x 0, y ∈ S) → K (some (.int (zi S.length))) (mg σ J G, n, bc, bs)) :
    ∀ (d : Nat) (G : Nat → Nat → Int) (S : List Nat) (t3 t4 : Option Value), N - S.length ≤ d → (∀ r, r ≠ 7 → G r = G0 r) → RE G (fun x => R x 0) N e0 S → Ex sc 107 55 [some (.ref 22), some (.int (zi S.length)), some (.int (zi 1)), t3, t4] [] (mg σ J G, n, bc, bs) K := by
  intro d
  induction d with
  | zero =>
    intro G S t3 t4 hd hG hS
    refine xild_2 (q := 56) d_107_55 rfl ?_
    refine x_if_eq (q := 59) (t := 141) d_107_56 (by decide) rfl (fun c56 => ?_) (fun c56 => ?_)
    · rw [zi_eq0 (by omega) (by omega)] at c56
      exact absurd c56 (by omega)
    · rw [zi_eq0 (by omega) (by omega)] at c56
      refine x_iconst (q := 60) (v := zi (0)) d_107_59 rfl rfl ?_
      refine xist_2 (q := 61) d_107_60 rfl ?_
      refine x_iconst (q := 62) (v := zi (0)) d_107_61 rfl rfl ?_
      refine xist_3 (q := 63) d_107_62 rfl ?_
      refine lt_reI (S0 := S) hn hN hN2 hR hlt ?_ N 0 G S 0 _ (by omega) hG hS (Or.inl ⟨rfl, rfl, fun i' k' h => by rcases h with h | h; exact absurd h (Nat.not_lt_zero _); exact absurd h.2 (Nat.not_lt_zero _)⟩)
      intro G1 S1 m1 t t2 g1 s1 p1
      refine x_goto (t := 55) d_107_138 (by decide) ?_
      by_cases hm0 : m1 = 0
      · have hcl : S1 = S ∧ ∀ x ∈ S, ∀ y ∈ R x 0, y ∈ S := by
          rcases p1 with ⟨_, e, h⟩ | ⟨e, _⟩
          · exact ⟨e, fun x hx y hy => h x y (Or.inl (hS.2.1 x hx)) (hlt x (hS.2.1 x hx) y hy) hx hy⟩
          · exact absurd (hm0.symm.trans e) (by decide)
        obtain ⟨rfl, hcl⟩ := hcl
        subst hm0
        refine xild_2 (q := 56) d_107_55 rfl ?_
        refine x_if_eq (q := 59) (t := 141) d_107_56 (by decide) rfl (fun c56 => ?_) (fun c56 => ?_)
        · refine xild_1 (q := 142) d_107_141 rfl ?_
          refine x_iret d_107_142 rfl rfl ?_
          exact k G1 S1 g1 s1 hcl
        · exact absurd rfl c56
      · have hm : m1 = 1 ∧ S.length < S1.length := by
          rcases p1 with ⟨e, _⟩ | h
          · exact absurd e hm0
          · exact h
        have hle := nodup_le N S1 s1.1 s1.2.1
        have hle2 := hm.2
        omega
  | succ d ih =>
    intro G S t3 t4 hd hG hS
    refine xild_2 (q := 56) d_107_55 rfl ?_
    refine x_if_eq (q := 59) (t := 141) d_107_56 (by decide) rfl (fun c56 => ?_) (fun c56 => ?_)
    · rw [zi_eq0 (by omega) (by omega)] at c56
      exact absurd c56 (by omega)
    · rw [zi_eq0 (by omega) (by omega)] at c56
      refine x_iconst (q := 60) (v := zi (0)) d_107_59 rfl rfl ?_
      refine xist_2 (q := 61) d_107_60 rfl ?_
      refine x_iconst (q := 62) (v := zi (0)) d_107_61 rfl rfl ?_
      refine xist_3 (q := 63) d_107_62 rfl ?_
      refine lt_reI (S0 := S) hn hN hN2 hR hlt ?_ N 0 G S 0 _ (by omega) hG hS (Or.inl ⟨rfl, rfl, fun i' k' h => by rcases h with h | h; exact absurd h (Nat.not_lt_zero _); exact absurd h.2 (Nat.not_lt_zero _)⟩)
      intro G1 S1 m1 t t2 g1 s1 p1
      refine x_goto (t := 55) d_107_138 (by decide) ?_
      by_cases hm0 : m1 = 0
      · have hcl : S1 = S ∧ ∀ x ∈ S, ∀ y ∈ R x 0, y ∈ S := by
          rcases p1 with ⟨_, e, h⟩ | ⟨e, _⟩
          · exact ⟨e, fun x hx y hy => h x y (Or.inl (hS.2.1 x hx)) (hlt x (hS.2.1 x hx) y hy) hx hy⟩
          · exact absurd (hm0.symm.trans e) (by decide)
        obtain ⟨rfl, hcl⟩ := hcl
        subst hm0
        refine xild_2 (q := 56) d_107_55 rfl ?_
        refine x_if_eq (q := 59) (t := 141) d_107_56 (by decide) rfl (fun c56 => ?_) (fun c56 => ?_)
        · refine xild_1 (q := 142) d_107_141 rfl ?_
          refine x_iret d_107_142 rfl rfl ?_
          exact k G1 S1 g1 s1 hcl
        · exact absurd rfl c56
      · have hm : m1 = 1 ∧ S.length < S1.length := by
          rcases p1 with ⟨e, _⟩ | h
          · exact absurd e hm0
          · exact h
        have hle := nodup_le N S1 s1.1 s1.2.1
        obtain ⟨rfl, hm2⟩ := hm
        exact ih G1 S1 _ _ (by omega) g1 s1
set_option maxHeartbeats 2000000 in
theorem lt_reFill {sc : ax_S} {σ : Nat → ax_C} {J : Nat → Int} {G0 : Nat → Nat → Int} {n bc bs : Nat} {K : ax_K} (hn : 38 ≤ n) {e0 : Nat} (h16 : J 16 = e0) (he0 : e0 < 100) (kk : ∀ (G : Nat → Nat → Int) (t : Option Value), (∀ r, r ≠ 7 → G r = G0 r) → (∀ x, x < 100 → G 7 x = if x = e0 then 1 else 0) → Ex sc 107 51 [some (.ref 22), t, none, none, none] [] (mg σ J G, n, bc, bs) K) :
    ∀ (d j : Nat) (G : Nat → Nat → Int), j + d = 100 → (∀ r, r ≠ 7 → G r = G0 r) → (∀ x, x < j → G 7 x = if x = e0 then 1 else 0) → Ex sc 107 20 [some (.ref 22), some (.int (zi j)), none, none, none] [] (mg σ J G, n, bc, bs) K := by
  intro d
  induction d with
  | zero =>
    intro j G hj hG h
    have hj1 : j = 100 := by omega
    subst hj1
    refine xild_1 (q := 21) d_107_20 rfl ?_
    refine x_bipush (q := 23) (v := zi (100)) d_107_21 rfl (by decide) ?_
    refine x_icmp_ge (q := 26) (t := 51) d_107_23 (by decide) rfl (fun c23 => ?_) (fun c23 => ?_)
    · rw [zi_le (by omega) (by omega) (by omega) (by omega)] at c23
      exact kk G _ hG h
    · rw [zi_le (by omega) (by omega) (by omega) (by omega)] at c23
      exact absurd c23 (by omega)
  | succ d ih =>
    intro j G hj hG h
    refine xild_1 (q := 21) d_107_20 rfl ?_
    refine x_bipush (q := 23) (v := zi (100)) d_107_21 rfl (by decide) ?_
    refine x_icmp_ge (q := 26) (t := 51) d_107_23 (by decide) rfl (fun c23 => ?_) (fun c23 => ?_)
    · rw [zi_le (by omega) (by omega) (by omega) (by omega)] at c23
      exact absurd c23 (by omega)
    · rw [zi_le (by omega) (by omega) (by omega) (by omega)] at c23
      refine xald_0 (q := 27) d_107_26 rfl ?_
      refine yg_met hn (q := 30) d_107_27 rfl fl_M_46 ?_
      refine xild_1 (q := 31) d_107_30 rfl ?_
      refine xild_1 (q := 32) d_107_31 rfl ?_
      refine xald_0 (q := 33) d_107_32 rfl ?_
      refine yg_entryOf hn (q := 36) d_107_33 rfl fl_M_40 ?_
      refine x_icmp_ne (q := 39) (t := 43) d_107_36 (by decide) rfl (fun c36 => ?_) (fun c36 => ?_)
      · rw [zi_eq (by omega) (by omega) (by omega) (by omega)] at c36
        refine x_iconst (q := 44) (v := zi (0)) d_107_43 rfl rfl ?_
        refine ys_met (q := 45) hn (by decide) d_107_44 rfl (by omega) (by omega) ?_
        refine xincz_1 (q := 48) d_107_45 rfl ?_
        refine x_goto (t := 20) d_107_48 (by decide) ?_
        rw [show (j : Int) + 1 = ((j + 1 : Nat) : Int) by omega, show ((j : Int)).toNat = j by omega]
        refine ih (j + 1) _ (by omega) (fun r hr => by rw [va_un _ _ _ hr]; exact hG r hr) (fun x hx => ?_)
        rw [va_us]
        by_cases e : x = j
        · rw [e, va_us]
          first | rw [if_pos (by omega)] | rw [if_neg (by omega)]
        · rw [va_un _ _ _ e]; exact h x (by omega)
      · rw [zi_eq (by omega) (by omega) (by omega) (by omega)] at c36
        refine x_iconst (q := 40) (v := zi (1)) d_107_39 rfl rfl ?_
        refine x_goto (t := 44) d_107_40 (by decide) ?_
        refine ys_met (q := 45) hn (by decide) d_107_44 rfl (by omega) (by omega) ?_
        refine xincz_1 (q := 48) d_107_45 rfl ?_
        refine x_goto (t := 20) d_107_48 (by decide) ?_
        rw [show (j : Int) + 1 = ((j + 1 : Nat) : Int) by omega, show ((j : Int)).toNat = j by omega]
        refine ih (j + 1) _ (by omega) (fun r hr => by rw [va_un _ _ _ hr]; exact hG r hr) (fun x hx => ?_)
        rw [va_us]
        by_cases e : x = j
        · rw [e, va_us]
          first | rw [if_pos (by omega)] | rw [if_neg (by omega)]
        · rw [va_un _ _ _ e]; exact h x (by omega)
set_option maxHeartbeats 2000000 in
theorem t_reached {sc : ax_S} {σ : Nat → ax_C} {J : Nat → Int} {G : Nat → Nat → Int} {n bc bs : Nat} {K : ax_K} (hn : 38 ≤ n) {P N M : Nat} (hT : TW J G P N M) {s : Int} (hs : J 2 = s) {wd : Nat} (hwd : J 4 = wd) (hwd6 : wd ≤ 6) {car : Bool} (hcar : J 5 = if car = true then 1 else 0) (hst : J 13 = 0 ∨ J 13 = 1) {V : Nat → Nat → Int} (hV : ∀ i, i < N → ∀ k, k < P → tv G i k = V i k) {g : mSt} (hg : g = mBuild (kfV V P M) (fbV V P M) car wd (lev s) N) (hB : J 13 = 0 → TB J G P N M s g)
    (k : ∀ (J' : Nat → Int) (G' : Nat → Nat → Int), (∀ r, r ≠ 0 → r ≠ 13 → r ≠ 16 → r ≠ 21 → J' r = J r) → (∀ r, r < 4 ∨ 11 < r → G' r = G r) → J' 13 = 0 → TB J' G' P N M s g → K (some (.int (zi (mReach g)))) (mg σ J' G', n, bc, bs)) : Ex sc 107 0 (ax_en 107 [.ref 22]) [] (mg σ J G, n, bc, bs) K := by
  obtain ⟨hP, hP1, hP2, hN, hN2, hM, hM2, hv, hbr, hrm⟩ := id hT
  show Ex sc 107 0 [some (.ref 22), none, none, none, none] [] (mg σ J G, n, bc, bs) K
  refine xald_0 (q := 1) d_107_0 rfl ?_
  refine x_iconst (q := 2) (v := zi (0)) d_107_1 rfl rfl ?_
  refine yp_thrown hn (q := 5) d_107_2 rfl fw_M_1 ?_
  refine xald_0 (q := 6) d_107_5 rfl ?_
  refine xcV0 (q := 9) d_107_6 rfl lk_M_180 mo_87 ⟨by decide +kernel, by decide +kernel⟩  (by decide +kernel) (by simp [Value.category]) (by omega) rfl ?_
  refine t_need (J := (va_up J 0 0)) hn (hT.same rfl rfl rfl rfl rfl rfl) hs hwd hwd6 hcar hst hV hg (fun h => (hB h).keep hN2 (fun _ _ _ _ => rfl) rfl rfl (fun _ _ => rfl) rfl) ?_
  intro J1 G1 f1 z1 tb1
  dsimp only [ax_ps]
  have hT1 : TW J1 G1 P N M := hT.same (f1.1 1 (by decide) (by decide) (by decide)) (f1.1 7 (by decide) (by decide) (by decide)) (f1.1 3 (by decide) (by decide) (by decide)) (f1.2 0 (by decide)) (f1.2 1 (by decide)) (f1.2 2 (by decide))
  have hJN1 : J1 7 = N := hT1.2.2.2.1
  refine xald_0 (q := 10) d_107_9 rfl ?_
  refine yg_count hn (q := 13) d_107_10 rfl fl_M_76 ?_
  refine x_if_ne (q := 16) (t := 18) d_107_13 (by decide) rfl (fun c13 => ?_) (fun c13 => ?_)
  · rw [zi_eq0 (by omega) (by omega)] at c13
    obtain ⟨b1, b2, b3⟩ := mBuild_lt (kfs := kfV V P M) (fb := fbV V P M) (car := car) (wd := wd) (lv := lev s) N (fun o y _ hy => kfV_mod (by omega))
    rw [← hg] at b1 b2 b3
    obtain ⟨R, ent⟩ := g
    cases ent with
    | none => exact absurd rfl (b3 (by omega))
    | some e0 =>
    have b1 : ∀ l, LT R l N := b1
    have he0 : e0 < N := b2 e0 rfl
    have h16 : J1 16 = (e0 : Int) := tb1.2.2.2
    refine x_iconst (q := 19) (v := zi (0)) d_107_18 rfl rfl ?_
    refine xist_1 (q := 20) d_107_19 rfl ?_
    refine lt_reFill (J := J1) (G0 := G1) hn h16 (by omega) ?_ 100 0 G1 (by omega) (fun _ _ => rfl) (fun x hx => absurd hx (Nat.not_lt_zero _))
    intro G2 t g2 h7
    refine x_iconst (q := 52) (v := zi (1)) d_107_51 rfl rfl ?_
    refine xist_1 (q := 53) d_107_52 rfl ?_
    refine x_iconst (q := 54) (v := zi (1)) d_107_53 rfl rfl ?_
    refine xist_2 (q := 55) d_107_54 rfl ?_
    have hRE : RE G2 (fun x => R x 0) N e0 [e0] := ⟨by simp, fun x hx => by rw [List.mem_singleton.mp hx]; exact he0, List.mem_singleton.mpr rfl, fun C _ he x hx => by rw [List.mem_singleton.mp hx]; exact he, fun x hx => by
      rw [h7 x (by omega)]
      by_cases e : x = e0
      · rw [if_pos e, if_pos (by rw [e]; exact List.mem_singleton.mpr rfl)]
      · rw [if_neg e, if_neg (fun z => e (List.mem_singleton.mp z))]⟩
    refine lt_re (J := J1) (G0 := G2) hn hJN1 hN2 (tb1.2.2.1.congr (g2 5 (by decide)) (fun _ _ _ _ => rfl)) (fun x _ => b1 0 x) ?_ N G2 [e0] _ _ (by omega) (fun _ _ => rfl) hRE
    intro G3 S g3 s3 hcl
    have hTb : S.length = (mBfs (fun x => R x 0) 100 0 [e0]).length := by
      have hc := mBfs_cl (row := fun x => R x 0) (N := N) (fun x _ => b1 0 x) 100 0 [e0] (by simp) (fun x hx => by rw [List.mem_singleton.mp hx]; exact he0) (by omega) (Nat.zero_le _) (fun i hi => absurd hi (Nat.not_lt_zero _))
      have h1 := sub_len S (mBfs (fun x => R x 0) 100 0 [e0]) s3.1 (s3.2.2.2.1 (fun x => x ∈ mBfs (fun x => R x 0) 100 0 [e0]) hc (mBfs_sub 100 0 [e0] e0 (List.mem_singleton.mpr rfl)))
      have h2 := sub_len (mBfs (fun x => R x 0) 100 0 [e0]) S (mBfs_nd 100 0 [e0] (by simp)) (mBfs_min (C := fun x => x ∈ S) hcl 100 0 [e0] (fun x hx => by rw [List.mem_singleton.mp hx]; exact s3.2.2.1))
      omega
    rw [hTb]
    refine k J1 G3 (fun r a b c d => (f1.1 r b c d).trans (va_un _ _ _ a)) (fun r hr => (g3 r (by omega)).trans ((g2 r (by omega)).trans (f1.2 r hr))) z1 ?_
    exact tb1.keep hN2 (fun a _ k _ => by unfold tv; rw [g3 0 (by decide), g2 0 (by decide)]) ((g3 4 (by decide)).trans (g2 4 (by decide))) ((g3 5 (by decide)).trans (g2 5 (by decide))) (fun p _ => by rw [g3 6 (by decide), g2 6 (by decide)]) rfl
  · rw [zi_eq0 (by omega) (by omega)] at c13
    refine x_iconst (q := 17) (v := zi (0)) d_107_16 rfl rfl ?_
    refine x_iret d_107_17 rfl rfl ?_
    have hN0 : N = 0 := (by omega)
    subst hN0
    subst hg
    exact k J1 G1 (fun r a b c d => (f1.1 r b c d).trans (va_un _ _ _ a)) f1.2 z1 tb1
