/-! THE REFERENCE: nearest, findExact, findByGraph, tell -/
theorem SB.cg {b b' : Nat → Int} {kf kf' : Nat → Nat} {N : Nat} {L : List Nat} (h : SB b kf N L) (hk : ∀ x, x < N → kf x = kf' x) (hb : ∀ x, x < N → b' x = b x) : SB b' kf' N L := ⟨h.1, fun k hkk => by
  obtain ⟨x, hx, e⟩ := h.2.1 k hkk
  exact ⟨x, hx, by rw [← hk x hx]; exact e⟩, fun x hx => by rw [hb x hx, ← hk x hx]; exact h.2.2 x hx⟩
/-- the reference's row of answers is that of the keys L -/
def RW (J : Nat → Int) (G : Nat → Nat → Int) (L : List Nat) : Prop := J 26 = L.length ∧ ∀ j, j < L.length → G 13 j = ((L.getD j 0 % 100 : Nat) : Int)
theorem mFree_SB {b : Nat → Int} {kf : Nat → Nat} : ∀ {N : Nat}, (∀ y, y < N → kf y % 100 = y) → (∀ x, x < N → b x = 0 ∨ b x = 1) → SB b kf N (mFree kf b N)
  | 0, _, _ => ⟨List.Pairwise.nil, fun _ h => absurd h List.not_mem_nil, fun x hx => absurd hx (Nat.not_lt_zero _)⟩
  | N + 1, hk, hb => by
    have ih := mFree_SB (N := N) (fun y hy => hk y (by omega)) (fun x hx => hb x (by omega))
    have hnm : kf N ∉ mFree kf b N := fun z => by
      obtain ⟨x, hx, e⟩ := ih.2.1 _ z
      have := kf_inj hk (Nat.lt_succ_self N) (show x < N + 1 by omega) e
      omega
    unfold mFree
    by_cases hN : b N = 1
    · rw [if_pos hN]
      refine ⟨ins_slt ih.1 hnm, fun k hkk => ?_, fun x hx => ?_⟩
      · rcases ins_mem.mp hkk with q | q
        · exact ⟨N, by omega, q⟩
        · obtain ⟨x, hx, e⟩ := ih.2.1 k q
          exact ⟨x, by omega, e⟩
      · rcases Nat.lt_or_ge x N with q | q
        · rw [ih.2.2 x q]
          by_cases q2 : kf x ∈ mFree kf b N
          · rw [if_pos q2, if_pos (ins_mem.mpr (Or.inr q2))]
          · rw [if_neg q2, if_neg (fun z => (ins_mem.mp z).elim (fun e => by have := kf_inj hk hx (Nat.lt_succ_self N) e; omega) q2)]
        · rw [show x = N by omega, hN, if_pos (ins_mem.mpr (Or.inl rfl))]
    · rw [if_neg hN]
      refine ⟨ih.1, fun k hkk => ?_, fun x hx => ?_⟩
      · obtain ⟨x, hx, e⟩ := ih.2.1 k hkk
        exact ⟨x, by omega, e⟩
      · rcases Nat.lt_or_ge x N with q | q
        · exact ih.2.2 x q
        · have h0 := hb N (Nat.lt_succ_self N)
          rw [show x = N by omega, if_neg hnm]
          omega
theorem mFree_cg {kf kf' : Nat → Nat} {b b' : Nat → Int} : ∀ (N : Nat), (∀ x, x < N → kf x = kf' x) → (∀ x, x < N → b x = b' x) → mFree kf b N = mFree kf' b' N
  | 0, _, _ => rfl
  | N + 1, h1, h2 => by
    unfold mFree
    rw [h1 N (by omega), h2 N (by omega), mFree_cg N (fun x hx => h1 x (by omega)) (fun x hx => h2 x (by omega))]
theorem mFF_mem {fr : Nat → Int} : ∀ {L T : List Nat} {k : Nat}, k ∈ mFF fr L T ↔ k ∈ T ∨ (k ∈ L ∧ fr (k % 100) = 1)
  | [], T, k => by simp [mFF]
  | a :: L, T, k => by
    unfold mFF
    split
    next h =>
      rw [mFF_mem, ins_mem]
      constructor
      · rintro ((q | q) | q)
        · exact Or.inr ⟨by rw [q]; exact List.mem_cons_self, by rw [q]; exact h⟩
        · exact Or.inl q
        · exact Or.inr ⟨List.mem_cons_of_mem _ q.1, q.2⟩
      · rintro (q | ⟨q, q2⟩)
        · exact Or.inl (Or.inr q)
        · rcases List.mem_cons.mp q with q | q
          · exact Or.inl (Or.inl q)
          · exact Or.inr ⟨q, q2⟩
    next h =>
      rw [mFF_mem]
      constructor
      · rintro (q | q)
        · exact Or.inl q
        · exact Or.inr ⟨List.mem_cons_of_mem _ q.1, q.2⟩
      · rintro (q | ⟨q, q2⟩)
        · exact Or.inl q
        · rcases List.mem_cons.mp q with q | q
          · rw [q] at q2; exact absurd q2 h
          · exact Or.inr ⟨q, q2⟩
theorem mFF_slt {fr : Nat → Int} : ∀ {L T : List Nat}, T.Pairwise (· < ·) → L.Pairwise (· < ·) → (∀ k ∈ L, k ∉ T) → (mFF fr L T).Pairwise (· < ·)
  | [], _, h, _, _ => h
  | a :: L, T, h, hL, hn => by
    have h2 := List.pairwise_cons.mp hL
    unfold mFF
    split
    · refine mFF_slt (ins_slt h (hn a List.mem_cons_self)) h2.2 (fun k hk q => ?_)
      rcases ins_mem.mp q with q | q
      · have := h2.1 k hk
        omega
      · exact hn k (List.mem_cons_of_mem _ hk) q
    · exact mFF_slt h h2.2 (fun k hk => hn k (List.mem_cons_of_mem _ hk))
theorem mFF_SB {b c fr : Nat → Int} {kf : Nat → Nat} {N : Nat} {L : List Nat} (h : SB b kf N L) (hk : ∀ y, y < N → kf y % 100 = y) (hc : ∀ x, x < N → c x = if b x = 1 ∧ fr x = 1 then 1 else 0) : SB c kf N (mFF fr L []) := by
  refine ⟨mFF_slt List.Pairwise.nil h.1 (fun _ _ => List.not_mem_nil), fun k hkk => ?_, fun x hx => ?_⟩
  · rcases mFF_mem.mp hkk with q | q
    · exact absurd q List.not_mem_nil
    · exact h.2.1 k q.1
  · have hb := h.2.2 x hx
    rw [hc x hx]
    have : (b x = 1 ∧ fr x = 1) ↔ kf x ∈ mFF fr L [] := by
      rw [mFF_mem, hk x hx]
      by_cases q : kf x ∈ L
      · rw [if_pos q] at hb
        exact ⟨fun z => Or.inr ⟨q, z.2⟩, fun z => z.elim (fun z => absurd z List.not_mem_nil) (fun z => ⟨hb, z.2⟩)⟩
      · rw [if_neg q] at hb
        exact ⟨fun z => absurd (hb.symm.trans z.1) (by decide), fun z => z.elim (fun z => absurd z List.not_mem_nil) (fun z => absurd z.1 q)⟩
    by_cases q : b x = 1 ∧ fr x = 1
    · rw [if_pos q, if_pos (this.mp q)]
    · rw [if_neg q, if_neg (fun z => q (this.mpr z))]
theorem mFF_cg {fr fr' : Nat → Int} {N : Nat} (h : ∀ x, x < N → fr x = fr' x) : ∀ (L T : List Nat), (∀ k ∈ L, k % 100 < N) → mFF fr L T = mFF fr' L T
  | [], _, _ => rfl
  | a :: L, T, hL => by
    unfold mFF
    rw [h _ (hL a List.mem_cons_self), mFF_cg h L _ (fun k hk => hL k (List.mem_cons_of_mem _ hk)), mFF_cg h L _ (fun k hk => hL k (List.mem_cons_of_mem _ hk))]
theorem take_drop {L : List Nat} {m c : Nat} (h : c = m ∨ c = L.length) (hc : c ≤ m) (hc2 : c ≤ L.length) : (L.take m).length = c := by
  rw [List.length_take]
  omega

set_option maxHeartbeats 2000000 in
theorem lt_nearest {sc : ax_S} {σ : Nat → ax_C} {J0 : Nat → Int} {G0 : Nat → Nat → Int} {n bc bs : Nat} {K : ax_K} (hn : 38 ≤ n) {N : Nat} (hN : J0 7 = N) (hN2 : N ≤ 100) (hF : FAb G0 N 100) {m : Nat} (hm : m ≤ 100) {L : List Nat} (hlen : L.length ≤ N)
    (k : ∀ (J' : Nat → Int) (G' : Nat → Nat → Int), (∀ r, r ≠ 26 → J' r = J0 r) → (∀ r, r ≠ 12 → r ≠ 13 → G' r = G0 r) → RW J' G' (L.take m) → K none (mg σ J' G', n, bc, bs)) :
    ∀ (d c : Nat) (J : Nat → Int) (G : Nat → Nat → Int), c + d = L.length → c ≤ m → (∀ r, r ≠ 26 → J r = J0 r) → (∀ r, r ≠ 12 → r ≠ 13 → G r = G0 r) → J 26 = c → (∀ j, j < c → G 13 j = ((L.getD j 0 % 100 : Nat) : Int)) → SB (G 12) (kg G0 100) N (L.drop c) → Ex sc 81 17 [some (.ref 22), some (.int (zi m)), some (.int (zi (outI (L.drop c) true)))] [] (mg σ J G, n, bc, bs) K := by
  have hk : ∀ y, y < N → kg G0 100 y % 100 = y := fun y hy => kg_mod (by omega)
  have done : ∀ (c : Nat) (J : Nat → Int) (G : Nat → Nat → Int), (c = m ∨ c = L.length) → c ≤ m → c ≤ L.length → (∀ r, r ≠ 26 → J r = J0 r) → (∀ r, r ≠ 12 → r ≠ 13 → G r = G0 r) → J 26 = c → (∀ j, j < c → G 13 j = ((L.getD j 0 % 100 : Nat) : Int)) → K none (mg σ J G, n, bc, bs) := by
    intro c J G h1 h2 h3 hJ hG hc h13
    have hl := take_drop h1 h2 h3
    refine k J G hJ hG ⟨by rw [hl]; exact hc, fun j hj => ?_⟩
    rw [hl] at hj
    rw [gd_take (by omega)]
    exact h13 j hj
  intro d
  induction d with
  | zero =>
    intro c J G hd hcm hJ hG hc h13 hS
    rw [List.drop_of_length_le (by omega), out_nil]
    refine xild_2 (q := 18) d_81_17 rfl ?_
    refine x_if_lt (q := 21) (t := 71) d_81_18 (by decide) rfl (fun c18 => ?_) (fun c18 => ?_)
    · rw [zi_lt0 (by omega) (by omega)] at c18
      refine x_vret d_81_71 rfl ?_
      exact done c J G (Or.inr (by omega)) hcm (by omega) hJ hG hc h13
    · rw [zi_lt0 (by omega) (by omega)] at c18
      exact absurd c18 (by omega)
  | succ d ih =>
    intro c J G hd hcm hJ hG hc h13 hS
    have hcl : c < L.length := by omega
    have hne : L.drop c ≠ [] := fun z => by have := congrArg List.length z; rw [List.length_drop] at this; simp at this; omega
    obtain ⟨x, hx, e0, eo, em, _, hpop⟩ := hS.pop hk hne
    rw [List.tail_drop] at hpop
    have hx0 : L.getD c 0 % 100 = x := by
      rw [drop_get hcl] at em
      exact em
    rw [eo]
    have hJN : J 7 = N := by rw [hJ 7 (by decide)]; exact hN
    refine xild_2 (q := 18) d_81_17 rfl ?_
    refine x_if_lt (q := 21) (t := 71) d_81_18 (by decide) rfl (fun c18 => ?_) (fun c18 => ?_)
    · rw [zi_lt0 (by omega) (by omega)] at c18
      refine x_vret d_81_71 rfl ?_
      first
        | (exact absurd c18 (by omega))
        | (exact done c J G (Or.inl (by omega)) hcm (by omega) hJ hG hc h13)
    · rw [zi_lt0 (by omega) (by omega)] at c18
      refine xald_0 (q := 22) d_81_21 rfl ?_
      refine yg_rowCount hn (q := 25) d_81_22 rfl fl_M_171 ?_
      refine xild_1 (q := 26) d_81_25 rfl ?_
      refine x_icmp_ge (q := 29) (t := 71) d_81_26 (by decide) rfl (fun c26 => ?_) (fun c26 => ?_)
      · rw [hc, zi_le (by omega) (by omega) (by omega) (by omega)] at c26
        refine x_vret d_81_71 rfl ?_
        first
          | (exact absurd c18 (by omega))
          | (exact done c J G (Or.inl (by omega)) hcm (by omega) hJ hG hc h13)
      · rw [hc, zi_le (by omega) (by omega) (by omega) (by omega)] at c26
        refine xald_0 (q := 30) d_81_29 rfl ?_
        refine yg_those hn (q := 33) d_81_30 rfl fl_M_61 ?_
        refine xild_2 (q := 34) d_81_33 rfl ?_
        refine x_iconst (q := 35) (v := zi (0)) d_81_34 rfl rfl ?_
        refine ys_those (q := 36) hn (Or.inl rfl) d_81_35 rfl (by omega) (by omega) ?_
        rw [show ((x : Int)).toNat = x by omega]
        refine xald_0 (q := 37) d_81_36 rfl ?_
        refine yg_row hn (q := 40) d_81_37 rfl fl_M_64 ?_
        refine xald_0 (q := 41) d_81_40 rfl ?_
        refine yg_rowCount hn (q := 44) d_81_41 rfl fl_M_171 ?_
        refine xild_2 (q := 45) d_81_44 rfl ?_
        refine ys_row (q := 46) hn d_81_45 rfl (by rw [hc]; omega) (by rw [hc]; omega) ?_
        rw [hc, show ((c : Int)).toNat = c by omega]
        refine xald_0 (q := 47) d_81_46 rfl ?_
        refine x_dup (q := 48) d_81_47 rfl rfl ?_
        refine yg_rowCount hn (q := 51) d_81_48 rfl fl_M_171 ?_
        refine x_iconst (q := 52) (v := zi (1)) d_81_51 rfl rfl ?_
        refine z_iadd (q := 53) d_81_52 rfl ?_
        refine yp_rowCount hn (q := 56) d_81_53 rfl fw_M_171 ?_
        refine xald_0 (q := 57) d_81_56 rfl ?_
        refine xald_0 (q := 58) d_81_57 rfl ?_
        refine yg_those hn (q := 61) d_81_58 rfl fl_M_61 ?_
        refine x_bipush (q := 63) (v := zi (100)) d_81_61 rfl (by decide) ?_
        refine x_iconst (q := 64) (v := zi (1)) d_81_63 rfl rfl ?_
        refine xcV3 (q := 67) d_81_64 rfl lk_M_109 mo_82 ⟨by decide +kernel, by decide +kernel⟩ (by simp [Value.category]) (by decide +kernel) (by simp [Value.category]) (by omega) rfl ?_
        rw [hc]
        refine t_outer (r := 12) (G := va_up (va_up G 12 (va_up (G 12) x 0)) 13 (va_up (va_up G 12 (va_up (G 12) x 0) 13) c x)) (J := va_up J 26 ((c : Int) + 1)) hn hJN hN2 (by unfold mBool; decide) (by decide) (by unfold FAb; rw [show va_up (va_up G 12 (va_up (G 12) x 0)) 13 (va_up (va_up G 12 (va_up (G 12) x 0) 13) c x) 6 = G 6 from rfl, hG 6 (by decide) (by decide)]; exact hF) (L := L.drop (c + 1)) (by rw [show kg (va_up (va_up G 12 (va_up (G 12) x 0)) 13 (va_up (va_up G 12 (va_up (G 12) x 0) 13) c x)) 100 = kg G0 100 from (by unfold kg; rw [show va_up (va_up G 12 (va_up (G 12) x 0)) 13 (va_up (va_up G 12 (va_up (G 12) x 0) 13) c x) 6 = G 6 from rfl, hG 6 (by decide) (by decide)])]; exact hpop) true rfl ?_
        dsimp only [ax_ps]
        refine xist_2 (q := 68) d_81_67 rfl ?_
        refine x_goto (t := 17) d_81_68 (by decide) ?_
        refine ih (c + 1) _ _ (by omega) (by omega) (fun r hr => by rw [va_un _ _ _ hr]; exact hJ r hr) (fun r a b => by rw [va_un _ _ _ b, va_un _ _ _ a]; exact hG r a b) (by rw [va_us]; rfl) (fun j hj => ?_) hpop
        rw [va_us]
        by_cases e : j = c
        · rw [e, va_us, hx0]
        · rw [va_un _ _ _ e, va_un _ _ _ (by decide)]; exact h13 j (by omega)
set_option maxHeartbeats 2000000 in
theorem t_nearest {sc : ax_S} {σ : Nat → ax_C} {J : Nat → Int} {G : Nat → Nat → Int} {n bc bs : Nat} {K : ax_K} (hn : 38 ≤ n) {N : Nat} (hN : J 7 = N) (hN2 : N ≤ 100) (hF : FAb G N 100) {m : Nat} (hm : m ≤ 100) {L : List Nat} (hL : SB (G 12) (kg G 100) N L) (k : ∀ (J' : Nat → Int) (G' : Nat → Nat → Int), (∀ r, r ≠ 26 → J' r = J r) → (∀ r, r ≠ 12 → r ≠ 13 → G' r = G r) → RW J' G' (L.take m) → K none (mg σ J' G', n, bc, bs)) : Ex sc 81 0 (ax_en 81 [.ref 22, .int (zi m)]) [] (mg σ J G, n, bc, bs) K := by
  have hlen := hL.len (fun y hy => kg_mod (show y < 100 by omega))
  show Ex sc 81 0 [some (.ref 22), some (.int (zi m)), none] [] (mg σ J G, n, bc, bs) K
  refine xald_0 (q := 1) d_81_0 rfl ?_
  refine x_iconst (q := 2) (v := zi (0)) d_81_1 rfl rfl ?_
  refine yp_rowCount hn (q := 5) d_81_2 rfl fw_M_171 ?_
  refine xald_0 (q := 6) d_81_5 rfl ?_
  refine xald_0 (q := 7) d_81_6 rfl ?_
  refine yg_those hn (q := 10) d_81_7 rfl fl_M_61 ?_
  refine x_bipush (q := 12) (v := zi (100)) d_81_10 rfl (by decide) ?_
  refine x_iconst (q := 13) (v := zi (1)) d_81_12 rfl rfl ?_
  refine xcV3 (q := 16) d_81_13 rfl lk_M_109 mo_82 ⟨by decide +kernel, by decide +kernel⟩ (by simp [Value.category]) (by decide +kernel) (by simp [Value.category]) (by omega) rfl ?_
  refine t_outer (r := 12) hn (J := va_up J 26 0) hN hN2 (by unfold mBool; decide) (by decide) hF hL true rfl ?_
  dsimp only [ax_ps]
  refine xist_2 (q := 17) d_81_16 rfl ?_
  exact lt_nearest hn hN hN2 hF hm hlen k L.length 0 _ G (by omega) (Nat.zero_le _) (fun r hr => va_un _ _ _ hr) (fun _ _ _ => rfl) (va_us _ _ _) (fun j hj => absurd hj (Nat.not_lt_zero _)) hL
/-- the keys of the vectors, seen from HAND, at q parts of a hundred -/
def kfT (G : Nat → Nat → Int) (P M q x : Nat) : Nat := (farT G P M q 100 x).toNat * 100 + x
theorem kfT_mod {G : Nat → Nat → Int} {P M q x : Nat} (hx : x < 100) : kfT G P M q x % 100 = x := by unfold kfT; omega
theorem freeT_b (G : Nat → Nat → Int) (i : Nat) : freeT G i = 0 ∨ freeT G i = 1 := by unfold freeT; split <;> omega
theorem fab_hand {J : Nat → Int} {G G0 : Nat → Nat → Int} {P N M q : Nat} (hT : TW J G0 P N M) (hq : q ≤ 100) (h : ∀ x, x < N → G 6 (100 * 100 + x) = farT G0 P M q 100 x) : FAb G N 100 := fun x hx => by
  have := hT.2.2.2.2.1
  rw [h x hx]
  exact hT.far hq (by decide) (by omega)
theorem kg_hand {G G0 : Nat → Nat → Int} {P N M q : Nat} (h : ∀ x, x < N → G 6 (100 * 100 + x) = farT G0 P M q 100 x) : ∀ x, x < N → kg G 100 x = kfT G0 P M q x := fun x hx => by
  unfold kg kfT
  rw [h x hx]
set_option maxHeartbeats 2000000 in
theorem lt_findExact {sc : ax_S} {σ : Nat → ax_C} {J : Nat → Int} {G0 : Nat → Nat → Int} {n bc bs : Nat} {K : ax_K} (hn : 38 ≤ n) {P N M : Nat} (hT0 : TW J G0 P N M) {m : Nat} (kk : ∀ (G : Nat → Nat → Int) (t : Option Value), (∀ r, r ≠ 12 → G r = G0 r) → (∀ x, x < N → G 12 x = freeT G0 x) → Ex sc 76 27 [some (.ref 22), some (.int (zi m)), t] [] (mg σ J G, n, bc, bs) K) :
    ∀ (d j : Nat) (G : Nat → Nat → Int), j + d = N → (∀ r, r ≠ 12 → G r = G0 r) → (∀ x, x < j → G 12 x = freeT G0 x) → Ex sc 76 2 [some (.ref 22), some (.int (zi m)), some (.int (zi j))] [] (mg σ J G, n, bc, bs) K := by
  have hN := hT0.2.2.2.1
  have hN2 := hT0.2.2.2.2.1
  intro d
  induction d with
  | zero =>
    intro j G hj hG h
    have hj1 : j = N := by omega
    subst hj1
    refine xild_2 (q := 3) d_76_2 rfl ?_
    refine xald_0 (q := 4) d_76_3 rfl ?_
    refine yg_count hn (q := 7) d_76_4 rfl fl_M_76 ?_
    refine x_icmp_ge (q := 10) (t := 27) d_76_7 (by decide) rfl (fun c7 => ?_) (fun c7 => ?_)
    · rw [zi_le (by omega) (by omega) (by omega) (by omega)] at c7
      exact kk G _ hG h
    · rw [zi_le (by omega) (by omega) (by omega) (by omega)] at c7
      exact absurd c7 (by omega)
  | succ d ih =>
    intro j G hj hG h
    have hT : TW J G P N M := hT0.same rfl rfl rfl (hG 0 (by decide)) (hG 1 (by decide)) (hG 2 (by decide))
    have ef : freeT G j = freeT G0 j := by unfold freeT; rw [hG 1 (by decide), hG 2 (by decide)]
    refine xild_2 (q := 3) d_76_2 rfl ?_
    refine xald_0 (q := 4) d_76_3 rfl ?_
    refine yg_count hn (q := 7) d_76_4 rfl fl_M_76 ?_
    refine x_icmp_ge (q := 10) (t := 27) d_76_7 (by decide) rfl (fun c7 => ?_) (fun c7 => ?_)
    · rw [zi_le (by omega) (by omega) (by omega) (by omega)] at c7
      exact absurd c7 (by omega)
    · rw [zi_le (by omega) (by omega) (by omega) (by omega)] at c7
      refine xald_0 (q := 11) d_76_10 rfl ?_
      refine yg_those hn (q := 14) d_76_11 rfl fl_M_61 ?_
      refine xild_2 (q := 15) d_76_14 rfl ?_
      refine xald_0 (q := 16) d_76_15 rfl ?_
      refine xild_2 (q := 17) d_76_16 rfl ?_
      refine xcV1 (q := 20) d_76_17 rfl lk_M_174 mo_77 ⟨by decide +kernel, by decide +kernel⟩ (by simp [Value.category]) (by decide +kernel) (by simp [Value.category]) (by omega) rfl ?_
      refine t_isFree hn hT (i := j) (by omega) ?_
      dsimp only [ax_ps]
      rw [ef]
      refine ys_those (q := 21) hn (freeT_b _ _) d_76_20 rfl (by omega) (by omega) ?_
      refine xincz_2 (q := 24) d_76_21 rfl ?_
      refine x_goto (t := 2) d_76_24 (by decide) ?_
      rw [show (j : Int) + 1 = ((j + 1 : Nat) : Int) by omega, show ((j : Int)).toNat = j by omega]
      refine ih (j + 1) _ (by omega) (fun r hr => by rw [va_un _ _ _ hr]; exact hG r hr) (fun x hx => ?_)
      rw [va_us]
      by_cases e : x = j
      · rw [e, va_us]
      · rw [va_un _ _ _ e]; exact h x (by omega)
set_option maxHeartbeats 2000000 in
theorem t_findExact {sc : ax_S} {σ : Nat → ax_C} {J : Nat → Int} {G : Nat → Nat → Int} {n bc bs : Nat} {K : ax_K} (hn : 38 ≤ n) {P N M : Nat} (hT : TW J G P N M) {m : Nat} (hm : m ≤ 100) {L : List Nat} (hL : SB (freeT G) (kfT G P M 100) N L)
    (k : ∀ (J' : Nat → Int) (G' : Nat → Nat → Int), (∀ r, r ≠ 26 → J' r = J r) → (∀ r, r ≠ 6 → r ≠ 12 → r ≠ 13 → G' r = G r) → (∀ p, p < 10000 → G' 6 p = G 6 p) → RW J' G' (L.take m) → K none (mg σ J' G', n, bc, bs)) : Ex sc 76 0 (ax_en 76 [.ref 22, .int (zi m)]) [] (mg σ J G, n, bc, bs) K := by
  have hN := hT.2.2.2.1
  have hN2 := hT.2.2.2.2.1
  show Ex sc 76 0 [some (.ref 22), some (.int (zi m)), none] [] (mg σ J G, n, bc, bs) K
  refine x_iconst (q := 1) (v := zi (0)) d_76_0 rfl rfl ?_
  refine xist_2 (q := 2) d_76_1 rfl ?_
  refine lt_findExact hn hT ?_ N 0 G (by omega) (fun _ _ => rfl) (fun x hx => absurd hx (Nat.not_lt_zero _))
  intro G1 t hG1 h12
  have hT1 : TW J G1 P N M := hT.same rfl rfl rfl (hG1 0 (by decide)) (hG1 1 (by decide)) (hG1 2 (by decide))
  have ef : ∀ x, farT G1 P M 100 100 x = farT G P M 100 100 x := fun x => by unfold farT tv; rw [hG1 0 (by decide)]
  refine xald_0 (q := 28) d_76_27 rfl ?_
  refine x_bipush (q := 30) (v := zi (100)) d_76_28 rfl (by decide) ?_
  refine x_bipush (q := 32) (v := zi (100)) d_76_30 rfl (by decide) ?_
  refine xcV2 (q := 35) d_76_32 rfl lk_M_146 mo_78 ⟨by decide +kernel, by decide +kernel⟩ (by simp [Value.category]) (by decide +kernel) (by simp [Value.category]) (by omega) rfl ?_
  refine t_seeFrom (o := 100) (q := 100) hn hT1 (by decide) (by decide) ?_
  intro G2 a1 a2 a3
  dsimp only [ax_ps]
  have a1' : ∀ x, x < N → G2 6 (100 * 100 + x) = farT G P M 100 100 x := fun x hx => (a1 x hx).trans (ef x)
  refine xald_0 (q := 36) d_76_35 rfl ?_
  refine xild_1 (q := 37) d_76_36 rfl ?_
  refine xcV1 (q := 40) d_76_37 rfl lk_M_177 mo_81 ⟨by decide +kernel, by decide +kernel⟩ (by simp [Value.category]) (by decide +kernel) (by simp [Value.category]) (by omega) rfl ?_
  refine t_nearest (G := G2) hn hN hN2 (fab_hand hT (by decide) a1') hm (L := L) (hL.cg (fun x hx => (kg_hand a1' x hx).symm) (fun x hx => by rw [a3 12 (by decide), h12 x hx])) ?_
  intro J3 G3 j3 g3 r3
  dsimp only [ax_ps]
  refine x_vret d_76_40 rfl ?_
  refine k J3 G3 j3 (fun r a b c => (g3 r b c).trans ((a3 r a).trans (hG1 r b))) (fun p hp => ?_) r3
  rw [g3 6 (by decide) (by decide), a2 p (by omega), hG1 6 (by decide)]
set_option maxHeartbeats 2000000 in
theorem lt_tell {sc : ax_S} {σ : Nat → ax_C} {J : Nat → Int} {G0 : Nat → Nat → Int} {n bc bs : Nat} {K : ax_K} (hn : 38 ≤ n) {L : List Nat} (hl : L.length ≤ 100) (hR : RW J G0 L) (h11 : J 11 = L.length) (k : ∀ G', (∀ r, r ≠ 3 → G' r = G0 r) → (∀ j, j < L.length → G' 3 j = ((L.getD j 0 % 100 : Nat) : Int)) → K (some (.int (zi L.length))) (mg σ J G', n, bc, bs)) :
    ∀ (d j : Nat) (G : Nat → Nat → Int), j + d = L.length → (∀ r, r ≠ 3 → G r = G0 r) → (∀ x, x < j → G 3 x = ((L.getD x 0 % 100 : Nat) : Int)) → Ex sc 84 10 [some (.ref 22), some (.int (zi j))] [] (mg σ J G, n, bc, bs) K := by
  have h26 := hR.1
  intro d
  induction d with
  | zero =>
    intro j G hj hG h
    have hj1 : j = L.length := by omega
    refine xild_1 (q := 11) d_84_10 rfl ?_
    refine xald_0 (q := 12) d_84_11 rfl ?_
    refine yg_rowCount hn (q := 15) d_84_12 rfl fl_M_171 ?_
    refine x_icmp_ge (q := 18) (t := 36) d_84_15 (by decide) rfl (fun c15 => ?_) (fun c15 => ?_)
    · rw [h26, zi_le (by omega) (by omega) (by omega) (by omega)] at c15
      refine xald_0 (q := 37) d_84_36 rfl ?_
      refine yg_toldCount hn (q := 40) d_84_37 rfl fl_M_164 ?_
      refine x_iret d_84_40 rfl rfl ?_
      rw [h11]
      exact k G hG (by rw [← hj1]; exact h)
    · rw [h26, zi_le (by omega) (by omega) (by omega) (by omega)] at c15
      exact absurd c15 (by omega)
  | succ d ih =>
    intro j G hj hG h
    refine xild_1 (q := 11) d_84_10 rfl ?_
    refine xald_0 (q := 12) d_84_11 rfl ?_
    refine yg_rowCount hn (q := 15) d_84_12 rfl fl_M_171 ?_
    refine x_icmp_ge (q := 18) (t := 36) d_84_15 (by decide) rfl (fun c15 => ?_) (fun c15 => ?_)
    · rw [h26, zi_le (by omega) (by omega) (by omega) (by omega)] at c15
      exact absurd c15 (by omega)
    · rw [h26, zi_le (by omega) (by omega) (by omega) (by omega)] at c15
      refine xald_0 (q := 19) d_84_18 rfl ?_
      refine yg_told hn (q := 22) d_84_19 rfl fl_M_30 ?_
      refine xild_1 (q := 23) d_84_22 rfl ?_
      refine xald_0 (q := 24) d_84_23 rfl ?_
      refine yg_row hn (q := 27) d_84_24 rfl fl_M_64 ?_
      refine xild_1 (q := 28) d_84_27 rfl ?_
      refine yl_row (q := 29) hn d_84_28 rfl (by omega) (by omega) ?_
      rw [show ((j : Int)).toNat = j by omega, hG 13 (by decide), hR.2 j (by omega)]
      refine ys_told (q := 30) hn d_84_29 rfl (by omega) (by omega) ?_
      refine xincz_1 (q := 33) d_84_30 rfl ?_
      refine x_goto (t := 10) d_84_33 (by decide) ?_
      rw [show (j : Int) + 1 = ((j + 1 : Nat) : Int) by omega, show ((j : Int)).toNat = j by omega]
      refine ih (j + 1) _ (by omega) (fun r hr => by rw [va_un _ _ _ hr]; exact hG r hr) (fun x hx => ?_)
      rw [va_us]
      by_cases e : x = j
      · rw [e, va_us]
      · rw [va_un _ _ _ e]; exact h x (by omega)
set_option maxHeartbeats 2000000 in
theorem t_tell {sc : ax_S} {σ : Nat → ax_C} {J : Nat → Int} {G : Nat → Nat → Int} {n bc bs : Nat} {K : ax_K} (hn : 38 ≤ n) {L : List Nat} (hl : L.length ≤ 100) (hR : RW J G L) (k : ∀ (J' : Nat → Int) (G' : Nat → Nat → Int), (∀ r, r ≠ 11 → J' r = J r) → (∀ r, r ≠ 3 → G' r = G r) → J' 11 = L.length → (∀ j, j < L.length → G' 3 j = ((L.getD j 0 % 100 : Nat) : Int)) → K (some (.int (zi L.length))) (mg σ J' G', n, bc, bs)) : Ex sc 84 0 (ax_en 84 [.ref 22]) [] (mg σ J G, n, bc, bs) K := by
  have h26 := hR.1
  show Ex sc 84 0 [some (.ref 22), none] [] (mg σ J G, n, bc, bs) K
  refine xald_0 (q := 1) d_84_0 rfl ?_
  refine xald_0 (q := 2) d_84_1 rfl ?_
  refine yg_rowCount hn (q := 5) d_84_2 rfl fl_M_171 ?_
  refine yp_toldCount hn (q := 8) d_84_5 rfl fw_M_164 ?_
  refine x_iconst (q := 9) (v := zi (0)) d_84_8 rfl rfl ?_
  refine xist_1 (q := 10) d_84_9 rfl ?_
  have hu : va_up J 11 (J 26) 11 = L.length := by rw [va_us]; exact h26
  exact lt_tell (J := va_up J 11 (J 26)) hn hl ⟨h26, hR.2⟩ hu (fun G' a b => k _ G' (fun r hr => va_un _ _ _ hr) a hu b) L.length 0 G (by omega) (fun _ _ => rfl) (fun x hx => absurd hx (Nat.not_lt_zero _))
