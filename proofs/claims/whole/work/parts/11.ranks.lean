/-! Ranks: its methods -/
def RK (r : Nat) (I : Nat → Int) (F : Nat → Nat → Int) (L : List Nat) : Prop := I (10 + r) = L.length ∧ L.length ≤ rkC r ∧ (∀ j, j < L.length → F (10 + r) j = (L.getD j 0 : Nat)) ∧ ∀ x ∈ L, x < 40000000
def rkNum (L : List Nat) (i : Int) : Int := if 0 ≤ i ∧ i < L.length then ((L.getD i.toNat 0 % 100 : Nat) : Int) else -1
def rkFar (L : List Nat) (i : Int) : Int := if 0 ≤ i ∧ i < L.length then ((L.getD i.toNat 0 / 100 : Nat) : Int) else -1
theorem RK.get {r : Nat} {I : Nat → Int} {F : Nat → Nat → Int} {L : List Nat} (h : RK r I F L) {i : Int} (h1 : 0 ≤ i) (h2 : i < L.length) : F (10 + r) i.toNat = (L.getD i.toNat 0 : Nat) ∧ L.getD i.toNat 0 < 40000000 := by
  have hi : i.toNat < L.length := by omega
  exact ⟨h.2.2.1 _ hi, h.2.2.2 _ (gd_mem hi)⟩

theorem c_empty {sc : ax_S} {σ : Nat → ax_C} {I : Nat → Int} {F : Nat → Nat → Int} {n bc bs : Nat} {K : ax_K} (hn : 22 ≤ n) {r : Nat} (hr : r < 6) (k : K none (vg σ (va_up I (10 + r) 0) F, n, bc, bs)) : Ex sc 14 0 (ax_en 14 [.ref (rkO r)]) [] (vg σ I F, n, bc, bs) K := by
  show Ex sc 14 0 [some (.ref (rkO r))] [] (vg σ I F, n, bc, bs) K
  refine xald_0 (q := 1) d_14_0 rfl ?_
  refine x_iconst (q := 2) (v := zi (0)) d_14_1 rfl rfl ?_
  refine xp_R_size hr hn (q := 5) d_14_2 rfl fw_R_21 ?_
  refine x_vret d_14_5 rfl ?_
  exact k
set_option maxHeartbeats 1000000 in
theorem c_numberAt {sc : ax_S} {σ : Nat → ax_C} {I : Nat → Int} {F : Nat → Nat → Int} {n bc bs : Nat} {K : ax_K} (hn : 22 ≤ n) {r : Nat} (hr : r < 6) {L : List Nat} (hL : RK r I F L) {i : Int} (hi : -2147483648 ≤ i ∧ i ≤ 2147483647) (k : K (some (.int (zi (rkNum L i)))) (vg σ I F, n, bc, bs)) : Ex sc 20 0 (ax_en 20 [.ref (rkO r), .int (zi i)]) [] (vg σ I F, n, bc, bs) K := by
  show Ex sc 20 0 [some (.ref (rkO r)), some (.int (zi i))] [] (vg σ I F, n, bc, bs) K
  have hI := hL.1
  have hC := hL.2.1
  have hC2 := rkC_le r
  refine xild_1 (q := 1) d_20_0 rfl ?_
  refine x_if_lt (q := 4) (t := 24) d_20_1 (by decide) rfl (fun c1 => ?_) (fun c1 => ?_)
  · rw [zi_lt0 (by omega) (by omega)] at c1
    refine x_iconst (q := 25) (v := zi (-1)) d_20_24 rfl rfl ?_
    refine x_iret d_20_25 rfl rfl ?_
    first
      | (have e1 : rkNum L i = -1 := by unfold rkNum; rw [if_neg]; omega
         rw [e1] at k; exact k)
      | (have e1 : rkNum L i = ((L.getD i.toNat 0 % 100 : Nat) : Int) := by unfold rkNum; rw [if_pos]; omega
         rw [e1] at k
         have e2 : ((L.getD i.toNat 0 : Nat) : Int).tmod 100 = ((L.getD i.toNat 0 % 100 : Nat) : Int) := rfl
         rw [e2]; exact k)
  · rw [zi_lt0 (by omega) (by omega)] at c1
    refine xild_1 (q := 5) d_20_4 rfl ?_
    refine xald_0 (q := 6) d_20_5 rfl ?_
    refine xg_R_size hr hn (q := 9) d_20_6 rfl fl_R_21 ?_
    refine x_icmp_ge (q := 12) (t := 24) d_20_9 (by decide) rfl (fun c9 => ?_) (fun c9 => ?_)
    · rw [zi_le (by omega) (by omega) (by omega) (by omega)] at c9
      refine x_iconst (q := 25) (v := zi (-1)) d_20_24 rfl rfl ?_
      refine x_iret d_20_25 rfl rfl ?_
      first
        | (have e1 : rkNum L i = -1 := by unfold rkNum; rw [if_neg]; omega
           rw [e1] at k; exact k)
        | (have e1 : rkNum L i = ((L.getD i.toNat 0 % 100 : Nat) : Int) := by unfold rkNum; rw [if_pos]; omega
           rw [e1] at k
           have e2 : ((L.getD i.toNat 0 : Nat) : Int).tmod 100 = ((L.getD i.toNat 0 % 100 : Nat) : Int) := rfl
           rw [e2]; exact k)
    · rw [zi_le (by omega) (by omega) (by omega) (by omega)] at c9
      refine xald_0 (q := 13) d_20_12 rfl ?_
      refine xg_R_keys hr hn (q := 16) d_20_13 rfl fl_R_15 ?_
      refine xild_1 (q := 17) d_20_16 rfl ?_
      refine xl_R hr (q := 18) hn d_20_17 rfl (by omega) (by omega) ?_
      have hg := hL.get (i := i) (by omega) (by omega)
      rw [hg.1]
      refine x_bipush (q := 20) (v := zi (100)) d_20_18 rfl (by decide) ?_
      refine z_irem (q := 21) d_20_20 rfl (by omega) (by omega) (by omega) (by omega) ?_
      refine x_goto (t := 25) d_20_21 (by decide) ?_
      refine x_iret d_20_25 rfl rfl ?_
      first
        | (have e1 : rkNum L i = -1 := by unfold rkNum; rw [if_neg]; omega
           rw [e1] at k; exact k)
        | (have e1 : rkNum L i = ((L.getD i.toNat 0 % 100 : Nat) : Int) := by unfold rkNum; rw [if_pos]; omega
           rw [e1] at k
           have e2 : ((L.getD i.toNat 0 : Nat) : Int).tmod 100 = ((L.getD i.toNat 0 % 100 : Nat) : Int) := rfl
           rw [e2]; exact k)
set_option maxHeartbeats 1000000 in
theorem c_farAt {sc : ax_S} {σ : Nat → ax_C} {I : Nat → Int} {F : Nat → Nat → Int} {n bc bs : Nat} {K : ax_K} (hn : 22 ≤ n) {r : Nat} (hr : r < 6) {L : List Nat} (hL : RK r I F L) {i : Int} (hi : -2147483648 ≤ i ∧ i ≤ 2147483647) (k : K (some (.int (zi (rkFar L i)))) (vg σ I F, n, bc, bs)) : Ex sc 21 0 (ax_en 21 [.ref (rkO r), .int (zi i)]) [] (vg σ I F, n, bc, bs) K := by
  show Ex sc 21 0 [some (.ref (rkO r)), some (.int (zi i))] [] (vg σ I F, n, bc, bs) K
  have hI := hL.1
  have hC := hL.2.1
  have hC2 := rkC_le r
  refine xild_1 (q := 1) d_21_0 rfl ?_
  refine x_if_lt (q := 4) (t := 24) d_21_1 (by decide) rfl (fun c1 => ?_) (fun c1 => ?_)
  · rw [zi_lt0 (by omega) (by omega)] at c1
    refine x_iconst (q := 25) (v := zi (-1)) d_21_24 rfl rfl ?_
    refine x_iret d_21_25 rfl rfl ?_
    first
      | (have e1 : rkFar L i = -1 := by unfold rkFar; rw [if_neg]; omega
         rw [e1] at k; exact k)
      | (have e1 : rkFar L i = ((L.getD i.toNat 0 / 100 : Nat) : Int) := by unfold rkFar; rw [if_pos]; omega
         rw [e1] at k
         have e2 : ((L.getD i.toNat 0 : Nat) : Int).tdiv 100 = ((L.getD i.toNat 0 / 100 : Nat) : Int) := rfl
         rw [e2]; exact k)
  · rw [zi_lt0 (by omega) (by omega)] at c1
    refine xild_1 (q := 5) d_21_4 rfl ?_
    refine xald_0 (q := 6) d_21_5 rfl ?_
    refine xg_R_size hr hn (q := 9) d_21_6 rfl fl_R_21 ?_
    refine x_icmp_ge (q := 12) (t := 24) d_21_9 (by decide) rfl (fun c9 => ?_) (fun c9 => ?_)
    · rw [zi_le (by omega) (by omega) (by omega) (by omega)] at c9
      refine x_iconst (q := 25) (v := zi (-1)) d_21_24 rfl rfl ?_
      refine x_iret d_21_25 rfl rfl ?_
      first
        | (have e1 : rkFar L i = -1 := by unfold rkFar; rw [if_neg]; omega
           rw [e1] at k; exact k)
        | (have e1 : rkFar L i = ((L.getD i.toNat 0 / 100 : Nat) : Int) := by unfold rkFar; rw [if_pos]; omega
           rw [e1] at k
           have e2 : ((L.getD i.toNat 0 : Nat) : Int).tdiv 100 = ((L.getD i.toNat 0 / 100 : Nat) : Int) := rfl
           rw [e2]; exact k)
    · rw [zi_le (by omega) (by omega) (by omega) (by omega)] at c9
      refine xald_0 (q := 13) d_21_12 rfl ?_
      refine xg_R_keys hr hn (q := 16) d_21_13 rfl fl_R_15 ?_
      refine xild_1 (q := 17) d_21_16 rfl ?_
      refine xl_R hr (q := 18) hn d_21_17 rfl (by omega) (by omega) ?_
      have hg := hL.get (i := i) (by omega) (by omega)
      rw [hg.1]
      refine x_bipush (q := 20) (v := zi (100)) d_21_18 rfl (by decide) ?_
      refine z_idiv (q := 21) d_21_20 rfl (by omega) (by omega) (by omega) (by omega) ?_
      refine x_goto (t := 25) d_21_21 (by decide) ?_
      refine x_iret d_21_25 rfl rfl ?_
      first
        | (have e1 : rkFar L i = -1 := by unfold rkFar; rw [if_neg]; omega
           rw [e1] at k; exact k)
        | (have e1 : rkFar L i = ((L.getD i.toNat 0 / 100 : Nat) : Int) := by unfold rkFar; rw [if_pos]; omega
           rw [e1] at k
           have e2 : ((L.getD i.toNat 0 : Nat) : Int).tdiv 100 = ((L.getD i.toNat 0 / 100 : Nat) : Int) := rfl
           rw [e2]; exact k)
