/-! Ranks: its methods -/
def RK (r : Nat) (I : Nat → Int) (F : Nat → Nat → Int) (L : List Nat) : Prop := I (10 + r) = L.length ∧ L.length ≤ rkC r ∧ (∀ j, j < L.length → F (10 + r) j = (L.getD j 0 : Nat)) ∧ ∀ x ∈ L, x < 40000000
def rkNum (L : List Nat) (i : Int) : Int := if 0 ≤ i ∧ i < L.length then ((L.getD i.toNat 0 % 100 : Nat) : Int) else -1
def rkFar (L : List Nat) (i : Int) : Int := if 0 ≤ i ∧ i < L.length then ((L.getD i.toNat 0 / 100 : Nat) : Int) else -1
def rkLB (L : List Nat) (key : Nat) : Int := if 0 < L.length ∧ L.getD (L.length - 1) 0 < key then 1 else 0
def rkHas (L : List Nat) (x : Nat) : Int := if ∃ y ∈ L, y % 100 = x then 1 else 0
theorem RK.get {r : Nat} {I : Nat → Int} {F : Nat → Nat → Int} {L : List Nat} (h : RK r I F L) {i : Int} (h1 : 0 ≤ i) (h2 : i < L.length) : F (10 + r) i.toNat = (L.getD i.toNat 0 : Nat) ∧ L.getD i.toNat 0 < 40000000 := by
  have hi : i.toNat < L.length := by omega
  exact ⟨h.2.2.1 _ hi, h.2.2.2 _ (gd_mem hi)⟩
/-- off register 10 + r nothing has changed -/
def OffI (r : Nat) (I I' : Nat → Int) : Prop := ∀ j, j ≠ 10 + r → I' j = I j
def OffF (r : Nat) (F F' : Nat → Nat → Int) : Prop := ∀ j, j ≠ 10 + r → F' j = F j
theorem OffI.up {r : Nat} {I : Nat → Int} {e : Int} : OffI r I (va_up I (10 + r) e) := fun _ h => va_un _ _ _ h
theorem OffF.up {r : Nat} {F : Nat → Nat → Int} {f : Nat → Int} : OffF r F (va_up F (10 + r) f) := fun _ h => va_un _ _ _ h
theorem OffF.rf {r : Nat} {F : Nat → Nat → Int} : OffF r F F := fun _ _ => rfl
theorem OffI.rf {r : Nat} {I : Nat → Int} : OffI r I I := fun _ _ => rfl
theorem RK.off {r r' : Nat} {I I' : Nat → Int} {F F' : Nat → Nat → Int} {L : List Nat} (h : RK r I F L) (hI : OffI r' I I') (hF : OffF r' F F') (hr : r ≠ r') : RK r I' F' L := by
  refine ⟨by rw [hI _ (by omega)]; exact h.1, h.2.1, fun j hj => by rw [hF _ (by omega)]; exact h.2.2.1 j hj, h.2.2.2⟩

theorem c_empty {sc : ax_S} {σ : Nat → ax_C} {I : Nat → Int} {F : Nat → Nat → Int} {n bc bs : Nat} {K : ax_K} (hn : 22 ≤ n) {r : Nat} (hr : r < 6) (k : ∀ I', RK r I' F [] → OffI r I I' → K none (vg σ I' F, n, bc, bs)) : Ex sc 14 0 (ax_en 14 [.ref (rkO r)]) [] (vg σ I F, n, bc, bs) K := by
  have k := k _ ⟨va_us I (10 + r) 0, Nat.zero_le _, fun j hj => absurd hj (Nat.not_lt_zero _), fun x hx => by cases hx⟩ OffI.up
  show Ex sc 14 0 [some (.ref (rkO r))] [] (vg σ I F, n, bc, bs) K
  refine xald_0 (q := 1) d_14_0 rfl ?_
  refine x_iconst (q := 2) (v := zi (0)) d_14_1 rfl rfl ?_
  refine xp_R_size hr hn (q := 5) d_14_2 rfl fw_R_21 ?_
  refine x_vret d_14_5 rfl ?_
  exact k
set_option maxHeartbeats 1000000 in
theorem c_numberAt {sc : ax_S} {σ : Nat → ax_C} {I : Nat → Int} {F : Nat → Nat → Int} {n bc bs : Nat} {K : ax_K} (hn : 22 ≤ n) {r : Nat} (hr : r < 6) {L : List Nat} (hL : RK r I F L) {i : Int} (hi : -2147483648 ≤ i ∧ i ≤ 2147483647) (k : K (some (.int (zi (rkNum L i)))) (vg σ I F, n, bc, bs)) : Ex sc 21 0 (ax_en 21 [.ref (rkO r), .int (zi i)]) [] (vg σ I F, n, bc, bs) K := by
  show Ex sc 21 0 [some (.ref (rkO r)), some (.int (zi i))] [] (vg σ I F, n, bc, bs) K
  have hI := hL.1
  have hC := hL.2.1
  have hC2 := rkC_le r
  refine xild_1 (q := 1) d_21_0 rfl ?_
  refine x_if_lt (q := 4) (t := 24) d_21_1 (by decide) rfl (fun c1 => ?_) (fun c1 => ?_)
  · rw [zi_lt0 (by omega) (by omega)] at c1
    refine x_iconst (q := 25) (v := zi (-1)) d_21_24 rfl rfl ?_
    refine x_iret d_21_25 rfl rfl ?_
    first
      | (have e1 : rkNum L i = -1 := by unfold rkNum; rw [if_neg]; omega
         rw [e1] at k; exact k)
      | (have e1 : rkNum L i = ((L.getD i.toNat 0 % 100 : Nat) : Int) := by unfold rkNum; rw [if_pos]; omega
         rw [e1] at k
         have e2 : ((L.getD i.toNat 0 : Nat) : Int).tmod 100 = ((L.getD i.toNat 0 % 100 : Nat) : Int) := rfl
         rw [e2]; exact k)
  · rw [zi_lt0 (by omega) (by omega)] at c1
    refine xild_1 (q := 5) d_21_4 rfl ?_
    refine xald_0 (q := 6) d_21_5 rfl ?_
    refine xg_R_size hr hn (q := 9) d_21_6 rfl fl_R_21 ?_
    refine x_icmp_ge (q := 12) (t := 24) d_21_9 (by decide) rfl (fun c9 => ?_) (fun c9 => ?_)
    · rw [zi_le (by omega) (by omega) (by omega) (by omega)] at c9
      refine x_iconst (q := 25) (v := zi (-1)) d_21_24 rfl rfl ?_
      refine x_iret d_21_25 rfl rfl ?_
      first
        | (have e1 : rkNum L i = -1 := by unfold rkNum; rw [if_neg]; omega
           rw [e1] at k; exact k)
        | (have e1 : rkNum L i = ((L.getD i.toNat 0 % 100 : Nat) : Int) := by unfold rkNum; rw [if_pos]; omega
           rw [e1] at k
           have e2 : ((L.getD i.toNat 0 : Nat) : Int).tmod 100 = ((L.getD i.toNat 0 % 100 : Nat) : Int) := rfl
           rw [e2]; exact k)
    · rw [zi_le (by omega) (by omega) (by omega) (by omega)] at c9
      refine xald_0 (q := 13) d_21_12 rfl ?_
      refine xg_R_keys hr hn (q := 16) d_21_13 rfl fl_R_15 ?_
      refine xild_1 (q := 17) d_21_16 rfl ?_
      refine xl_R hr (q := 18) hn d_21_17 rfl (by omega) (by omega) ?_
      have hg := hL.get (i := i) (by omega) (by omega)
      rw [hg.1]
      refine x_bipush (q := 20) (v := zi (100)) d_21_18 rfl (by decide) ?_
      refine z_irem (q := 21) d_21_20 rfl (by omega) (by omega) (by omega) (by omega) ?_
      refine x_goto (t := 25) d_21_21 (by decide) ?_
      refine x_iret d_21_25 rfl rfl ?_
      first
        | (have e1 : rkNum L i = -1 := by unfold rkNum; rw [if_neg]; omega
           rw [e1] at k; exact k)
        | (have e1 : rkNum L i = ((L.getD i.toNat 0 % 100 : Nat) : Int) := by unfold rkNum; rw [if_pos]; omega
           rw [e1] at k
           have e2 : ((L.getD i.toNat 0 : Nat) : Int).tmod 100 = ((L.getD i.toNat 0 % 100 : Nat) : Int) := rfl
           rw [e2]; exact k)
set_option maxHeartbeats 1000000 in
theorem c_farAt {sc : ax_S} {σ : Nat → ax_C} {I : Nat → Int} {F : Nat → Nat → Int} {n bc bs : Nat} {K : ax_K} (hn : 22 ≤ n) {r : Nat} (hr : r < 6) {L : List Nat} (hL : RK r I F L) {i : Int} (hi : -2147483648 ≤ i ∧ i ≤ 2147483647) (k : K (some (.int (zi (rkFar L i)))) (vg σ I F, n, bc, bs)) : Ex sc 22 0 (ax_en 22 [.ref (rkO r), .int (zi i)]) [] (vg σ I F, n, bc, bs) K := by
  show Ex sc 22 0 [some (.ref (rkO r)), some (.int (zi i))] [] (vg σ I F, n, bc, bs) K
  have hI := hL.1
  have hC := hL.2.1
  have hC2 := rkC_le r
  refine xild_1 (q := 1) d_22_0 rfl ?_
  refine x_if_lt (q := 4) (t := 24) d_22_1 (by decide) rfl (fun c1 => ?_) (fun c1 => ?_)
  · rw [zi_lt0 (by omega) (by omega)] at c1
    refine x_iconst (q := 25) (v := zi (-1)) d_22_24 rfl rfl ?_
    refine x_iret d_22_25 rfl rfl ?_
    first
      | (have e1 : rkFar L i = -1 := by unfold rkFar; rw [if_neg]; omega
         rw [e1] at k; exact k)
      | (have e1 : rkFar L i = ((L.getD i.toNat 0 / 100 : Nat) : Int) := by unfold rkFar; rw [if_pos]; omega
         rw [e1] at k
         have e2 : ((L.getD i.toNat 0 : Nat) : Int).tdiv 100 = ((L.getD i.toNat 0 / 100 : Nat) : Int) := rfl
         rw [e2]; exact k)
  · rw [zi_lt0 (by omega) (by omega)] at c1
    refine xild_1 (q := 5) d_22_4 rfl ?_
    refine xald_0 (q := 6) d_22_5 rfl ?_
    refine xg_R_size hr hn (q := 9) d_22_6 rfl fl_R_21 ?_
    refine x_icmp_ge (q := 12) (t := 24) d_22_9 (by decide) rfl (fun c9 => ?_) (fun c9 => ?_)
    · rw [zi_le (by omega) (by omega) (by omega) (by omega)] at c9
      refine x_iconst (q := 25) (v := zi (-1)) d_22_24 rfl rfl ?_
      refine x_iret d_22_25 rfl rfl ?_
      first
        | (have e1 : rkFar L i = -1 := by unfold rkFar; rw [if_neg]; omega
           rw [e1] at k; exact k)
        | (have e1 : rkFar L i = ((L.getD i.toNat 0 / 100 : Nat) : Int) := by unfold rkFar; rw [if_pos]; omega
           rw [e1] at k
           have e2 : ((L.getD i.toNat 0 : Nat) : Int).tdiv 100 = ((L.getD i.toNat 0 / 100 : Nat) : Int) := rfl
           rw [e2]; exact k)
    · rw [zi_le (by omega) (by omega) (by omega) (by omega)] at c9
      refine xald_0 (q := 13) d_22_12 rfl ?_
      refine xg_R_keys hr hn (q := 16) d_22_13 rfl fl_R_15 ?_
      refine xild_1 (q := 17) d_22_16 rfl ?_
      refine xl_R hr (q := 18) hn d_22_17 rfl (by omega) (by omega) ?_
      have hg := hL.get (i := i) (by omega) (by omega)
      rw [hg.1]
      refine x_bipush (q := 20) (v := zi (100)) d_22_18 rfl (by decide) ?_
      refine z_idiv (q := 21) d_22_20 rfl (by omega) (by omega) (by omega) (by omega) ?_
      refine x_goto (t := 25) d_22_21 (by decide) ?_
      refine x_iret d_22_25 rfl rfl ?_
      first
        | (have e1 : rkFar L i = -1 := by unfold rkFar; rw [if_neg]; omega
           rw [e1] at k; exact k)
        | (have e1 : rkFar L i = ((L.getD i.toNat 0 / 100 : Nat) : Int) := by unfold rkFar; rw [if_pos]; omega
           rw [e1] at k
           have e2 : ((L.getD i.toNat 0 : Nat) : Int).tdiv 100 = ((L.getD i.toNat 0 / 100 : Nat) : Int) := rfl
           rw [e2]; exact k)
set_option maxHeartbeats 1000000 in
theorem c_lastIsBefore {sc : ax_S} {σ : Nat → ax_C} {I : Nat → Int} {F : Nat → Nat → Int} {n bc bs : Nat} {K : ax_K} (hn : 22 ≤ n) {r : Nat} (hr : r < 6) {L : List Nat} (hL : RK r I F L) {num far : Nat} (hk : far * 100 + num < 40000000) (k : K (some (.int (zi (rkLB L (far * 100 + num))))) (vg σ I F, n, bc, bs)) : Ex sc 18 0 (ax_en 18 [.ref (rkO r), .int (zi num), .int (zi far)]) [] (vg σ I F, n, bc, bs) K := by
  show Ex sc 18 0 [some (.ref (rkO r)), some (.int (zi num)), some (.int (zi far))] [] (vg σ I F, n, bc, bs) K
  have hI := hL.1
  have hC := hL.2.1
  have hC2 := rkC_le r
  refine xald_0 (q := 1) d_18_0 rfl ?_
  refine xg_R_size hr hn (q := 4) d_18_1 rfl fl_R_21 ?_
  refine x_if_le (q := 7) (t := 31) d_18_4 (by decide) rfl (fun c4 => ?_) (fun c4 => ?_)
  · rw [zi_le0 (by omega) (by omega)] at c4
    refine x_iconst (q := 32) (v := zi (0)) d_18_31 rfl rfl ?_
    refine x_iret d_18_32 rfl rfl ?_
    first
      | (have e1 : rkLB L (far * 100 + num) = 0 := by unfold rkLB; rw [if_neg]; omega
         rw [e1] at k; exact k)
      | (have e1 : rkLB L (far * 100 + num) = 1 := by unfold rkLB; rw [if_pos]; omega
         rw [e1] at k; exact k)
  · rw [zi_le0 (by omega) (by omega)] at c4
    refine xald_0 (q := 8) d_18_7 rfl ?_
    refine xg_R_keys hr hn (q := 11) d_18_8 rfl fl_R_15 ?_
    refine xald_0 (q := 12) d_18_11 rfl ?_
    refine xg_R_size hr hn (q := 15) d_18_12 rfl fl_R_21 ?_
    refine x_iconst (q := 16) (v := zi (1)) d_18_15 rfl rfl ?_
    refine z_isub (q := 17) d_18_16 rfl ?_
    refine xl_R hr (q := 18) hn d_18_17 rfl (by omega) (by omega) ?_
    have hg := hL.get (i := I (10 + r) - 1) (by omega) (by omega)
    rw [hg.1]
    have et : (I (10 + r) - 1).toNat = L.length - 1 := by omega
    rw [et] at hg ⊢
    refine xild_2 (q := 19) d_18_18 rfl ?_
    refine x_bipush (q := 21) (v := zi (100)) d_18_19 rfl (by decide) ?_
    refine z_imul (q := 22) d_18_21 rfl ?_
    refine xild_1 (q := 23) d_18_22 rfl ?_
    refine z_iadd (q := 24) d_18_23 rfl ?_
    refine x_icmp_ge (q := 27) (t := 31) d_18_24 (by decide) rfl (fun c24 => ?_) (fun c24 => ?_)
    · rw [zi_le (by omega) (by omega) (by omega) (by omega)] at c24
      refine x_iconst (q := 32) (v := zi (0)) d_18_31 rfl rfl ?_
      refine x_iret d_18_32 rfl rfl ?_
      first
        | (have e1 : rkLB L (far * 100 + num) = 0 := by unfold rkLB; rw [if_neg]; omega
           rw [e1] at k; exact k)
        | (have e1 : rkLB L (far * 100 + num) = 1 := by unfold rkLB; rw [if_pos]; omega
           rw [e1] at k; exact k)
    · rw [zi_le (by omega) (by omega) (by omega) (by omega)] at c24
      refine x_iconst (q := 28) (v := zi (1)) d_18_27 rfl rfl ?_
      refine x_goto (t := 32) d_18_28 (by decide) ?_
      refine x_iret d_18_32 rfl rfl ?_
      first
        | (have e1 : rkLB L (far * 100 + num) = 0 := by unfold rkLB; rw [if_neg]; omega
           rw [e1] at k; exact k)
        | (have e1 : rkLB L (far * 100 + num) = 1 := by unfold rkLB; rw [if_pos]; omega
           rw [e1] at k; exact k)
set_option maxHeartbeats 1000000 in
theorem lq_holds {sc : ax_S} {σ : Nat → ax_C} {I : Nat → Int} {F : Nat → Nat → Int} {n bc bs : Nat} {K : ax_K} (hn : 22 ≤ n) {r : Nat} (hr : r < 6) {L : List Nat} (hL : RK r I F L) {x : Nat} (hx : x < 100) (k : K (some (.int (zi (rkHas L x)))) (vg σ I F, n, bc, bs)) : ∀ (d j : Nat), j + d = L.length → (∀ i, i < j → ¬ L.getD i 0 % 100 = x) → Ex sc 49 2 [some (.ref (rkO r)), some (.int (zi x)), some (.int (zi j))] [] (vg σ I F, n, bc, bs) K := by
  have hI := hL.1
  have hC := hL.2.1
  have hC2 := rkC_le r
  intro d
  induction d with
  | zero =>
    intro j hj hno
    have e1 : rkHas L x = 0 := by
      unfold rkHas
      rw [if_neg]
      rintro ⟨y, hy, hyx⟩
      obtain ⟨i, hi, rfl⟩ := List.getElem_of_mem hy
      have := hno i (by omega)
      rw [List.getD_eq_getElem?_getD, List.getElem?_eq_getElem hi] at this
      exact this hyx
    rw [e1] at k
    refine xild_2 (q := 3) d_49_2 rfl ?_
    refine xald_0 (q := 4) d_49_3 rfl ?_
    refine xg_R_size hr hn (q := 7) d_49_4 rfl fl_R_21 ?_
    refine x_icmp_ge (q := 10) (t := 31) d_49_7 (by decide) rfl (fun c7 => ?_) (fun c7 => ?_)
    · rw [zi_le (by omega) (by omega) (by omega) (by omega)] at c7
      refine x_iconst (q := 32) (v := zi (0)) d_49_31 rfl rfl ?_
      refine x_iret d_49_32 rfl rfl ?_
      exact k
    · rw [zi_le (by omega) (by omega) (by omega) (by omega)] at c7
      exact absurd c7 (by omega)
  | succ d ih =>
    intro j hj hno
    refine xild_2 (q := 3) d_49_2 rfl ?_
    refine xald_0 (q := 4) d_49_3 rfl ?_
    refine xg_R_size hr hn (q := 7) d_49_4 rfl fl_R_21 ?_
    refine x_icmp_ge (q := 10) (t := 31) d_49_7 (by decide) rfl (fun c7 => ?_) (fun c7 => ?_)
    · rw [zi_le (by omega) (by omega) (by omega) (by omega)] at c7
      exact absurd c7 (by omega)
    · rw [zi_le (by omega) (by omega) (by omega) (by omega)] at c7
      refine xald_0 (q := 11) d_49_10 rfl ?_
      refine xg_R_keys hr hn (q := 14) d_49_11 rfl fl_R_15 ?_
      refine xild_2 (q := 15) d_49_14 rfl ?_
      refine xl_R hr (q := 16) hn d_49_15 rfl (by omega) (by omega) ?_
      have hg := hL.get (i := (j : Int)) (by omega) (by omega)
      rw [hg.1]
      have et : ((j : Int)).toNat = j := by omega
      rw [et] at hg ⊢
      refine x_bipush (q := 18) (v := zi (100)) d_49_16 rfl (by decide) ?_
      refine z_irem (q := 19) d_49_18 rfl (by omega) (by omega) (by omega) (by omega) ?_
      have e2 : ((L.getD j 0 : Nat) : Int).tmod 100 = ((L.getD j 0 % 100 : Nat) : Int) := rfl
      rw [e2]
      refine xild_1 (q := 20) d_49_19 rfl ?_
      refine x_icmp_ne (q := 23) (t := 25) d_49_20 (by decide) rfl (fun c20 => ?_) (fun c20 => ?_)
      · rw [zi_eq (by omega) (by omega) (by omega) (by omega)] at c20
        refine xincz_2 (q := 28) d_49_25 rfl ?_
        refine x_goto (t := 2) d_49_28 (by decide) ?_
        exact ih (j + 1) (by omega) (fun i hi => by rcases Nat.lt_or_ge i j with h | h; exact hno i h; rw [show i = j by omega]; omega)
      · rw [zi_eq (by omega) (by omega) (by omega) (by omega)] at c20
        have e1 : rkHas L x = 1 := by
          unfold rkHas
          rw [if_pos]
          exact ⟨L.getD j 0, gd_mem (by omega), by omega⟩
        rw [e1] at k
        refine x_iconst (q := 24) (v := zi (1)) d_49_23 rfl rfl ?_
        refine x_iret d_49_24 rfl rfl ?_
        exact k
set_option maxHeartbeats 1000000 in
theorem c_holds {sc : ax_S} {σ : Nat → ax_C} {I : Nat → Int} {F : Nat → Nat → Int} {n bc bs : Nat} {K : ax_K} (hn : 22 ≤ n) {r : Nat} (hr : r < 6) {L : List Nat} (hL : RK r I F L) {x : Nat} (hx : x < 100) (k : K (some (.int (zi (rkHas L x)))) (vg σ I F, n, bc, bs)) : Ex sc 49 0 (ax_en 49 [.ref (rkO r), .int (zi x)]) [] (vg σ I F, n, bc, bs) K := by
  show Ex sc 49 0 [some (.ref (rkO r)), some (.int (zi x)), none] [] (vg σ I F, n, bc, bs) K
  refine x_iconst (q := 1) (v := zi (0)) d_49_0 rfl rfl ?_
  refine xist_2 (q := 2) d_49_1 rfl ?_
  exact lq_holds hn hr hL hx k L.length 0 (by omega) (fun i hi => absurd hi (Nat.not_lt_zero _))
set_option maxHeartbeats 1000000 in
theorem c_cutTo {sc : ax_S} {σ : Nat → ax_C} {I : Nat → Int} {F : Nat → Nat → Int} {n bc bs : Nat} {K : ax_K} (hn : 22 ≤ n) {r : Nat} (hr : r < 6) {L : List Nat} (hL : RK r I F L) {m : Nat} (hm : m ≤ 2147483647) (k : ∀ I', RK r I' F (L.take m) → OffI r I I' → K none (vg σ I' F, n, bc, bs)) : Ex sc 20 0 (ax_en 20 [.ref (rkO r), .int (zi m)]) [] (vg σ I F, n, bc, bs) K := by
  have hI := hL.1
  have hC := hL.2.1
  have hC2 := rkC_le r
  have hlt : (L.take m).length = if m < L.length then m else L.length := by rw [List.length_take]; split <;> omega
  have k := k (va_up I (10 + r) (if 0 < (if (m : Int) < I (10 + r) then (m : Int) else I (10 + r)) then (if (m : Int) < I (10 + r) then (m : Int) else I (10 + r)) else 0)) ⟨by rw [va_us, hlt, hI]; (repeat' split) <;> omega, by rw [hlt]; split <;> omega, fun j hj => by
    have hj1 : j < L.length := by rw [hlt] at hj; split at hj <;> omega
    have hj2 : j < m := by rw [hlt] at hj; split at hj <;> omega
    rw [hL.2.2.1 j hj1, List.getD_eq_getElem?_getD, List.getD_eq_getElem?_getD, List.getElem?_take_of_lt hj2], fun x hx => hL.2.2.2 x (List.mem_of_mem_take hx)⟩ OffI.up
  show Ex sc 20 0 [some (.ref (rkO r)), some (.int (zi m))] [] (vg σ I F, n, bc, bs) K
  refine xald_0 (q := 1) d_20_0 rfl ?_
  refine x_iconst (q := 2) (v := zi (0)) d_20_1 rfl rfl ?_
  refine xald_0 (q := 3) d_20_2 rfl ?_
  refine xg_R_size hr hn (q := 6) d_20_3 rfl fl_R_21 ?_
  refine xild_1 (q := 7) d_20_6 rfl ?_
  refine z_mmin (by constructor <;> omega) (by constructor <;> (try split) <;> omega) (q := 10) d_20_7 rfl li_R_31 (by decide +kernel) (by simp [Value.category]) ?_
  refine z_mmax (by constructor <;> omega) (by constructor <;> (try split) <;> omega) (q := 13) d_20_10 rfl li_R_9 (by decide +kernel) (by simp [Value.category]) ?_
  refine xp_R_size hr hn (q := 16) d_20_13 rfl fw_R_21 ?_
  refine x_vret d_20_16 rfl ?_
  exact k
set_option maxHeartbeats 1000000 in
theorem c_moveUp {sc : ax_S} {σ : Nat → ax_C} {I : Nat → Int} {F : Nat → Nat → Int} {n bc bs : Nat} {K : ax_K} (hn : 22 ≤ n) {r : Nat} (hr : r < 6) {L : List Nat} (hL : RK r I F L) {i j : Nat} (hij : j ≤ i) (hi : i < L.length) (k : ∀ F', RK r I F' (L.set j (L.getD i 0)) → OffF r F F' → K none (vg σ I F', n, bc, bs)) : Ex sc 30 0 (ax_en 30 [.ref (rkO r), .int (zi i), .int (zi j)]) [] (vg σ I F, n, bc, bs) K := by
  have hI := hL.1
  have hC := hL.2.1
  have hC2 := rkC_le r
  have hg := hL.get (i := (i : Int)) (by omega) (by omega)
  have et : ((i : Int)).toNat = i := by omega
  rw [et] at hg
  have k := k (va_up F (10 + r) (va_up (F (10 + r)) j (L.getD i 0 : Nat))) ⟨by rw [List.length_set]; exact hI, by rw [List.length_set]; exact hC, fun x hx => by
    rw [List.length_set] at hx
    rw [va_us, gd_set hx]
    by_cases e : x = j
    · rw [e, va_us, if_pos rfl]
    · rw [va_un _ _ _ e, if_neg e, hL.2.2.1 x hx], fun x hx => by
    rcases List.mem_or_eq_of_mem_set hx with hx | hx
    · exact hL.2.2.2 x hx
    · rw [hx]; exact hg.2⟩ OffF.up
  show Ex sc 30 0 [some (.ref (rkO r)), some (.int (zi i)), some (.int (zi j))] [] (vg σ I F, n, bc, bs) K
  refine xild_2 (q := 1) d_30_0 rfl ?_
  refine x_if_lt (q := 4) (t := 29) d_30_1 (by decide) rfl (fun c1 => ?_) (fun c1 => ?_)
  · rw [zi_lt0 (by omega) (by omega)] at c1
    first | exact absurd c1 (by omega) | exact absurd c6 (by omega) | exact absurd c14 (by omega) | (refine x_vret d_30_29 rfl ?_; rw [show ((j : Int)).toNat = j by omega]; exact k)
  · rw [zi_lt0 (by omega) (by omega)] at c1
    refine xild_2 (q := 5) d_30_4 rfl ?_
    refine xild_1 (q := 6) d_30_5 rfl ?_
    refine x_icmp_gt (q := 9) (t := 29) d_30_6 (by decide) rfl (fun c6 => ?_) (fun c6 => ?_)
    · rw [zi_lt (by omega) (by omega) (by omega) (by omega)] at c6
      first | exact absurd c1 (by omega) | exact absurd c6 (by omega) | exact absurd c14 (by omega) | (refine x_vret d_30_29 rfl ?_; rw [show ((j : Int)).toNat = j by omega]; exact k)
    · rw [zi_lt (by omega) (by omega) (by omega) (by omega)] at c6
      refine xild_1 (q := 10) d_30_9 rfl ?_
      refine xald_0 (q := 11) d_30_10 rfl ?_
      refine xg_R_size hr hn (q := 14) d_30_11 rfl fl_R_21 ?_
      refine x_icmp_ge (q := 17) (t := 29) d_30_14 (by decide) rfl (fun c14 => ?_) (fun c14 => ?_)
      · rw [zi_le (by omega) (by omega) (by omega) (by omega)] at c14
        first | exact absurd c1 (by omega) | exact absurd c6 (by omega) | exact absurd c14 (by omega) | (refine x_vret d_30_29 rfl ?_; rw [show ((j : Int)).toNat = j by omega]; exact k)
      · rw [zi_le (by omega) (by omega) (by omega) (by omega)] at c14
        refine xald_0 (q := 18) d_30_17 rfl ?_
        refine xg_R_keys hr hn (q := 21) d_30_18 rfl fl_R_15 ?_
        refine xild_2 (q := 22) d_30_21 rfl ?_
        refine xald_0 (q := 23) d_30_22 rfl ?_
        refine xg_R_keys hr hn (q := 26) d_30_23 rfl fl_R_15 ?_
        refine xild_1 (q := 27) d_30_26 rfl ?_
        refine xl_R hr (q := 28) hn d_30_27 rfl (by omega) (by omega) ?_
        rw [et, hg.1]
        refine xs_R hr (q := 29) hn d_30_28 rfl (by omega) (by omega) ?_
        first | exact absurd c1 (by omega) | exact absurd c6 (by omega) | exact absurd c14 (by omega) | (refine x_vret d_30_29 rfl ?_; rw [show ((j : Int)).toNat = j by omega]; exact k)
set_option maxHeartbeats 1000000 in
theorem lq_put {sc : ax_S} {σ : Nat → ax_C} {I : Nat → Int} {F0 : Nat → Nat → Int} {n bc bs : Nat} {K : ax_K} (hn : 22 ≤ n) {r : Nat} (hr : r < 6) {L : List Nat} (hI : I (10 + r) = L.length) (hC : L.length < rkC r) (hbd : ∀ x ∈ L, x < 40000000) {num far : Nat} (hk : far * 100 + num < 40000000) (hs : Srt L) (k : ∀ I' F', RK r I' F' (ins (far * 100 + num) L) → OffI r I I' → OffF r F0 F' → K none (vg σ I' F', n, bc, bs)) :
    ∀ (p : Nat) (F : Nat → Nat → Int), OffF r F0 F → p ≤ L.length → (∀ j, j < p → F (10 + r) j = (L.getD j 0 : Nat)) → (∀ j, p ≤ j → j < L.length → F (10 + r) (j + 1) = (L.getD j 0 : Nat)) → (∀ j, p ≤ j → j < L.length → far * 100 + num < L.getD j 0) → Ex sc 19 26 [some (.ref (rkO r)), some (.int (zi num)), some (.int (zi far)), some (.int (zi (far * 100 + num))), some (.int (zi p))] [] (vg σ I F, n, bc, bs) K := by
  have hC2 := rkC_le r
  have fin : ∀ (p : Nat) (F : Nat → Nat → Int), OffF r F0 F → p ≤ L.length → (∀ j, j < p → F (10 + r) j = (L.getD j 0 : Nat)) → (∀ j, p ≤ j → j < L.length → F (10 + r) (j + 1) = (L.getD j 0 : Nat)) → (∀ j, p ≤ j → j < L.length → far * 100 + num < L.getD j 0) → (∀ j, j < p → L.getD j 0 ≤ far * 100 + num) → Ex sc 19 66 [some (.ref (rkO r)), some (.int (zi num)), some (.int (zi far)), some (.int (zi (far * 100 + num))), some (.int (zi p))] [] (vg σ I F, n, bc, bs) K := by
    intro p F hF hp h1 h2 h3 h4
    have e0 := ins_at hp h4 h3
    have k := k (va_up I (10 + r) (I (10 + r) + 1)) (va_up F (10 + r) (va_up (F (10 + r)) p ((far * 100 + num : Nat) : Int))) ⟨by rw [va_us, ins_len, hI]; omega, by rw [ins_len]; omega, fun j hj => by
      rw [ins_len] at hj
      rw [va_us, e0, gd_ins hp]
      by_cases c1 : j < p
      · rw [if_pos c1, va_un _ _ _ (by omega), h1 j c1]
      · rw [if_neg c1]
        by_cases c2 : j = p
        · rw [if_pos c2, c2, va_us]
        · rw [if_neg c2, va_un _ _ _ c2]
          have := h2 (j - 1) (by omega) (by omega)
          rw [show j - 1 + 1 = j by omega] at this
          exact this, fun x hx => by
      rcases ins_mem.mp hx with rfl | hx
      · exact hk
      · exact hbd x hx⟩ OffI.up (fun j hj => by rw [va_un _ _ _ hj]; exact hF j hj)
    refine xald_0 (q := 67) d_19_66 rfl ?_
    refine xg_R_keys hr hn (q := 70) d_19_67 rfl fl_R_15 ?_
    refine xild_4 (q := 72) d_19_70 rfl ?_
    refine xild_3 (q := 73) d_19_72 rfl ?_
    refine xs_R hr (q := 74) hn d_19_73 rfl (by omega) (by omega) ?_
    refine xald_0 (q := 75) d_19_74 rfl ?_
    refine x_dup (q := 76) d_19_75 rfl rfl ?_
    refine xg_R_size hr hn (q := 79) d_19_76 rfl fl_R_21 ?_
    refine x_iconst (q := 80) (v := zi (1)) d_19_79 rfl rfl ?_
    refine z_iadd (q := 81) d_19_80 rfl ?_
    refine xp_R_size hr hn (q := 84) d_19_81 rfl fw_R_21 ?_
    refine x_vret d_19_84 rfl ?_
    rw [show ((p : Int)).toNat = p by omega]
    exact k
  intro p
  induction p with
  | zero =>
    intro F hF hp h1 h2 h3
    refine xild_4 (q := 28) d_19_26 rfl ?_
    refine x_if_le (q := 31) (t := 66) d_19_28 (by decide) rfl (fun c28 => ?_) (fun c28 => ?_)
    · rw [zi_le0 (by omega) (by omega)] at c28
      exact fin 0 F hF hp h1 h2 h3 (fun j hj => absurd hj (Nat.not_lt_zero _))
    · rw [zi_le0 (by omega) (by omega)] at c28
      exact absurd c28 (by omega)
  | succ p ih =>
    intro F hF hp h1 h2 h3
    have hg : F (10 + r) p = (L.getD p 0 : Nat) := h1 p (by omega)
    have hg2 : L.getD p 0 < 40000000 := hbd _ (gd_mem (by omega))
    have et : (((p + 1 : Nat) : Int) - 1).toNat = p := by omega
    have et2 : (((p + 1 : Nat) : Int)).toNat = p + 1 := by omega
    refine xild_4 (q := 28) d_19_26 rfl ?_
    refine x_if_le (q := 31) (t := 66) d_19_28 (by decide) rfl (fun c28 => ?_) (fun c28 => ?_)
    · rw [zi_le0 (by omega) (by omega)] at c28
      first
        | exact absurd c28 (by omega)
        | exact fin (p + 1) F hF hp h1 h2 h3 (fun j hj => Nat.le_trans (srt_get hs (show j ≤ p by omega) (by omega)) (by omega))
    · rw [zi_le0 (by omega) (by omega)] at c28
      refine xald_0 (q := 32) d_19_31 rfl ?_
      refine xg_R_keys hr hn (q := 35) d_19_32 rfl fl_R_15 ?_
      refine xild_4 (q := 37) d_19_35 rfl ?_
      refine x_iconst (q := 38) (v := zi (1)) d_19_37 rfl rfl ?_
      refine z_isub (q := 39) d_19_38 rfl ?_
      refine xl_R hr (q := 40) hn d_19_39 rfl (by omega) (by omega) ?_
      rw [et, hg]
      refine xild_3 (q := 41) d_19_40 rfl ?_
      refine x_icmp_le (q := 44) (t := 66) d_19_41 (by decide) rfl (fun c41 => ?_) (fun c41 => ?_)
      · rw [zi_le (by omega) (by omega) (by omega) (by omega)] at c41
        first
          | exact absurd c28 (by omega)
          | exact fin (p + 1) F hF hp h1 h2 h3 (fun j hj => Nat.le_trans (srt_get hs (show j ≤ p by omega) (by omega)) (by omega))
      · rw [zi_le (by omega) (by omega) (by omega) (by omega)] at c41
        refine xald_0 (q := 45) d_19_44 rfl ?_
        refine xg_R_keys hr hn (q := 48) d_19_45 rfl fl_R_15 ?_
        refine xild_4 (q := 50) d_19_48 rfl ?_
        refine xald_0 (q := 51) d_19_50 rfl ?_
        refine xg_R_keys hr hn (q := 54) d_19_51 rfl fl_R_15 ?_
        refine xild_4 (q := 56) d_19_54 rfl ?_
        refine x_iconst (q := 57) (v := zi (1)) d_19_56 rfl rfl ?_
        refine z_isub (q := 58) d_19_57 rfl ?_
        refine xl_R hr (q := 59) hn d_19_58 rfl (by omega) (by omega) ?_
        rw [et, hg]
        refine xs_R hr (q := 60) hn d_19_59 rfl (by omega) (by omega) ?_
        rw [et2]
        refine xincz_4 (q := 63) d_19_60 rfl ?_
        refine x_goto (t := 26) d_19_63 (by decide) ?_
        rw [show ((p + 1 : Nat) : Int) + -1 = (p : Nat) by omega]
        refine ih _ (fun j hj => by rw [va_un _ _ _ hj]; exact hF j hj) (by omega) (fun j hj => ?_) (fun j hj hl => ?_) (fun j hj hl => ?_)
        · rw [va_us, va_un _ _ _ (by omega)]; exact h1 j (by omega)
        · rw [va_us]
          by_cases e : j = p
          · rw [e, va_us]
          · rw [va_un _ _ _ (by omega)]; exact h2 j (by omega) hl
        · by_cases e : j = p
          · rw [e]; omega
          · exact h3 j (by omega) hl
set_option maxHeartbeats 1000000 in
theorem c_put {sc : ax_S} {σ : Nat → ax_C} {I : Nat → Int} {F : Nat → Nat → Int} {n bc bs : Nat} {K : ax_K} (hn : 22 ≤ n) {r : Nat} (hr : r < 6) {L : List Nat} (hL : RK r I F L) (hC : L.length < rkC r) {num far : Nat} (hk : far * 100 + num < 40000000) (hs : Srt L) (k : ∀ I' F', RK r I' F' (ins (far * 100 + num) L) → OffI r I I' → OffF r F F' → K none (vg σ I' F', n, bc, bs)) : Ex sc 19 0 (ax_en 19 [.ref (rkO r), .int (zi num), .int (zi far)]) [] (vg σ I F, n, bc, bs) K := by
  have hI := hL.1
  have hC2 := rkC_le r
  show Ex sc 19 0 [some (.ref (rkO r)), some (.int (zi num)), some (.int (zi far)), none, none] [] (vg σ I F, n, bc, bs) K
  refine xald_0 (q := 1) d_19_0 rfl ?_
  refine xg_R_size hr hn (q := 4) d_19_1 rfl fl_R_21 ?_
  refine xald_0 (q := 5) d_19_4 rfl ?_
  refine xg_R_keys hr hn (q := 8) d_19_5 rfl fl_R_15 ?_
  refine xn_R hr (q := 9) hn d_19_8 rfl ?_
  refine x_icmp_lt (q := 12) (t := 13) d_19_9 (by decide) rfl (fun c9 => ?_) (fun c9 => ?_)
  · rw [zi_lt (by omega) (by omega) (by omega) (by omega)] at c9
    refine xild_2 (q := 14) d_19_13 rfl ?_
    refine x_bipush (q := 16) (v := zi (100)) d_19_14 rfl (by decide) ?_
    refine z_imul (q := 17) d_19_16 rfl ?_
    refine xild_1 (q := 18) d_19_17 rfl ?_
    refine z_iadd (q := 19) d_19_18 rfl ?_
    refine xist_3 (q := 20) d_19_19 rfl ?_
    refine xald_0 (q := 21) d_19_20 rfl ?_
    refine xg_R_size hr hn (q := 24) d_19_21 rfl fl_R_21 ?_
    refine xist_4 (q := 26) d_19_24 rfl ?_
    rw [hI]
    exact lq_put hn hr hI hC hL.2.2.2 hk hs k L.length F OffF.rf (Nat.le_refl _) (fun j hj => hL.2.2.1 j hj) (fun j h1 h2 => absurd h2 (by omega)) (fun j h1 h2 => absurd h2 (by omega))
  · rw [zi_lt (by omega) (by omega) (by omega) (by omega)] at c9
    exact absurd c9 (by omega)
set_option maxHeartbeats 1000000 in
theorem c_dropFirst {sc : ax_S} {σ : Nat → ax_C} {I : Nat → Int} {F : Nat → Nat → Int} {n bc bs : Nat} {K : ax_K} (hn : 22 ≤ n) {r : Nat} (hr : r < 6) {L : List Nat} (hL : RK r I F L) (h0 : 0 < L.length) (k : ∀ I' F', RK r I' F' L.tail → OffI r I I' → OffF r F F' → K none (vg σ I' F', n, bc, bs)) : Ex sc 23 0 (ax_en 23 [.ref (rkO r)]) [] (vg σ I F, n, bc, bs) K := by
  have hI := hL.1
  have hC := hL.2.1
  have hC2 := rkC_le r
  have k := k (va_up I (10 + r) (I (10 + r) - 1)) (va_up F (10 + r) (va_cpy (F (10 + r)) (F (10 + r)) 1 0 (L.length - 1))) ⟨by rw [va_us, List.length_tail, hI]; omega, by rw [List.length_tail]; omega, fun j hj => by
    rw [List.length_tail] at hj
    rw [va_us, gd_tail, pk_cpy_in (Nat.zero_le _) (by omega), show 1 + (j - 0) = j + 1 by omega]
    exact hL.2.2.1 (j + 1) (by omega), fun x hx => hL.2.2.2 x (List.mem_of_mem_tail hx)⟩ OffI.up OffF.up
  show Ex sc 23 0 [some (.ref (rkO r))] [] (vg σ I F, n, bc, bs) K
  refine xald_0 (q := 1) d_23_0 rfl ?_
  refine xg_R_size hr hn (q := 4) d_23_1 rfl fl_R_21 ?_
  refine x_if_le (q := 7) (t := 34) d_23_4 (by decide) rfl (fun c4 => ?_) (fun c4 => ?_)
  · rw [zi_le0 (by omega) (by omega)] at c4
    first | exact absurd c4 (by omega) | (refine x_vret d_23_34 rfl ?_; rw [va_us, show (I (10 + r) - 1).toNat = L.length - 1 by omega]; exact k)
  · rw [zi_le0 (by omega) (by omega)] at c4
    refine xald_0 (q := 8) d_23_7 rfl ?_
    refine x_dup (q := 9) d_23_8 rfl rfl ?_
    refine xg_R_size hr hn (q := 12) d_23_9 rfl fl_R_21 ?_
    refine x_iconst (q := 13) (v := zi (1)) d_23_12 rfl rfl ?_
    refine z_isub (q := 14) d_23_13 rfl ?_
    refine xp_R_size hr hn (q := 17) d_23_14 rfl fw_R_21 ?_
    refine xald_0 (q := 18) d_23_17 rfl ?_
    refine xg_R_keys hr hn (q := 21) d_23_18 rfl fl_R_15 ?_
    refine x_iconst (q := 22) (v := zi (1)) d_23_21 rfl rfl ?_
    refine xald_0 (q := 23) d_23_22 rfl ?_
    refine xg_R_keys hr hn (q := 26) d_23_23 rfl fl_R_15 ?_
    refine x_iconst (q := 27) (v := zi (0)) d_23_26 rfl rfl ?_
    refine xald_0 (q := 28) d_23_27 rfl ?_
    refine xg_R_size hr hn (q := 31) d_23_28 rfl fl_R_21 ?_
    refine z_cpyR hr hn (q := 34) d_23_31 rfl li_R_25 (by decide +kernel) (by simp [Value.category]) (by omega) (by omega) (by rw [va_us]; omega) (by rw [va_us]; omega) (by rw [va_us]; omega) ?_
    first | exact absurd c4 (by omega) | (refine x_vret d_23_34 rfl ?_; rw [va_us, show (I (10 + r) - 1).toNat = L.length - 1 by omega]; exact k)
