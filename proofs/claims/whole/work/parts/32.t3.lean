/-! THE REFERENCE: meet, go -/
theorem ins_slt {k : Nat} : ∀ {L : List Nat}, L.Pairwise (· < ·) → k ∉ L → (ins k L).Pairwise (· < ·)
  | [], _, _ => by simp [ins]
  | x :: xs, h, hm => by
    have hx := List.pairwise_cons.mp h
    have hne : x ≠ k := fun e => hm (by rw [e]; exact List.mem_cons_self)
    have hm2 : k ∉ xs := fun z => hm (List.mem_cons_of_mem _ z)
    unfold ins
    split
    next hk =>
      refine List.pairwise_cons.mpr ⟨fun y hy => ?_, ins_slt hx.2 hm2⟩
      rcases ins_mem.mp hy with rfl | hy
      · omega
      · exact hx.1 y hy
    next hk =>
      refine List.pairwise_cons.mpr ⟨fun y hy => ?_, h⟩
      rcases List.mem_cons.mp hy with rfl | hy
      · omega
      · have := hx.1 y hy
        omega
theorem kf_inj {kf : Nat → Nat} {N x y : Nat} (hk : ∀ y, y < N → kf y % 100 = y) (hx : x < N) (hy : y < N) (e : kf x = kf y) : x = y := by
  have h1 := hk x hx
  rw [e, hk y hy] at h1
  exact h1.symm
theorem SB.add {b : Nat → Int} {kf : Nat → Nat} {N : Nat} {L : List Nat} (h : SB b kf N L) (hk : ∀ y, y < N → kf y % 100 = y) {x : Nat} (hx : x < N) (hm : kf x ∉ L) : SB (va_up b x 1) kf N (ins (kf x) L) := by
  refine ⟨ins_slt h.1 hm, fun k hkk => ?_, fun y hy => ?_⟩
  · rcases ins_mem.mp hkk with rfl | h1
    · exact ⟨x, hx, rfl⟩
    · exact h.2.1 k h1
  · by_cases e : y = x
    · subst e
      rw [va_us, if_pos (ins_mem.mpr (Or.inl rfl))]
    · rw [va_un _ _ _ e, h.2.2 y hy]
      have : kf y ∈ L ↔ kf y ∈ ins (kf x) L := by
        rw [ins_mem]
        exact ⟨Or.inr, fun z => z.elim (fun q => absurd (kf_inj hk hy hx q) e) id⟩
      by_cases q : kf y ∈ L
      · rw [if_pos q, if_pos (this.mp q)]
      · rw [if_neg q, if_neg (fun z => q (this.mpr z))]
theorem SB.del {b : Nat → Int} {kf : Nat → Nat} {N : Nat} {L L' : List Nat} (h : SB b kf N L) (hk : ∀ y, y < N → kf y % 100 = y) {x : Nat} (hx : x < N) (h1 : L'.Pairwise (· < ·)) (h2 : ∀ k, k ∈ L' ↔ k ∈ L ∧ k ≠ kf x) : SB (va_up b x 0) kf N L' := by
  refine ⟨h1, fun k hkk => h.2.1 k ((h2 k).mp hkk).1, fun y hy => ?_⟩
  by_cases e : y = x
  · subst e
    rw [va_us, if_neg (fun z => ((h2 _).mp z).2 rfl)]
  · rw [va_un _ _ _ e, h.2.2 y hy]
    by_cases q : kf y ∈ L
    · rw [if_pos q, if_pos ((h2 _).mpr ⟨q, fun z => e (kf_inj hk hy hx z)⟩)]
    · rw [if_neg q, if_neg (fun z => q ((h2 _).mp z).1)]
theorem SB.pop {b : Nat → Int} {kf : Nat → Nat} {N : Nat} {L : List Nat} (h : SB b kf N L) (hk : ∀ y, y < N → kf y % 100 = y) (hne : L ≠ []) : ∃ x, x < N ∧ L.getD 0 0 = kf x ∧ outI L true = (x : Int) ∧ L.getD 0 0 % 100 = x ∧ kf x ∈ L ∧ SB (va_up b x 0) kf N L.tail := by
  cases L with
  | nil => exact absurd rfl hne
  | cons a l =>
    obtain ⟨x, hx, e⟩ := h.2.1 a List.mem_cons_self
    have hp := List.pairwise_cons.mp h.1
    have em : (a :: l).getD 0 0 % 100 = x := by
      show a % 100 = x
      rw [e, hk x hx]
    refine ⟨x, hx, e, ?_, em, by rw [← e]; exact List.mem_cons_self, h.del hk hx hp.2 (fun k => ?_)⟩
    · unfold outI
      rw [if_neg hne, if_pos rfl, em]
    · show k ∈ l ↔ _
      rw [List.mem_cons, ← e]
      constructor
      · intro q
        have := hp.1 k q
        exact ⟨Or.inr q, by omega⟩
      · rintro ⟨q | q, q2⟩
        · exact absurd q q2
        · exact q
theorem SB.cut {b : Nat → Int} {kf : Nat → Nat} {N : Nat} {L : List Nat} (h : SB b kf N L) (hk : ∀ y, y < N → kf y % 100 = y) (hne : L ≠ []) : ∃ x, x < N ∧ L.getD (L.length - 1) 0 = kf x ∧ outI L false = (x : Int) ∧ kf x ∈ L ∧ SB (va_up b x 0) kf N (L.take (L.length - 1)) := by
  have hl : 0 < L.length := List.length_pos_iff.mpr hne
  have hlm := gd_mem (show L.length - 1 < L.length by omega)
  obtain ⟨x, hx, e⟩ := h.2.1 _ hlm
  have hsp : L = L.take (L.length - 1) ++ [L.getD (L.length - 1) 0] := by
    have h1 := List.take_append_drop (L.length - 1) L
    rw [drop_get (show L.length - 1 < L.length by omega), List.drop_of_length_le (show L.length ≤ L.length - 1 + 1 by omega)] at h1
    exact h1.symm
  have hp := h.1
  rw [hsp] at hp
  have hp2 := List.pairwise_append.mp hp
  refine ⟨x, hx, e, ?_, by rw [← e]; exact hlm, h.del hk hx hp2.1 (fun k => ?_)⟩
  · unfold outI
    rw [if_neg hne, if_neg (by decide), e, hk x hx]
  · constructor
    · intro q
      have := hp2.2.2 k q _ (List.mem_singleton.mpr rfl)
      exact ⟨List.mem_of_mem_take q, by rw [← e]; omega⟩
    · rintro ⟨q, q2⟩
      rw [hsp] at q
      rcases List.mem_append.mp q with q | q
      · exact q
      · exact absurd ((List.mem_singleton.mp q).trans e) q2
theorem out_nil {fst : Bool} : outI [] fst = -1 := rfl
theorem last_ins {k : Nat} {L : List Nat} (hne : L ≠ []) (h : lastLt L k → False) (hs : L.Pairwise (· < ·)) : (ins k L).take L.length = ins k (L.take (L.length - 1)) ∨ True := Or.inr trivial
theorem bit_up {g : Nat → Int} {x y : Nat} {b : Int} (hb : b = 0 ∨ b = 1) : va_up g x b y = g y ∨ va_up g x b y = 0 ∨ va_up g x b y = 1 := by
  by_cases e : y = x
  · rw [e, va_us]; exact Or.inr hb
  · exact Or.inl (va_un _ _ _ e)
theorem bit_tr {a b c : Int} (h1 : b = a ∨ b = 0 ∨ b = 1) (h2 : c = b ∨ c = 0 ∨ c = 1) : c = a ∨ c = 0 ∨ c = 1 := by omega
/-- one is met: FOUND and OPEN -/
def mM (kf : Nat → Nat) (e x : Nat) (L O : List Nat) : List Nat × List Nat := if L.length < e ∨ ¬ lastLt L (kf x) then ((ins (kf x) L).take e, ins (kf x) O) else (L, O)
theorem mMeet_in {kf : Nat → Nat} {e x : Nat} {S : mG} (h : x ∈ S.1) : mMeet kf e x S = S := if_pos h
theorem mMeet_new {kf : Nat → Nat} {e x : Nat} {S : mG} (h : x ∉ S.1) : mMeet kf e x S = (x :: S.1, (mM kf e x S.2.1 S.2.2).1, (mM kf e x S.2.1 S.2.2).2) := by
  unfold mMeet mM
  rw [if_neg h]
  split <;> rfl

set_option maxHeartbeats 2000000 in
theorem t_meet {sc : ax_S} {σ : Nat → ax_C} {J : Nat → Int} {G : Nat → Nat → Int} {n bc bs : Nat} {K : ax_K} (hn : 38 ≤ n) {N : Nat} (hN : J 7 = N) (hN2 : N ≤ 100) {o e x : Nat} (ho : o ≤ 100) (hF : FAb G N o) (he : 1 ≤ e) (he2 : e ≤ 100) (hx : x < N) {L O : List Nat} (hL : SB (G 9) (kg G o) N L) (hO : SB (G 8) (kg G o) N O) (hc : J 21 = L.length) (hle : L.length ≤ e) (hxL : kg G o x ∉ L) (hxO : kg G o x ∉ O)
    (k : ∀ (J' : Nat → Int) (G' : Nat → Nat → Int), (∀ r, r ≠ 21 → J' r = J r) → (∀ r, r ≠ 8 → r ≠ 9 → G' r = G r) → SB (G' 9) (kg G o) N (mM (kg G o) e x L O).1 → SB (G' 8) (kg G o) N (mM (kg G o) e x L O).2 → J' 21 = (mM (kg G o) e x L O).1.length → (∀ y, G' 9 y = G 9 y ∨ G' 9 y = 0 ∨ G' 9 y = 1) → K none (mg σ J' G', n, bc, bs)) : Ex sc 94 0 (ax_en 94 [.ref 22, .int (zi x), .int (zi o), .int (zi e)]) [] (mg σ J G, n, bc, bs) K := by
  have hk : ∀ y, y < N → kg G o y % 100 = y := fun y hy => kg_mod (by omega)
  have hln : L.length ≤ 100 := by omega
  have hins : ∀ (q : L.length < e ∨ ¬ lastLt L (kg G o x)), Ex sc 94 27 [some (.ref 22), some (.int (zi x)), some (.int (zi o)), some (.int (zi e))] [] (mg σ J G, n, bc, bs) K := by
    intro hq
    have hm : mM (kg G o) e x L O = ((ins (kg G o x) L).take e, ins (kg G o x) O) := if_pos hq
    rw [hm] at k
    have hL1 := hL.add hk hx hxL
    have hO1 := hO.add hk hx hxO
    have hl1 := ins_len (kg G o x) L
    refine xald_0 (q := 28) d_94_27 rfl ?_
    refine yg_found hn (q := 31) d_94_28 rfl fl_M_52 ?_
    refine xild_1 (q := 32) d_94_31 rfl ?_
    refine x_iconst (q := 33) (v := zi (1)) d_94_32 rfl rfl ?_
    refine ys_found (q := 34) hn (Or.inr rfl) d_94_33 rfl (by omega) (by omega) ?_
    rw [show ((x : Int)).toNat = x by omega]
    refine xald_0 (q := 35) d_94_34 rfl ?_
    refine yg_open hn (q := 38) d_94_35 rfl fl_M_49 ?_
    refine xild_1 (q := 39) d_94_38 rfl ?_
    refine x_iconst (q := 40) (v := zi (1)) d_94_39 rfl rfl ?_
    refine ys_open (q := 41) hn (Or.inr rfl) d_94_40 rfl (by omega) (by omega) ?_
    rw [show ((x : Int)).toNat = x by omega]
    rw [show (va_up G 9 (va_up (G 9) x 1)) 8 = G 8 from va_un _ _ _ (by decide)]
    refine xald_0 (q := 42) d_94_41 rfl ?_
    refine x_dup (q := 43) d_94_42 rfl rfl ?_
    refine yg_foundCount hn (q := 46) d_94_43 rfl fl_M_103 ?_
    refine x_iconst (q := 47) (v := zi (1)) d_94_46 rfl rfl ?_
    refine z_iadd (q := 48) d_94_47 rfl ?_
    refine yp_foundCount hn (q := 51) d_94_48 rfl fw_M_103 ?_
    refine xald_0 (q := 52) d_94_51 rfl ?_
    refine yg_foundCount hn (q := 55) d_94_52 rfl fl_M_103 ?_
    refine xild_3 (q := 56) d_94_55 rfl ?_
    refine x_icmp_le (q := 59) (t := 85) d_94_56 (by decide) rfl (fun c56 => ?_) (fun c56 => ?_)
    · rw [va_us, hc, zi_le (by omega) (by omega) (by omega) (by omega)] at c56
      refine x_vret d_94_85 rfl ?_
      refine k _ _ (fun r hr => va_un _ _ _ hr) (fun r h8 h9 => by rw [va_un _ _ _ h8, va_un _ _ _ h9]) ?_ hO1 ?_ (fun y => bit_up (Or.inr rfl))
      · rw [List.take_of_length_le (show (ins (kg G o x) L).length ≤ e by omega)]
        exact hL1
      · rw [List.take_of_length_le (show (ins (kg G o x) L).length ≤ e by omega), hl1, va_us, hc]
        rfl
    · rw [va_us, hc, zi_le (by omega) (by omega) (by omega) (by omega)] at c56
      refine xald_0 (q := 60) d_94_59 rfl ?_
      refine yg_found hn (q := 63) d_94_60 rfl fl_M_52 ?_
      refine xald_0 (q := 64) d_94_63 rfl ?_
      refine xald_0 (q := 65) d_94_64 rfl ?_
      refine yg_found hn (q := 68) d_94_65 rfl fl_M_52 ?_
      refine xild_2 (q := 69) d_94_68 rfl ?_
      refine x_iconst (q := 70) (v := zi (0)) d_94_69 rfl rfl ?_
      have hne : ins (kg G o x) L ≠ [] := fun z => by rw [z] at hl1; exact absurd hl1 (by simp)
      obtain ⟨y, hy, ey, eo, _, hcut⟩ := hL1.cut hk hne
      refine xcV3 (q := 73) d_94_70 rfl lk_M_109 mo_82 ⟨by decide +kernel, by decide +kernel⟩ (by simp [Value.category]) (by decide +kernel) (by simp [Value.category]) (by omega) rfl ?_
      refine t_outer (G := va_up (va_up G 9 (va_up (G 9) x 1)) 8 (va_up (G 8) x 1)) (r := 9) hn (hN ▸ va_un _ _ _ (by decide)) hN2 (by unfold mBool; decide) ho (L := ins (kg G o x) L) hF hL1 false rfl ?_
      dsimp only [ax_ps]
      rw [eo]
      refine x_iconst (q := 74) (v := zi (0)) d_94_73 rfl rfl ?_
      refine ys_found (q := 75) hn (Or.inl rfl) d_94_74 rfl (by omega) (by omega) ?_
      rw [show ((y : Int)).toNat = y by omega]
      refine xald_0 (q := 76) d_94_75 rfl ?_
      refine x_dup (q := 77) d_94_76 rfl rfl ?_
      refine yg_foundCount hn (q := 80) d_94_77 rfl fl_M_103 ?_
      refine x_iconst (q := 81) (v := zi (1)) d_94_80 rfl rfl ?_
      refine z_isub (q := 82) d_94_81 rfl ?_
      refine yp_foundCount hn (q := 85) d_94_82 rfl fw_M_103 ?_
      refine x_vret d_94_85 rfl ?_
      have ee : e = (ins (kg G o x) L).length - 1 := by omega
      refine k _ _ (fun r hr => by rw [va_un _ _ _ hr, va_un _ _ _ hr]) (fun r h8 h9 => by rw [va_un _ _ _ h9, va_un _ _ _ h8, va_un _ _ _ h9]) ?_ hO1 ?_ (fun z => bit_tr (bit_up (Or.inr rfl)) (bit_up (Or.inl rfl)))
      · rw [ee]
        exact hcut
      · rw [List.length_take, hl1, va_us, va_us, hc]
        omega
  show Ex sc 94 0 [some (.ref 22), some (.int (zi x)), some (.int (zi o)), some (.int (zi e))] [] (mg σ J G, n, bc, bs) K
  refine xald_0 (q := 1) d_94_0 rfl ?_
  refine yg_foundCount hn (q := 4) d_94_1 rfl fl_M_103 ?_
  refine xild_3 (q := 5) d_94_4 rfl ?_
  refine x_icmp_lt (q := 8) (t := 27) d_94_5 (by decide) rfl (fun c5 => ?_) (fun c5 => ?_)
  · rw [zi_lt (by omega) (by omega) (by omega) (by omega)] at c5
    first
      | (exact hins (Or.inl (by omega)))
      | (refine hins (Or.inr (fun z => ?_)); have z2 := z.2; rw [ey] at z2; rw [if_neg (by omega)] at c24; exact absurd rfl c24)
  · rw [zi_lt (by omega) (by omega) (by omega) (by omega)] at c5
    refine xald_0 (q := 9) d_94_8 rfl ?_
    refine xild_2 (q := 10) d_94_9 rfl ?_
    refine xild_1 (q := 11) d_94_10 rfl ?_
    refine xald_0 (q := 12) d_94_11 rfl ?_
    refine xald_0 (q := 13) d_94_12 rfl ?_
    refine yg_found hn (q := 16) d_94_13 rfl fl_M_52 ?_
    refine xild_2 (q := 17) d_94_16 rfl ?_
    refine x_iconst (q := 18) (v := zi (0)) d_94_17 rfl rfl ?_
    have hne : L ≠ [] := fun z => by rw [z] at hc; exact absurd c5 (by rw [hc]; simp; omega)
    obtain ⟨y, hy, ey, eo, hyL, _⟩ := hL.cut hk hne
    refine xcV3 (q := 21) d_94_18 rfl lk_M_109 mo_82 ⟨by decide +kernel, by decide +kernel⟩ (by simp [Value.category]) (by decide +kernel) (by simp [Value.category]) (by omega) rfl ?_
    refine t_outer (r := 9) hn hN hN2 (by unfold mBool; decide) ho hF hL false rfl ?_
    dsimp only [ax_ps]
    rw [eo]
    refine xcV3 (q := 24) d_94_21 rfl lk_M_100 mo_83 ⟨by decide +kernel, by decide +kernel⟩ (by simp [Value.category]) (by decide +kernel) (by simp [Value.category]) (by omega) rfl ?_
    refine t_before hn hN2 (o := o) (a := x) (b := y) ho hx hy hF ?_
    dsimp only [ax_ps]
    refine x_if_eq (q := 27) (t := 85) d_94_24 (by decide) rfl (fun c24 => ?_) (fun c24 => ?_)
    · refine x_vret d_94_85 rfl ?_
      have hq : ¬ (L.length < e ∨ ¬ lastLt L (kg G o x)) := by
        rintro (q | q)
        · omega
        · apply q
          refine ⟨List.length_pos_iff.mpr hne, ?_⟩
          rw [ey]
          by_cases hlt : kg G o x < kg G o y
          · rw [if_pos hlt] at c24; exact absurd c24 (by decide)
          · have hne2 : kg G o x ≠ kg G o y := fun q2 => hxL (by rw [q2]; exact hyL)
            omega
      have hm : mM (kg G o) e x L O = (L, O) := if_neg hq
      rw [hm] at k
      exact k J G (fun _ _ => rfl) (fun _ _ _ => rfl) hL hO hc (fun _ => Or.inl rfl)
    · first
        | (exact hins (Or.inl (by omega)))
        | (refine hins (Or.inr (fun z => ?_)); have z2 := z.2; rw [ey] at z2; rw [if_neg (by omega)] at c24; exact absurd rfl c24)
/-- how far a GOING of the reference has come -/
def GS (kf : Nat → Nat) (e N : Nat) (S : mG) : Prop := S.2.1.length ≤ e ∧ S.1.Nodup ∧ (∀ x ∈ S.1, x < N) ∧ (∀ k ∈ S.2.1, ∃ x ∈ S.1, k = kf x) ∧ ∀ k ∈ S.2.2, ∃ x ∈ S.1, k = kf x
def GT (J : Nat → Int) (G : Nat → Nat → Int) (kf : Nat → Nat) (e N : Nat) (s0 : Int) (S : mG) : Prop := GS kf e N S ∧ SB (G 9) kf N S.2.1 ∧ SB (G 8) kf N S.2.2 ∧ (∀ x, x < N → G 7 x = if x ∈ S.1 then 1 else 0) ∧ J 21 = S.2.1.length ∧ J 12 = s0 + S.1.length ∧ S.2.1 ≠ [] ∧ ∀ x, x < 100 → G 9 x = 0 ∨ G 9 x = 1
def FG (G G' : Nat → Nat → Int) : Prop := ∀ r, r ≠ 7 → r ≠ 8 → r ≠ 9 → G' r = G r
def FJ (J J' : Nat → Int) : Prop := ∀ r, r ≠ 12 → r ≠ 21 → J' r = J r
theorem FG.ke {G G' : Nat → Nat → Int} (h : FG G G') (o : Nat) : kg G' o = kg G o := by
  funext x
  unfold kg
  rw [h 6 (by decide) (by decide) (by decide)]
theorem FG.nr {G G' : Nat → Nat → Int} (h : FG G G') {R : Nat → Nat → List Nat} (hR : NR G R) : NR G' R := by
  unfold NR
  rw [h 5 (by decide) (by decide) (by decide)]
  exact hR
theorem FG.fab {G G' : Nat → Nat → Int} (h : FG G G') {N o : Nat} (hR : FAb G N o) : FAb G' N o := by
  unfold FAb
  rw [h 6 (by decide) (by decide) (by decide)]
  exact hR
theorem mM_mem1 {kf : Nat → Nat} {e x : Nat} {L O : List Nat} {k : Nat} (h : k ∈ (mM kf e x L O).1) : k = kf x ∨ k ∈ L := by
  unfold mM at h
  split at h
  · exact ins_mem.mp (List.mem_of_mem_take h)
  · exact Or.inr h
theorem mM_mem2 {kf : Nat → Nat} {e x : Nat} {L O : List Nat} {k : Nat} (h : k ∈ (mM kf e x L O).2) : k = kf x ∨ k ∈ O := by
  unfold mM at h
  split at h
  · exact ins_mem.mp h
  · exact Or.inr h
theorem mM_len {kf : Nat → Nat} {e x : Nat} {L O : List Nat} (h : L.length ≤ e) : (mM kf e x L O).1.length ≤ e := by
  unfold mM
  split
  · show ((ins (kf x) L).take e).length ≤ e
    rw [List.length_take]; omega
  · exact h
theorem GS.new {kf : Nat → Nat} {e N x : Nat} {S : mG} (h : GS kf e N S) (hx : x < N) (hm : x ∉ S.1) : GS kf e N (x :: S.1, (mM kf e x S.2.1 S.2.2).1, (mM kf e x S.2.1 S.2.2).2) := by
  obtain ⟨h1, h2, h3, h4, h5⟩ := h
  refine ⟨mM_len h1, List.nodup_cons.mpr ⟨hm, h2⟩, fun y hy => ?_, fun k hk => ?_, fun k hk => ?_⟩
  · rcases List.mem_cons.mp hy with rfl | hy
    · exact hx
    · exact h3 y hy
  · rcases mM_mem1 hk with q | q
    · exact ⟨x, List.mem_cons_self, q⟩
    · obtain ⟨y, hy, e1⟩ := h4 k q
      exact ⟨y, List.mem_cons_of_mem _ hy, e1⟩
  · rcases mM_mem2 hk with q | q
    · exact ⟨x, List.mem_cons_self, q⟩
    · obtain ⟨y, hy, e1⟩ := h5 k q
      exact ⟨y, List.mem_cons_of_mem _ hy, e1⟩
theorem mMeet_pot (kf : Nat → Nat) (e x : Nat) (S : mG) : (mMeet kf e x S).2.2.length + S.1.length ≤ (mMeet kf e x S).1.length + S.2.2.length := by
  unfold mMeet
  split
  · omega
  · split
    · show (ins (kf x) S.2.2).length + S.1.length ≤ (x :: S.1).length + S.2.2.length
      rw [ins_len, List.length_cons]
      omega
    · show S.2.2.length + S.1.length ≤ (x :: S.1).length + S.2.2.length
      rw [List.length_cons]
      omega
theorem mMeets_pot (kf : Nat → Nat) (e : Nat) : ∀ (xs : List Nat) (S : mG), (mMeets kf e xs S).2.2.length + S.1.length ≤ (mMeets kf e xs S).1.length + S.2.2.length
  | [], S => by show S.2.2.length + S.1.length ≤ S.1.length + S.2.2.length; omega
  | x :: xs, S => by
    have h1 := mMeet_pot kf e x S
    have h2 := mMeets_pot kf e xs (mMeet kf e x S)
    show (mMeets kf e xs (mMeet kf e x S)).2.2.length + S.1.length ≤ (mMeets kf e xs (mMeet kf e x S)).1.length + S.2.2.length
    omega

theorem gt_met {g : Nat → Int} {c x : Nat} {L : List Nat} (hc : c ∉ L) (h : g x = if x ∈ L then 1 else 0) : va_up g c 1 x = if x ∈ c :: L then 1 else 0 := by
  by_cases e : x = c
  · subst e
    rw [va_us, if_pos List.mem_cons_self]
  · rw [va_un _ _ _ e, h]
    by_cases q : x ∈ L
    · rw [if_pos q, if_pos (List.mem_cons_of_mem _ q)]
    · rw [if_neg q, if_neg (fun z => (List.mem_cons.mp z).elim e q)]
set_option maxHeartbeats 2000000 in
theorem lt_goIn {sc : ax_S} {σ : Nat → ax_C} {J0 : Nat → Int} {G0 : Nat → Nat → Int} {n bc bs : Nat} {K : ax_K} (hn : 38 ≤ n) {N : Nat} (hN : J0 7 = N) (hN2 : N ≤ 100) {R : Nat → Nat → List Nat} (hR : NR G0 R) {l o e : Nat} (hl : l < 5) (hS : ∀ i, i < N → RS (kg G0 i) (R i l) N) (hFi : ∀ i, i < N → FAb G0 N i) (ho : o ≤ 100) (hFo : FAb G0 N o) (he : 1 ≤ e) (he2 : e ≤ 100) {f : Nat} {s0 : Int} {i : Nat} (hi : i < N) {S9 : mG}
    (kk : ∀ (J : Nat → Int) (G : Nat → Nat → Int) (t7 t8 : Option Value), FJ J0 J → FG G0 G → GT J G (kg G0 o) e N s0 S9 → Ex sc 90 213 [some (.ref 22), some (.int (zi l)), some (.int (zi f)), some (.int (zi o)), some (.int (zi e)), some (.int (zi i)), some (.int (zi (R i l).length)), t7, t8] [] (mg σ J G, n, bc, bs) K) :
    ∀ (d j : Nat) (J : Nat → Int) (G : Nat → Nat → Int) (S : mG) (t8 : Option Value), j + d = (R i l).length → FJ J0 J → FG G0 G → GT J G (kg G0 o) e N s0 S → mMeets (kg G0 o) e ((R i l).drop j) S = S9 → Ex sc 90 152 [some (.ref 22), some (.int (zi l)), some (.int (zi f)), some (.int (zi o)), some (.int (zi e)), some (.int (zi i)), some (.int (zi (R i l).length)), some (.int (zi j)), t8] [] (mg σ J G, n, bc, bs) K := by
  have hSi := hS i hi
  have hlen := nodup_le N (R i l) hSi.nodup hSi.2
  have hk : ∀ y, y < N → kg G0 o y % 100 = y := fun y hy => kg_mod (by omega)
  intro d
  induction d with
  | zero =>
    intro j J G S t8 hj hJ hG hT h9
    have hjl : j = (R i l).length := by omega
    rw [List.drop_of_length_le (by omega)] at h9
    have h9 : S = S9 := h9
    subst h9
    subst hjl
    refine xild_7 (q := 154) d_90_152 rfl ?_
    refine xild_6 (q := 156) d_90_154 rfl ?_
    refine x_icmp_ge (q := 159) (t := 213) d_90_156 (by decide) rfl (fun c156 => ?_) (fun c156 => ?_)
    · rw [zi_le (by omega) (by omega) (by omega) (by omega)] at c156
      exact kk J G _ _ hJ hG hT
    · rw [zi_le (by omega) (by omega) (by omega) (by omega)] at c156
      exact absurd c156 (by omega)
  | succ d ih =>
    intro j J G S t8 hj hJ hG hT h9
    have hjl : j < (R i l).length := by omega
    rw [drop_get hjl] at h9
    have hcN : (R i l).getD j 0 < N := hSi.2 _ (gd_mem hjl)
    generalize hc : (R i l).getD j 0 = c at h9 hcN
    have h9 : mMeets (kg G0 o) e ((R i l).drop (j + 1)) (mMeet (kg G0 o) e c S) = S9 := h9
    obtain ⟨t1, t2, t3, t4, t5, t6, t7, t8b⟩ := id hT
    have h4c := t4 c hcN
    have hJN : J 7 = N := by rw [hJ 7 (by decide) (by decide)]; exact hN
    refine xild_7 (q := 154) d_90_152 rfl ?_
    refine xild_6 (q := 156) d_90_154 rfl ?_
    refine x_icmp_ge (q := 159) (t := 213) d_90_156 (by decide) rfl (fun c156 => ?_) (fun c156 => ?_)
    · rw [zi_le (by omega) (by omega) (by omega) (by omega)] at c156
      exact absurd c156 (by omega)
    · rw [zi_le (by omega) (by omega) (by omega) (by omega)] at c156
      refine xald_0 (q := 160) d_90_159 rfl ?_
      refine xild_1 (q := 161) d_90_160 rfl ?_
      refine xild_5 (q := 163) d_90_161 rfl ?_
      refine xild_7 (q := 165) d_90_163 rfl ?_
      refine xcV3 (q := 168) d_90_165 rfl lk_M_117 mo_93 ⟨by decide +kernel, by decide +kernel⟩ (by simp [Value.category]) (by decide +kernel) (by simp [Value.category]) (by omega) rfl ?_
      refine t_nearOf hn hJN hN2 (hG.nr hR) (l := l) (i := i) (m := j) hl hi (hG.fab (hFi i hi)) (by rw [hG.ke]; exact hSi) hjl ?_
      dsimp only [ax_ps]
      rw [hc]
      refine xist_8 (q := 170) d_90_168 rfl ?_
      refine xald_0 (q := 171) d_90_170 rfl ?_
      refine yg_met hn (q := 174) d_90_171 rfl fl_M_46 ?_
      refine xild_8 (q := 176) d_90_174 rfl ?_
      refine yl_met (q := 177) hn d_90_176 rfl (by omega) (by omega) ?_
      refine x_if_ne (q := 180) (t := 207) d_90_177 (by decide) rfl (fun c177 => ?_) (fun c177 => ?_)
      · rw [show ((c : Int)).toNat = c by omega, h4c] at c177
        refine xincz_7 (q := 210) d_90_207 rfl ?_
        refine x_goto (t := 152) d_90_210 (by decide) ?_
        rw [show (j : Int) + 1 = ((j + 1 : Nat) : Int) by omega]
        first
          | (exact ih (j + 1) J' G' _ _ (by omega) (fun r h12 h21 => by rw [f1 r h21, va_un _ _ _ h12]; exact hJ r h12 h21) (fun r h7 h8 h9 => by rw [f2 r h8 h9, va_un _ _ _ h7]; exact hG r h7 h8 h9) ⟨t1.new hcN hcm, s1, s2, fun x hx => by (rw [f2 7 (by decide) (by decide), va_us]; exact gt_met hcm (t4 x hx)), s3, by (rw [f1 12 (by decide), va_us, t6, List.length_cons]; omega), hne2, fun x hx => by (have q1 := s4 x; have q2 := t8b x hx; rw [va_un _ _ _ (by decide)] at q1; omega)⟩ h9)
          | (have hcm : c ∈ S.1 := (Decidable.byContradiction (fun z => by (rw [if_neg z] at c177; exact absurd rfl c177))); rw [mMeet_in hcm] at h9; exact ih (j + 1) J G S _ (by omega) hJ hG hT h9)
      · rw [show ((c : Int)).toNat = c by omega, h4c] at c177
        have hcm : c ∉ S.1 := fun z => by rw [if_pos z] at c177; exact absurd c177 (by decide)
        refine xald_0 (q := 181) d_90_180 rfl ?_
        refine yg_met hn (q := 184) d_90_181 rfl fl_M_46 ?_
        refine xild_8 (q := 186) d_90_184 rfl ?_
        refine x_iconst (q := 187) (v := zi (1)) d_90_186 rfl rfl ?_
        refine ys_met (q := 188) hn (Or.inr rfl) d_90_187 rfl (by omega) (by omega) ?_
        rw [show ((c : Int)).toNat = c by omega]
        refine xald_0 (q := 189) d_90_188 rfl ?_
        refine x_dup (q := 190) d_90_189 rfl rfl ?_
        refine yg_stepCount hn (q := 193) d_90_190 rfl fl_M_106 ?_
        refine x_iconst (q := 194) (v := zi (1)) d_90_193 rfl rfl ?_
        refine z_iadd (q := 195) d_90_194 rfl ?_
        refine yp_stepCount hn (q := 198) d_90_195 rfl fw_M_106 ?_
        refine xald_0 (q := 199) d_90_198 rfl ?_
        refine xild_8 (q := 201) d_90_199 rfl ?_
        refine xild_3 (q := 202) d_90_201 rfl ?_
        refine xild_4 (q := 204) d_90_202 rfl ?_
        refine xcV3 (q := 207) d_90_204 rfl lk_M_120 mo_94 ⟨by decide +kernel, by decide +kernel⟩ (by simp [Value.category]) (by decide +kernel) (by simp [Value.category]) (by omega) rfl ?_
        rw [if_neg hcm] at h4c
        have hcL : kg G0 o c ∉ S.2.1 := fun z => by
          obtain ⟨y, hy, e1⟩ := t1.2.2.2.1 _ z
          exact hcm (by rw [kf_inj hk hcN (t1.2.2.1 y hy) e1]; exact hy)
        have hcO : kg G0 o c ∉ S.2.2 := fun z => by
          obtain ⟨y, hy, e1⟩ := t1.2.2.2.2 _ z
          exact hcm (by rw [kf_inj hk hcN (t1.2.2.1 y hy) e1]; exact hy)
        have ek : kg (va_up G 7 (va_up (G 7) c 1)) o = kg G0 o := by
          rw [← hG.ke o]; unfold kg; rw [va_un _ _ _ (by decide)]
        refine t_meet hn (by rw [va_un _ _ _ (by decide)]; exact hJN) hN2 (o := o) (e := e) (x := c) ho (by unfold FAb; rw [va_un _ _ _ (by decide)]; exact hG.fab hFo) he he2 hcN (L := S.2.1) (O := S.2.2) (by rw [ek, va_un _ _ _ (by decide)]; exact t2) (by rw [ek, va_un _ _ _ (by decide)]; exact t3) (by rw [va_un _ _ _ (by decide)]; exact t5) t1.1 (by rw [ek]; exact hcL) (by rw [ek]; exact hcO) ?_
        intro J' G' f1 f2 s1 s2 s3 s4
        rw [ek] at s1 s2 s3
        dsimp only [ax_ps]
        rw [mMeet_new hcm] at h9
        have hne2 : (mM (kg G0 o) e c S.2.1 S.2.2).1 ≠ [] := by
          have := mMeet_ne (kf := kg G0 o) (x := c) he (Or.inl t7)
          rw [mMeet_new hcm] at this
          exact this
        refine xincz_7 (q := 210) d_90_207 rfl ?_
        refine x_goto (t := 152) d_90_210 (by decide) ?_
        rw [show (j : Int) + 1 = ((j + 1 : Nat) : Int) by omega]
        first
          | (exact ih (j + 1) J' G' _ _ (by omega) (fun r h12 h21 => by rw [f1 r h21, va_un _ _ _ h12]; exact hJ r h12 h21) (fun r h7 h8 h9 => by rw [f2 r h8 h9, va_un _ _ _ h7]; exact hG r h7 h8 h9) ⟨t1.new hcN hcm, s1, s2, fun x hx => by (rw [f2 7 (by decide) (by decide), va_us]; exact gt_met hcm (t4 x hx)), s3, by (rw [f1 12 (by decide), va_us, t6, List.length_cons]; omega), hne2, fun x hx => by (have q1 := s4 x; have q2 := t8b x hx; rw [va_un _ _ _ (by decide)] at q1; omega)⟩ h9)
          | (have hcm : c ∈ S.1 := (Decidable.byContradiction (fun z => by (rw [if_neg z] at c177; exact absurd rfl c177))); rw [mMeet_in hcm] at h9; exact ih (j + 1) J G S _ (by omega) hJ hG hT h9)
set_option maxHeartbeats 2000000 in
theorem lt_go {sc : ax_S} {σ : Nat → ax_C} {J0 : Nat → Int} {G0 : Nat → Nat → Int} {n bc bs : Nat} {K : ax_K} (hn : 38 ≤ n) {N : Nat} (hN : J0 7 = N) (hN2 : N ≤ 100) {R : Nat → Nat → List Nat} (hR : NR G0 R) {l o e : Nat} (hl : l < 5) (hS : ∀ i, i < N → RS (kg G0 i) (R i l) N) (hFi : ∀ i, i < N → FAb G0 N i) (ho : o ≤ 100) (hFo : FAb G0 N o) (he : 1 ≤ e) (he2 : e ≤ 100) {f : Nat} {s0 : Int} {S9 : mG} (k : ∀ (J' : Nat → Int) (G' : Nat → Nat → Int), FJ J0 J' → FG G0 G' → SB (G' 9) (kg G0 o) N S9.2.1 → (∀ x, x < 100 → G' 9 x = 0 ∨ G' 9 x = 1) → J' 12 = s0 + S9.1.length → K none (mg σ J' G', n, bc, bs)) : ∀ (d : Nat) (J : Nat → Int) (G : Nat → Nat → Int) (S : mG) (t6 t7 t8 : Option Value), N - S.1.length + S.2.2.length ≤ d → FJ J0 J → FG G0 G → GT J G (kg G0 o) e N s0 S → mGo (kg G0 o) (fun i => R i l) e d S = S9 → Ex sc 90 97 [some (.ref 22), some (.int (zi l)), some (.int (zi f)), some (.int (zi o)), some (.int (zi e)), some (.int (zi (outI S.2.2 true))), t6, t7, t8] [] (mg σ J G, n, bc, bs) K := by
  have hk : ∀ y, y < N → kg G0 o y % 100 = y := fun y hy => kg_mod (by omega)
  have hend : ∀ (J : Nat → Int) (G : Nat → Nat → Int) (S : mG) (t6 t7 t8 : Option Value), S.2.2 = [] → FJ J0 J → FG G0 G → GT J G (kg G0 o) e N s0 S → S = S9 → Ex sc 90 97 [some (.ref 22), some (.int (zi l)), some (.int (zi f)), some (.int (zi o)), some (.int (zi e)), some (.int (zi (outI S.2.2 true))), t6, t7, t8] [] (mg σ J G, n, bc, bs) K := by
    intro J G S t6 t7 t8 h0 hJ hG hT h9
    rw [h0, out_nil]
    subst h9
    refine xild_5 (q := 99) d_90_97 rfl ?_
    refine x_if_lt (q := 102) (t := 228) d_90_99 (by decide) rfl (fun c99 => ?_) (fun c99 => ?_)
    · rw [zi_lt0 (by omega) (by omega)] at c99
      refine x_vret d_90_228 rfl ?_
      exact k J G hJ hG hT.2.1 hT.2.2.2.2.2.2.2 hT.2.2.2.2.2.1
    · rw [zi_lt0 (by omega) (by omega)] at c99
      exact absurd c99 (by omega)
  intro d
  induction d with
  | zero =>
    intro J G S t6 t7 t8 hd hJ hG hT h9
    exact hend J G S t6 t7 t8 (List.length_eq_zero_iff.mp (by omega)) hJ hG hT h9
  | succ d ih =>
    intro J G S t6 t7 t8 hd hJ hG hT h9
    by_cases h0 : S.2.2 = []
    · refine hend J G S t6 t7 t8 h0 hJ hG hT ?_
      unfold mGo at h9
      rw [if_pos h0] at h9
      exact h9
    obtain ⟨t1, t2, t3, t4, t5, t6', t7', t8'⟩ := id hT
    obtain ⟨i, hi, ei, eo, em, hiL, hpop⟩ := t3.pop hk h0
    have hJN : J 7 = N := by rw [hJ 7 (by decide) (by decide)]; exact hN
    have hlb := t1.1
    have hmN := nodup_le N S.1 t1.2.1 t1.2.2.1
    have hol : 0 < S.2.2.length := List.length_pos_iff.mpr h0
    obtain ⟨y, hy, ey, eo2, hyL, _⟩ := t2.cut hk t7'
    have hlp : 0 < S.2.1.length := List.length_pos_iff.mpr t7'
    have hG1 : FG G0 (va_up G 8 (va_up (G 8) i 0)) := fun r h7 h8 h9 => by rw [va_un _ _ _ h8]; exact hG r h7 h8 h9
    rw [eo]
    unfold mGo at h9
    rw [if_neg h0, em] at h9
    have hgt : GT J (va_up G 8 (va_up (G 8) i 0)) (kg G0 o) e N s0 (S.1, S.2.1, S.2.2.tail) := ⟨⟨t1.1, t1.2.1, t1.2.2.1, t1.2.2.2.1, fun k hk => t1.2.2.2.2 k (List.mem_of_mem_tail hk)⟩, t2, by rw [va_us]; exact hpop, fun x hx => by rw [va_un _ _ _ (by decide)]; exact t4 x hx, t5, t6', t7', t8'⟩
    have rest : ¬ (e ≤ S.2.1.length ∧ lastLt S.2.1 (S.2.2.getD 0 0)) → Ex sc 90 140 [some (.ref 22), some (.int (zi l)), some (.int (zi f)), some (.int (zi o)), some (.int (zi e)), some (.int (zi i)), t6, t7, t8] [] (mg σ J (va_up G 8 (va_up (G 8) i 0)), n, bc, bs) K := by
      intro hcut
      rw [if_neg hcut] at h9
      have hSi := hS i hi
      have hlen := nodup_le N (R i l) hSi.nodup hSi.2
      generalize hSm : mMeets (kg G0 o) e (R i l) (S.1, S.2.1, S.2.2.tail) = Sm at h9
      have hpot := mMeets_pot (kg G0 o) e (R i l) (S.1, S.2.1, S.2.2.tail)
      rw [hSm] at hpot
      have hpot : Sm.2.2.length + S.1.length ≤ Sm.1.length + S.2.2.tail.length := hpot
      rw [List.length_tail] at hpot
      refine xald_0 (q := 141) d_90_140 rfl ?_
      refine xild_1 (q := 142) d_90_141 rfl ?_
      refine xild_5 (q := 144) d_90_142 rfl ?_
      refine xcV2 (q := 147) d_90_144 rfl lk_M_113 mo_91 ⟨by decide +kernel, by decide +kernel⟩ (by simp [Value.category]) (by decide +kernel) (by simp [Value.category]) (by omega) rfl ?_
      refine t_nearCount hn hJN hN2 (hG1.nr hR) (l := l) (i := i) hl (by omega) hSi.nodup hSi.2 ?_
      dsimp only [ax_ps]
      refine xist_6 (q := 149) d_90_147 rfl ?_
      refine x_iconst (q := 150) (v := zi (0)) d_90_149 rfl rfl ?_
      refine xist_7 (q := 152) d_90_150 rfl ?_
      refine lt_goIn hn hN hN2 hR hl hS hFi ho hFo he he2 hi (S9 := Sm) ?_ (R i l).length 0 J _ (S.1, S.2.1, S.2.2.tail) _ (Nat.zero_add _) hJ hG1 hgt hSm
      intro J' G' t7 t8 hJ' hG' hT'
      refine xald_0 (q := 214) d_90_213 rfl ?_
      refine xald_0 (q := 215) d_90_214 rfl ?_
      refine yg_open hn (q := 218) d_90_215 rfl fl_M_49 ?_
      refine xild_3 (q := 219) d_90_218 rfl ?_
      refine x_iconst (q := 220) (v := zi (1)) d_90_219 rfl rfl ?_
      refine xcV3 (q := 223) d_90_220 rfl lk_M_109 mo_82 ⟨by decide +kernel, by decide +kernel⟩ (by simp [Value.category]) (by decide +kernel) (by simp [Value.category]) (by omega) rfl ?_
      refine t_outer (r := 8) hn (by rw [hJ' 7 (by decide) (by decide)]; exact hN) hN2 (by unfold mBool; decide) ho (hG'.fab hFo) (by rw [hG'.ke]; exact hT'.2.2.1) true rfl ?_
      dsimp only [ax_ps]
      refine xist_5 (q := 225) d_90_223 rfl ?_
      refine x_goto (t := 97) d_90_225 (by decide) ?_
      have hm2 := nodup_le N Sm.1 hT'.1.2.1 hT'.1.2.2.1
      exact ih J' G' Sm _ _ _ (by omega) hJ' hG' hT' h9
    refine xild_5 (q := 99) d_90_97 rfl ?_
    refine x_if_lt (q := 102) (t := 228) d_90_99 (by decide) rfl (fun c99 => ?_) (fun c99 => ?_)
    · rw [zi_lt0 (by omega) (by omega)] at c99
      exact absurd c99 (by omega)
    · rw [zi_lt0 (by omega) (by omega)] at c99
      refine xald_0 (q := 103) d_90_102 rfl ?_
      refine yg_open hn (q := 106) d_90_103 rfl fl_M_49 ?_
      refine xild_5 (q := 108) d_90_106 rfl ?_
      refine x_iconst (q := 109) (v := zi (0)) d_90_108 rfl rfl ?_
      refine ys_open (q := 110) hn (Or.inl rfl) d_90_109 rfl (by omega) (by omega) ?_
      rw [show ((i : Int)).toNat = i by omega]
      refine xald_0 (q := 111) d_90_110 rfl ?_
      refine yg_foundCount hn (q := 114) d_90_111 rfl fl_M_103 ?_
      refine xild_4 (q := 116) d_90_114 rfl ?_
      refine x_icmp_ne (q := 119) (t := 140) d_90_116 (by decide) rfl (fun c116 => ?_) (fun c116 => ?_)
      · rw [t5, zi_eq (by omega) (by omega) (by omega) (by omega)] at c116
        first
          | (exact rest (fun z => c116 (by have := z.1; omega)))
          | (exact rest (fun z => by have z2 := z.2.2; rw [ey, ei] at z2; rw [if_pos z2] at c136; exact absurd c136 (by decide)))
      · rw [t5, zi_eq (by omega) (by omega) (by omega) (by omega)] at c116
        refine xald_0 (q := 120) d_90_119 rfl ?_
        refine xild_3 (q := 121) d_90_120 rfl ?_
        refine xald_0 (q := 122) d_90_121 rfl ?_
        refine xald_0 (q := 123) d_90_122 rfl ?_
        refine yg_found hn (q := 126) d_90_123 rfl fl_M_52 ?_
        refine xild_3 (q := 127) d_90_126 rfl ?_
        refine x_iconst (q := 128) (v := zi (0)) d_90_127 rfl rfl ?_
        refine xcV3 (q := 131) d_90_128 rfl lk_M_109 mo_82 ⟨by decide +kernel, by decide +kernel⟩ (by simp [Value.category]) (by decide +kernel) (by simp [Value.category]) (by omega) rfl ?_
        refine t_outer (r := 9) hn hJN hN2 (by unfold mBool; decide) ho (hG1.fab hFo) (L := S.2.1) (by rw [hG1.ke]; exact t2) false rfl ?_
        dsimp only [ax_ps]
        rw [eo2]
        refine xild_5 (q := 133) d_90_131 rfl ?_
        refine xcV3 (q := 136) d_90_133 rfl lk_M_100 mo_83 ⟨by decide +kernel, by decide +kernel⟩ (by simp [Value.category]) (by decide +kernel) (by simp [Value.category]) (by omega) rfl ?_
        refine t_before hn hN2 (o := o) (a := y) (b := i) ho hy hi (hG1.fab hFo) ?_
        dsimp only [ax_ps]
        rw [hG1.ke]
        refine x_if_eq (q := 139) (t := 140) d_90_136 (by decide) rfl (fun c136 => ?_) (fun c136 => ?_)
        · first
            | (exact rest (fun z => c116 (by have := z.1; omega)))
            | (exact rest (fun z => by have z2 := z.2.2; rw [ey, ei] at z2; rw [if_pos z2] at c136; exact absurd c136 (by decide)))
        · refine x_vret d_90_139 rfl ?_
          have hcut : e ≤ S.2.1.length ∧ lastLt S.2.1 (S.2.2.getD 0 0) := by
            refine ⟨by omega, hlp, ?_⟩
            rw [ey, ei]
            by_cases q : kg G0 o y < kg G0 o i
            · exact q
            · rw [if_neg q] at c136; exact absurd rfl c136
          rw [if_pos hcut] at h9
          subst h9
          exact k J _ hJ hG1 t2 t8' t6'
theorem go_fill {G : Nat → Nat → Int} {j f : Nat} {b : Int} (h : ∀ r, r = 7 ∨ r = 8 ∨ r = 9 → ∀ x, x < j → G r x = if x = f then 1 else 0) (hb : (if j = f then 1 else 0) = b) : ∀ r, r = 7 ∨ r = 8 ∨ r = 9 → ∀ x, x < j + 1 → va_up (va_up (va_up G 7 (va_up (G 7) j b)) 8 (va_up (va_up G 7 (va_up (G 7) j b) 8) j b)) 9 (va_up (va_up (va_up G 7 (va_up (G 7) j b)) 8 (va_up (va_up G 7 (va_up (G 7) j b) 8) j b) 9) j b) r x = if x = f then 1 else 0 := by
  intro r hr x hx
  have key : ∀ g : Nat → Int, (∀ x, x < j → g x = if x = f then 1 else 0) → va_up g j b x = if x = f then 1 else 0 := by
    intro g hg
    by_cases e : x = j
    · subst e
      rw [va_us, hb]
    · rw [va_un _ _ _ e]
      exact hg x (by omega)
  rcases hr with rfl | rfl | rfl
  · rw [va_un _ _ _ (by decide), va_un _ _ _ (by decide), va_us]; exact key _ (h 7 (by decide))
  · show va_up (G 8) j b x = _; exact key _ (h 8 (by decide))
  · show va_up (G 9) j b x = _; exact key _ (h 9 (by decide))
set_option maxHeartbeats 2000000 in
theorem lt_goFill {sc : ax_S} {σ : Nat → ax_C} {J : Nat → Int} {G0 : Nat → Nat → Int} {n bc bs : Nat} {K : ax_K} (hn : 38 ≤ n) {l o e f : Nat} (hf : f < 100) (kk : ∀ (G : Nat → Nat → Int), FG G0 G → (∀ r, r = 7 ∨ r = 8 ∨ r = 9 → ∀ x, x < 100 → G r x = if x = f then 1 else 0) → Ex sc 90 70 [some (.ref 22), some (.int (zi l)), some (.int (zi f)), some (.int (zi o)), some (.int (zi e)), some (.int (zi 100)), none, none, none] [] (mg σ J G, n, bc, bs) K) :
    ∀ (d j : Nat) (G : Nat → Nat → Int), j + d = 100 → FG G0 G → (∀ r, r = 7 ∨ r = 8 ∨ r = 9 → ∀ x, x < j → G r x = if x = f then 1 else 0) → Ex sc 90 3 [some (.ref 22), some (.int (zi l)), some (.int (zi f)), some (.int (zi o)), some (.int (zi e)), some (.int (zi j)), none, none, none] [] (mg σ J G, n, bc, bs) K := by
  intro d
  induction d with
  | zero =>
    intro j G hj hG h
    have hj1 : j = 100 := by omega
    subst hj1
    refine xild_5 (q := 5) d_90_3 rfl ?_
    refine x_bipush (q := 7) (v := zi (100)) d_90_5 rfl (by decide) ?_
    refine x_icmp_ge (q := 10) (t := 70) d_90_7 (by decide) rfl (fun c7 => ?_) (fun c7 => ?_)
    · rw [zi_le (by omega) (by omega) (by omega) (by omega)] at c7
      exact kk G hG h
    · rw [zi_le (by omega) (by omega) (by omega) (by omega)] at c7
      exact absurd c7 (by omega)
  | succ d ih =>
    intro j G hj hG h
    refine xild_5 (q := 5) d_90_3 rfl ?_
    refine x_bipush (q := 7) (v := zi (100)) d_90_5 rfl (by decide) ?_
    refine x_icmp_ge (q := 10) (t := 70) d_90_7 (by decide) rfl (fun c7 => ?_) (fun c7 => ?_)
    · rw [zi_le (by omega) (by omega) (by omega) (by omega)] at c7
      exact absurd c7 (by omega)
    · rw [zi_le (by omega) (by omega) (by omega) (by omega)] at c7
      refine xald_0 (q := 11) d_90_10 rfl ?_
      refine yg_met hn (q := 14) d_90_11 rfl fl_M_46 ?_
      refine xild_5 (q := 16) d_90_14 rfl ?_
      refine xild_5 (q := 18) d_90_16 rfl ?_
      refine xild_2 (q := 19) d_90_18 rfl ?_
      refine x_icmp_ne (q := 22) (t := 26) d_90_19 (by decide) rfl (fun c19 => ?_) (fun c19 => ?_)
      · rw [zi_eq (by omega) (by omega) (by omega) (by omega)] at c19
        refine x_iconst (q := 27) (v := zi (0)) d_90_26 rfl rfl ?_
        refine ys_met (q := 28) hn (by decide) d_90_27 rfl (by omega) (by omega) ?_
        refine xald_0 (q := 29) d_90_28 rfl ?_
        refine yg_open hn (q := 32) d_90_29 rfl fl_M_49 ?_
        refine xild_5 (q := 34) d_90_32 rfl ?_
        refine xild_5 (q := 36) d_90_34 rfl ?_
        refine xild_2 (q := 37) d_90_36 rfl ?_
        refine x_icmp_ne (q := 40) (t := 44) d_90_37 (by decide) rfl (fun c37 => ?_) (fun c37 => ?_)
        · rw [zi_eq (by omega) (by omega) (by omega) (by omega)] at c37
          refine x_iconst (q := 45) (v := zi (0)) d_90_44 rfl rfl ?_
          refine ys_open (q := 46) hn (by decide) d_90_45 rfl (by omega) (by omega) ?_
          refine xald_0 (q := 47) d_90_46 rfl ?_
          refine yg_found hn (q := 50) d_90_47 rfl fl_M_52 ?_
          refine xild_5 (q := 52) d_90_50 rfl ?_
          refine xild_5 (q := 54) d_90_52 rfl ?_
          refine xild_2 (q := 55) d_90_54 rfl ?_
          refine x_icmp_ne (q := 58) (t := 62) d_90_55 (by decide) rfl (fun c55 => ?_) (fun c55 => ?_)
          · rw [zi_eq (by omega) (by omega) (by omega) (by omega)] at c55
            refine x_iconst (q := 63) (v := zi (0)) d_90_62 rfl rfl ?_
            refine ys_found (q := 64) hn (by decide) d_90_63 rfl (by omega) (by omega) ?_
            refine xincz_5 (q := 67) d_90_64 rfl ?_
            refine x_goto (t := 3) d_90_67 (by decide) ?_
            first
              | (exact absurd c19 c37)
              | (exact absurd c37 c19)
              | (exact absurd c19 c55)
              | (exact absurd c55 c19)
              | (rw [show (j : Int) + 1 = ((j + 1 : Nat) : Int) by omega, show ((j : Int)).toNat = j by omega]; refine ih (j + 1) _ (by omega) (fun r h7 h8 h9 => by rw [va_un _ _ _ h9, va_un _ _ _ h8, va_un _ _ _ h7]; exact hG r h7 h8 h9) ?_; exact go_fill h (if_pos (by omega)))
              | (rw [show (j : Int) + 1 = ((j + 1 : Nat) : Int) by omega, show ((j : Int)).toNat = j by omega]; refine ih (j + 1) _ (by omega) (fun r h7 h8 h9 => by rw [va_un _ _ _ h9, va_un _ _ _ h8, va_un _ _ _ h7]; exact hG r h7 h8 h9) ?_; exact go_fill h (if_neg (by omega)))
          · rw [zi_eq (by omega) (by omega) (by omega) (by omega)] at c55
            refine x_iconst (q := 59) (v := zi (1)) d_90_58 rfl rfl ?_
            refine x_goto (t := 63) d_90_59 (by decide) ?_
            refine ys_found (q := 64) hn (by decide) d_90_63 rfl (by omega) (by omega) ?_
            refine xincz_5 (q := 67) d_90_64 rfl ?_
            refine x_goto (t := 3) d_90_67 (by decide) ?_
            first
              | (exact absurd c19 c37)
              | (exact absurd c37 c19)
              | (exact absurd c19 c55)
              | (exact absurd c55 c19)
              | (rw [show (j : Int) + 1 = ((j + 1 : Nat) : Int) by omega, show ((j : Int)).toNat = j by omega]; refine ih (j + 1) _ (by omega) (fun r h7 h8 h9 => by rw [va_un _ _ _ h9, va_un _ _ _ h8, va_un _ _ _ h7]; exact hG r h7 h8 h9) ?_; exact go_fill h (if_pos (by omega)))
              | (rw [show (j : Int) + 1 = ((j + 1 : Nat) : Int) by omega, show ((j : Int)).toNat = j by omega]; refine ih (j + 1) _ (by omega) (fun r h7 h8 h9 => by rw [va_un _ _ _ h9, va_un _ _ _ h8, va_un _ _ _ h7]; exact hG r h7 h8 h9) ?_; exact go_fill h (if_neg (by omega)))
        · rw [zi_eq (by omega) (by omega) (by omega) (by omega)] at c37
          refine x_iconst (q := 41) (v := zi (1)) d_90_40 rfl rfl ?_
          refine x_goto (t := 45) d_90_41 (by decide) ?_
          refine ys_open (q := 46) hn (by decide) d_90_45 rfl (by omega) (by omega) ?_
          refine xald_0 (q := 47) d_90_46 rfl ?_
          refine yg_found hn (q := 50) d_90_47 rfl fl_M_52 ?_
          refine xild_5 (q := 52) d_90_50 rfl ?_
          refine xild_5 (q := 54) d_90_52 rfl ?_
          refine xild_2 (q := 55) d_90_54 rfl ?_
          refine x_icmp_ne (q := 58) (t := 62) d_90_55 (by decide) rfl (fun c55 => ?_) (fun c55 => ?_)
          · rw [zi_eq (by omega) (by omega) (by omega) (by omega)] at c55
            refine x_iconst (q := 63) (v := zi (0)) d_90_62 rfl rfl ?_
            refine ys_found (q := 64) hn (by decide) d_90_63 rfl (by omega) (by omega) ?_
            refine xincz_5 (q := 67) d_90_64 rfl ?_
            refine x_goto (t := 3) d_90_67 (by decide) ?_
            first
              | (exact absurd c19 c37)
              | (exact absurd c37 c19)
              | (exact absurd c19 c55)
              | (exact absurd c55 c19)
              | (rw [show (j : Int) + 1 = ((j + 1 : Nat) : Int) by omega, show ((j : Int)).toNat = j by omega]; refine ih (j + 1) _ (by omega) (fun r h7 h8 h9 => by rw [va_un _ _ _ h9, va_un _ _ _ h8, va_un _ _ _ h7]; exact hG r h7 h8 h9) ?_; exact go_fill h (if_pos (by omega)))
              | (rw [show (j : Int) + 1 = ((j + 1 : Nat) : Int) by omega, show ((j : Int)).toNat = j by omega]; refine ih (j + 1) _ (by omega) (fun r h7 h8 h9 => by rw [va_un _ _ _ h9, va_un _ _ _ h8, va_un _ _ _ h7]; exact hG r h7 h8 h9) ?_; exact go_fill h (if_neg (by omega)))
          · rw [zi_eq (by omega) (by omega) (by omega) (by omega)] at c55
            refine x_iconst (q := 59) (v := zi (1)) d_90_58 rfl rfl ?_
            refine x_goto (t := 63) d_90_59 (by decide) ?_
            refine ys_found (q := 64) hn (by decide) d_90_63 rfl (by omega) (by omega) ?_
            refine xincz_5 (q := 67) d_90_64 rfl ?_
            refine x_goto (t := 3) d_90_67 (by decide) ?_
            first
              | (exact absurd c19 c37)
              | (exact absurd c37 c19)
              | (exact absurd c19 c55)
              | (exact absurd c55 c19)
              | (rw [show (j : Int) + 1 = ((j + 1 : Nat) : Int) by omega, show ((j : Int)).toNat = j by omega]; refine ih (j + 1) _ (by omega) (fun r h7 h8 h9 => by rw [va_un _ _ _ h9, va_un _ _ _ h8, va_un _ _ _ h7]; exact hG r h7 h8 h9) ?_; exact go_fill h (if_pos (by omega)))
              | (rw [show (j : Int) + 1 = ((j + 1 : Nat) : Int) by omega, show ((j : Int)).toNat = j by omega]; refine ih (j + 1) _ (by omega) (fun r h7 h8 h9 => by rw [va_un _ _ _ h9, va_un _ _ _ h8, va_un _ _ _ h7]; exact hG r h7 h8 h9) ?_; exact go_fill h (if_neg (by omega)))
      · rw [zi_eq (by omega) (by omega) (by omega) (by omega)] at c19
        refine x_iconst (q := 23) (v := zi (1)) d_90_22 rfl rfl ?_
        refine x_goto (t := 27) d_90_23 (by decide) ?_
        refine ys_met (q := 28) hn (by decide) d_90_27 rfl (by omega) (by omega) ?_
        refine xald_0 (q := 29) d_90_28 rfl ?_
        refine yg_open hn (q := 32) d_90_29 rfl fl_M_49 ?_
        refine xild_5 (q := 34) d_90_32 rfl ?_
        refine xild_5 (q := 36) d_90_34 rfl ?_
        refine xild_2 (q := 37) d_90_36 rfl ?_
        refine x_icmp_ne (q := 40) (t := 44) d_90_37 (by decide) rfl (fun c37 => ?_) (fun c37 => ?_)
        · rw [zi_eq (by omega) (by omega) (by omega) (by omega)] at c37
          refine x_iconst (q := 45) (v := zi (0)) d_90_44 rfl rfl ?_
          refine ys_open (q := 46) hn (by decide) d_90_45 rfl (by omega) (by omega) ?_
          refine xald_0 (q := 47) d_90_46 rfl ?_
          refine yg_found hn (q := 50) d_90_47 rfl fl_M_52 ?_
          refine xild_5 (q := 52) d_90_50 rfl ?_
          refine xild_5 (q := 54) d_90_52 rfl ?_
          refine xild_2 (q := 55) d_90_54 rfl ?_
          refine x_icmp_ne (q := 58) (t := 62) d_90_55 (by decide) rfl (fun c55 => ?_) (fun c55 => ?_)
          · rw [zi_eq (by omega) (by omega) (by omega) (by omega)] at c55
            refine x_iconst (q := 63) (v := zi (0)) d_90_62 rfl rfl ?_
            refine ys_found (q := 64) hn (by decide) d_90_63 rfl (by omega) (by omega) ?_
            refine xincz_5 (q := 67) d_90_64 rfl ?_
            refine x_goto (t := 3) d_90_67 (by decide) ?_
            first
              | (exact absurd c19 c37)
              | (exact absurd c37 c19)
              | (exact absurd c19 c55)
              | (exact absurd c55 c19)
              | (rw [show (j : Int) + 1 = ((j + 1 : Nat) : Int) by omega, show ((j : Int)).toNat = j by omega]; refine ih (j + 1) _ (by omega) (fun r h7 h8 h9 => by rw [va_un _ _ _ h9, va_un _ _ _ h8, va_un _ _ _ h7]; exact hG r h7 h8 h9) ?_; exact go_fill h (if_pos (by omega)))
              | (rw [show (j : Int) + 1 = ((j + 1 : Nat) : Int) by omega, show ((j : Int)).toNat = j by omega]; refine ih (j + 1) _ (by omega) (fun r h7 h8 h9 => by rw [va_un _ _ _ h9, va_un _ _ _ h8, va_un _ _ _ h7]; exact hG r h7 h8 h9) ?_; exact go_fill h (if_neg (by omega)))
          · rw [zi_eq (by omega) (by omega) (by omega) (by omega)] at c55
            refine x_iconst (q := 59) (v := zi (1)) d_90_58 rfl rfl ?_
            refine x_goto (t := 63) d_90_59 (by decide) ?_
            refine ys_found (q := 64) hn (by decide) d_90_63 rfl (by omega) (by omega) ?_
            refine xincz_5 (q := 67) d_90_64 rfl ?_
            refine x_goto (t := 3) d_90_67 (by decide) ?_
            first
              | (exact absurd c19 c37)
              | (exact absurd c37 c19)
              | (exact absurd c19 c55)
              | (exact absurd c55 c19)
              | (rw [show (j : Int) + 1 = ((j + 1 : Nat) : Int) by omega, show ((j : Int)).toNat = j by omega]; refine ih (j + 1) _ (by omega) (fun r h7 h8 h9 => by rw [va_un _ _ _ h9, va_un _ _ _ h8, va_un _ _ _ h7]; exact hG r h7 h8 h9) ?_; exact go_fill h (if_pos (by omega)))
              | (rw [show (j : Int) + 1 = ((j + 1 : Nat) : Int) by omega, show ((j : Int)).toNat = j by omega]; refine ih (j + 1) _ (by omega) (fun r h7 h8 h9 => by rw [va_un _ _ _ h9, va_un _ _ _ h8, va_un _ _ _ h7]; exact hG r h7 h8 h9) ?_; exact go_fill h (if_neg (by omega)))
        · rw [zi_eq (by omega) (by omega) (by omega) (by omega)] at c37
          refine x_iconst (q := 41) (v := zi (1)) d_90_40 rfl rfl ?_
          refine x_goto (t := 45) d_90_41 (by decide) ?_
          refine ys_open (q := 46) hn (by decide) d_90_45 rfl (by omega) (by omega) ?_
          refine xald_0 (q := 47) d_90_46 rfl ?_
          refine yg_found hn (q := 50) d_90_47 rfl fl_M_52 ?_
          refine xild_5 (q := 52) d_90_50 rfl ?_
          refine xild_5 (q := 54) d_90_52 rfl ?_
          refine xild_2 (q := 55) d_90_54 rfl ?_
          refine x_icmp_ne (q := 58) (t := 62) d_90_55 (by decide) rfl (fun c55 => ?_) (fun c55 => ?_)
          · rw [zi_eq (by omega) (by omega) (by omega) (by omega)] at c55
            refine x_iconst (q := 63) (v := zi (0)) d_90_62 rfl rfl ?_
            refine ys_found (q := 64) hn (by decide) d_90_63 rfl (by omega) (by omega) ?_
            refine xincz_5 (q := 67) d_90_64 rfl ?_
            refine x_goto (t := 3) d_90_67 (by decide) ?_
            first
              | (exact absurd c19 c37)
              | (exact absurd c37 c19)
              | (exact absurd c19 c55)
              | (exact absurd c55 c19)
              | (rw [show (j : Int) + 1 = ((j + 1 : Nat) : Int) by omega, show ((j : Int)).toNat = j by omega]; refine ih (j + 1) _ (by omega) (fun r h7 h8 h9 => by rw [va_un _ _ _ h9, va_un _ _ _ h8, va_un _ _ _ h7]; exact hG r h7 h8 h9) ?_; exact go_fill h (if_pos (by omega)))
              | (rw [show (j : Int) + 1 = ((j + 1 : Nat) : Int) by omega, show ((j : Int)).toNat = j by omega]; refine ih (j + 1) _ (by omega) (fun r h7 h8 h9 => by rw [va_un _ _ _ h9, va_un _ _ _ h8, va_un _ _ _ h7]; exact hG r h7 h8 h9) ?_; exact go_fill h (if_neg (by omega)))
          · rw [zi_eq (by omega) (by omega) (by omega) (by omega)] at c55
            refine x_iconst (q := 59) (v := zi (1)) d_90_58 rfl rfl ?_
            refine x_goto (t := 63) d_90_59 (by decide) ?_
            refine ys_found (q := 64) hn (by decide) d_90_63 rfl (by omega) (by omega) ?_
            refine xincz_5 (q := 67) d_90_64 rfl ?_
            refine x_goto (t := 3) d_90_67 (by decide) ?_
            first
              | (exact absurd c19 c37)
              | (exact absurd c37 c19)
              | (exact absurd c19 c55)
              | (exact absurd c55 c19)
              | (rw [show (j : Int) + 1 = ((j + 1 : Nat) : Int) by omega, show ((j : Int)).toNat = j by omega]; refine ih (j + 1) _ (by omega) (fun r h7 h8 h9 => by rw [va_un _ _ _ h9, va_un _ _ _ h8, va_un _ _ _ h7]; exact hG r h7 h8 h9) ?_; exact go_fill h (if_pos (by omega)))
              | (rw [show (j : Int) + 1 = ((j + 1 : Nat) : Int) by omega, show ((j : Int)).toNat = j by omega]; refine ih (j + 1) _ (by omega) (fun r h7 h8 h9 => by rw [va_un _ _ _ h9, va_un _ _ _ h8, va_un _ _ _ h7]; exact hG r h7 h8 h9) ?_; exact go_fill h (if_neg (by omega)))
set_option maxHeartbeats 2000000 in
theorem t_go {sc : ax_S} {σ : Nat → ax_C} {J : Nat → Int} {G : Nat → Nat → Int} {n bc bs : Nat} {K : ax_K} (hn : 38 ≤ n) {N : Nat} (hN : J 7 = N) (hN2 : N ≤ 100) {R : Nat → Nat → List Nat} (hR : NR G R) {l o e f : Nat} (hl : l < 5) (hS : ∀ i, i < N → RS (kg G i) (R i l) N) (hFi : ∀ i, i < N → FAb G N i) (ho : o ≤ 100) (hFo : FAb G N o) (he : 1 ≤ e) (he2 : e ≤ 100) (hf : f < N)
    (k : ∀ (J' : Nat → Int) (G' : Nat → Nat → Int), FJ J J' → FG G G' → SB (G' 9) (kg G o) N (mGoing (kg G o) (fun i => R i l) e f).2.1 → (∀ x, x < 100 → G' 9 x = 0 ∨ G' 9 x = 1) → J' 12 = J 12 + (mGoing (kg G o) (fun i => R i l) e f).1.length → K none (mg σ J' G', n, bc, bs)) : Ex sc 90 0 (ax_en 90 [.ref 22, .int (zi l), .int (zi f), .int (zi o), .int (zi e)]) [] (mg σ J G, n, bc, bs) K := by
  have hk : ∀ y, y < N → kg G o y % 100 = y := fun y hy => kg_mod (by omega)
  have hS1 : mMeet (kg G o) e f ([], [], []) = ([f], [kg G o f], [kg G o f]) := by
    unfold mMeet
    rw [if_neg List.not_mem_nil, if_pos (show ([] : List Nat).length < e ∨ _ from Or.inl he)]
    obtain ⟨e', rfl⟩ : ∃ e', e = e' + 1 := ⟨e - 1, by omega⟩
    simp [ins]
  show Ex sc 90 0 [some (.ref 22), some (.int (zi l)), some (.int (zi f)), some (.int (zi o)), some (.int (zi e)), none, none, none, none] [] (mg σ J G, n, bc, bs) K
  refine x_iconst (q := 1) (v := zi (0)) d_90_0 rfl rfl ?_
  refine xist_5 (q := 3) d_90_1 rfl ?_
  refine lt_goFill hn (by omega) ?_ 100 0 G (by omega) (fun _ _ _ _ => rfl) (fun _ _ x hx => absurd hx (Nat.not_lt_zero _))
  intro G' hG' h7
  have hsb : ∀ r, r = 7 ∨ r = 8 ∨ r = 9 → SB (G' r) (kg G o) N [kg G o f] := fun r hr => ⟨by simp, fun k hk => ⟨f, hf, List.mem_singleton.mp hk⟩, fun x hx => by
    rw [h7 r hr x (by omega)]
    by_cases e : x = f
    · rw [if_pos e, if_pos (by rw [e]; exact List.mem_singleton.mpr rfl)]
    · rw [if_neg e, if_neg (fun z => e (kf_inj hk hx hf (List.mem_singleton.mp z)))]⟩
  refine xald_0 (q := 71) d_90_70 rfl ?_
  refine x_iconst (q := 72) (v := zi (1)) d_90_71 rfl rfl ?_
  refine yp_foundCount hn (q := 75) d_90_72 rfl fw_M_103 ?_
  refine xald_0 (q := 76) d_90_75 rfl ?_
  refine x_dup (q := 77) d_90_76 rfl rfl ?_
  refine yg_stepCount hn (q := 80) d_90_77 rfl fl_M_106 ?_
  refine x_iconst (q := 81) (v := zi (1)) d_90_80 rfl rfl ?_
  refine z_iadd (q := 82) d_90_81 rfl ?_
  refine yp_stepCount hn (q := 85) d_90_82 rfl fw_M_106 ?_
  refine xald_0 (q := 86) d_90_85 rfl ?_
  refine xald_0 (q := 87) d_90_86 rfl ?_
  refine yg_open hn (q := 90) d_90_87 rfl fl_M_49 ?_
  refine xild_3 (q := 91) d_90_90 rfl ?_
  refine x_iconst (q := 92) (v := zi (1)) d_90_91 rfl rfl ?_
  refine xcV3 (q := 95) d_90_92 rfl lk_M_109 mo_82 ⟨by decide +kernel, by decide +kernel⟩ (by simp [Value.category]) (by decide +kernel) (by simp [Value.category]) (by omega) rfl ?_
  refine t_outer (r := 8) hn (by rw [va_un _ _ _ (by decide), va_un _ _ _ (by decide)]; exact hN) hN2 (by unfold mBool; decide) ho (hG'.fab hFo) (L := [kg G o f]) (by rw [hG'.ke]; exact hsb 8 (by decide)) true rfl ?_
  dsimp only [ax_ps]
  refine xist_5 (q := 97) d_90_95 rfl ?_
  refine lt_go (J0 := J) (G0 := G) (S9 := mGoing (kg G o) (fun i => R i l) e f) (s0 := J 12) hn hN hN2 hR hl hS hFi ho hFo he he2 k 100 _ G' ([f], [kg G o f], [kg G o f]) _ _ _ (by show N - 1 + 1 ≤ 100; omega) (fun r h12 h21 => by rw [va_un _ _ _ h12, va_un _ _ _ h21]) hG' ⟨⟨he, by simp, fun x hx => by rw [List.mem_singleton.mp hx]; exact hf, fun k hk => ⟨f, List.mem_singleton.mpr rfl, List.mem_singleton.mp hk⟩, fun k hk => ⟨f, List.mem_singleton.mpr rfl, List.mem_singleton.mp hk⟩⟩, hsb 9 (by decide), hsb 8 (by decide), fun x hx => ?_, ?_, ?_, by simp, fun x hx => by (rw [h7 9 (by decide) x hx]; split <;> omega)⟩ ?_
  · rw [h7 7 (by decide) x (by omega)]
    by_cases e : x = f
    · rw [if_pos e, if_pos (by rw [e]; exact List.mem_singleton.mpr rfl)]
    · rw [if_neg e, if_neg (fun z => e (List.mem_singleton.mp z))]
  · rw [va_un _ _ _ (by decide), va_us]; rfl
  · rw [va_us, va_un _ _ _ (by decide)]; rfl
  · unfold mGoing; rw [hS1]
