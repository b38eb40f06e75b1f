/-! THE REFERENCE: join -/
theorem RS_keys {kf : Nat → Nat} {N : Nat} {L : List Nat} (hk : ∀ y, y < N → kf y % 100 = y) (h1 : L.Pairwise (· < ·)) (h2 : ∀ k ∈ L, ∃ x, x < N ∧ k = kf x) : RS kf (L.map (· % 100)) N := by
  have e : (L.map (· % 100)).map kf = L := by
    rw [List.map_map]
    refine (List.map_congr_left (fun k hkk => ?_)).trans (List.map_id L)
    obtain ⟨x, hx, rfl⟩ := h2 k hkk
    show kf (kf x % 100) = kf x
    rw [hk x hx]
  refine ⟨by rw [e]; exact h1, fun x hx => ?_⟩
  obtain ⟨k, hkk, rfl⟩ := List.mem_map.mp hx
  obtain ⟨z, hz, rfl⟩ := h2 k hkk
  show kf z % 100 < N
  rw [hk z hz]
  exact hz
theorem mem_keys {kf : Nat → Nat} {N : Nat} {L : List Nat} (hk : ∀ y, y < N → kf y % 100 = y) (h2 : ∀ k ∈ L, ∃ x, x < N ∧ k = kf x) {x : Nat} (hx : x < N) : x ∈ L.map (· % 100) ↔ kf x ∈ L := by
  constructor
  · intro h
    obtain ⟨k, hkk, e⟩ := List.mem_map.mp h
    obtain ⟨y, hy, rfl⟩ := h2 k hkk
    have e : kf y % 100 = x := e
    rw [hk y hy] at e
    rw [← e]
    exact hkk
  · intro h
    exact List.mem_map.mpr ⟨kf x, h, hk x hx⟩
theorem mPool_slt {kf : Nat → Nat} {N : Nat} (hk : ∀ y, y < N → kf y % 100 = y) : ∀ (ys L : List Nat), L.Pairwise (· < ·) → ys.Nodup → (∀ y ∈ ys, y < N) → (∀ y ∈ ys, kf y ∉ L) → (mPool kf ys L).Pairwise (· < ·)
  | [], _, h, _, _, _ => h
  | y :: ys, L, h, hd, hl, hn => by
    have hd2 := List.nodup_cons.mp hd
    refine mPool_slt hk ys _ (ins_slt h (hn y List.mem_cons_self)) hd2.2 (fun z hz => hl z (List.mem_cons_of_mem _ hz)) (fun z hz q => ?_)
    rcases ins_mem.mp q with q | q
    · rw [kf_inj hk (hl z (List.mem_cons_of_mem _ hz)) (hl y List.mem_cons_self) q] at hz
      exact hd2.1 hz
    · exact hn z (List.mem_cons_of_mem _ hz) q
/-- the keys of a row and of one more -/
def mP1 (kf : Nat → Nat) (row : List Nat) (x : Nat) : List Nat := ins (kf x) (mPool kf row [])
theorem mP1_mem {kf : Nat → Nat} {row : List Nat} {x k : Nat} : k ∈ mP1 kf row x ↔ k = kf x ∨ ∃ y ∈ row, k = kf y := by
  unfold mP1
  rw [ins_mem, mPool_mem]
  constructor
  · rintro (h | h | h)
    · exact Or.inl h
    · exact absurd h List.not_mem_nil
    · exact Or.inr h
  · rintro (h | h)
    · exact Or.inl h
    · exact Or.inr (Or.inr h)
theorem mP1_slt {kf : Nat → Nat} {N : Nat} (hk : ∀ y, y < N → kf y % 100 = y) {row : List Nat} {x : Nat} (hd : row.Nodup) (hl : ∀ y ∈ row, y < N) (hx : x < N) (hxr : x ∉ row) : (mP1 kf row x).Pairwise (· < ·) := by
  refine ins_slt (mPool_slt hk row [] List.Pairwise.nil hd hl (fun _ _ => List.not_mem_nil)) (fun q => ?_)
  rcases (mPool_mem kf row [] _).mp q with q | ⟨y, hy, e⟩
  · exact absurd q List.not_mem_nil
  · exact hxr (by rw [kf_inj hk hx (hl y hy) e]; exact hy)
theorem mP1_num {kf : Nat → Nat} {N : Nat} {row : List Nat} {x : Nat} (hl : ∀ y ∈ row, y < N) (hx : x < N) : ∀ k ∈ mP1 kf row x, ∃ y, y < N ∧ k = kf y := fun k hk => by
  rcases mP1_mem.mp hk with h | ⟨y, hy, h⟩
  · exact ⟨x, hx, h⟩
  · exact ⟨y, hl y hy, h⟩
theorem mP1_in {kf : Nat → Nat} {N : Nat} (hk : ∀ y, y < N → kf y % 100 = y) {row : List Nat} {x y : Nat} (hl : ∀ y ∈ row, y < N) (hx : x < N) (hy : y < N) : kf y ∈ mP1 kf row x ↔ y = x ∨ y ∈ row := by
  rw [mP1_mem]
  constructor
  · rintro (h | ⟨z, hz, h⟩)
    · exact Or.inl (kf_inj hk hy hx h)
    · rw [kf_inj hk hy (hl z hz) h]; exact Or.inr hz
  · rintro (h | h)
    · exact Or.inl (by rw [h])
    · exact Or.inr ⟨y, h, rfl⟩
theorem mBack_p1 (kf : Nat → Nat) (fb : Nat → Nat → Nat) (car : Bool) (lim : Nat) (row : List Nat) (x : Nat) : mBack kf fb car lim row x = (if lim < (mP1 kf row x).length then mChoose fb car lim (mP1 kf row x) [] else mP1 kf row x).map (· % 100) := rfl
theorem mChoose_sub {fb : Nat → Nat → Nat} {car : Bool} {w : Nat} : ∀ (L T : List Nat), (mChoose fb car w L T).Sublist (T ++ L)
  | [], T => by
    show T.Sublist (T ++ [])
    rw [List.append_nil]
    exact List.Sublist.refl T
  | k :: ks, T => by
    unfold mChoose
    split
    · split
      · have := mChoose_sub (fb := fb) (car := car) (w := w) ks (T ++ [k])
        rwa [List.append_assoc] at this
      · exact (mChoose_sub ks T).trans (List.Sublist.append_left (List.sublist_cons_self k ks) T)
    · exact List.sublist_append_left T (k :: ks)
theorem mChoose_slt {fb : Nat → Nat → Nat} {car : Bool} {w : Nat} {L : List Nat} (h : L.Pairwise (· < ·)) : (mChoose fb car w L []).Pairwise (· < ·) := h.sublist (mChoose_sub L [])
theorem mChoose_in {fb : Nat → Nat → Nat} {car : Bool} {w : Nat} {L : List Nat} {k : Nat} (h : k ∈ mChoose fb car w L []) : k ∈ L := (mChoose_sub L []).subset h
theorem mBack_RS {kf : Nat → Nat} {N : Nat} (hk : ∀ y, y < N → kf y % 100 = y) {fb : Nat → Nat → Nat} {car : Bool} {lim : Nat} {row : List Nat} {x : Nat} (hd : row.Nodup) (hl : ∀ y ∈ row, y < N) (hx : x < N) (hxr : x ∉ row) : RS kf (mBack kf fb car lim row x) N := by
  have h1 := mP1_slt hk hd hl hx hxr
  have h2 := mP1_num (kf := kf) hl hx
  rw [mBack_p1]
  split
  · exact RS_keys hk (mChoose_slt h1) (fun k hkk => h2 k (mChoose_in hkk))
  · exact RS_keys hk h1 h2
theorem mLinks_eq {kfs : Nat → Nat → Nat} {fb : Nat → Nat → Nat} {car : Bool} {lim l x : Nat} : ∀ (ys : List Nat) (R : Nat → Nat → List Nat) (a b : Nat), ys.Nodup → mLinks kfs fb car lim l x ys R a b = if b = l ∧ a ∈ ys then mBack (kfs a) fb car lim (R a l) x else R a b
  | [], R, a, b, _ => by
    rw [if_neg (fun z => absurd z.2 List.not_mem_nil)]
    rfl
  | y :: ys, R, a, b, hd => by
    have hd2 := List.nodup_cons.mp hd
    show mLinks kfs fb car lim l x ys (rset R y l (mBack (kfs y) fb car lim (R y l) x)) a b = _
    rw [mLinks_eq ys _ a b hd2.2]
    by_cases hb : b = l
    · by_cases h1 : a ∈ ys
      · have hay : a ≠ y := fun e => hd2.1 (e ▸ h1)
        rw [if_pos ⟨hb, h1⟩, if_pos ⟨hb, List.mem_cons_of_mem _ h1⟩, rset_n _ _ _ _ (fun z => hay z.1)]
      · rw [if_neg (fun z => h1 z.2)]
        by_cases e : a = y
        · subst e
          rw [if_pos ⟨hb, List.mem_cons_self⟩, hb, rset_s]
        · rw [rset_n _ _ _ _ (fun z => e z.1), if_neg (fun z => (List.mem_cons.mp z.2).elim e h1)]
    · rw [if_neg (fun z => hb z.1), if_neg (fun z => hb z.1), rset_n _ _ _ _ (fun z => hb z.2)]
/-- the row of (l, a) is being set to ch, below j -/
def SR (g g0 ch : Nat → Int) (l a j : Nat) : Prop := ∀ l' a' b, l' < 5 → a' < 100 → b < 100 → g (10000 * l' + 100 * a' + b) = if l' = l ∧ a' = a ∧ b < j then ch b else g0 (10000 * l' + 100 * a' + b)
theorem SR.zero (g ch : Nat → Int) (l a : Nat) : SR g g ch l a 0 := fun l' a' b _ _ _ => by rw [if_neg (fun z => Nat.not_lt_zero _ z.2.2)]
theorem SR.step {g g0 ch : Nat → Int} {l a j : Nat} (h : SR g g0 ch l a j) (ha : a < 100) (hj : j < 100) : SR (va_up g (10000 * l + 100 * a + j) (ch j)) g0 ch l a (j + 1) := fun l' a' b hl' ha' hb => by
  by_cases e : l' = l ∧ a' = a ∧ b = j
  · obtain ⟨rfl, rfl, rfl⟩ := e
    rw [va_us, if_pos ⟨rfl, rfl, Nat.lt_succ_self _⟩]
  · rw [va_un _ _ _ (by omega), h l' a' b hl' ha' hb]
    by_cases q : l' = l ∧ a' = a ∧ b < j
    · rw [if_pos q, if_pos ⟨q.1, q.2.1, by omega⟩]
    · rw [if_neg q, if_neg (by omega)]
theorem SR.done {G G0 : Nat → Nat → Int} {ch : Nat → Int} {l a N : Nat} (hN : N ≤ 100) (h : SR (G 5) (G0 5) ch l a N) {R : Nat → Nat → List Nat} (hR : NR G0 R) (hlt : ∀ x ∈ R a l, x < N) {kf : Nat → Nat} (hk : ∀ y, y < N → kf y % 100 = y) {T : List Nat} (hT : SB ch kf N T) : NR G (rset R a l (T.map (· % 100))) := fun l' a' b hl' ha' hb => by
  rw [h l' a' b hl' ha' hb]
  by_cases e : a' = a ∧ l' = l
  · obtain ⟨rfl, rfl⟩ := e
    rw [rset_s]
    by_cases q : b < N
    · rw [if_pos ⟨rfl, rfl, q⟩, hT.2.2 b q]
      have := mem_keys hk hT.2.1 q
      by_cases q2 : kf b ∈ T
      · rw [if_pos q2, if_pos (this.mpr q2)]
      · rw [if_neg q2, if_neg (fun z => q2 (this.mp z))]
    · rw [if_neg (fun z => q z.2.2), hR l' a' b hl' ha' hb, if_neg (fun z => q (hlt b z)), if_neg (fun z => ?_)]
      obtain ⟨k, hkk, e⟩ := List.mem_map.mp z
      obtain ⟨x, hx, rfl⟩ := hT.2.1 k hkk
      have e : kf x % 100 = b := e
      rw [hk x hx] at e
      exact q (by omega)
  · rw [if_neg (fun z => e ⟨z.2.1, z.1⟩), rset_n _ _ _ _ e, hR l' a' b hl' ha' hb]
theorem NR.one {G : Nat → Nat → Int} {R : Nat → Nat → List Nat} (hR : NR G R) {l a x : Nat} (ha : a < 100) (hx : x < 100) {v : List Nat} (hv : ∀ b, b < 100 → (b ∈ v ↔ b = x ∨ b ∈ R a l)) : NR (va_up G 5 (va_up (G 5) (10000 * l + 100 * a + x) 1)) (rset R a l v) := fun l' a' b hl' ha' hb => by
  rw [va_us]
  by_cases e : a' = a ∧ l' = l
  · obtain ⟨rfl, rfl⟩ := e
    rw [rset_s]
    by_cases q : b = x
    · subst q
      rw [va_us, if_pos ((hv b hb).mpr (Or.inl rfl))]
    · rw [va_un _ _ _ (by omega), hR l' a' b hl' ha' hb]
      by_cases q2 : b ∈ R a' l'
      · rw [if_pos q2, if_pos ((hv b hb).mpr (Or.inr q2))]
      · rw [if_neg q2, if_neg (fun z => ((hv b hb).mp z).elim q q2)]
  · rw [va_un _ _ _ (by omega), rset_n _ _ _ _ e, hR l' a' b hl' ha' hb]
theorem NR.congr {G G' : Nat → Nat → Int} {R R' : Nat → Nat → List Nat} (hR : NR G R) (hG : G' 5 = G 5) (h : ∀ a b, a < 100 → b < 5 → R' a b = R a b) : NR G' R' := fun l a b hl ha hb => by
  rw [hG, h a l ha hl]
  exact hR l a b hl ha hb
def FC (G G' : Nat → Nat → Int) : Prop := ∀ r, r ≠ 5 → r ≠ 10 → r ≠ 11 → G' r = G r
theorem FC.ke {G G' : Nat → Nat → Int} (h : FC G G') (o : Nat) : kg G' o = kg G o := by
  unfold kg
  rw [h 6 (by decide) (by decide) (by decide)]
theorem FC.fe {G G' : Nat → Nat → Int} (h : FC G G') : fbT G' = fbT G := by
  unfold fbT
  rw [h 6 (by decide) (by decide) (by decide)]

set_option maxHeartbeats 2000000 in
theorem lt_jnA {sc : ax_S} {σ : Nat → ax_C} {J : Nat → Int} {G0 : Nat → Nat → Int} {n bc bs : Nat} {K : ax_K} (hn : 38 ≤ n) {N : Nat} (hN : J 7 = N) (hN2 : N ≤ 100) {l i most : Nat} (hl : l < 5) (hi : i < N) (h9 : ∀ x, x < 100 → G0 9 x = 0 ∨ G0 9 x = 1) (kk : ∀ (G : Nat → Nat → Int), (∀ r, r ≠ 10 → G r = G0 r) → (∀ x, x < 100 → G 10 x = G0 9 x) → Ex sc 95 48 [some (.ref 22), some (.int (zi l)), some (.int (zi i)), some (.int (zi most)), some (.int (zi 100)), none] [] (mg σ J G, n, bc, bs) K) :
    ∀ (d j : Nat) (G : Nat → Nat → Int), j + d = 100 → (∀ r, r ≠ 10 → G r = G0 r) → (∀ x, x < j → G 10 x = G0 9 x) → Ex sc 95 21 [some (.ref 22), some (.int (zi l)), some (.int (zi i)), some (.int (zi most)), some (.int (zi j)), none] [] (mg σ J G, n, bc, bs) K := by
  intro d
  induction d with
  | zero =>
    intro j G hj hG h
    have hj1 : j = 100 := by omega
    subst hj1
    refine xild_4 (q := 23) d_95_21 rfl ?_
    refine x_bipush (q := 25) (v := zi (100)) d_95_23 rfl (by decide) ?_
    refine x_icmp_ge (q := 28) (t := 48) d_95_25 (by decide) rfl (fun c25 => ?_) (fun c25 => ?_)
    · rw [zi_le (by omega) (by omega) (by omega) (by omega)] at c25
      exact kk G hG h
    · rw [zi_le (by omega) (by omega) (by omega) (by omega)] at c25
      exact absurd c25 (by omega)
  | succ d ih =>
    intro j G hj hG h
    have h9j := h9 j (by omega)
    have e9 : G 9 = G0 9 := hG 9 (by decide)
    refine xild_4 (q := 23) d_95_21 rfl ?_
    refine x_bipush (q := 25) (v := zi (100)) d_95_23 rfl (by decide) ?_
    refine x_icmp_ge (q := 28) (t := 48) d_95_25 (by decide) rfl (fun c25 => ?_) (fun c25 => ?_)
    · rw [zi_le (by omega) (by omega) (by omega) (by omega)] at c25
      exact absurd c25 (by omega)
    · rw [zi_le (by omega) (by omega) (by omega) (by omega)] at c25
      refine xald_0 (q := 29) d_95_28 rfl ?_
      refine yg_pool hn (q := 32) d_95_29 rfl fl_M_55 ?_
      refine xild_4 (q := 34) d_95_32 rfl ?_
      refine xald_0 (q := 35) d_95_34 rfl ?_
      refine yg_found hn (q := 38) d_95_35 rfl fl_M_52 ?_
      refine xild_4 (q := 40) d_95_38 rfl ?_
      refine yl_found (q := 41) hn d_95_40 rfl (by omega) (by omega) ?_
      rw [show ((j : Int)).toNat = j by omega, e9]
      refine ys_pool (q := 42) hn h9j d_95_41 rfl (by omega) (by omega) ?_
      refine xincz_4 (q := 45) d_95_42 rfl ?_
      refine x_goto (t := 21) d_95_45 (by decide) ?_
      rw [show (j : Int) + 1 = ((j + 1 : Nat) : Int) by omega, show ((j : Int)).toNat = j by omega]
      refine ih (j + 1) _ (by omega) (fun r hr => by rw [va_un _ _ _ hr]; exact hG r hr) (fun x hx => ?_)
      rw [va_us]
      by_cases e : x = j
      · rw [e, va_us]
      · rw [va_un _ _ _ e]; exact h x (by omega)
set_option maxHeartbeats 2000000 in
theorem lt_jnC {sc : ax_S} {σ : Nat → ax_C} {J : Nat → Int} {G0 : Nat → Nat → Int} {n bc bs : Nat} {K : ax_K} (hn : 38 ≤ n) {N : Nat} (hN : J 7 = N) (hN2 : N ≤ 100) {l i most : Nat} (hl : l < 5) (hi : i < N)  (hch : ∀ x, x < N → G0 11 x = 0 ∨ G0 11 x = 1) (kk : ∀ (G : Nat → Nat → Int) (t : Option Value), (∀ r, r ≠ 5 → G r = G0 r) → SR (G 5) (G0 5) (G0 11) l i N → Ex sc 95 87 [some (.ref 22), some (.int (zi l)), some (.int (zi i)), some (.int (zi most)), t, none] [] (mg σ J G, n, bc, bs) K) :
    ∀ (d j : Nat) (G : Nat → Nat → Int), j + d = N → (∀ r, r ≠ 5 → G r = G0 r) → SR (G 5) (G0 5) (G0 11) l i j → Ex sc 95 57 [some (.ref 22), some (.int (zi l)), some (.int (zi i)), some (.int (zi most)), some (.int (zi j)), none] [] (mg σ J G, n, bc, bs) K := by
  intro d
  induction d with
  | zero =>
    intro j G hj hG h
    have hj1 : j = N := by omega
    subst hj1
    refine xild_4 (q := 59) d_95_57 rfl ?_
    refine xald_0 (q := 60) d_95_59 rfl ?_
    refine yg_count hn (q := 63) d_95_60 rfl fl_M_76 ?_
    refine x_icmp_ge (q := 66) (t := 87) d_95_63 (by decide) rfl (fun c63 => ?_) (fun c63 => ?_)
    · rw [zi_le (by omega) (by omega) (by omega) (by omega)] at c63
      exact kk G _ hG h
    · rw [zi_le (by omega) (by omega) (by omega) (by omega)] at c63
      exact absurd c63 (by omega)
  | succ d ih =>
    intro j G hj hG h
    have hcj := hch j (by omega)
    have e11 : G 11 = G0 11 := hG 11 (by decide)
    refine xild_4 (q := 59) d_95_57 rfl ?_
    refine xald_0 (q := 60) d_95_59 rfl ?_
    refine yg_count hn (q := 63) d_95_60 rfl fl_M_76 ?_
    refine x_icmp_ge (q := 66) (t := 87) d_95_63 (by decide) rfl (fun c63 => ?_) (fun c63 => ?_)
    · rw [zi_le (by omega) (by omega) (by omega) (by omega)] at c63
      exact absurd c63 (by omega)
    · rw [zi_le (by omega) (by omega) (by omega) (by omega)] at c63
      refine xald_0 (q := 67) d_95_66 rfl ?_
      refine xild_1 (q := 68) d_95_67 rfl ?_
      refine xild_2 (q := 69) d_95_68 rfl ?_
      refine xild_4 (q := 71) d_95_69 rfl ?_
      refine xald_0 (q := 72) d_95_71 rfl ?_
      refine yg_chosen hn (q := 75) d_95_72 rfl fl_M_58 ?_
      refine xild_4 (q := 77) d_95_75 rfl ?_
      refine yl_chosen (q := 78) hn d_95_77 rfl (by omega) (by omega) ?_
      rw [show ((j : Int)).toNat = j by omega, e11]
      refine xcV4 (q := 81) d_95_78 rfl lk_M_128 mo_97 ⟨by decide +kernel, by decide +kernel⟩ (by simp [Value.category]) (by decide +kernel) (by simp [Value.category]) (by omega) rfl ?_
      refine t_setNear (l := l) (i := i) (j := j) hn hcj hl (by omega) (by omega) ?_
      dsimp only [ax_ps]
      refine xincz_4 (q := 84) d_95_81 rfl ?_
      refine x_goto (t := 57) d_95_84 (by decide) ?_
      rw [show (j : Int) + 1 = ((j + 1 : Nat) : Int) by omega]
      refine ih (j + 1) _ (by omega) (fun r hr => by rw [va_un _ _ _ hr]; exact hG r hr) ?_
      rw [va_us]
      exact h.step (by omega) (by omega)
set_option maxHeartbeats 2000000 in
theorem lt_jnE {sc : ax_S} {σ : Nat → ax_C} {J : Nat → Int} {G0 : Nat → Nat → Int} {n bc bs : Nat} {K : ax_K} (hn : 38 ≤ n) {N : Nat} (hN : J 7 = N) (hN2 : N ≤ 100) {l i most : Nat} (hl : l < 5) (hi : i < N) {a : Nat} (ha : a < N) (hch : ∀ x, x < N → G0 11 x = 0 ∨ G0 11 x = 1) (kk : ∀ (G : Nat → Nat → Int) (t : Option Value), (∀ r, r ≠ 5 → G r = G0 r) → SR (G 5) (G0 5) (G0 11) l a N → Ex sc 95 205 [some (.ref 22), some (.int (zi l)), some (.int (zi i)), some (.int (zi most)), some (.int (zi a)), t] [] (mg σ J G, n, bc, bs) K) :
    ∀ (d j : Nat) (G : Nat → Nat → Int), j + d = N → (∀ r, r ≠ 5 → G r = G0 r) → SR (G 5) (G0 5) (G0 11) l a j → Ex sc 95 174 [some (.ref 22), some (.int (zi l)), some (.int (zi i)), some (.int (zi most)), some (.int (zi a)), some (.int (zi j))] [] (mg σ J G, n, bc, bs) K := by
  intro d
  induction d with
  | zero =>
    intro j G hj hG h
    have hj1 : j = N := by omega
    subst hj1
    refine xild_5 (q := 176) d_95_174 rfl ?_
    refine xald_0 (q := 177) d_95_176 rfl ?_
    refine yg_count hn (q := 180) d_95_177 rfl fl_M_76 ?_
    refine x_icmp_ge (q := 183) (t := 205) d_95_180 (by decide) rfl (fun c180 => ?_) (fun c180 => ?_)
    · rw [zi_le (by omega) (by omega) (by omega) (by omega)] at c180
      exact kk G _ hG h
    · rw [zi_le (by omega) (by omega) (by omega) (by omega)] at c180
      exact absurd c180 (by omega)
  | succ d ih =>
    intro j G hj hG h
    have hcj := hch j (by omega)
    have e11 : G 11 = G0 11 := hG 11 (by decide)
    refine xild_5 (q := 176) d_95_174 rfl ?_
    refine xald_0 (q := 177) d_95_176 rfl ?_
    refine yg_count hn (q := 180) d_95_177 rfl fl_M_76 ?_
    refine x_icmp_ge (q := 183) (t := 205) d_95_180 (by decide) rfl (fun c180 => ?_) (fun c180 => ?_)
    · rw [zi_le (by omega) (by omega) (by omega) (by omega)] at c180
      exact absurd c180 (by omega)
    · rw [zi_le (by omega) (by omega) (by omega) (by omega)] at c180
      refine xald_0 (q := 184) d_95_183 rfl ?_
      refine xild_1 (q := 185) d_95_184 rfl ?_
      refine xild_4 (q := 187) d_95_185 rfl ?_
      refine xild_5 (q := 189) d_95_187 rfl ?_
      refine xald_0 (q := 190) d_95_189 rfl ?_
      refine yg_chosen hn (q := 193) d_95_190 rfl fl_M_58 ?_
      refine xild_5 (q := 195) d_95_193 rfl ?_
      refine yl_chosen (q := 196) hn d_95_195 rfl (by omega) (by omega) ?_
      rw [show ((j : Int)).toNat = j by omega, e11]
      refine xcV4 (q := 199) d_95_196 rfl lk_M_128 mo_97 ⟨by decide +kernel, by decide +kernel⟩ (by simp [Value.category]) (by decide +kernel) (by simp [Value.category]) (by omega) rfl ?_
      refine t_setNear (l := l) (i := a) (j := j) hn hcj hl (by omega) (by omega) ?_
      dsimp only [ax_ps]
      refine xincz_5 (q := 202) d_95_199 rfl ?_
      refine x_goto (t := 174) d_95_202 (by decide) ?_
      rw [show (j : Int) + 1 = ((j + 1 : Nat) : Int) by omega]
      refine ih (j + 1) _ (by omega) (fun r hr => by rw [va_un _ _ _ hr]; exact hG r hr) ?_
      rw [va_us]
      exact h.step (by omega) (by omega)
set_option maxHeartbeats 2000000 in
theorem lt_jnP {sc : ax_S} {σ : Nat → ax_C} {J : Nat → Int} {G0 : Nat → Nat → Int} {n bc bs : Nat} {K : ax_K} (hn : 38 ≤ n) {N : Nat} (hN : J 7 = N) (hN2 : N ≤ 100) {l i most : Nat} (hl : l < 5) (hi : i < N) {a : Nat} (ha : a < N) {R : Nat → Nat → List Nat} (hR : NR G0 R) (kk : ∀ (G : Nat → Nat → Int) (t : Option Value), (∀ r, r ≠ 10 → G r = G0 r) → (∀ x, x < N → G 10 x = if x ∈ R a l then 1 else 0) → Ex sc 95 164 [some (.ref 22), some (.int (zi l)), some (.int (zi i)), some (.int (zi most)), some (.int (zi a)), t] [] (mg σ J G, n, bc, bs) K) :
    ∀ (d j : Nat) (G : Nat → Nat → Int), j + d = N → (∀ r, r ≠ 10 → G r = G0 r) → (∀ x, x < j → G 10 x = if x ∈ R a l then 1 else 0) → Ex sc 95 133 [some (.ref 22), some (.int (zi l)), some (.int (zi i)), some (.int (zi most)), some (.int (zi a)), some (.int (zi j))] [] (mg σ J G, n, bc, bs) K := by
  intro d
  induction d with
  | zero =>
    intro j G hj hG h
    have hj1 : j = N := by omega
    subst hj1
    refine xild_5 (q := 135) d_95_133 rfl ?_
    refine xald_0 (q := 136) d_95_135 rfl ?_
    refine yg_count hn (q := 139) d_95_136 rfl fl_M_76 ?_
    refine x_icmp_ge (q := 142) (t := 164) d_95_139 (by decide) rfl (fun c139 => ?_) (fun c139 => ?_)
    · rw [zi_le (by omega) (by omega) (by omega) (by omega)] at c139
      exact kk G _ hG h
    · rw [zi_le (by omega) (by omega) (by omega) (by omega)] at c139
      exact absurd c139 (by omega)
  | succ d ih =>
    intro j G hj hG h
    have hR' : NR G R := hR.congr (hG 5 (by decide)) (fun _ _ _ _ => rfl)
    refine xild_5 (q := 135) d_95_133 rfl ?_
    refine xald_0 (q := 136) d_95_135 rfl ?_
    refine yg_count hn (q := 139) d_95_136 rfl fl_M_76 ?_
    refine x_icmp_ge (q := 142) (t := 164) d_95_139 (by decide) rfl (fun c139 => ?_) (fun c139 => ?_)
    · rw [zi_le (by omega) (by omega) (by omega) (by omega)] at c139
      exact absurd c139 (by omega)
    · rw [zi_le (by omega) (by omega) (by omega) (by omega)] at c139
      refine xald_0 (q := 143) d_95_142 rfl ?_
      refine yg_pool hn (q := 146) d_95_143 rfl fl_M_55 ?_
      refine xild_5 (q := 148) d_95_146 rfl ?_
      refine xald_0 (q := 149) d_95_148 rfl ?_
      refine xild_1 (q := 150) d_95_149 rfl ?_
      refine xild_4 (q := 152) d_95_150 rfl ?_
      refine xild_5 (q := 154) d_95_152 rfl ?_
      refine xcV3 (q := 157) d_95_154 rfl lk_M_96 mo_92 ⟨by decide +kernel, by decide +kernel⟩ (by simp [Value.category]) (by decide +kernel) (by simp [Value.category]) (by omega) rfl ?_
      refine t_isNear (l := l) (i := a) (j := j) hn hR' hl (by omega) (by omega) ?_
      dsimp only [ax_ps]
      refine ys_pool (q := 158) hn (by split <;> omega) d_95_157 rfl (by omega) (by omega) ?_
      refine xincz_5 (q := 161) d_95_158 rfl ?_
      refine x_goto (t := 133) d_95_161 (by decide) ?_
      rw [show (j : Int) + 1 = ((j + 1 : Nat) : Int) by omega, show ((j : Int)).toNat = j by omega]
      refine ih (j + 1) _ (by omega) (fun r hr => by rw [va_un _ _ _ hr]; exact hG r hr) (fun x hx => ?_)
      rw [va_us]
      by_cases e : x = j
      · rw [e, va_us]
      · rw [va_un _ _ _ e]; exact h x (by omega)
/-- the rows when the ways back have been set for the numbers below j -/
def mLk (kfs : Nat → Nat → Nat) (fb : Nat → Nat → Nat) (car : Bool) (lim l x : Nat) (row : List Nat) (R : Nat → Nat → List Nat) (j : Nat) : Nat → Nat → List Nat := fun a b => if b = l ∧ a ∈ row ∧ a < j then mBack (kfs a) fb car lim (R a l) x else R a b
theorem mLk_skip {kfs : Nat → Nat → Nat} {fb : Nat → Nat → Nat} {car : Bool} {lim l x : Nat} {row : List Nat} {R : Nat → Nat → List Nat} {j : Nat} (h : j ∉ row) (a b : Nat) : mLk kfs fb car lim l x row R (j + 1) a b = mLk kfs fb car lim l x row R j a b := by
  unfold mLk
  by_cases q : b = l ∧ a ∈ row ∧ a < j
  · rw [if_pos q, if_pos ⟨q.1, q.2.1, by omega⟩]
  · rw [if_neg q, if_neg (fun z => q ⟨z.1, z.2.1, ?_⟩)]
    have : a ≠ j := fun e => h (e ▸ z.2.1)
    omega
theorem mLk_step {kfs : Nat → Nat → Nat} {fb : Nat → Nat → Nat} {car : Bool} {lim l x : Nat} {row : List Nat} {R : Nat → Nat → List Nat} {j : Nat} (h : j ∈ row) (a b : Nat) : mLk kfs fb car lim l x row R (j + 1) a b = rset (mLk kfs fb car lim l x row R j) j l (mBack (kfs j) fb car lim (R j l) x) a b := by
  by_cases e : a = j ∧ b = l
  · obtain ⟨rfl, rfl⟩ := e
    rw [rset_s]
    unfold mLk
    rw [if_pos ⟨rfl, h, Nat.lt_succ_self _⟩]
  · rw [rset_n _ _ _ _ e]
    unfold mLk
    by_cases q : b = l ∧ a ∈ row ∧ a < j
    · rw [if_pos q, if_pos ⟨q.1, q.2.1, by omega⟩]
    · rw [if_neg q, if_neg (fun z => q ⟨z.1, z.2.1, ?_⟩)]
      have : a ≠ j := fun e2 => e ⟨e2, z.1⟩
      omega
theorem mLk_at {kfs : Nat → Nat → Nat} {fb : Nat → Nat → Nat} {car : Bool} {lim l x : Nat} {row : List Nat} {R : Nat → Nat → List Nat} {j : Nat} : mLk kfs fb car lim l x row R j j l = R j l := if_neg (fun z => Nat.lt_irrefl _ z.2.2)
theorem mLk_self {kfs : Nat → Nat → Nat} {fb : Nat → Nat → Nat} {car : Bool} {lim l x : Nat} {row : List Nat} {R : Nat → Nat → List Nat} {j a : Nat} (h : a ∉ row) (b : Nat) : mLk kfs fb car lim l x row R j a b = R a b := if_neg (fun z => h z.2.1)
theorem rset_rset (R : Nat → Nat → List Nat) (i l : Nat) (u v : List Nat) (a b : Nat) : rset (rset R i l u) i l v a b = rset R i l v a b := by
  by_cases e : a = i ∧ b = l
  · obtain ⟨rfl, rfl⟩ := e
    rw [rset_s, rset_s]
  · rw [rset_n _ _ _ _ e, rset_n _ _ _ _ e, rset_n _ _ _ _ e]

set_option maxHeartbeats 2000000 in
theorem lt_jnD {sc : ax_S} {σ : Nat → ax_C} {J : Nat → Int} {G0 : Nat → Nat → Int} {n bc bs : Nat} {K : ax_K} (hn : 38 ≤ n) {N : Nat} (hN : J 7 = N) (hN2 : N ≤ 100) {l i most : Nat} (hl : l < 5) (hi : i < N) (hFi : ∀ i, i < N → FAb G0 N i) (hsy : ∀ a b, a < N → b < N → G0 6 (100 * a + b) = G0 6 (100 * b + a)) (hm : most ≤ 100) {car : Bool} (hcar : J 5 = if car = true then 1 else 0) {row : List Nat} {R : Nat → Nat → List Nat} (hrow : R i l = row) (hirow : i ∉ row) (hrl : ∀ x ∈ row, x < N) (hRS : ∀ a, a < N → a ≠ i → (R a l).Nodup ∧ (∀ x ∈ R a l, x < N) ∧ i ∉ R a l)
    (k : ∀ G', FC G0 G' → NR G' ((mLk (kg G0) (fbT G0) car most l i row R) N) → K none (mg σ J G', n, bc, bs)) :
    ∀ (d j : Nat) (G : Nat → Nat → Int) (t5 : Option Value), j + d = N → FC G0 G → NR G ((mLk (kg G0) (fbT G0) car most l i row R) j) → Ex sc 95 90 [some (.ref 22), some (.int (zi l)), some (.int (zi i)), some (.int (zi most)), some (.int (zi j)), t5] [] (mg σ J G, n, bc, bs) K := by
  intro d
  induction d with
  | zero =>
    intro j G t5 hj hG hR
    have hj1 : j = N := by omega
    subst hj1
    refine xild_4 (q := 92) d_95_90 rfl ?_
    refine xald_0 (q := 93) d_95_92 rfl ?_
    refine yg_count hn (q := 96) d_95_93 rfl fl_M_76 ?_
    refine x_icmp_ge (q := 99) (t := 211) d_95_96 (by decide) rfl (fun c96 => ?_) (fun c96 => ?_)
    · rw [zi_le (by omega) (by omega) (by omega) (by omega)] at c96
      refine x_vret d_95_211 rfl ?_
      exact k G hG hR
    · rw [zi_le (by omega) (by omega) (by omega) (by omega)] at c96
      exact absurd c96 (by omega)
  | succ d ih =>
    intro j G t5 hj hG hR
    have hjN : j < N := by omega
    have hk : ∀ y, y < N → kg G0 j y % 100 = y := fun y hy => kg_mod (by omega)
    have eself : (mLk (kg G0) (fbT G0) car most l i row R) j i l = row := (mLk_self hirow l).trans hrow
    refine xild_4 (q := 92) d_95_90 rfl ?_
    refine xald_0 (q := 93) d_95_92 rfl ?_
    refine yg_count hn (q := 96) d_95_93 rfl fl_M_76 ?_
    refine x_icmp_ge (q := 99) (t := 211) d_95_96 (by decide) rfl (fun c96 => ?_) (fun c96 => ?_)
    · rw [zi_le (by omega) (by omega) (by omega) (by omega)] at c96
      exact absurd c96 (by omega)
    · rw [zi_le (by omega) (by omega) (by omega) (by omega)] at c96
      refine xald_0 (q := 100) d_95_99 rfl ?_
      refine xild_1 (q := 101) d_95_100 rfl ?_
      refine xild_2 (q := 102) d_95_101 rfl ?_
      refine xild_4 (q := 104) d_95_102 rfl ?_
      refine xcV3 (q := 107) d_95_104 rfl lk_M_96 mo_92 ⟨by decide +kernel, by decide +kernel⟩ (by simp [Value.category]) (by decide +kernel) (by simp [Value.category]) (by omega) rfl ?_
      refine t_isNear (l := l) (i := i) (j := j) hn hR hl (by omega) (by omega) ?_
      dsimp only [ax_ps]
      rw [eself]
      refine x_if_eq (q := 110) (t := 205) d_95_107 (by decide) rfl (fun c107 => ?_) (fun c107 => ?_)
      · refine xincz_4 (q := 208) d_95_205 rfl ?_
        refine x_goto (t := 90) d_95_208 (by decide) ?_
        rw [show (j : Int) + 1 = ((j + 1 : Nat) : Int) by omega]
        first
          | (have hjr : j ∉ row := (fun z => by (rw [if_pos z] at c107; exact absurd c107 (by decide))); exact ih (j + 1) G _ (by omega) hG (hR.congr rfl (fun a b _ _ => mLk_skip hjr a b)))
          | (refine ih (j + 1) _ _ (by omega) (fun r a b c => (va_un _ _ _ a).trans (hG r a b c)) (hR1.congr rfl (fun a b _ _ => ?_)); rw [mLk_step hjr, ebk, if_neg (by omega)])
      · refine xald_0 (q := 111) d_95_110 rfl ?_
        refine xild_1 (q := 112) d_95_111 rfl ?_
        refine xild_4 (q := 114) d_95_112 rfl ?_
        refine xild_2 (q := 115) d_95_114 rfl ?_
        refine x_iconst (q := 116) (v := zi (1)) d_95_115 rfl rfl ?_
        have hjr : j ∈ row := by
          by_cases q : j ∈ row
          · exact q
          · rw [if_neg q] at c107; exact absurd rfl c107
        refine xcV4 (q := 119) d_95_116 rfl lk_M_128 mo_97 ⟨by decide +kernel, by decide +kernel⟩ (by simp [Value.category]) (by decide +kernel) (by simp [Value.category]) (by omega) rfl ?_
        refine t_setNear (l := l) (i := j) (j := i) hn (Or.inr rfl) hl (by omega) (by omega) ?_
        dsimp only [ax_ps]
        have hji : j ≠ i := fun e => hirow (e ▸ hjr)
        obtain ⟨hd, hlt, hni⟩ := hRS j hjN hji
        have hP1 := mP1_slt hk hd hlt hi hni
        have hP2 := mP1_num (kf := kg G0 j) hlt hi
        have hRSm := RS_keys hk hP1 hP2
        have hlen := nodup_le N _ hRSm.nodup hRSm.2
        have hv : ∀ b, b < 100 → (b ∈ (mP1 (kg G0 j) (R j l) i).map (· % 100) ↔ b = i ∨ b ∈ (mLk (kg G0) (fbT G0) car most l i row R) j j l) := fun b hb => by
          rw [mLk_at]
          by_cases q : b < N
          · rw [mem_keys hk hP2 q, mP1_in hk hlt hi q]
          · constructor
            · intro z; exact absurd (hRSm.2 b z) q
            · rintro (z | z)
              · exact absurd hi (by omega)
              · exact absurd (hlt b z) q
        have hR1 := hR.one (l := l) (show j < 100 by omega) (show i < 100 by omega) hv
        have ebk := mBack_p1 (kg G0 j) (fbT G0) car most (R j l) i
        refine xald_0 (q := 120) d_95_119 rfl ?_
        refine xild_1 (q := 121) d_95_120 rfl ?_
        refine xild_4 (q := 123) d_95_121 rfl ?_
        refine xcV2 (q := 126) d_95_123 rfl lk_M_113 mo_91 ⟨by decide +kernel, by decide +kernel⟩ (by simp [Value.category]) (by decide +kernel) (by simp [Value.category]) (by omega) rfl ?_
        refine t_nearCount (l := l) (i := j) hn hN hN2 hR1 hl (by omega) (by rw [rset_s]; exact hRSm.nodup) (by rw [rset_s]; exact hRSm.2) ?_
        dsimp only [ax_ps]
        rw [rset_s, List.length_map]
        refine xild_3 (q := 127) d_95_126 rfl ?_
        refine x_icmp_le (q := 130) (t := 205) d_95_127 (by decide) rfl (fun c127 => ?_) (fun c127 => ?_)
        · rw [List.length_map] at hlen
          rw [zi_le (by omega) (by omega) (by omega) (by omega)] at c127
          refine xincz_4 (q := 208) d_95_205 rfl ?_
          refine x_goto (t := 90) d_95_208 (by decide) ?_
          rw [show (j : Int) + 1 = ((j + 1 : Nat) : Int) by omega]
          first
            | (have hjr : j ∉ row := (fun z => by (rw [if_pos z] at c107; exact absurd c107 (by decide))); exact ih (j + 1) G _ (by omega) hG (hR.congr rfl (fun a b _ _ => mLk_skip hjr a b)))
            | (refine ih (j + 1) _ _ (by omega) (fun r a b c => (va_un _ _ _ a).trans (hG r a b c)) (hR1.congr rfl (fun a b _ _ => ?_)); rw [mLk_step hjr, ebk, if_neg (by omega)])
        · rw [List.length_map] at hlen
          rw [zi_le (by omega) (by omega) (by omega) (by omega)] at c127
          refine x_iconst (q := 131) (v := zi (0)) d_95_130 rfl rfl ?_
          refine xist_5 (q := 133) d_95_131 rfl ?_
          refine lt_jnP (G0 := va_up G 5 (va_up (G 5) (10000 * l + 100 * j + i) 1)) hn hN hN2 hl hi hjN hR1 ?_ N 0 _ (by omega) (fun _ _ => rfl) (fun x hx => absurd hx (Nat.not_lt_zero _))
          intro G2 t hG2 h10
          have h6 : G2 6 = G0 6 := by rw [hG2 6 (by decide), va_un _ _ _ (by decide)]; exact hG 6 (by decide) (by decide) (by decide)
          have ek2 : kg G2 j = kg G0 j := by unfold kg; rw [h6]
          have ef2 : fbT G2 = fbT G0 := by unfold fbT; rw [h6]
          have hsb : SB (G2 10) (kg G0 j) N (mP1 (kg G0 j) (R j l) i) := ⟨hP1, hP2, fun x hx => by
            rw [h10 x hx, rset_s]
            have := mem_keys hk hP2 hx
            by_cases q : kg G0 j x ∈ (mP1 (kg G0 j) (R j l) i)
            · rw [if_pos q, if_pos (this.mpr q)]
            · rw [if_neg q, if_neg (fun z => q (this.mp z))]⟩
          refine xald_0 (q := 165) d_95_164 rfl ?_
          refine xild_4 (q := 167) d_95_165 rfl ?_
          refine xild_3 (q := 168) d_95_167 rfl ?_
          refine xcV2 (q := 171) d_95_168 rfl lk_M_124 mo_96 ⟨by decide +kernel, by decide +kernel⟩ (by simp [Value.category]) (by decide +kernel) (by simp [Value.category]) (by omega) rfl ?_
          refine t_choose (G := G2) (o := j) (W := most) hn hN hN2 hjN hm (fun i hi => by unfold FAb; rw [h6]; exact hFi i hi) (by rw [h6]; exact hsy) hcar (by rw [ek2]; exact hsb) ?_
          intro G3 hG3 s3
          rw [ek2, ef2] at s3
          dsimp only [ax_ps]
          have hG23 : ∀ r, r ≠ 10 → r ≠ 11 → G3 r = va_up G 5 (va_up (G 5) (10000 * l + 100 * j + i) 1) r := fun r a b => (hG3 r a b).trans (hG2 r a)
          refine x_iconst (q := 172) (v := zi (0)) d_95_171 rfl rfl ?_
          refine xist_5 (q := 174) d_95_172 rfl ?_
          refine lt_jnE (G0 := G3) hn hN hN2 hl hi hjN (fun x hx => by rw [s3.2.2 x hx]; split <;> omega) ?_ N 0 G3 (by omega) (fun _ _ => rfl) (SR.zero _ _ _ _)
          intro G4 t hG4 hSR
          have hR4 := hSR.done hN2 (hR1.congr (hG23 5 (by decide) (by decide)) (fun _ _ _ _ => rfl)) (fun x hx => by rw [rset_s] at hx; exact hRSm.2 x hx) hk s3
          refine xincz_4 (q := 208) d_95_205 rfl ?_
          refine x_goto (t := 90) d_95_208 (by decide) ?_
          rw [show (j : Int) + 1 = ((j + 1 : Nat) : Int) by omega]
          refine ih (j + 1) G4 _ (by omega) (fun r a b c => (hG4 r a).trans ((hG23 r b c).trans ((va_un _ _ _ a).trans (hG r a b c)))) (hR4.congr rfl (fun a b _ _ => ?_))
          rw [mLk_step hjr, rset_rset, ebk, if_pos (by omega)]
set_option maxHeartbeats 2000000 in
theorem t_join {sc : ax_S} {σ : Nat → ax_C} {J : Nat → Int} {G : Nat → Nat → Int} {n bc bs : Nat} {K : ax_K} (hn : 38 ≤ n) {N : Nat} (hN : J 7 = N) (hN2 : N ≤ 100) {R : Nat → Nat → List Nat} (hR : NR G R) {l i : Nat} (hl : l < 5) (hi : i < N) (hFi : ∀ i, i < N → FAb G N i) (hsy : ∀ a b, a < N → b < N → G 6 (100 * a + b) = G 6 (100 * b + a)) {wd : Nat} (hwd : J 4 = wd) (hwd6 : wd ≤ 6) {car : Bool} (hcar : J 5 = if car = true then 1 else 0) (hRS : ∀ a, a < N → (R a l).Nodup ∧ (∀ x ∈ R a l, x < N) ∧ i ∉ R a l) {L : List Nat} (hL : SB (G 9) (kg G i) N L) (hiL : kg G i i ∉ L) (h9 : ∀ x, x < 100 → G 9 x = 0 ∨ G 9 x = 1)
    (k : ∀ G', FC G G' → NR G' (mLinks (kg G) (fbT G) car (limN wd l) l i ((mChoose (fbT G) car (limN wd l) L []).map (· % 100)) (rset R i l ((mChoose (fbT G) car (limN wd l) L []).map (· % 100)))) → K none (mg σ J G', n, bc, bs)) : Ex sc 95 0 (ax_en 95 [.ref 22, .int (zi l), .int (zi i)]) [] (mg σ J G, n, bc, bs) K := by
  have hk : ∀ y, y < N → kg G i y % 100 = y := fun y hy => kg_mod (by omega)
  have hlim : limN wd l ≤ 12 := by unfold limN; split <;> omega
  have rest : Ex sc 95 18 [some (.ref 22), some (.int (zi l)), some (.int (zi i)), some (.int (zi (limN wd l))), none, none] [] (mg σ J G, n, bc, bs) K := by
    generalize hmo : limN wd l = most at *
    refine x_iconst (q := 19) (v := zi (0)) d_95_18 rfl rfl ?_
    refine xist_4 (q := 21) d_95_19 rfl ?_
    refine lt_jnA (G0 := G) hn hN hN2 hl hi h9 ?_ 100 0 G (by omega) (fun _ _ => rfl) (fun x hx => absurd hx (Nat.not_lt_zero _))
    intro G1 hG1 h10
    have h6 : G1 6 = G 6 := hG1 6 (by decide)
    have ek1 : kg G1 i = kg G i := by unfold kg; rw [h6]
    have ef1 : fbT G1 = fbT G := by unfold fbT; rw [h6]
    have hsb : SB (G1 10) (kg G i) N L := ⟨hL.1, hL.2.1, fun x hx => by rw [h10 x (by omega)]; exact hL.2.2 x hx⟩
    refine xald_0 (q := 49) d_95_48 rfl ?_
    refine xild_2 (q := 50) d_95_49 rfl ?_
    refine xild_3 (q := 51) d_95_50 rfl ?_
    refine xcV2 (q := 54) d_95_51 rfl lk_M_124 mo_96 ⟨by decide +kernel, by decide +kernel⟩ (by simp [Value.category]) (by decide +kernel) (by simp [Value.category]) (by omega) rfl ?_
    refine t_choose (G := G1) (o := i) (W := most) hn hN hN2 hi (by omega) (fun i hi => by unfold FAb; rw [h6]; exact hFi i hi) (by rw [h6]; exact hsy) hcar (by rw [ek1]; exact hsb) ?_
    intro G2 hG2 s2
    rw [ek1, ef1] at s2
    dsimp only [ax_ps]
    refine x_iconst (q := 55) (v := zi (0)) d_95_54 rfl rfl ?_
    refine xist_4 (q := 57) d_95_55 rfl ?_
    refine lt_jnC (G0 := G2) hn hN hN2 hl hi (fun x hx => by rw [s2.2.2 x hx]; split <;> omega) ?_ N 0 G2 (by omega) (fun _ _ => rfl) (SR.zero _ _ _ _)
    intro G3 t hG3 hSR
    have hR3 := hSR.done hN2 (hR.congr ((hG2 5 (by decide) (by decide)).trans (hG1 5 (by decide))) (fun _ _ _ _ => rfl)) (hRS i hi).2.1 hk s2
    generalize hrow : (mChoose (fbT G) car most L []).map (· % 100) = row at *
    have hrk : ∀ x ∈ row, x < N ∧ kg G i x ∈ L := fun x hx => by
      rw [← hrow] at hx
      obtain ⟨q, hq, e⟩ := List.mem_map.mp hx
      have hqL := mChoose_in hq
      obtain ⟨y, hy, e2⟩ := hL.2.1 q hqL
      have e : q % 100 = x := e
      rw [e2, hk y hy] at e
      rw [← e]
      exact ⟨hy, by rw [← e2]; exact hqL⟩
    have hnd : row.Nodup := by
      rw [← hrow]
      exact (RS_keys hk (mChoose_slt hL.1) (fun q hq => hL.2.1 q (mChoose_in hq))).nodup
    have hir : i ∉ row := fun z => hiL (hrk i z).2
    have hFC : FC G G3 := fun r a b c => (hG3 r a).trans ((hG2 r b c).trans (hG1 r b))
    have ek3 : ∀ o, kg G3 o = kg G o := hFC.ke
    have ek3' : kg G3 = kg G := funext ek3
    have ef3 : fbT G3 = fbT G := hFC.fe
    have h63 : G3 6 = G 6 := hFC 6 (by decide) (by decide) (by decide)
    refine x_iconst (q := 88) (v := zi (0)) d_95_87 rfl rfl ?_
    refine xist_4 (q := 90) d_95_88 rfl ?_
    refine lt_jnD (G0 := G3) (row := row) (R := rset R i l row) hn hN hN2 hl hi (fun i hi => by unfold FAb; rw [h63]; exact hFi i hi) (by rw [h63]; exact hsy) (by omega) hcar (rset_s _ _ _ _) hir (fun x hx => (hrk x hx).1) (fun a ha hai => by rw [rset_n _ _ _ _ (fun z => hai z.1)]; exact hRS a ha) ?_ N 0 G3 _ (by omega) (fun _ _ _ _ => rfl) (hR3.congr rfl (fun a b _ _ => if_neg (fun z => Nat.not_lt_zero _ z.2.2)))
    intro G4 hG4 hR4
    rw [ek3', ef3] at hR4
    refine k G4 (fun r a b c => (hG4 r a b c).trans (hFC r a b c)) (hR4.congr rfl (fun a b _ _ => ?_))
    rw [mLinks_eq _ _ _ _ hnd]
    unfold mLk
    by_cases q : b = l ∧ a ∈ row
    · rw [if_pos q, if_pos ⟨q.1, q.2, (hrk a q.2).1⟩]
    · rw [if_neg q, if_neg (fun z => q ⟨z.1, z.2.1⟩)]
  show Ex sc 95 0 [some (.ref 22), some (.int (zi l)), some (.int (zi i)), none, none, none] [] (mg σ J G, n, bc, bs) K
  refine xild_1 (q := 1) d_95_0 rfl ?_
  refine x_if_ne (q := 4) (t := 13) d_95_1 (by decide) rfl (fun c1 => ?_) (fun c1 => ?_)
  · rw [zi_eq0 (by omega) (by omega)] at c1
    refine xald_0 (q := 14) d_95_13 rfl ?_
    refine yg_width hn (q := 17) d_95_14 rfl fl_M_13 ?_
    rw [hwd]
    refine xist_3 (q := 18) d_95_17 rfl ?_
    first
      | (have e : (limN wd l : Int) = 2 * (wd : Int) := (by unfold limN; rw [if_pos (by omega)]; omega); rw [e] at rest; exact rest)
      | (have e : (limN wd l : Int) = (wd : Int) := (by unfold limN; rw [if_neg (by omega)]); rw [e] at rest; exact rest)
  · rw [zi_eq0 (by omega) (by omega)] at c1
    refine x_iconst (q := 5) (v := zi (2)) d_95_4 rfl rfl ?_
    refine xald_0 (q := 6) d_95_5 rfl ?_
    refine yg_width hn (q := 9) d_95_6 rfl fl_M_13 ?_
    refine z_imul (q := 10) d_95_9 rfl ?_
    refine x_goto (t := 17) d_95_10 (by decide) ?_
    rw [hwd]
    refine xist_3 (q := 18) d_95_17 rfl ?_
    first
      | (have e : (limN wd l : Int) = 2 * (wd : Int) := (by unfold limN; rw [if_pos (by omega)]; omega); rw [e] at rest; exact rest)
      | (have e : (limN wd l : Int) = (wd : Int) := (by unfold limN; rw [if_neg (by omega)]); rw [e] at rest; exact rest)
