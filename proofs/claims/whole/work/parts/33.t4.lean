/-! THE REFERENCE: choose -/
def fbT (G : Nat → Nat → Int) (a b : Nat) : Nat := (G 6 (100 * a + b)).toNat
theorem kg_fb (G : Nat → Nat → Int) (o x : Nat) : kg G o x = fbT G o x * 100 + x := rfl
theorem SB.len {b : Nat → Int} {kf : Nat → Nat} {N : Nat} {L : List Nat} (h : SB b kf N L) (hk : ∀ y, y < N → kf y % 100 = y) : L.length ≤ N := by
  have h1 := nodup_le N (L.map (· % 100)) ?_ ?_
  · rwa [List.length_map] at h1
  · refine List.pairwise_map.mpr (h.1.imp_of_mem (fun {a b} ha hb hab e => ?_))
    obtain ⟨x, hx, e1⟩ := h.2.1 a ha
    obtain ⟨y, hy, e2⟩ := h.2.1 b hb
    have e : a % 100 = b % 100 := e
    rw [e1, e2, hk x hx, hk y hy] at e
    rw [e1, e2, e] at hab
    exact Nat.lt_irrefl _ hab
  · intro x hx
    obtain ⟨a, ha, rfl⟩ := List.mem_map.mp hx
    obtain ⟨y, hy, e1⟩ := h.2.1 a ha
    show a % 100 < N
    rw [e1, hk y hy]
    exact hy
theorem ins_last {k : Nat} : ∀ {T : List Nat}, (∀ y ∈ T, y < k) → ins k T = T ++ [k]
  | [], _ => rfl
  | x :: xs, h => by
    have hx := h x List.mem_cons_self
    unfold ins
    rw [if_pos (by omega), ins_last (fun y hy => h y (List.mem_cons_of_mem _ hy))]
    rfl
theorem mChoose_full {fb : Nat → Nat → Nat} {car : Bool} {W : Nat} {T : List Nat} (h : ¬ T.length < W) : ∀ L, mChoose fb car W L T = T
  | [] => rfl
  | k :: ks => by
    unfold mChoose
    rw [if_neg h]
theorem SB.keep {b : Nat → Int} {kf : Nat → Nat} {N : Nat} {L : List Nat} (h : SB b kf N L) (hk : ∀ y, y < N → kf y % 100 = y) {x : Nat} (hx : x < N) (hm : kf x ∉ L) : SB (va_up b x 0) kf N L := h.del hk hx h.1 (fun k => ⟨fun q => ⟨q, fun e => hm (e ▸ q)⟩, fun q => q.1⟩)

theorem ch_ok {A : Prop} {j : Nat} {B : Nat → Prop} (h : A ∧ ∀ t, t < j → B t) (hj : B j) : A ∧ ∀ t, t < j + 1 → B t := ⟨h.1, fun t ht => by
  rcases Nat.lt_or_ge t j with q | q
  · exact h.2 t q
  · rw [show t = j by omega]; exact hj⟩
set_option maxHeartbeats 2000000 in
theorem lt_chIn {sc : ax_S} {σ : Nat → ax_C} {J : Nat → Int} {G : Nat → Nat → Int} {n bc bs : Nat} {K : ax_K} (hn : 38 ≤ n) {N : Nat} (hN : J 7 = N) (hN2 : N ≤ 100) {o W c : Nat} (ho : o < N) (hc : c < N) (hFi : ∀ i, i < N → FAb G N i) (hsy : ∀ a b, a < N → b < N → G 6 (100 * a + b) = G 6 (100 * b + a)) {car : Bool} (hcar : J 5 = if car = true then 1 else 0) {T : List Nat} (hT : SB (G 11) (kg G o) N T)
    (kk : ∀ (g : Int) (t6 : Option Value), (g = 1 ∧ (T.length < W ∧ (car = false ∨ ∀ y ∈ T, kg G o c / 100 < fbT G c (y % 100)))) ∨ (g = 0 ∧ ¬ (T.length < W ∧ (car = false ∨ ∀ y ∈ T, kg G o c / 100 < fbT G c (y % 100)))) → Ex sc 96 136 [some (.ref 22), some (.int (zi o)), some (.int (zi W)), some (.int (zi T.length)), some (.int (zi c)), some (.int (zi g)), t6] [] (mg σ J G, n, bc, bs) K) :
    ∀ (d j : Nat) (g : Int), j + d = N → ((g = 1 ∧ (T.length < W ∧ ∀ t, t < j → car = true → kg G o t ∈ T → G 6 (100 * c + o) < G 6 (100 * c + t))) ∨ (g = 0 ∧ ¬ (T.length < W ∧ ∀ t, t < j → car = true → kg G o t ∈ T → G 6 (100 * c + o) < G 6 (100 * c + t)))) → Ex sc 96 63 [some (.ref 22), some (.int (zi o)), some (.int (zi W)), some (.int (zi T.length)), some (.int (zi c)), some (.int (zi g)), some (.int (zi j))] [] (mg σ J G, n, bc, bs) K := by
  have hk : ∀ y, y < N → kg G o y % 100 = y := fun y hy => kg_mod (by omega)
  have hca : J 5 = 0 ∨ J 5 = 1 := by rw [hcar]; split <;> omega
  have hfc := hFi c hc
  have hfo := hfc o ho
  have hkc : kg G o c / 100 = (G 6 (100 * c + o)).toNat := by
    unfold kg
    rw [hsy o c ho hc]
    omega
  have hiff : (T.length < W ∧ (car = false ∨ ∀ y ∈ T, kg G o c / 100 < fbT G c (y % 100))) ↔ (T.length < W ∧ ∀ t, t < N → car = true → kg G o t ∈ T → G 6 (100 * c + o) < G 6 (100 * c + t)) := by
    rw [hkc]
    unfold fbT
    constructor
    · rintro ⟨h1, h2⟩
      refine ⟨h1, fun t ht hcr htT => ?_⟩
      rcases h2 with h2 | h2
      · rw [h2] at hcr; cases hcr
      · have h3 := h2 _ htT
        rw [hk t ht] at h3
        have := hfc t ht
        omega
    · rintro ⟨h1, h2⟩
      refine ⟨h1, ?_⟩
      cases car with
      | false => exact Or.inl rfl
      | true =>
        refine Or.inr (fun y hy => ?_)
        obtain ⟨t, ht, e⟩ := hT.2.1 y hy
        have h3 := h2 t ht rfl (by rw [← e]; exact hy)
        rw [e, hk t ht]
        have := hfc t ht
        omega
  intro d
  induction d with
  | zero =>
    intro j g hj hg
    have hjN : j = N := by omega
    subst hjN
    rw [← hiff] at hg
    refine xild_6 (q := 65) d_96_63 rfl ?_
    refine xald_0 (q := 66) d_96_65 rfl ?_
    refine yg_count hn (q := 69) d_96_66 rfl fl_M_76 ?_
    refine x_icmp_ge (q := 72) (t := 136) d_96_69 (by decide) rfl (fun c69 => ?_) (fun c69 => ?_)
    · rw [zi_le (by omega) (by omega) (by omega) (by omega)] at c69
      exact kk g _ hg
    · rw [zi_le (by omega) (by omega) (by omega) (by omega)] at c69
      exact absurd c69 (by omega)
  | succ d ih =>
    intro j g hj hg
    have hfj := hfc j (by omega)
    have hTj := hT.2.2 j (by omega)
    refine xild_6 (q := 65) d_96_63 rfl ?_
    refine xald_0 (q := 66) d_96_65 rfl ?_
    refine yg_count hn (q := 69) d_96_66 rfl fl_M_76 ?_
    refine x_icmp_ge (q := 72) (t := 136) d_96_69 (by decide) rfl (fun c69 => ?_) (fun c69 => ?_)
    · rw [zi_le (by omega) (by omega) (by omega) (by omega)] at c69
      first
        | (exact absurd c69 (by omega))
        | (have hcr : car = false := (by (cases car with | false => rfl | true => rw [hcar, if_pos rfl] at c77; exact absurd rfl c77)); exact kk g _ (hg.imp (fun h => ⟨h.1, h.2.1, Or.inl hcr⟩) (fun h => ⟨h.1, fun z => h.2 ⟨z.1, fun t ht q => absurd (hcr.symm.trans q) (by decide)⟩⟩)))
    · rw [zi_le (by omega) (by omega) (by omega) (by omega)] at c69
      refine xald_0 (q := 73) d_96_72 rfl ?_
      refine yg_careful hn (q := 76) d_96_73 rfl fl_M_16 ?_
      refine x_iconst (q := 77) (v := zi (1)) d_96_76 rfl rfl ?_
      refine x_icmp_ne (q := 80) (t := 136) d_96_77 (by decide) rfl (fun c77 => ?_) (fun c77 => ?_)
      · rw [show (1 : Int) = 1 from rfl, zi_eq (by omega) (by omega) (by omega) (by omega)] at c77
        first
          | (exact absurd c69 (by omega))
          | (have hcr : car = false := (by (cases car with | false => rfl | true => rw [hcar, if_pos rfl] at c77; exact absurd rfl c77)); exact kk g _ (hg.imp (fun h => ⟨h.1, h.2.1, Or.inl hcr⟩) (fun h => ⟨h.1, fun z => h.2 ⟨z.1, fun t ht q => absurd (hcr.symm.trans q) (by decide)⟩⟩)))
      · rw [show (1 : Int) = 1 from rfl, zi_eq (by omega) (by omega) (by omega) (by omega)] at c77
        have hcr : car = true := by
          cases car with
          | true => rfl
          | false => rw [hcar, if_neg (by decide)] at c77; exact absurd c77 (by decide)
        have hg1 : ¬ g = 0 → T.length < W ∧ ∀ t, t < j → car = true → kg G o t ∈ T → G 6 (100 * c + o) < G 6 (100 * c + t) := fun h => by
          rcases hg with h1 | h1
          · exact h1.2
          · exact absurd h1.1 h
        have hg0 : g = 0 → ¬ (T.length < W ∧ ∀ t, t < j → car = true → kg G o t ∈ T → G 6 (100 * c + o) < G 6 (100 * c + t)) := fun h => by
          rcases hg with h1 | h1
          · exact absurd (h1.1.symm.trans h) (by decide)
          · exact h1.2
        have hmem : ¬ zi (G 11 j) = 0 → kg G o j ∈ T := fun h => by
          by_cases q : kg G o j ∈ T
          · exact q
          · rw [hTj, if_neg q] at h; exact absurd rfl h
        have hgb : g = 0 ∨ g = 1 := by rcases hg with h | h; exact Or.inr h.1; exact Or.inl h.1
        refine xild_5 (q := 82) d_96_80 rfl ?_
        refine x_if_eq (q := 85) (t := 127) d_96_82 (by decide) rfl (fun c82 => ?_) (fun c82 => ?_)
        · rw [zi_eq0 (by omega) (by omega)] at c82
          refine x_iconst (q := 128) (v := zi (0)) d_96_127 rfl rfl ?_
          refine xist_5 (q := 130) d_96_128 rfl ?_
          refine xincz_6 (q := 133) d_96_130 rfl ?_
          refine x_goto (t := 63) d_96_133 (by decide) ?_
          rw [show (j : Int) + 1 = ((j + 1 : Nat) : Int) by omega]
          first
            | (exact ih (j + 1) 1 (by omega) (Or.inl ⟨rfl, ch_ok (hg1 c82) (fun _ hm => by rw [hTj, if_pos hm] at c92; exact absurd c92 (by decide))⟩))
            | (exact ih (j + 1) 1 (by omega) (Or.inl ⟨rfl, ch_ok (hg1 c82) (fun _ _ => by omega)⟩))
            | (exact ih (j + 1) 0 (by omega) (Or.inr ⟨rfl, fun z => hg0 c82 ⟨z.1, fun t ht => z.2 t (by omega)⟩⟩))
            | (exact ih (j + 1) 0 (by omega) (Or.inr ⟨rfl, fun z => absurd (z.2 j (by omega) hcr (hmem c92)) (by omega)⟩))
        · rw [zi_eq0 (by omega) (by omega)] at c82
          refine xald_0 (q := 86) d_96_85 rfl ?_
          refine yg_chosen hn (q := 89) d_96_86 rfl fl_M_58 ?_
          refine xild_6 (q := 91) d_96_89 rfl ?_
          refine yl_chosen (q := 92) hn d_96_91 rfl (by omega) (by omega) ?_
          refine x_if_eq (q := 95) (t := 123) d_96_92 (by decide) rfl (fun c92 => ?_) (fun c92 => ?_)
          · rw [show ((j : Int)).toNat = j by omega] at c92
            refine x_iconst (q := 124) (v := zi (1)) d_96_123 rfl rfl ?_
            refine x_goto (t := 128) d_96_124 (by decide) ?_
            refine xist_5 (q := 130) d_96_128 rfl ?_
            refine xincz_6 (q := 133) d_96_130 rfl ?_
            refine x_goto (t := 63) d_96_133 (by decide) ?_
            rw [show (j : Int) + 1 = ((j + 1 : Nat) : Int) by omega]
            first
              | (exact ih (j + 1) 1 (by omega) (Or.inl ⟨rfl, ch_ok (hg1 c82) (fun _ hm => by rw [hTj, if_pos hm] at c92; exact absurd c92 (by decide))⟩))
              | (exact ih (j + 1) 1 (by omega) (Or.inl ⟨rfl, ch_ok (hg1 c82) (fun _ _ => by omega)⟩))
              | (exact ih (j + 1) 0 (by omega) (Or.inr ⟨rfl, fun z => hg0 c82 ⟨z.1, fun t ht => z.2 t (by omega)⟩⟩))
              | (exact ih (j + 1) 0 (by omega) (Or.inr ⟨rfl, fun z => absurd (z.2 j (by omega) hcr (hmem c92)) (by omega)⟩))
          · rw [show ((j : Int)).toNat = j by omega] at c92
            refine xald_0 (q := 96) d_96_95 rfl ?_
            refine yg_fars hn (q := 99) d_96_96 rfl fl_M_43 ?_
            refine x_bipush (q := 101) (v := zi (100)) d_96_99 rfl (by decide) ?_
            refine xild_4 (q := 103) d_96_101 rfl ?_
            refine z_imul (q := 104) d_96_103 rfl ?_
            refine xild_1 (q := 105) d_96_104 rfl ?_
            refine z_iadd (q := 106) d_96_105 rfl ?_
            refine yl_fars (q := 107) hn d_96_106 rfl (by omega) (by omega) ?_
            refine xald_0 (q := 108) d_96_107 rfl ?_
            refine yg_fars hn (q := 111) d_96_108 rfl fl_M_43 ?_
            refine x_bipush (q := 113) (v := zi (100)) d_96_111 rfl (by decide) ?_
            refine xild_4 (q := 115) d_96_113 rfl ?_
            refine z_imul (q := 116) d_96_115 rfl ?_
            refine xild_6 (q := 118) d_96_116 rfl ?_
            refine z_iadd (q := 119) d_96_118 rfl ?_
            refine yl_fars (q := 120) hn d_96_119 rfl (by omega) (by omega) ?_
            refine x_icmp_ge (q := 123) (t := 127) d_96_120 (by decide) rfl (fun c120 => ?_) (fun c120 => ?_)
            · rw [show (100 * (c : Int) + (o : Int)).toNat = 100 * c + o by omega, show (100 * (c : Int) + (j : Int)).toNat = 100 * c + j by omega, zi_le (by omega) (by omega) (by omega) (by omega)] at c120
              refine x_iconst (q := 128) (v := zi (0)) d_96_127 rfl rfl ?_
              refine xist_5 (q := 130) d_96_128 rfl ?_
              refine xincz_6 (q := 133) d_96_130 rfl ?_
              refine x_goto (t := 63) d_96_133 (by decide) ?_
              rw [show (j : Int) + 1 = ((j + 1 : Nat) : Int) by omega]
              first
                | (exact ih (j + 1) 1 (by omega) (Or.inl ⟨rfl, ch_ok (hg1 c82) (fun _ hm => by rw [hTj, if_pos hm] at c92; exact absurd c92 (by decide))⟩))
                | (exact ih (j + 1) 1 (by omega) (Or.inl ⟨rfl, ch_ok (hg1 c82) (fun _ _ => by omega)⟩))
                | (exact ih (j + 1) 0 (by omega) (Or.inr ⟨rfl, fun z => hg0 c82 ⟨z.1, fun t ht => z.2 t (by omega)⟩⟩))
                | (exact ih (j + 1) 0 (by omega) (Or.inr ⟨rfl, fun z => absurd (z.2 j (by omega) hcr (hmem c92)) (by omega)⟩))
            · rw [show (100 * (c : Int) + (o : Int)).toNat = 100 * c + o by omega, show (100 * (c : Int) + (j : Int)).toNat = 100 * c + j by omega, zi_le (by omega) (by omega) (by omega) (by omega)] at c120
              refine x_iconst (q := 124) (v := zi (1)) d_96_123 rfl rfl ?_
              refine x_goto (t := 128) d_96_124 (by decide) ?_
              refine xist_5 (q := 130) d_96_128 rfl ?_
              refine xincz_6 (q := 133) d_96_130 rfl ?_
              refine x_goto (t := 63) d_96_133 (by decide) ?_
              rw [show (j : Int) + 1 = ((j + 1 : Nat) : Int) by omega]
              first
                | (exact ih (j + 1) 1 (by omega) (Or.inl ⟨rfl, ch_ok (hg1 c82) (fun _ hm => by rw [hTj, if_pos hm] at c92; exact absurd c92 (by decide))⟩))
                | (exact ih (j + 1) 1 (by omega) (Or.inl ⟨rfl, ch_ok (hg1 c82) (fun _ _ => by omega)⟩))
                | (exact ih (j + 1) 0 (by omega) (Or.inr ⟨rfl, fun z => hg0 c82 ⟨z.1, fun t ht => z.2 t (by omega)⟩⟩))
                | (exact ih (j + 1) 0 (by omega) (Or.inr ⟨rfl, fun z => absurd (z.2 j (by omega) hcr (hmem c92)) (by omega)⟩))
theorem ch_no {fb : Nat → Nat → Nat} {car : Bool} {W : Nat} {G : Nat → Nat → Int} {o c : Nat} {T Lt : List Nat} (h : ¬ (T.length < W ∧ (car = false ∨ ∀ y ∈ T, kg G o c / 100 < fb c (y % 100)))) (hc : kg G o c % 100 = c) : mChoose fb car W (kg G o c :: Lt) T = mChoose fb car W Lt T := by
  by_cases hl : T.length < W
  · rw [mChoose, if_pos hl, if_neg (by rw [hc]; exact fun z => h ⟨hl, z⟩)]
  · rw [mChoose_full hl, mChoose_full hl]
theorem ch_yes {fb : Nat → Nat → Nat} {car : Bool} {W : Nat} {G : Nat → Nat → Int} {o c : Nat} {T Lt : List Nat} (h : T.length < W ∧ (car = false ∨ ∀ y ∈ T, kg G o c / 100 < fb c (y % 100))) (hc : kg G o c % 100 = c) : mChoose fb car W (kg G o c :: Lt) T = mChoose fb car W Lt (T ++ [kg G o c]) := by
  rw [mChoose, if_pos h.1, if_pos (by rw [hc]; exact h.2)]
set_option maxHeartbeats 2000000 in
theorem lt_choose {sc : ax_S} {σ : Nat → ax_C} {J : Nat → Int} {G0 : Nat → Nat → Int} {n bc bs : Nat} {K : ax_K} (hn : 38 ≤ n) {N : Nat} (hN : J 7 = N) (hN2 : N ≤ 100) {o W : Nat} (ho : o < N) (hW : W ≤ 100) (hFi : ∀ i, i < N → FAb G0 N i) (hsy : ∀ a b, a < N → b < N → G0 6 (100 * a + b) = G0 6 (100 * b + a)) {car : Bool} (hcar : J 5 = if car = true then 1 else 0) {T9 : List Nat}
    (k : ∀ G', (∀ r, r ≠ 10 → r ≠ 11 → G' r = G0 r) → SB (G' 11) (kg G0 o) N T9 → K none (mg σ J G', n, bc, bs)) :
    ∀ (d : Nat) (L T : List Nat) (G : Nat → Nat → Int) (t5 t6 : Option Value), L.length = d → (∀ r, r ≠ 10 → r ≠ 11 → G r = G0 r) → SB (G 10) (kg G0 o) N L → SB (G 11) (kg G0 o) N T → (∀ y ∈ T, ∀ x ∈ L, y < x) → mChoose (fbT G0) car W L T = T9 → Ex sc 96 35 [some (.ref 22), some (.int (zi o)), some (.int (zi W)), some (.int (zi T.length)), some (.int (zi (outI L true))), t5, t6] [] (mg σ J G, n, bc, bs) K := by
  have hk : ∀ y, y < N → kg G0 o y % 100 = y := fun y hy => kg_mod (by omega)
  intro d
  induction d with
  | zero =>
    intro L T G t5 t6 hd hG hL hT hlt h9
    have hL0 : L = [] := List.length_eq_zero_iff.mp hd
    subst hL0
    have h9 : T = T9 := h9
    subst h9
    rw [out_nil]
    refine xild_4 (q := 37) d_96_35 rfl ?_
    refine x_if_lt (q := 40) (t := 173) d_96_37 (by decide) rfl (fun c37 => ?_) (fun c37 => ?_)
    · rw [zi_lt0 (by omega) (by omega)] at c37
      refine x_vret d_96_173 rfl ?_
      exact k G hG hT
    · rw [zi_lt0 (by omega) (by omega)] at c37
      exact absurd c37 (by omega)
  | succ d ih =>
    intro L T G t5 t6 hd hG hL hT hlt h9
    have hne : L ≠ [] := fun z => by rw [z] at hd; exact absurd hd (by simp)
    obtain ⟨c, hc, e0, eo, em, hcL, hpop⟩ := hL.pop hk hne
    have hTl := hT.len hk
    have hLeq : L = kg G0 o c :: L.tail := by
      cases L with
      | nil => exact absurd rfl hne
      | cons a l => rw [← e0]; rfl
    have hcT : kg G0 o c ∉ T := fun z => Nat.lt_irrefl _ (hlt _ z _ hcL)
    have hltc : ∀ y ∈ T, y < kg G0 o c := fun y hy => hlt y hy _ hcL
    have htl : ∀ x ∈ L.tail, kg G0 o c < x := by
      have h1 := hL.1
      rw [hLeq] at h1
      exact (List.pairwise_cons.mp h1).1
    have hdl : L.tail.length = d := by rw [List.length_tail]; omega
    generalize hLt : L.tail = Lt at *
    rw [eo]
    rw [hLeq] at h9
    generalize hG1 : va_up G 10 (va_up (G 10) c 0) = G1
    have g10 : G1 10 = va_up (G 10) c 0 := by rw [← hG1, va_us]
    have g11 : G1 11 = G 11 := by rw [← hG1, va_un _ _ _ (by decide)]
    have hGG : ∀ r, r ≠ 10 → r ≠ 11 → G1 r = G0 r := fun r h1 h2 => by rw [← hG1, va_un _ _ _ h1]; exact hG r h1 h2
    have g6 : G1 6 = G0 6 := hGG 6 (by decide) (by decide)
    have ek : kg G1 o = kg G0 o := by unfold kg; rw [g6]
    have ef : fbT G1 = fbT G0 := by unfold fbT; rw [g6]
    refine xild_4 (q := 37) d_96_35 rfl ?_
    refine x_if_lt (q := 40) (t := 173) d_96_37 (by decide) rfl (fun c37 => ?_) (fun c37 => ?_)
    · rw [zi_lt0 (by omega) (by omega)] at c37
      exact absurd c37 (by omega)
    · rw [zi_lt0 (by omega) (by omega)] at c37
      refine xald_0 (q := 41) d_96_40 rfl ?_
      refine yg_pool hn (q := 44) d_96_41 rfl fl_M_55 ?_
      refine xild_4 (q := 46) d_96_44 rfl ?_
      refine x_iconst (q := 47) (v := zi (0)) d_96_46 rfl rfl ?_
      refine ys_pool (q := 48) hn (Or.inl rfl) d_96_47 rfl (by omega) (by omega) ?_
      rw [show ((c : Int)).toNat = c by omega, hG1]
      refine xild_3 (q := 49) d_96_48 rfl ?_
      refine xild_2 (q := 50) d_96_49 rfl ?_
      refine x_icmp_ge (q := 53) (t := 57) d_96_50 (by decide) rfl (fun c50 => ?_) (fun c50 => ?_)
      · rw [zi_le (by omega) (by omega) (by omega) (by omega)] at c50
        refine x_iconst (q := 58) (v := zi (0)) d_96_57 rfl rfl ?_
        refine xist_5 (q := 60) d_96_58 rfl ?_
        refine x_iconst (q := 61) (v := zi (0)) d_96_60 rfl rfl ?_
        refine xist_6 (q := 63) d_96_61 rfl ?_
        refine lt_chIn (G := G1) (o := o) (W := W) (c := c) hn hN hN2 ho hc (fun i hi => by unfold FAb; rw [g6]; exact hFi i hi) (by rw [g6]; exact hsy) hcar (T := T) (by rw [g11, ek]; exact hT) ?_ N 0 0 (by omega) ?_
        · intro g t6 hg
          rw [ek, ef] at hg
          have hgb : g = 0 ∨ g = 1 := by rcases hg with h | h; exact Or.inr h.1; exact Or.inl h.1
          refine xald_0 (q := 137) d_96_136 rfl ?_
          refine yg_chosen hn (q := 140) d_96_137 rfl fl_M_58 ?_
          refine xild_4 (q := 142) d_96_140 rfl ?_
          refine xild_5 (q := 144) d_96_142 rfl ?_
          refine ys_chosen (q := 145) hn hgb d_96_144 rfl (by omega) (by omega) ?_
          rw [show ((c : Int)).toNat = c by omega]
          refine xild_5 (q := 147) d_96_145 rfl ?_
          refine x_if_eq (q := 150) (t := 156) d_96_147 (by decide) rfl (fun c147 => ?_) (fun c147 => ?_)
          · rw [zi_eq0 (by omega) (by omega)] at c147
            refine xild_3 (q := 157) d_96_156 rfl ?_
            refine xist_3 (q := 158) d_96_157 rfl ?_
            refine xald_0 (q := 159) d_96_158 rfl ?_
            refine xald_0 (q := 160) d_96_159 rfl ?_
            refine yg_pool hn (q := 163) d_96_160 rfl fl_M_55 ?_
            refine xild_1 (q := 164) d_96_163 rfl ?_
            refine x_iconst (q := 165) (v := zi (1)) d_96_164 rfl rfl ?_
            refine xcV3 (q := 168) d_96_165 rfl lk_M_109 mo_82 ⟨by decide +kernel, by decide +kernel⟩ (by simp [Value.category]) (by decide +kernel) (by simp [Value.category]) (by omega) rfl ?_
            refine t_outer (r := 10) hn hN hN2 (by unfold mBool; decide) (by omega) (by unfold FAb; rw [va_un _ _ _ (by decide), g6]; exact hFi o ho) (L := Lt) (by (rw [show kg (va_up G1 11 (va_up (G1 11) c g)) o = kg G0 o from (by unfold kg; rw [va_un _ _ _ (by decide), g6]), va_un _ _ _ (by decide), g10]; exact hpop)) true rfl ?_
            dsimp only [ax_ps]
            refine xist_4 (q := 170) d_96_168 rfl ?_
            refine x_goto (t := 35) d_96_170 (by decide) ?_
            first
              | (have hg2 := hg.resolve_left (fun h => absurd h.1 (by omega)); obtain ⟨hg3, hg4⟩ := hg2; subst hg3; exact ih Lt T _ _ _ hdl (fun r h1 h2 => by (rw [va_un _ _ _ h2]; exact hGG r h1 h2)) (by rw [va_un _ _ _ (by decide), g10]; exact hpop) (by rw [va_us, g11]; exact hT.keep hk hc hcT) (fun y hy x hx => Nat.lt_trans (hltc y hy) (htl x hx)) (by rw [← ch_no hg4 (hk c hc)]; exact h9))
              | (have hg2 := hg.resolve_right (fun h => absurd h.1 (by omega)); obtain ⟨hg3, hg4⟩ := hg2; subst hg3; rw [show (T.length : Int) + 1 = ((T ++ [kg G0 o c]).length : Int) from (by rw [List.length_append]; rfl)]; exact ih Lt (T ++ [kg G0 o c]) _ _ _ hdl (fun r h1 h2 => by (rw [va_un _ _ _ h2]; exact hGG r h1 h2)) (by rw [va_un _ _ _ (by decide), g10]; exact hpop) (by (rw [va_us, g11, ← ins_last hltc]; exact hT.add hk hc hcT)) (fun y hy x hx => (List.mem_append.mp hy).elim (fun q => Nat.lt_trans (hltc y q) (htl x hx)) (fun q => by (rw [List.mem_singleton.mp q]; exact htl x hx))) (by rw [← ch_yes hg4 (hk c hc)]; exact h9))
          · rw [zi_eq0 (by omega) (by omega)] at c147
            refine xild_3 (q := 151) d_96_150 rfl ?_
            refine x_iconst (q := 152) (v := zi (1)) d_96_151 rfl rfl ?_
            refine z_iadd (q := 153) d_96_152 rfl ?_
            refine x_goto (t := 157) d_96_153 (by decide) ?_
            refine xist_3 (q := 158) d_96_157 rfl ?_
            refine xald_0 (q := 159) d_96_158 rfl ?_
            refine xald_0 (q := 160) d_96_159 rfl ?_
            refine yg_pool hn (q := 163) d_96_160 rfl fl_M_55 ?_
            refine xild_1 (q := 164) d_96_163 rfl ?_
            refine x_iconst (q := 165) (v := zi (1)) d_96_164 rfl rfl ?_
            refine xcV3 (q := 168) d_96_165 rfl lk_M_109 mo_82 ⟨by decide +kernel, by decide +kernel⟩ (by simp [Value.category]) (by decide +kernel) (by simp [Value.category]) (by omega) rfl ?_
            refine t_outer (r := 10) hn hN hN2 (by unfold mBool; decide) (by omega) (by unfold FAb; rw [va_un _ _ _ (by decide), g6]; exact hFi o ho) (L := Lt) (by (rw [show kg (va_up G1 11 (va_up (G1 11) c g)) o = kg G0 o from (by unfold kg; rw [va_un _ _ _ (by decide), g6]), va_un _ _ _ (by decide), g10]; exact hpop)) true rfl ?_
            dsimp only [ax_ps]
            refine xist_4 (q := 170) d_96_168 rfl ?_
            refine x_goto (t := 35) d_96_170 (by decide) ?_
            first
              | (have hg2 := hg.resolve_left (fun h => absurd h.1 (by omega)); obtain ⟨hg3, hg4⟩ := hg2; subst hg3; exact ih Lt T _ _ _ hdl (fun r h1 h2 => by (rw [va_un _ _ _ h2]; exact hGG r h1 h2)) (by rw [va_un _ _ _ (by decide), g10]; exact hpop) (by rw [va_us, g11]; exact hT.keep hk hc hcT) (fun y hy x hx => Nat.lt_trans (hltc y hy) (htl x hx)) (by rw [← ch_no hg4 (hk c hc)]; exact h9))
              | (have hg2 := hg.resolve_right (fun h => absurd h.1 (by omega)); obtain ⟨hg3, hg4⟩ := hg2; subst hg3; rw [show (T.length : Int) + 1 = ((T ++ [kg G0 o c]).length : Int) from (by rw [List.length_append]; rfl)]; exact ih Lt (T ++ [kg G0 o c]) _ _ _ hdl (fun r h1 h2 => by (rw [va_un _ _ _ h2]; exact hGG r h1 h2)) (by rw [va_un _ _ _ (by decide), g10]; exact hpop) (by (rw [va_us, g11, ← ins_last hltc]; exact hT.add hk hc hcT)) (fun y hy x hx => (List.mem_append.mp hy).elim (fun q => Nat.lt_trans (hltc y q) (htl x hx)) (fun q => by (rw [List.mem_singleton.mp q]; exact htl x hx))) (by rw [← ch_yes hg4 (hk c hc)]; exact h9))
        · exact Or.inr ⟨rfl, fun z => by have := z.1; omega⟩
      · rw [zi_le (by omega) (by omega) (by omega) (by omega)] at c50
        refine x_iconst (q := 54) (v := zi (1)) d_96_53 rfl rfl ?_
        refine x_goto (t := 58) d_96_54 (by decide) ?_
        refine xist_5 (q := 60) d_96_58 rfl ?_
        refine x_iconst (q := 61) (v := zi (0)) d_96_60 rfl rfl ?_
        refine xist_6 (q := 63) d_96_61 rfl ?_
        refine lt_chIn (G := G1) (o := o) (W := W) (c := c) hn hN hN2 ho hc (fun i hi => by unfold FAb; rw [g6]; exact hFi i hi) (by rw [g6]; exact hsy) hcar (T := T) (by rw [g11, ek]; exact hT) ?_ N 0 1 (by omega) ?_
        · intro g t6 hg
          rw [ek, ef] at hg
          have hgb : g = 0 ∨ g = 1 := by rcases hg with h | h; exact Or.inr h.1; exact Or.inl h.1
          refine xald_0 (q := 137) d_96_136 rfl ?_
          refine yg_chosen hn (q := 140) d_96_137 rfl fl_M_58 ?_
          refine xild_4 (q := 142) d_96_140 rfl ?_
          refine xild_5 (q := 144) d_96_142 rfl ?_
          refine ys_chosen (q := 145) hn hgb d_96_144 rfl (by omega) (by omega) ?_
          rw [show ((c : Int)).toNat = c by omega]
          refine xild_5 (q := 147) d_96_145 rfl ?_
          refine x_if_eq (q := 150) (t := 156) d_96_147 (by decide) rfl (fun c147 => ?_) (fun c147 => ?_)
          · rw [zi_eq0 (by omega) (by omega)] at c147
            refine xild_3 (q := 157) d_96_156 rfl ?_
            refine xist_3 (q := 158) d_96_157 rfl ?_
            refine xald_0 (q := 159) d_96_158 rfl ?_
            refine xald_0 (q := 160) d_96_159 rfl ?_
            refine yg_pool hn (q := 163) d_96_160 rfl fl_M_55 ?_
            refine xild_1 (q := 164) d_96_163 rfl ?_
            refine x_iconst (q := 165) (v := zi (1)) d_96_164 rfl rfl ?_
            refine xcV3 (q := 168) d_96_165 rfl lk_M_109 mo_82 ⟨by decide +kernel, by decide +kernel⟩ (by simp [Value.category]) (by decide +kernel) (by simp [Value.category]) (by omega) rfl ?_
            refine t_outer (r := 10) hn hN hN2 (by unfold mBool; decide) (by omega) (by unfold FAb; rw [va_un _ _ _ (by decide), g6]; exact hFi o ho) (L := Lt) (by (rw [show kg (va_up G1 11 (va_up (G1 11) c g)) o = kg G0 o from (by unfold kg; rw [va_un _ _ _ (by decide), g6]), va_un _ _ _ (by decide), g10]; exact hpop)) true rfl ?_
            dsimp only [ax_ps]
            refine xist_4 (q := 170) d_96_168 rfl ?_
            refine x_goto (t := 35) d_96_170 (by decide) ?_
            first
              | (have hg2 := hg.resolve_left (fun h => absurd h.1 (by omega)); obtain ⟨hg3, hg4⟩ := hg2; subst hg3; exact ih Lt T _ _ _ hdl (fun r h1 h2 => by (rw [va_un _ _ _ h2]; exact hGG r h1 h2)) (by rw [va_un _ _ _ (by decide), g10]; exact hpop) (by rw [va_us, g11]; exact hT.keep hk hc hcT) (fun y hy x hx => Nat.lt_trans (hltc y hy) (htl x hx)) (by rw [← ch_no hg4 (hk c hc)]; exact h9))
              | (have hg2 := hg.resolve_right (fun h => absurd h.1 (by omega)); obtain ⟨hg3, hg4⟩ := hg2; subst hg3; rw [show (T.length : Int) + 1 = ((T ++ [kg G0 o c]).length : Int) from (by rw [List.length_append]; rfl)]; exact ih Lt (T ++ [kg G0 o c]) _ _ _ hdl (fun r h1 h2 => by (rw [va_un _ _ _ h2]; exact hGG r h1 h2)) (by rw [va_un _ _ _ (by decide), g10]; exact hpop) (by (rw [va_us, g11, ← ins_last hltc]; exact hT.add hk hc hcT)) (fun y hy x hx => (List.mem_append.mp hy).elim (fun q => Nat.lt_trans (hltc y q) (htl x hx)) (fun q => by (rw [List.mem_singleton.mp q]; exact htl x hx))) (by rw [← ch_yes hg4 (hk c hc)]; exact h9))
          · rw [zi_eq0 (by omega) (by omega)] at c147
            refine xild_3 (q := 151) d_96_150 rfl ?_
            refine x_iconst (q := 152) (v := zi (1)) d_96_151 rfl rfl ?_
            refine z_iadd (q := 153) d_96_152 rfl ?_
            refine x_goto (t := 157) d_96_153 (by decide) ?_
            refine xist_3 (q := 158) d_96_157 rfl ?_
            refine xald_0 (q := 159) d_96_158 rfl ?_
            refine xald_0 (q := 160) d_96_159 rfl ?_
            refine yg_pool hn (q := 163) d_96_160 rfl fl_M_55 ?_
            refine xild_1 (q := 164) d_96_163 rfl ?_
            refine x_iconst (q := 165) (v := zi (1)) d_96_164 rfl rfl ?_
            refine xcV3 (q := 168) d_96_165 rfl lk_M_109 mo_82 ⟨by decide +kernel, by decide +kernel⟩ (by simp [Value.category]) (by decide +kernel) (by simp [Value.category]) (by omega) rfl ?_
            refine t_outer (r := 10) hn hN hN2 (by unfold mBool; decide) (by omega) (by unfold FAb; rw [va_un _ _ _ (by decide), g6]; exact hFi o ho) (L := Lt) (by (rw [show kg (va_up G1 11 (va_up (G1 11) c g)) o = kg G0 o from (by unfold kg; rw [va_un _ _ _ (by decide), g6]), va_un _ _ _ (by decide), g10]; exact hpop)) true rfl ?_
            dsimp only [ax_ps]
            refine xist_4 (q := 170) d_96_168 rfl ?_
            refine x_goto (t := 35) d_96_170 (by decide) ?_
            first
              | (have hg2 := hg.resolve_left (fun h => absurd h.1 (by omega)); obtain ⟨hg3, hg4⟩ := hg2; subst hg3; exact ih Lt T _ _ _ hdl (fun r h1 h2 => by (rw [va_un _ _ _ h2]; exact hGG r h1 h2)) (by rw [va_un _ _ _ (by decide), g10]; exact hpop) (by rw [va_us, g11]; exact hT.keep hk hc hcT) (fun y hy x hx => Nat.lt_trans (hltc y hy) (htl x hx)) (by rw [← ch_no hg4 (hk c hc)]; exact h9))
              | (have hg2 := hg.resolve_right (fun h => absurd h.1 (by omega)); obtain ⟨hg3, hg4⟩ := hg2; subst hg3; rw [show (T.length : Int) + 1 = ((T ++ [kg G0 o c]).length : Int) from (by rw [List.length_append]; rfl)]; exact ih Lt (T ++ [kg G0 o c]) _ _ _ hdl (fun r h1 h2 => by (rw [va_un _ _ _ h2]; exact hGG r h1 h2)) (by rw [va_un _ _ _ (by decide), g10]; exact hpop) (by (rw [va_us, g11, ← ins_last hltc]; exact hT.add hk hc hcT)) (fun y hy x hx => (List.mem_append.mp hy).elim (fun q => Nat.lt_trans (hltc y q) (htl x hx)) (fun q => by (rw [List.mem_singleton.mp q]; exact htl x hx))) (by rw [← ch_yes hg4 (hk c hc)]; exact h9))
        · exact Or.inl ⟨rfl, by omega, fun t ht => absurd ht (Nat.not_lt_zero _)⟩
set_option maxHeartbeats 2000000 in
theorem lt_chFill {sc : ax_S} {σ : Nat → ax_C} {J : Nat → Int} {G0 : Nat → Nat → Int} {n bc bs : Nat} {K : ax_K} (hn : 38 ≤ n) {o W : Nat} (kk : ∀ (G : Nat → Nat → Int), (∀ r, r ≠ 11 → G r = G0 r) → (∀ x, x < 100 → G 11 x = 0) → Ex sc 96 21 [some (.ref 22), some (.int (zi o)), some (.int (zi W)), some (.int (zi 100)), none, none, none] [] (mg σ J G, n, bc, bs) K) :
    ∀ (d j : Nat) (G : Nat → Nat → Int), j + d = 100 → (∀ r, r ≠ 11 → G r = G0 r) → (∀ x, x < j → G 11 x = 0) → Ex sc 96 2 [some (.ref 22), some (.int (zi o)), some (.int (zi W)), some (.int (zi j)), none, none, none] [] (mg σ J G, n, bc, bs) K := by
  intro d
  induction d with
  | zero =>
    intro j G hj hG h
    have hj1 : j = 100 := by omega
    subst hj1
    refine xild_3 (q := 3) d_96_2 rfl ?_
    refine x_bipush (q := 5) (v := zi (100)) d_96_3 rfl (by decide) ?_
    refine x_icmp_ge (q := 8) (t := 21) d_96_5 (by decide) rfl (fun c5 => ?_) (fun c5 => ?_)
    · rw [zi_le (by omega) (by omega) (by omega) (by omega)] at c5
      exact kk G hG h
    · rw [zi_le (by omega) (by omega) (by omega) (by omega)] at c5
      exact absurd c5 (by omega)
  | succ d ih =>
    intro j G hj hG h
    refine xild_3 (q := 3) d_96_2 rfl ?_
    refine x_bipush (q := 5) (v := zi (100)) d_96_3 rfl (by decide) ?_
    refine x_icmp_ge (q := 8) (t := 21) d_96_5 (by decide) rfl (fun c5 => ?_) (fun c5 => ?_)
    · rw [zi_le (by omega) (by omega) (by omega) (by omega)] at c5
      exact absurd c5 (by omega)
    · rw [zi_le (by omega) (by omega) (by omega) (by omega)] at c5
      refine xald_0 (q := 9) d_96_8 rfl ?_
      refine yg_chosen hn (q := 12) d_96_9 rfl fl_M_58 ?_
      refine xild_3 (q := 13) d_96_12 rfl ?_
      refine x_iconst (q := 14) (v := zi (0)) d_96_13 rfl rfl ?_
      refine ys_chosen (q := 15) hn (Or.inl rfl) d_96_14 rfl (by omega) (by omega) ?_
      refine xincz_3 (q := 18) d_96_15 rfl ?_
      refine x_goto (t := 2) d_96_18 (by decide) ?_
      rw [show (j : Int) + 1 = ((j + 1 : Nat) : Int) by omega, show ((j : Int)).toNat = j by omega]
      refine ih (j + 1) _ (by omega) (fun r hr => by rw [va_un _ _ _ hr]; exact hG r hr) (fun x hx => ?_)
      rw [va_us]
      by_cases e : x = j
      · rw [e, va_us]
      · rw [va_un _ _ _ e]; exact h x (by omega)
set_option maxHeartbeats 2000000 in
theorem t_choose {sc : ax_S} {σ : Nat → ax_C} {J : Nat → Int} {G : Nat → Nat → Int} {n bc bs : Nat} {K : ax_K} (hn : 38 ≤ n) {N : Nat} (hN : J 7 = N) (hN2 : N ≤ 100) {o W : Nat} (ho : o < N) (hW : W ≤ 100) (hFi : ∀ i, i < N → FAb G N i) (hsy : ∀ a b, a < N → b < N → G 6 (100 * a + b) = G 6 (100 * b + a)) {car : Bool} (hcar : J 5 = if car = true then 1 else 0) {L : List Nat} (hL : SB (G 10) (kg G o) N L)
    (k : ∀ G', (∀ r, r ≠ 10 → r ≠ 11 → G' r = G r) → SB (G' 11) (kg G o) N (mChoose (fbT G) car W L []) → K none (mg σ J G', n, bc, bs)) : Ex sc 96 0 (ax_en 96 [.ref 22, .int (zi o), .int (zi W)]) [] (mg σ J G, n, bc, bs) K := by
  show Ex sc 96 0 [some (.ref 22), some (.int (zi o)), some (.int (zi W)), none, none, none, none] [] (mg σ J G, n, bc, bs) K
  refine x_iconst (q := 1) (v := zi (0)) d_96_0 rfl rfl ?_
  refine xist_3 (q := 2) d_96_1 rfl ?_
  refine lt_chFill hn ?_ 100 0 G (by omega) (fun _ _ => rfl) (fun x hx => absurd hx (Nat.not_lt_zero _))
  intro G1 hG1 h11
  have ek : kg G1 o = kg G o := by unfold kg; rw [hG1 6 (by decide)]
  refine x_iconst (q := 22) (v := zi (0)) d_96_21 rfl rfl ?_
  refine xist_3 (q := 23) d_96_22 rfl ?_
  refine xald_0 (q := 24) d_96_23 rfl ?_
  refine xald_0 (q := 25) d_96_24 rfl ?_
  refine yg_pool hn (q := 28) d_96_25 rfl fl_M_55 ?_
  refine xild_1 (q := 29) d_96_28 rfl ?_
  refine x_iconst (q := 30) (v := zi (1)) d_96_29 rfl rfl ?_
  refine xcV3 (q := 33) d_96_30 rfl lk_M_109 mo_82 ⟨by decide +kernel, by decide +kernel⟩ (by simp [Value.category]) (by decide +kernel) (by simp [Value.category]) (by omega) rfl ?_
  refine t_outer (r := 10) hn hN hN2 (by unfold mBool; decide) (by omega) (by unfold FAb; rw [hG1 6 (by decide)]; exact hFi o ho) (L := L) (by rw [ek, hG1 10 (by decide)]; exact hL) true rfl ?_
  dsimp only [ax_ps]
  refine xist_4 (q := 35) d_96_33 rfl ?_
  exact lt_choose hn hN hN2 ho hW hFi hsy hcar k L.length L [] G1 _ _ rfl (fun r _ h => hG1 r h) (by rw [hG1 10 (by decide)]; exact hL) ⟨List.Pairwise.nil, fun _ q => absurd q List.not_mem_nil, fun x hx => by rw [h11 x (by omega), if_neg List.not_mem_nil]⟩ (fun _ q => absurd q List.not_mem_nil) rfl
