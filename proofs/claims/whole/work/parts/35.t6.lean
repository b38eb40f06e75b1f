/-! rows stay in order -/
def GO (kf : Nat → Nat) (N : Nat) (S : mG) : Prop := S.2.1.Pairwise (· < ·) ∧ S.2.2.Pairwise (· < ·) ∧ (∀ x ∈ S.1, x < N) ∧ (∀ k ∈ S.2.1, ∃ x ∈ S.1, k = kf x) ∧ ∀ k ∈ S.2.2, ∃ x ∈ S.1, k = kf x
theorem GO.nil {kf : Nat → Nat} {N : Nat} : GO kf N ([], [], []) := ⟨List.Pairwise.nil, List.Pairwise.nil, fun _ h => absurd h List.not_mem_nil, fun _ h => absurd h List.not_mem_nil, fun _ h => absurd h List.not_mem_nil⟩
theorem GO.meet {kf : Nat → Nat} {N : Nat} (hk : ∀ y, y < N → kf y % 100 = y) {S : mG} (h : GO kf N S) {e x : Nat} (hx : x < N) : GO kf N (mMeet kf e x S) := by
  obtain ⟨h1, h2, h3, h4, h5⟩ := h
  unfold mMeet
  split
  · exact ⟨h1, h2, h3, h4, h5⟩
  next hm =>
    have h3' : ∀ y ∈ x :: S.1, y < N := fun y hy => by
      rcases List.mem_cons.mp hy with rfl | hy
      · exact hx
      · exact h3 y hy
    have n1 : kf x ∉ S.2.1 := fun z => by
      obtain ⟨y, hy, e1⟩ := h4 _ z
      exact hm (by rw [kf_inj hk hx (h3 y hy) e1]; exact hy)
    have n2 : kf x ∉ S.2.2 := fun z => by
      obtain ⟨y, hy, e1⟩ := h5 _ z
      exact hm (by rw [kf_inj hk hx (h3 y hy) e1]; exact hy)
    have up : ∀ (L : List Nat), (∀ k ∈ L, ∃ x ∈ S.1, k = kf x) → ∀ k ∈ L, ∃ y ∈ x :: S.1, k = kf y := fun L hL k hkk => by
      obtain ⟨y, hy, e1⟩ := hL k hkk
      exact ⟨y, List.mem_cons_of_mem _ hy, e1⟩
    have up2 : ∀ (L : List Nat), (∀ k ∈ L, ∃ x ∈ S.1, k = kf x) → ∀ k ∈ ins (kf x) L, ∃ y ∈ x :: S.1, k = kf y := fun L hL k hkk => by
      rcases ins_mem.mp hkk with q | q
      · exact ⟨x, List.mem_cons_self, q⟩
      · exact up L hL k q
    split
    · exact ⟨(ins_slt h1 n1).sublist (List.take_sublist _ _), ins_slt h2 n2, h3', fun k hkk => up2 _ h4 k (List.mem_of_mem_take hkk), up2 _ h5⟩
    · exact ⟨h1, h2, h3', up _ h4, up _ h5⟩
theorem GO.meets {kf : Nat → Nat} {N e : Nat} (hk : ∀ y, y < N → kf y % 100 = y) : ∀ {xs : List Nat} {S : mG}, GO kf N S → (∀ x ∈ xs, x < N) → GO kf N (mMeets kf e xs S)
  | [], _, h, _ => h
  | x :: xs, _, h, hx => GO.meets hk (xs := xs) (h.meet hk (hx x List.mem_cons_self)) (fun y hy => hx y (List.mem_cons_of_mem _ hy))
theorem GO.tl {kf : Nat → Nat} {N : Nat} {S : mG} (h : GO kf N S) : GO kf N (S.1, S.2.1, S.2.2.tail) := ⟨h.1, h.2.1.sublist (List.tail_sublist _), h.2.2.1, h.2.2.2.1, fun k hk => h.2.2.2.2 k (List.mem_of_mem_tail hk)⟩
theorem GO.head {kf : Nat → Nat} {N : Nat} (hk : ∀ y, y < N → kf y % 100 = y) {S : mG} (h : GO kf N S) (hne : S.2.2 ≠ []) : S.2.2.getD 0 0 % 100 < N := by
  obtain ⟨x, hx, e1⟩ := h.2.2.2.2 _ (gd_mem (List.length_pos_iff.mpr hne))
  rw [e1, hk x (h.2.2.1 x hx)]
  exact h.2.2.1 x hx
theorem GO.go {kf : Nat → Nat} {row : Nat → List Nat} {e N : Nat} (hr : ∀ i, i < N → ∀ x ∈ row i, x < N) (hk : ∀ x, x < N → kf x % 100 = x) : ∀ (d : Nat) {S : mG}, GO kf N S → GO kf N (mGo kf row e d S)
  | 0, _, h => h
  | d + 1, S, h => by
    unfold mGo
    split
    · exact h
    next hne =>
      split
      · exact h.tl
      · exact GO.go hr hk d (GO.meets hk h.tl (hr _ (h.head hk hne)))
theorem mGoing_GO {kf : Nat → Nat} {row : Nat → List Nat} {e N f : Nat} (hf : f < N) (hr : ∀ i, i < N → ∀ x ∈ row i, x < N) (hk : ∀ x, x < N → kf x % 100 = x) : GO kf N (mGoing kf row e f) := GO.go hr hk 100 (GO.nil.meet hk hf)
theorem GO.num {kf : Nat → Nat} {N : Nat} {S : mG} (h : GO kf N S) : ∀ k ∈ S.2.1, ∃ x, x < N ∧ k = kf x := fun k hk => by
  obtain ⟨x, hx, e⟩ := h.2.2.2.1 k hk
  exact ⟨x, h.2.2.1 x hx, e⟩
theorem RS.mono {kf : Nat → Nat} {L : List Nat} {N N' : Nat} (h : RS kf L N) (hN : N ≤ N') : RS kf L N' := ⟨h.1, fun x hx => Nat.lt_of_lt_of_le (h.2 x hx) hN⟩
theorem mRow_RS {kfs : Nat → Nat → Nat} {fb : Nat → Nat → Nat} {car : Bool} {wd x l f : Nat} {R : Nat → Nat → List Nat} (hf : f < x) (hR : LT R l x) (hk : ∀ y, y < x → kfs x y % 100 = y) : RS (kfs x) (mRow kfs fb car wd R x l f) x := by
  have h := mGoing_GO (e := 12) hf (fun i _ => hR i) hk
  exact RS_keys hk (mChoose_slt h.1) (fun k hkk => h.num k (mChoose_in hkk))
theorem mJL_RS {kfs : Nat → Nat → Nat} {fb : Nat → Nat → Nat} {car : Bool} {wd x l f N : Nat} {R : Nat → Nat → List Nat} (hx : x < N) (hf : f < x) (hR : LT R l x) (hk : ∀ o y, o < N → y < N → kfs o y % 100 = y) (hS : ∀ a, a < N → RS (kfs a) (R a l) N) : ∀ a, a < N → RS (kfs a) (mJL kfs fb car wd R x l f a l) N := by
  intro a ha
  have hrow := mRow_RS (fb := fb) (car := car) (wd := wd) hf hR (fun y hy => hk x y hx (by omega))
  unfold mJL
  rw [mLinks_eq _ _ _ _ hrow.nodup]
  by_cases q : a ∈ mRow kfs fb car wd R x l f
  · have hax : a ≠ x := fun e => Nat.lt_irrefl x (e ▸ hrow.2 a q)
    rw [if_pos ⟨rfl, q⟩, rset_n _ _ _ _ (fun z => hax z.1)]
    exact mBack_RS (fun y hy => hk a y ha hy) (hS a ha).nodup (hS a ha).2 hx (fun z => Nat.lt_irrefl _ (hR a x z))
  · rw [if_neg (fun z => q z.2)]
    by_cases e : a = x
    · rw [e, rset_s]
      exact hrow.mono (by omega)
    · rw [rset_n _ _ _ _ (fun z => e z.1)]
      exact hS a ha
theorem mJLs_RS {kfs : Nat → Nat → Nat} {fb : Nat → Nat → Nat} {car : Bool} {wd x N : Nat} (hx : x < N) (hk : ∀ o y, o < N → y < N → kfs o y % 100 = y) : ∀ (d : Nat) (R : Nat → Nat → List Nat) (f : Nat), f < x → (∀ l, l < d → LT R l x) → (∀ l a, a < N → RS (kfs a) (R a l) N) → ∀ l a, a < N → RS (kfs a) (mJLs kfs fb car wd x d R f a l) N
  | 0, _, _, _, _, h => h
  | d + 1, R, f, hf, h1, h2 => by
    refine mJLs_RS hx hk d _ _ (mHead_lt (by decide) hf (fun i _ => h1 d (by omega) i) (fun y hy => hk x y hx (by omega))) (fun l hl => ?_) (fun l a ha => ?_)
    · intro i y hy
      rw [mJL_other (by omega)] at hy
      exact h1 l (by omega) i y hy
    · by_cases e : l = d
      · subst e
        exact mJL_RS hx hf (h1 l (by omega)) hk (h2 l) a ha
      · rw [mJL_other e]
        exact h2 l a ha
theorem mBuild_RS {kfs : Nat → Nat → Nat} {fb : Nat → Nat → Nat} {car : Bool} {wd N : Nat} {lv : Nat → Nat} (hk : ∀ o y, o < N → y < N → kfs o y % 100 = y) : ∀ (n : Nat), n ≤ N → ∀ l a, a < N → RS (kfs a) ((mBuild kfs fb car wd lv n).1 a l) N
  | 0, _ => fun _ _ _ => ⟨List.Pairwise.nil, fun _ h => absurd h List.not_mem_nil⟩
  | n + 1, hn => by
    have ih := mBuild_RS (kfs := kfs) (fb := fb) (car := car) (wd := wd) (lv := lv) hk n (by omega)
    obtain ⟨h1, h2, _⟩ := mBuild_lt (kfs := kfs) (fb := fb) (car := car) (wd := wd) (lv := lv) n (fun o y ho hy => hk o y (by omega) (by omega))
    show ∀ l a, a < N → RS (kfs a) ((mJoin kfs fb car wd lv (mBuild kfs fb car wd lv n) n).1 a l) N
    unfold mJoin
    split
    · exact ih
    next en hen =>
      exact mJLs_RS (by omega) hk _ _ _ (mDesc_lt h1 (fun y hy => hk n y (by omega) (by omega)) _ _ (h2 en hen)) (fun l _ => h1 l) ih
/-! THE REFERENCE: come -/
def FH (G G' : Nat → Nat → Int) : Prop := ∀ r, r ≠ 5 → r ≠ 7 → r ≠ 8 → r ≠ 9 → r ≠ 10 → r ≠ 11 → G' r = G r
theorem FH.rf {G : Nat → Nat → Int} : FH G G := fun _ _ _ _ _ _ _ => rfl
theorem FH.tr {G G' G2 : Nat → Nat → Int} (h : FH G G') (h2 : FH G' G2) : FH G G2 := fun r a b c d e f => (h2 r a b c d e f).trans (h r a b c d e f)
theorem FG.H {G G' : Nat → Nat → Int} (h : FG G G') : FH G G' := fun r _ a b c _ _ => h r a b c
theorem FC.H {G G' : Nat → Nat → Int} (h : FC G G') : FH G G' := fun r a _ _ _ b c => h r a b c
theorem FH.g6 {G G' : Nat → Nat → Int} (h : FH G G') : G' 6 = G 6 := h 6 (by decide) (by decide) (by decide) (by decide) (by decide) (by decide)
theorem FH.g4 {G G' : Nat → Nat → Int} (h : FH G G') : G' 4 = G 4 := h 4 (by decide) (by decide) (by decide) (by decide) (by decide) (by decide)
theorem FH.ke {G G' : Nat → Nat → Int} (h : FH G G') : kg G' = kg G := by unfold kg; rw [h.g6]
theorem FH.fe {G G' : Nat → Nat → Int} (h : FH G G') : fbT G' = fbT G := by unfold fbT; rw [h.g6]
theorem FH.fab {G G' : Nat → Nat → Int} (h : FH G G') {N o : Nat} (hF : FAb G N o) : FAb G' N o := by unfold FAb; rw [h.g6]; exact hF
theorem FJ.rf {J : Nat → Int} : FJ J J := fun _ _ _ => rfl
theorem FJ.tr {J J' J2 : Nat → Int} (h : FJ J J') (h2 : FJ J' J2) : FJ J J2 := fun r a b => (h2 r a b).trans (h r a b)
theorem out_head {L : List Nat} (h : L ≠ []) : outI L true = (mHead L : Int) := by
  unfold outI mHead
  rw [if_neg h, if_pos rfl]
def entT : Option Nat → Int
  | none => -1
  | some e => e

set_option maxHeartbeats 2000000 in
theorem lt_comeB {sc : ax_S} {σ : Nat → ax_C} {J0 : Nat → Int} {G0 : Nat → Nat → Int} {n bc bs : Nat} {K : ax_K} (hn : 38 ≤ n) {N : Nat} (hN : J0 7 = N) (hN2 : N ≤ 100) {i : Nat} (hi : i < N) (hFi : ∀ i, i < N → FAb G0 N i) (hsy : ∀ a b, a < N → b < N → G0 6 (100 * a + b) = G0 6 (100 * b + a)) {wd : Nat} (hwd : J0 4 = wd) (hwd6 : wd ≤ 6) {car : Bool} (hcar : J0 5 = if car = true then 1 else 0) {lv : Nat → Nat} (hlv : ∀ x, x < N → G0 4 x = lv x) (hlv4 : ∀ x, lv x ≤ 4) {R9 : Nat → Nat → List Nat}
    (kk : ∀ (J : Nat → Int) (G : Nat → Nat → Int) (t : Option Value), FJ J0 J → FH G0 G → NR G R9 → Ex sc 89 96 [some (.ref 22), some (.int (zi i)), t, some (.int (zi (-1)))] [] (mg σ J G, n, bc, bs) K) :
    ∀ (d : Nat) (R : Nat → Nat → List Nat) (f : Nat) (J : Nat → Int) (G : Nat → Nat → Int), d ≤ lv i + 1 → f < i → FJ J0 J → FH G0 G → NR G R → (∀ l, l < d → LT R l i) → (∀ l a, a < N → RS (kg G0 a) (R a l) N) → mJLs (kg G0) (fbT G0) car wd i d R f = R9 → Ex sc 89 28 [some (.ref 22), some (.int (zi i)), some (.int (zi f)), some (.int (zi ((d : Int) - 1)))] [] (mg σ J G, n, bc, bs) K := by
  have hk : ∀ o y, o < N → y < N → kg G0 o y % 100 = y := fun o y _ hy => kg_mod (by omega)
  have hlvi := hlv4 i
  have hki : ∀ y, y < i → kg G0 i y % 100 = y := fun y hy => kg_mod (by omega)
  intro d
  induction d with
  | zero =>
    intro R f J G hd hf hJ hG hR hlt hRS h9
    have h9 : R = R9 := h9
    subst h9
    refine xild_3 (q := 29) d_89_28 rfl ?_
    refine x_if_lt (q := 32) (t := 96) d_89_29 (by decide) rfl (fun c29 => ?_) (fun c29 => ?_)
    · rw [zi_lt0 (by omega) (by omega)] at c29
      exact kk J G _ hJ hG hR
    · rw [zi_lt0 (by omega) (by omega)] at c29
      exact absurd c29 (by omega)
  | succ d ih =>
    intro R f J G hd hf hJ hG hR hlt hRS h9
    have h9 : mJLs (kg G0) (fbT G0) car wd i d (mJL (kg G0) (fbT G0) car wd R i d f) (mHead (mGoing (kg G0 i) (fun a => R a d) 12 f).2.1) = R9 := h9
    rw [show ((d + 1 : Nat) : Int) - 1 = (d : Int) by omega]
    have hJN : J 7 = N := by rw [hJ 7 (by decide) (by decide)]; exact hN
    have hlvx := hlv i hi
    have hg4 := hG.g4
    have hltd := hlt d (by omega)
    have hGO := mGoing_GO (e := 12) (row := fun a => R a d) hf (fun a _ => hltd a) hki
    have hne := mGoing_ne (kf := kg G0 i) (row := fun a => R a d) (e := 12) (f := f) (by decide)
    have hhd := mHead_lt (kf := kg G0 i) (row := fun a => R a d) (e := 12) (by decide) hf (fun a _ => hltd a) hki
    refine xild_3 (q := 29) d_89_28 rfl ?_
    refine x_if_lt (q := 32) (t := 96) d_89_29 (by decide) rfl (fun c29 => ?_) (fun c29 => ?_)
    · rw [zi_lt0 (by omega) (by omega)] at c29
      exact absurd c29 (by omega)
    · rw [zi_lt0 (by omega) (by omega)] at c29
      refine xild_3 (q := 33) d_89_32 rfl ?_
      refine xald_0 (q := 34) d_89_33 rfl ?_
      refine yg_levels hn (q := 37) d_89_34 rfl fl_M_33 ?_
      refine xild_1 (q := 38) d_89_37 rfl ?_
      refine yl_levels (q := 39) hn d_89_38 rfl (by omega) (by omega) ?_
      refine x_icmp_le (q := 42) (t := 64) d_89_39 (by decide) rfl (fun c39 => ?_) (fun c39 => ?_)
      · rw [show ((i : Int)).toNat = i by omega, hg4, hlvx, zi_le (by omega) (by omega) (by omega) (by omega)] at c39
        refine xald_0 (q := 65) d_89_64 rfl ?_
        refine xild_3 (q := 66) d_89_65 rfl ?_
        refine xild_2 (q := 67) d_89_66 rfl ?_
        refine xild_1 (q := 68) d_89_67 rfl ?_
        refine x_bipush (q := 70) (v := zi (12)) d_89_68 rfl (by decide) ?_
        refine xcV4 (q := 73) d_89_70 rfl lk_M_132 mo_90 ⟨by decide +kernel, by decide +kernel⟩ (by simp [Value.category]) (by decide +kernel) (by simp [Value.category]) (by omega) rfl ?_
        refine t_go (l := d) (f := f) (o := i) (e := 12) hn hJN hN2 hR (by omega) (fun a ha => by rw [hG.ke]; exact hRS d a ha) (fun a ha => hG.fab (hFi a ha)) (by omega) (hG.fab (hFi i hi)) (by decide) (by decide) (by omega) ?_
        intro J1 G1 j1 g1 s1 b1 _
        rw [hG.ke] at s1
        have hG1 := hG.tr g1.H
        have hJ1 := hJ.tr j1
        dsimp only [ax_ps]
        refine xald_0 (q := 74) d_89_73 rfl ?_
        refine xald_0 (q := 75) d_89_74 rfl ?_
        refine yg_found hn (q := 78) d_89_75 rfl fl_M_52 ?_
        refine xild_1 (q := 79) d_89_78 rfl ?_
        refine x_iconst (q := 80) (v := zi (1)) d_89_79 rfl rfl ?_
        refine xcV3 (q := 83) d_89_80 rfl lk_M_109 mo_82 ⟨by decide +kernel, by decide +kernel⟩ (by simp [Value.category]) (by decide +kernel) (by simp [Value.category]) (by omega) rfl ?_
        refine t_outer (G := G1) (r := 9) hn (by rw [hJ1 7 (by decide) (by decide)]; exact hN) hN2 (by unfold mBool; decide) (by omega) (hG1.fab (hFi i hi)) (by rw [hG1.ke]; exact s1) true rfl ?_
        dsimp only [ax_ps]
        rw [out_head hne]
        refine xist_2 (q := 84) d_89_83 rfl ?_
        refine xald_0 (q := 85) d_89_84 rfl ?_
        refine xild_3 (q := 86) d_89_85 rfl ?_
        refine xild_1 (q := 87) d_89_86 rfl ?_
        refine xcV2 (q := 90) d_89_87 rfl lk_M_136 mo_95 ⟨by decide +kernel, by decide +kernel⟩ (by simp [Value.category]) (by decide +kernel) (by simp [Value.category]) (by omega) rfl ?_
        refine t_join (G := G1) (J := J1) (l := d) (i := i) (R := R) (wd := wd) hn (by rw [hJ1 7 (by decide) (by decide)]; exact hN) hN2 (g1.nr hR) (by omega) hi (fun a ha => hG1.fab (hFi a ha)) (by rw [hG1.g6]; exact hsy) (by rw [hJ1 4 (by decide) (by decide)]; exact hwd) hwd6 (by rw [hJ1 5 (by decide) (by decide)]; exact hcar) (fun a ha => ⟨(hRS d a ha).nodup, (hRS d a ha).2, fun z => Nat.lt_irrefl _ (hltd a i z)⟩) (L := (mGoing (kg G0 i) (fun a => R a d) 12 f).2.1) (by rw [hG1.ke]; exact s1) (by rw [hG1.ke]; exact (fun z => by (obtain ⟨x, hx, e1⟩ := hGO.num _ z; exact absurd (kf_inj (hk i · hi) hi (by omega) e1) (by omega)))) b1 ?_
        intro G2 g2 r2
        rw [hG1.ke, hG1.fe] at r2
        dsimp only [ax_ps]
        refine xincz_3 (q := 93) d_89_90 rfl ?_
        refine x_goto (t := 28) d_89_93 (by decide) ?_
        rw [show (d : Int) + -1 = (d : Int) - 1 by omega]
        exact ih (mJL (kg G0) (fbT G0) car wd R i d f) _ J1 G2 (by omega) hhd hJ1 (hG1.tr g2.H) r2 (fun l hl a y hy => by rw [mJL_other (by omega)] at hy; exact hlt l (by omega) a y hy) (fun l a ha => by
          by_cases e : l = d
          · rw [e]; exact mJL_RS hi hf hltd hk (hRS d) a ha
          · rw [mJL_other e]; exact hRS l a ha) h9
      · rw [show ((i : Int)).toNat = i by omega, hg4, hlvx, zi_le (by omega) (by omega) (by omega) (by omega)] at c39
        exact absurd c39 (by omega)
set_option maxHeartbeats 2000000 in
theorem lt_comeA {sc : ax_S} {σ : Nat → ax_C} {J0 : Nat → Int} {G0 : Nat → Nat → Int} {n bc bs : Nat} {K : ax_K} (hn : 38 ≤ n) {N : Nat} (hN : J0 7 = N) (hN2 : N ≤ 100) {i : Nat} (hi : i < N) (hFi : ∀ i, i < N → FAb G0 N i) (hsy : ∀ a b, a < N → b < N → G0 6 (100 * a + b) = G0 6 (100 * b + a)) {wd : Nat} (hwd : J0 4 = wd) (hwd6 : wd ≤ 6) {car : Bool} (hcar : J0 5 = if car = true then 1 else 0) {lv : Nat → Nat} (hlv : ∀ x, x < N → G0 4 x = lv x) (hlv4 : ∀ x, lv x ≤ 4) {R : Nat → Nat → List Nat} (hlt : ∀ l, LT R l i) (hRS : ∀ l a, a < N → RS (kg G0 a) (R a l) N) {f9 : Nat}
    (kk : ∀ (J : Nat → Int) (G : Nat → Nat → Int), FJ J0 J → FH G0 G → NR G R → f9 < i → Ex sc 89 28 [some (.ref 22), some (.int (zi i)), some (.int (zi f9)), some (.int (zi (lv i)))] [] (mg σ J G, n, bc, bs) K) :
    ∀ (d f : Nat) (J : Nat → Int) (G : Nat → Nat → Int), lv i + d ≤ 4 → f < i → FJ J0 J → FH G0 G → NR G R → (mDesc (kg G0 i) R (lv i) d f).1 = f9 → Ex sc 89 28 [some (.ref 22), some (.int (zi i)), some (.int (zi f)), some (.int (zi ((lv i + d : Nat) : Int)))] [] (mg σ J G, n, bc, bs) K := by
  have hk : ∀ o y, o < N → y < N → kg G0 o y % 100 = y := fun o y _ hy => kg_mod (by omega)
  have hki : ∀ y, y < i → kg G0 i y % 100 = y := fun y hy => kg_mod (by omega)
  intro d
  induction d with
  | zero =>
    intro f J G hd hf hJ hG hR h9
    have h9 : f = f9 := h9
    subst h9
    exact kk J G hJ hG hR hf
  | succ d ih =>
    intro f J G hd hf hJ hG hR h9
    have h9 : (mDesc (kg G0 i) R (lv i) d (mHead (mGoing (kg G0 i) (fun a => R a (lv i + d + 1)) 1 f).2.1)).1 = f9 := h9
    rw [show lv i + (d + 1) = lv i + d + 1 from rfl]
    have hJN : J 7 = N := by rw [hJ 7 (by decide) (by decide)]; exact hN
    have hlvx := hlv i hi
    have hg4 := hG.g4
    have hne := mGoing_ne (kf := kg G0 i) (row := fun a => R a (lv i + d + 1)) (e := 1) (f := f) (by decide)
    have hhd := mHead_lt (kf := kg G0 i) (row := fun a => R a (lv i + d + 1)) (e := 1) (by decide) hf (fun a _ => hlt _ a) hki
    refine xild_3 (q := 29) d_89_28 rfl ?_
    refine x_if_lt (q := 32) (t := 96) d_89_29 (by decide) rfl (fun c29 => ?_) (fun c29 => ?_)
    · rw [zi_lt0 (by omega) (by omega)] at c29
      exact absurd c29 (by omega)
    · rw [zi_lt0 (by omega) (by omega)] at c29
      refine xild_3 (q := 33) d_89_32 rfl ?_
      refine xald_0 (q := 34) d_89_33 rfl ?_
      refine yg_levels hn (q := 37) d_89_34 rfl fl_M_33 ?_
      refine xild_1 (q := 38) d_89_37 rfl ?_
      refine yl_levels (q := 39) hn d_89_38 rfl (by omega) (by omega) ?_
      refine x_icmp_le (q := 42) (t := 64) d_89_39 (by decide) rfl (fun c39 => ?_) (fun c39 => ?_)
      · rw [show ((i : Int)).toNat = i by omega, hg4, hlvx, zi_le (by omega) (by omega) (by omega) (by omega)] at c39
        exact absurd c39 (by omega)
      · rw [show ((i : Int)).toNat = i by omega, hg4, hlvx, zi_le (by omega) (by omega) (by omega) (by omega)] at c39
        refine xald_0 (q := 43) d_89_42 rfl ?_
        refine xild_3 (q := 44) d_89_43 rfl ?_
        refine xild_2 (q := 45) d_89_44 rfl ?_
        refine xild_1 (q := 46) d_89_45 rfl ?_
        refine x_iconst (q := 47) (v := zi (1)) d_89_46 rfl rfl ?_
        refine xcV4 (q := 50) d_89_47 rfl lk_M_132 mo_90 ⟨by decide +kernel, by decide +kernel⟩ (by simp [Value.category]) (by decide +kernel) (by simp [Value.category]) (by omega) rfl ?_
        refine t_go (l := lv i + d + 1) (f := f) (o := i) (e := 1) hn hJN hN2 hR (by omega) (fun a ha => by rw [hG.ke]; exact hRS _ a ha) (fun a ha => hG.fab (hFi a ha)) (by omega) (hG.fab (hFi i hi)) (by decide) (by decide) (by omega) ?_
        intro J1 G1 j1 g1 s1 b1 _
        rw [hG.ke] at s1
        have hG1 := hG.tr g1.H
        have hJ1 := hJ.tr j1
        dsimp only [ax_ps]
        refine xald_0 (q := 51) d_89_50 rfl ?_
        refine xald_0 (q := 52) d_89_51 rfl ?_
        refine yg_found hn (q := 55) d_89_52 rfl fl_M_52 ?_
        refine xild_1 (q := 56) d_89_55 rfl ?_
        refine x_iconst (q := 57) (v := zi (1)) d_89_56 rfl rfl ?_
        refine xcV3 (q := 60) d_89_57 rfl lk_M_109 mo_82 ⟨by decide +kernel, by decide +kernel⟩ (by simp [Value.category]) (by decide +kernel) (by simp [Value.category]) (by omega) rfl ?_
        refine t_outer (G := G1) (r := 9) hn (by rw [hJ1 7 (by decide) (by decide)]; exact hN) hN2 (by unfold mBool; decide) (by omega) (hG1.fab (hFi i hi)) (by rw [hG1.ke]; exact s1) true rfl ?_
        dsimp only [ax_ps]
        rw [out_head hne]
        refine xist_2 (q := 61) d_89_60 rfl ?_
        refine x_goto (t := 90) d_89_61 (by decide) ?_
        refine xincz_3 (q := 93) d_89_90 rfl ?_
        refine x_goto (t := 28) d_89_93 (by decide) ?_
        rw [show ((lv i + d + 1 : Nat) : Int) + -1 = ((lv i + d : Nat) : Int) by omega]
        exact ih _ J1 G1 (by omega) hhd hJ1 hG1 (g1.nr hR) h9
set_option maxHeartbeats 2000000 in
theorem t_come {sc : ax_S} {σ : Nat → ax_C} {J : Nat → Int} {G : Nat → Nat → Int} {n bc bs : Nat} {K : ax_K} (hn : 38 ≤ n) {N : Nat} (hN : J 7 = N) (hN2 : N ≤ 100) {i : Nat} (hi : i < N) (hFi : ∀ i, i < N → FAb G N i) (hsy : ∀ a b, a < N → b < N → G 6 (100 * a + b) = G 6 (100 * b + a)) {wd : Nat} (hwd : J 4 = wd) (hwd6 : wd ≤ 6) {car : Bool} (hcar : J 5 = if car = true then 1 else 0) {lv : Nat → Nat} (hlv : ∀ x, x < N → G 4 x = lv x) (hlv4 : ∀ x, lv x ≤ 4) {g : mSt} (hR : NR G g.1) (hent : J 16 = entT g.2) (hlt : ∀ l, LT g.1 l i) (hRS : ∀ l a, a < N → RS (kg G a) (g.1 a l) N) (hen : ∀ e, g.2 = some e → e < i)
    (k : ∀ (J' : Nat → Int) (G' : Nat → Nat → Int), (∀ r, r ≠ 12 → r ≠ 16 → r ≠ 21 → J' r = J r) → FH G G' → NR G' (mJoin (kg G) (fbT G) car wd lv g i).1 → J' 16 = entT (mJoin (kg G) (fbT G) car wd lv g i).2 → K none (mg σ J' G', n, bc, bs)) : Ex sc 89 0 (ax_en 89 [.ref 22, .int (zi i)]) [] (mg σ J G, n, bc, bs) K := by
  obtain ⟨R, ent⟩ := g
  have hR : NR G R := hR
  have hent : J 16 = entT ent := hent
  have hlt : ∀ l, LT R l i := hlt
  have hRS : ∀ l a, a < N → RS (kg G a) (R a l) N := hRS
  have hk : ∀ o y, o < N → y < N → kg G o y % 100 = y := fun o y _ hy => kg_mod (by omega)
  have hki : ∀ y, y < i → kg G i y % 100 = y := fun y hy => kg_mod (by omega)
  show Ex sc 89 0 [some (.ref 22), some (.int (zi i)), none, none] [] (mg σ J G, n, bc, bs) K
  cases ent with
  | none =>
    have hent : J 16 = -1 := hent
    refine xald_0 (q := 1) d_89_0 rfl ?_
    refine yg_entryOf hn (q := 4) d_89_1 rfl fl_M_40 ?_
    refine x_if_ge (q := 7) (t := 13) d_89_4 (by decide) rfl (fun c4 => ?_) (fun c4 => ?_)
    · rw [zi_ge0 (by omega) (by omega)] at c4
      exact absurd c4 (by omega)
    · rw [zi_ge0 (by omega) (by omega)] at c4
      refine xald_0 (q := 8) d_89_7 rfl ?_
      refine xild_1 (q := 9) d_89_8 rfl ?_
      refine yp_entryOf hn (q := 12) d_89_9 rfl fw_M_40 ?_
      refine x_vret d_89_12 rfl ?_
      exact k _ G (fun r a b c => va_un _ _ _ b) FH.rf hR (va_us _ _ _)
  | some e0 =>
    have hent : J 16 = (e0 : Int) := hent
    have he0 : e0 < i := hen e0 rfl
    have hle0 := hlv e0 (by omega)
    have hl40 := hlv4 e0
    have hl4i := hlv4 i
    have hli := hlv i hi
    have k : ∀ (J' : Nat → Int) (G' : Nat → Nat → Int), (∀ r, r ≠ 12 → r ≠ 16 → r ≠ 21 → J' r = J r) → FH G G' → NR G' (mJLs (kg G) (fbT G) car wd i (min (lv i) (lv e0) + 1) R (mDesc (kg G i) R (lv i) (lv e0 - lv i) e0).1) → J' 16 = ((if lv e0 < lv i then i else e0 : Nat) : Int) → K none (mg σ J' G', n, bc, bs) := k
    have fin : ∀ (J' : Nat → Int) (G' : Nat → Nat → Int) (t : Option Value), FJ J J' → FH G G' → NR G' (mJLs (kg G) (fbT G) car wd i (min (lv i) (lv e0) + 1) R (mDesc (kg G i) R (lv i) (lv e0 - lv i) e0).1) → Ex sc 89 96 [some (.ref 22), some (.int (zi i)), t, some (.int (zi (-1)))] [] (mg σ J' G', n, bc, bs) K := by
      intro J' G' t hJ hG hR'
      have hg4 := hG.g4
      have hJ16 : J' 16 = (e0 : Int) := by rw [hJ 16 (by decide) (by decide)]; exact hent
      have fr : ∀ v : Int, ∀ r, r ≠ 12 → r ≠ 16 → r ≠ 21 → va_up J' 16 v r = J r := fun v r a b c => (va_un _ _ _ b).trans (hJ r a c)
      refine xald_0 (q := 97) d_89_96 rfl ?_
      refine xald_0 (q := 98) d_89_97 rfl ?_
      refine yg_levels hn (q := 101) d_89_98 rfl fl_M_33 ?_
      refine xild_1 (q := 102) d_89_101 rfl ?_
      refine yl_levels (q := 103) hn d_89_102 rfl (by omega) (by omega) ?_
      refine xald_0 (q := 104) d_89_103 rfl ?_
      refine yg_levels hn (q := 107) d_89_104 rfl fl_M_33 ?_
      refine xald_0 (q := 108) d_89_107 rfl ?_
      refine yg_entryOf hn (q := 111) d_89_108 rfl fl_M_40 ?_
      refine yl_levels (q := 112) hn d_89_111 rfl (by rw [hJ16]; omega) (by rw [hJ16]; omega) ?_
      refine x_icmp_le (q := 115) (t := 119) d_89_112 (by decide) rfl (fun c112 => ?_) (fun c112 => ?_)
      · rw [hJ16, show ((i : Int)).toNat = i by omega, show ((e0 : Int)).toNat = e0 by omega, hg4, hli, hle0, zi_le (by omega) (by omega) (by omega) (by omega)] at c112
        refine xald_0 (q := 120) d_89_119 rfl ?_
        refine yg_entryOf hn (q := 123) d_89_120 rfl fl_M_40 ?_
        refine yp_entryOf hn (q := 126) d_89_123 rfl fw_M_40 ?_
        refine x_vret d_89_126 rfl ?_
        first
          | (exact k _ G' (fr _) hG hR' (by rw [va_us, if_pos (show lv e0 < lv i by omega)]))
          | (exact k _ G' (fr _) hG hR' (by rw [va_us, if_neg (show ¬ lv e0 < lv i by omega)]; exact hJ16))
      · rw [hJ16, show ((i : Int)).toNat = i by omega, show ((e0 : Int)).toNat = e0 by omega, hg4, hli, hle0, zi_le (by omega) (by omega) (by omega) (by omega)] at c112
        refine xild_1 (q := 116) d_89_115 rfl ?_
        refine x_goto (t := 123) d_89_116 (by decide) ?_
        refine yp_entryOf hn (q := 126) d_89_123 rfl fw_M_40 ?_
        refine x_vret d_89_126 rfl ?_
        first
          | (exact k _ G' (fr _) hG hR' (by rw [va_us, if_pos (show lv e0 < lv i by omega)]))
          | (exact k _ G' (fr _) hG hR' (by rw [va_us, if_neg (show ¬ lv e0 < lv i by omega)]; exact hJ16))
    refine xald_0 (q := 1) d_89_0 rfl ?_
    refine yg_entryOf hn (q := 4) d_89_1 rfl fl_M_40 ?_
    refine x_if_ge (q := 7) (t := 13) d_89_4 (by decide) rfl (fun c4 => ?_) (fun c4 => ?_)
    · rw [zi_ge0 (by omega) (by omega)] at c4
      refine xald_0 (q := 14) d_89_13 rfl ?_
      refine yg_entryOf hn (q := 17) d_89_14 rfl fl_M_40 ?_
      refine xist_2 (q := 18) d_89_17 rfl ?_
      refine xald_0 (q := 19) d_89_18 rfl ?_
      refine yg_levels hn (q := 22) d_89_19 rfl fl_M_33 ?_
      refine xald_0 (q := 23) d_89_22 rfl ?_
      refine yg_entryOf hn (q := 26) d_89_23 rfl fl_M_40 ?_
      refine yl_levels (q := 27) hn d_89_26 rfl (by omega) (by omega) ?_
      refine xist_3 (q := 28) d_89_27 rfl ?_
      rw [hent, show ((e0 : Int)).toNat = e0 by omega, hle0]
      by_cases hc : lv e0 < lv i
      · have e1 : lv e0 - lv i = 0 := by omega
        have e2 : min (lv i) (lv e0) + 1 = lv e0 + 1 := by omega
        rw [e1, e2] at fin
        rw [show (lv e0 : Int) = ((lv e0 + 1 : Nat) : Int) - 1 by omega]
        exact lt_comeB hn hN hN2 hi hFi hsy hwd hwd6 hcar hlv hlv4 fin (lv e0 + 1) R e0 J G (by omega) he0 FJ.rf FH.rf hR (fun l _ => hlt l) hRS rfl
      · have e2 : min (lv i) (lv e0) + 1 = lv i + 1 := by omega
        rw [e2] at fin
        rw [show lv e0 = lv i + (lv e0 - lv i) by omega]
        refine lt_comeA hn hN hN2 hi hFi hsy hwd hwd6 hcar hlv hlv4 hlt hRS ?_ (lv e0 - lv i) e0 J G (by omega) he0 FJ.rf FH.rf hR rfl
        intro J1 G1 hJ1 hG1 hR1 hf9
        rw [show (lv i : Int) = ((lv i + 1 : Nat) : Int) - 1 by omega]
        exact lt_comeB hn hN hN2 hi hFi hsy hwd hwd6 hcar hlv hlv4 fin (lv i + 1) R _ J1 G1 (by omega) hf9 hJ1 hG1 hR1 (fun l _ => hlt l) hRS rfl
    · rw [zi_ge0 (by omega) (by omega)] at c4
      exact absurd c4 (by omega)
