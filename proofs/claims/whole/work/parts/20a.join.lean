/-! a vector comes to the graph; the graph ANEW -/
def mLinks (kfs : Nat → Nat → Nat) (fb : Nat → Nat → Nat) (car : Bool) (lim l x : Nat) : List Nat → (Nat → Nat → List Nat) → Nat → Nat → List Nat
  | [], R => R
  | y :: ys, R => mLinks kfs fb car lim l x ys (rset R y l (mBack (kfs y) fb car lim (R y l) x))
def mRow (kfs : Nat → Nat → Nat) (fb : Nat → Nat → Nat) (car : Bool) (wd : Nat) (R : Nat → Nat → List Nat) (x l f : Nat) : List Nat := (mChoose fb car (limN wd l) (mGoing (kfs x) (fun i => R i l) 12 f).2.1 []).map (· % 100)
def mJL (kfs : Nat → Nat → Nat) (fb : Nat → Nat → Nat) (car : Bool) (wd : Nat) (R : Nat → Nat → List Nat) (x l f : Nat) : Nat → Nat → List Nat := mLinks kfs fb car (limN wd l) l x (mRow kfs fb car wd R x l f) (rset R x l (mRow kfs fb car wd R x l f))
def mJLs (kfs : Nat → Nat → Nat) (fb : Nat → Nat → Nat) (car : Bool) (wd x : Nat) : Nat → (Nat → Nat → List Nat) → Nat → Nat → Nat → List Nat
  | 0, R, _ => R
  | d + 1, R, f => mJLs kfs fb car wd x d (mJL kfs fb car wd R x d f) (mHead (mGoing (kfs x) (fun i => R i d) 12 f).2.1)
abbrev mSt : Type := (Nat → Nat → List Nat) × Option Nat
def mJoin (kfs : Nat → Nat → Nat) (fb : Nat → Nat → Nat) (car : Bool) (wd : Nat) (lv : Nat → Nat) (g : mSt) (x : Nat) : mSt := match g.2 with
  | none => (g.1, some x)
  | some en => (mJLs kfs fb car wd x (min (lv x) (lv en) + 1) g.1 (mDesc (kfs x) g.1 (lv x) (lv en - lv x) en).1, some (if lv en < lv x then x else en))
def mBuild (kfs : Nat → Nat → Nat) (fb : Nat → Nat → Nat) (car : Bool) (wd : Nat) (lv : Nat → Nat) : Nat → mSt
  | 0 => (fun _ _ => [], none)
  | n + 1 => mJoin kfs fb car wd lv (mBuild kfs fb car wd lv n) n
def LT (R : Nat → Nat → List Nat) (l x : Nat) : Prop := ∀ i y, y ∈ R i l → y < x
theorem mLinks_other {kfs : Nat → Nat → Nat} {fb : Nat → Nat → Nat} {car : Bool} {lim l x : Nat} : ∀ (ys : List Nat) (R : Nat → Nat → List Nat) {a b : Nat}, b ≠ l → mLinks kfs fb car lim l x ys R a b = R a b
  | [], _, _, _, _ => rfl
  | y :: ys, R, a, b, h => by
    show mLinks kfs fb car lim l x ys _ a b = R a b
    rw [mLinks_other ys _ h, rset_n _ _ _ _ (fun z => h z.2)]
theorem mJL_other {kfs : Nat → Nat → Nat} {fb : Nat → Nat → Nat} {car : Bool} {wd x l f : Nat} {R : Nat → Nat → List Nat} {a b : Nat} (h : b ≠ l) : mJL kfs fb car wd R x l f a b = R a b := by
  unfold mJL
  rw [mLinks_other _ _ h, rset_n _ _ _ _ (fun z => h z.2)]
theorem mRow_lt {kfs : Nat → Nat → Nat} {fb : Nat → Nat → Nat} {car : Bool} {wd x l f : Nat} {R : Nat → Nat → List Nat} (hf : f < x) (hR : LT R l x) (hk : ∀ y, y < x → kfs x y % 100 = y) : ∀ y ∈ mRow kfs fb car wd R x l f, y < x := by
  intro y hy
  obtain ⟨q, hq, rfl⟩ := List.mem_map.mp hy
  rcases mChoose_mem _ _ _ hq with hq | hq
  · cases hq
  · obtain ⟨z, hz, rfl⟩ := (mGoing_GI (e := 12) hf (fun i _ => hR i) hk).2.2.2.2.2.2.1 q hq
    show kfs x z % 100 < x
    rw [hk z hz]
    exact hz
theorem mLinks_lt {kfs : Nat → Nat → Nat} {fb : Nat → Nat → Nat} {car : Bool} {lim l x : Nat} (hk : ∀ o y, o < x + 1 → y < x + 1 → kfs o y % 100 = y) : ∀ (ys : List Nat) (R : Nat → Nat → List Nat), (∀ y ∈ ys, y < x + 1) → LT R l (x + 1) → LT (mLinks kfs fb car lim l x ys R) l (x + 1)
  | [], _, _, h => h
  | y :: ys, R, hy, h => by
    refine mLinks_lt hk ys _ (fun z hz => hy z (List.mem_cons_of_mem _ hz)) ?_
    intro i z hz
    by_cases e : i = y
    · subst e
      rw [rset_s] at hz
      exact mBack_mem (fun q hq => hk _ q (hy _ List.mem_cons_self) hq) (Nat.lt_succ_self x) (h i) hz
    · rw [rset_n _ _ _ _ (fun q => e q.1)] at hz
      exact h i z hz
theorem mJL_lt {kfs : Nat → Nat → Nat} {fb : Nat → Nat → Nat} {car : Bool} {wd x l f : Nat} {R : Nat → Nat → List Nat} (hf : f < x) (hR : LT R l x) (hk : ∀ o y, o < x + 1 → y < x + 1 → kfs o y % 100 = y) : LT (mJL kfs fb car wd R x l f) l (x + 1) := by
  have hrow := mRow_lt (fb := fb) (car := car) (wd := wd) hf hR (fun y hy => hk x y (by omega) (by omega))
  refine mLinks_lt hk _ _ (fun y hy => by have := hrow y hy; omega) ?_
  intro i z hz
  by_cases e : i = x
  · subst e
    rw [rset_s] at hz
    have := hrow z hz
    omega
  · rw [rset_n _ _ _ _ (fun q => e q.1)] at hz
    have := hR i z hz
    omega
theorem mJLs_lt {kfs : Nat → Nat → Nat} {fb : Nat → Nat → Nat} {car : Bool} {wd x : Nat} (hk : ∀ o y, o < x + 1 → y < x + 1 → kfs o y % 100 = y) : ∀ (d : Nat) (R : Nat → Nat → List Nat) (f : Nat), f < x → (∀ l, l < d → LT R l x) → (∀ l, LT R l (x + 1)) → ∀ l, LT (mJLs kfs fb car wd x d R f) l (x + 1)
  | 0, _, _, _, _, h => h
  | d + 1, R, f, hf, h1, h2 => by
    refine mJLs_lt hk d _ _ (mHead_lt (by decide) hf (fun i _ => h1 d (by omega) i) (fun y hy => hk x y (by omega) (by omega))) (fun l hl => ?_) (fun l => ?_)
    · intro i y hy
      rw [mJL_other (by omega)] at hy
      exact h1 l (by omega) i y hy
    · by_cases e : l = d
      · subst e
        exact mJL_lt hf (h1 l (by omega)) hk
      · intro i y hy
        rw [mJL_other e] at hy
        exact h2 l i y hy
theorem mDesc_lt {kf : Nat → Nat} {R : Nat → Nat → List Nat} {bot x : Nat} (hR : ∀ l, LT R l x) (hk : ∀ y, y < x → kf y % 100 = y) : ∀ (d f : Nat), f < x → (mDesc kf R bot d f).1 < x
  | 0, _, h => h
  | d + 1, _, h => mDesc_lt hR hk d _ (mHead_lt (by decide) h (fun i _ => hR (bot + d + 1) i) hk)
theorem mBuild_lt {kfs : Nat → Nat → Nat} {fb : Nat → Nat → Nat} {car : Bool} {wd : Nat} {lv : Nat → Nat} : ∀ (n : Nat), (∀ o y, o < n → y < n → kfs o y % 100 = y) → (∀ l, LT (mBuild kfs fb car wd lv n).1 l n) ∧ (∀ e, (mBuild kfs fb car wd lv n).2 = some e → e < n) ∧ (0 < n → (mBuild kfs fb car wd lv n).2 ≠ none)
  | 0, _ => ⟨fun _ _ _ h => absurd h List.not_mem_nil, fun _ h => (by cases h), fun h => absurd h (Nat.lt_irrefl 0)⟩
  | n + 1, hk => by
    obtain ⟨h1, h2, h3⟩ := mBuild_lt (kfs := kfs) (fb := fb) (car := car) (wd := wd) (lv := lv) n (fun o y ho hy => hk o y (by omega) (by omega))
    show (∀ l, LT (mJoin kfs fb car wd lv (mBuild kfs fb car wd lv n) n).1 l (n + 1)) ∧ (∀ e, (mJoin kfs fb car wd lv (mBuild kfs fb car wd lv n) n).2 = some e → e < n + 1) ∧ (0 < n + 1 → (mJoin kfs fb car wd lv (mBuild kfs fb car wd lv n) n).2 ≠ none)
    unfold mJoin
    have hup : ∀ l, LT (mBuild kfs fb car wd lv n).1 l (n + 1) := fun l i y hy => by have := h1 l i y hy; omega
    split
    · exact ⟨hup, fun e he => (by cases he; exact Nat.lt_succ_self _), fun _ h => (by cases h)⟩
    next en hen =>
      have hen2 := h2 en hen
      refine ⟨?_, fun e he => ?_, fun _ h => (by cases h)⟩
      · exact mJLs_lt hk _ _ _ (mDesc_lt h1 (fun y hy => hk n y (by omega) (by omega)) _ _ hen2) (fun l _ => h1 l) hup
      · cases he
        split <;> omega
def entI : Option Nat → Int
  | none => -2
  | some e => e
/-- as FrJ, but THE ENTRY may change too -/
def FrK (I : Nat → Int) (F : Nat → Nat → Int) (I' : Nat → Int) (F' : Nat → Nat → Int) : Prop := (∀ j, j ≠ 2 → j ≠ 5 → j ≠ 10 → j ≠ 11 → j ≠ 12 → I' j = I j) ∧ ∀ j, j ≠ 3 → j ≠ 4 → j ≠ 5 → j ≠ 10 → j ≠ 11 → j ≠ 12 → F' j = F j
theorem FrK.rf {I : Nat → Int} {F : Nat → Nat → Int} : FrK I F I F := ⟨fun _ _ _ _ _ _ => rfl, fun _ _ _ _ _ _ _ => rfl⟩
theorem FrK.tr {I I' I2 : Nat → Int} {F F' F2 : Nat → Nat → Int} (h : FrK I F I' F') (h2 : FrK I' F' I2 F2) : FrK I F I2 F2 := ⟨fun j z a b c d => (h2.1 j z a b c d).trans (h.1 j z a b c d), fun j a b c d e f => (h2.2 j a b c d e f).trans (h.2 j a b c d e f)⟩
theorem FrJ.K {I I' : Nat → Int} {F F' : Nat → Nat → Int} (h : FrJ I F I' F') : FrK I F I' F' := ⟨fun j _ a b c d => h.1 j a b c d, h.2⟩
theorem VW.frK {I I' : Nat → Int} {F F' : Nat → Nat → Int} {P N M : Nat} (h : VW I F P N M) (hf : FrK I F I' F') : VW I' F' P N M := h.same (hf.1 7 (by decide) (by decide) (by decide) (by decide) (by decide)) (hf.1 0 (by decide) (by decide) (by decide) (by decide) (by decide)) (hf.1 1 (by decide) (by decide) (by decide) (by decide) (by decide)) (hf.2 2 (by decide) (by decide) (by decide) (by decide) (by decide) (by decide)) (hf.2 0 (by decide) (by decide) (by decide) (by decide) (by decide) (by decide)) (hf.2 1 (by decide) (by decide) (by decide) (by decide) (by decide) (by decide))
theorem FrK.w {I I' : Nat → Int} {F F' : Nat → Nat → Int} (hf : FrK I F I' F') : F' 2 = F 2 := hf.2 2 (by decide) (by decide) (by decide) (by decide) (by decide) (by decide)
theorem FrK.i {I I' : Nat → Int} {F F' : Nat → Nat → Int} (hf : FrK I F I' F') {j : Nat} (h : j < 2 ∨ 2 < j ∧ j < 5 ∨ 5 < j ∧ j < 10 ∨ 12 < j) : I' j = I j := hf.1 j (by omega) (by omega) (by omega) (by omega) (by omega)
/-- LOOKING's GOINGS: FOUND and the STEPS -/
def mSearch (kf : Nat → Nat) (lv : Nat → Nat) (g : mSt) (e : Nat) : List Nat × Nat := match g.2 with
  | none => ([], 0)
  | some en => ((mGoing kf (fun i => g.1 i 0) e (mDesc kf g.1 0 (lv en) en).1).2.1, (mDesc kf g.1 0 (lv en) en).2 + (mGoing kf (fun i => g.1 i 0) e (mDesc kf g.1 0 (lv en) en).1).1.length)
