/-! FAR, in whole numbers -/
def shI (v q : Int) : Int := (v * q).tdiv 100
def tmI (m : Nat) (x y : Int) : Int := if m = 0 then (x - y) * (x - y) else if m = 1 then x * y else if x - y < 0 then -(x - y) else x - y
def smI (m : Nat) (q : Int) (f g : Nat → Int) : Nat → Int
  | 0 => 0
  | k + 1 => smI m q f g k + tmI m (shI (f k) q) (shI (g k) q)
def farI (m P : Nat) (q : Int) (f g : Nat → Int) : Int := if m = 1 then 100 * q * P - smI m q f g P else smI m q f g P
theorem mul_b {x y a b : Int} (h1 : -a ≤ x ∧ x ≤ a) (h2 : -b ≤ y ∧ y ≤ b) : -(a * b) ≤ x * y ∧ x * y ≤ a * b := by
  have ha : 0 ≤ a := by omega
  have hb : 0 ≤ b := by omega
  have h3 : (x * y).natAbs ≤ (a * b).natAbs := by
    rw [Int.natAbs_mul, Int.natAbs_mul]
    exact Nat.mul_le_mul (by omega) (by omega)
  have h4 : 0 ≤ a * b := Int.mul_nonneg ha hb
  omega
theorem sh_b {v : Int} {q : Nat} (h : -100 ≤ v ∧ v ≤ 100) : -(q : Int) ≤ shI v q ∧ shI v q ≤ q := by
  have h1 := mul_b (y := (q : Int)) (a := 100) (b := (q : Int)) h ⟨by omega, by omega⟩
  have h2 : (shI v q).natAbs = (v * q).natAbs / 100 := by
    unfold shI
    rw [Int.natAbs_tdiv]
    rfl
  omega
theorem sq_nn (x : Int) : 0 ≤ x * x := by
  rcases Int.le_total 0 x with h | h
  · exact Int.mul_nonneg h h
  · have := Int.mul_nonneg (Int.neg_nonneg_of_nonpos h) (Int.neg_nonneg_of_nonpos h)
    rwa [Int.neg_mul_neg] at this
theorem tm_b {m : Nat} {x y : Int} {q : Nat} (hq : q ≤ 100) (hx : -(q : Int) ≤ x ∧ x ≤ q) (hy : -(q : Int) ≤ y ∧ y ≤ q) : (m ≠ 1 → 0 ≤ tmI m x y) ∧ (m = 1 → tmI m x y ≤ 100 * q) ∧ -10000 ≤ tmI m x y ∧ tmI m x y ≤ 40000 := by
  have h1 := mul_b hx hy
  have h2 := mul_b (x := x - y) (y := x - y) (a := 200) (b := 200) ⟨by omega, by omega⟩ ⟨by omega, by omega⟩
  have h3 := sq_nn (x - y)
  have h4 : (q : Int) * q ≤ 100 * q := Int.mul_le_mul_of_nonneg_right (by omega) (by omega)
  unfold tmI
  split
  · refine ⟨fun _ => h3, fun h => by omega, by omega, by omega⟩
  · split
    · refine ⟨fun h => absurd (by assumption) h, fun _ => by omega, by omega, by omega⟩
    · split
      · refine ⟨fun _ => by omega, fun h => absurd h (by assumption), by omega, by omega⟩
      · refine ⟨fun _ => by omega, fun h => absurd h (by assumption), by omega, by omega⟩
theorem sm_b {m : Nat} {q : Nat} {f g : Nat → Int} (hq : q ≤ 100) (P : Nat) (hf : ∀ k, k < P → -100 ≤ f k ∧ f k ≤ 100) (hg : ∀ k, k < P → -100 ≤ g k ∧ g k ≤ 100) : (m ≠ 1 → 0 ≤ smI m q f g P) ∧ (m = 1 → smI m q f g P ≤ 100 * q * P) ∧ -(10000 * (P : Int)) ≤ smI m q f g P ∧ smI m q f g P ≤ 40000 * P := by
  induction P with
  | zero => refine ⟨fun _ => Int.le_refl _, fun _ => by simp [smI], by simp [smI], by simp [smI]⟩
  | succ P ih =>
    obtain ⟨a1, a2, a3, a4⟩ := ih (fun k hk => hf k (by omega)) (fun k hk => hg k (by omega))
    obtain ⟨b1, b2, b3, b4⟩ := tm_b (m := m) hq (sh_b (hf P (by omega))) (sh_b (hg P (by omega)))
    have e : smI m q f g (P + 1) = smI m q f g P + tmI m (shI (f P) q) (shI (g P) q) := rfl
    have e2 : 100 * (q : Int) * ((P + 1 : Nat) : Int) = 100 * q * P + 100 * q := by
      rw [Int.natCast_add, Int.mul_add]
      simp
    rw [e, e2]
    refine ⟨fun h => ?_, fun h => ?_, ?_, ?_⟩
    · have := a1 h
      have := b1 h
      omega
    · have := a2 h
      have := b2 h
      omega
    · omega
    · omega
theorem far_b {m : Nat} {q P : Nat} {f g : Nat → Int} (hq : q ≤ 100) (hP : P ≤ 8) (hf : ∀ k, k < P → -100 ≤ f k ∧ f k ≤ 100) (hg : ∀ k, k < P → -100 ≤ g k ∧ g k ≤ 100) : 0 ≤ farI m P q f g ∧ farI m P q f g ≤ 320000 := by
  obtain ⟨a1, a2, a3, a4⟩ := sm_b (m := m) hq P hf hg
  have h1 : 100 * (q : Int) * P ≤ 100 * 100 * 8 := by
    have := mul_b (x := 100 * (q : Int)) (y := (P : Int)) (a := 10000) (b := 8) ⟨by omega, by omega⟩ ⟨by omega, by omega⟩
    omega
  unfold farI
  split
  next h =>
    have := a2 h
    omega
  next h =>
    have := a1 h
    omega
theorem tm_sym (m : Nat) (x y : Int) : tmI m x y = tmI m y x := by
  unfold tmI
  split
  · rw [← Int.neg_mul_neg]
    congr 1 <;> omega
  · split
    · exact Int.mul_comm x y
    · split <;> split <;> omega
theorem sm_sym (m : Nat) (q : Int) (f g : Nat → Int) : ∀ P, smI m q f g P = smI m q g f P
  | 0 => rfl
  | P + 1 => by
    show smI m q f g P + tmI m (shI (f P) q) (shI (g P) q) = smI m q g f P + tmI m (shI (g P) q) (shI (f P) q)
    rw [sm_sym m q f g P, tm_sym]
theorem far_sym (m P : Nat) (q : Int) (f g : Nat → Int) : farI m P q f g = farI m P q g f := by
  unfold farI
  rw [sm_sym]
