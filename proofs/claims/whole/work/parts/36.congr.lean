/-! what the model's functions depend on -/
theorem smI_congr {m : Nat} {q : Int} {f g f' g' : Nat → Int} : ∀ (P : Nat), (∀ k, k < P → f k = f' k) → (∀ k, k < P → g k = g' k) → smI m q f g P = smI m q f' g' P
  | 0, _, _ => rfl
  | P + 1, h1, h2 => by
    show smI m q f g P + tmI m (shI (f P) q) (shI (g P) q) = smI m q f' g' P + tmI m (shI (f' P) q) (shI (g' P) q)
    rw [smI_congr P (fun k hk => h1 k (by omega)) (fun k hk => h2 k (by omega)), h1 P (by omega), h2 P (by omega)]
theorem farI_congr {m P : Nat} {q : Int} {f g f' g' : Nat → Int} (h1 : ∀ k, k < P → f k = f' k) (h2 : ∀ k, k < P → g k = g' k) : farI m P q f g = farI m P q f' g' := by
  unfold farI
  rw [smI_congr P h1 h2]
/-- keys and FARs of the vectors V -/
def fbV (V : Nat → Nat → Int) (P M a b : Nat) : Nat := (farI M P 100 (V a) (V b)).toNat
def kfV (V : Nat → Nat → Int) (P M o x : Nat) : Nat := fbV V P M o x * 100 + x
theorem kfV_mod {V : Nat → Nat → Int} {P M o x : Nat} (hx : x < 100) : kfV V P M o x % 100 = x := by unfold kfV; omega
section CG
variable {kf kf' : Nat → Nat} {kfs kfs' : Nat → Nat → Nat} {fb fb' : Nat → Nat → Nat} {car : Bool}
theorem mMeet_cg {e x : Nat} (h : kf x = kf' x) (S : mG) : mMeet kf e x S = mMeet kf' e x S := by
  unfold mMeet
  rw [h]
theorem mMeets_cg {e : Nat} : ∀ (xs : List Nat) (S : mG), (∀ x ∈ xs, kf x = kf' x) → mMeets kf e xs S = mMeets kf' e xs S
  | [], _, _ => rfl
  | x :: xs, S, h => by
    show mMeets kf e xs (mMeet kf e x S) = mMeets kf' e xs (mMeet kf' e x S)
    rw [mMeet_cg (h x List.mem_cons_self), mMeets_cg xs _ (fun y hy => h y (List.mem_cons_of_mem _ hy))]
theorem mGo_cg {row : Nat → List Nat} {e N : Nat} (hr : ∀ i, i < N → ∀ x ∈ row i, x < N) (hk : ∀ x, x < N → kf x % 100 = x) (h : ∀ x, x < N → kf x = kf' x) : ∀ (d : Nat) (S : mG), GO kf N S → mGo kf row e d S = mGo kf' row e d S
  | 0, _, _ => rfl
  | d + 1, S, hS => by
    unfold mGo
    by_cases h0 : S.2.2 = []
    · rw [if_pos h0, if_pos h0]
    · rw [if_neg h0, if_neg h0]
      by_cases h1 : e ≤ S.2.1.length ∧ lastLt S.2.1 (S.2.2.getD 0 0)
      · rw [if_pos h1, if_pos h1]
      · have hrow := hr _ (hS.head hk h0)
        rw [if_neg h1, if_neg h1, ← mMeets_cg _ _ (fun x hx => h x (hrow x hx))]
        exact mGo_cg hr hk h d _ (GO.meets hk hS.tl hrow)
theorem mGoing_cg {row : Nat → List Nat} {e N f : Nat} (hf : f < N) (hr : ∀ i, i < N → ∀ x ∈ row i, x < N) (hk : ∀ x, x < N → kf x % 100 = x) (h : ∀ x, x < N → kf x = kf' x) : mGoing kf row e f = mGoing kf' row e f := by
  unfold mGoing
  rw [← mMeet_cg (h f hf)]
  exact mGo_cg hr hk h 100 _ (GO.nil.meet hk hf)
theorem mDesc_cg {R : Nat → Nat → List Nat} {bot N : Nat} (hR : ∀ l, LT R l N) (hk : ∀ x, x < N → kf x % 100 = x) (h : ∀ x, x < N → kf x = kf' x) : ∀ (d f : Nat), f < N → mDesc kf R bot d f = mDesc kf' R bot d f
  | 0, _, _ => rfl
  | d + 1, f, hf => by
    unfold mDesc
    rw [← mGoing_cg hf (fun i _ => hR _ i) hk h, ← mDesc_cg hR hk h d _ (mHead_lt (by decide) hf (fun i _ => hR _ i) hk)]
theorem mChoose_cg {N w : Nat} (h : ∀ a b, a < N → b < N → fb a b = fb' a b) : ∀ (L T : List Nat), (∀ k ∈ L, k % 100 < N) → (∀ y ∈ T, y % 100 < N) → mChoose fb car w L T = mChoose fb' car w L T
  | [], _, _, _ => rfl
  | k :: ks, T, hL, hT => by
    have hk := hL k List.mem_cons_self
    have hks : ∀ z ∈ ks, z % 100 < N := fun z hz => hL z (List.mem_cons_of_mem _ hz)
    unfold mChoose
    have e : (car = false ∨ ∀ y ∈ T, k / 100 < fb (k % 100) (y % 100)) ↔ (car = false ∨ ∀ y ∈ T, k / 100 < fb' (k % 100) (y % 100)) :=
      ⟨fun q => q.imp id (fun q y hy => by rw [← h _ _ hk (hT y hy)]; exact q y hy), fun q => q.imp id (fun q y hy => by rw [h _ _ hk (hT y hy)]; exact q y hy)⟩
    by_cases h1 : T.length < w
    · rw [if_pos h1, if_pos h1]
      by_cases h2 : car = false ∨ ∀ y ∈ T, k / 100 < fb (k % 100) (y % 100)
      · rw [if_pos h2, if_pos (e.mp h2)]
        exact mChoose_cg h ks _ hks (fun y hy => (List.mem_append.mp hy).elim (hT y) (fun q => by rw [List.mem_singleton.mp q]; exact hk))
      · rw [if_neg h2, if_neg (fun z => h2 (e.mpr z))]
        exact mChoose_cg h ks _ hks hT
    · rw [if_neg h1, if_neg h1]
theorem mPool_cg : ∀ (ys L : List Nat), (∀ y ∈ ys, kf y = kf' y) → mPool kf ys L = mPool kf' ys L
  | [], _, _ => rfl
  | y :: ys, L, h => by
    show mPool kf ys (ins (kf y) L) = mPool kf' ys (ins (kf' y) L)
    rw [h y List.mem_cons_self, mPool_cg ys _ (fun z hz => h z (List.mem_cons_of_mem _ hz))]
theorem mBack_cg {N lim x : Nat} (hk : ∀ y, y < N → kf y % 100 = y) (hkf : ∀ y, y < N → kf y = kf' y) (h : ∀ a b, a < N → b < N → fb a b = fb' a b) {row : List Nat} (hr : ∀ y ∈ row, y < N) (hx : x < N) : mBack kf fb car lim row x = mBack kf' fb' car lim row x := by
  rw [mBack_p1, mBack_p1]
  have e : mP1 kf' row x = mP1 kf row x := by
    unfold mP1
    rw [← mPool_cg row [] (fun y hy => hkf y (hr y hy)), ← hkf x hx]
  rw [e, mChoose_cg h _ _ (fun k hkk => ?_) (fun _ q => absurd q List.not_mem_nil)]
  obtain ⟨y, hy, rfl⟩ := mP1_num (kf := kf) hr hx k hkk
  rw [hk y hy]
  exact hy
theorem mLinks_cg {N lim l x : Nat} (hk : ∀ o y, o < N → y < N → kfs o y % 100 = y) (hkf : ∀ o y, o < N → y < N → kfs o y = kfs' o y) (h : ∀ a b, a < N → b < N → fb a b = fb' a b) (hx : x < N) : ∀ (ys : List Nat) (R : Nat → Nat → List Nat), (∀ y ∈ ys, y < N) → LT R l N → mLinks kfs fb car lim l x ys R = mLinks kfs' fb' car lim l x ys R
  | [], _, _, _ => rfl
  | y :: ys, R, hy, hR => by
    have hyN := hy y List.mem_cons_self
    show mLinks kfs fb car lim l x ys (rset R y l (mBack (kfs y) fb car lim (R y l) x)) = mLinks kfs' fb' car lim l x ys (rset R y l (mBack (kfs' y) fb' car lim (R y l) x))
    rw [← mBack_cg (fun z hz => hk y z hyN hz) (fun z hz => hkf y z hyN hz) h (hR y) hx]
    refine mLinks_cg hk hkf h hx ys _ (fun z hz => hy z (List.mem_cons_of_mem _ hz)) ?_
    intro i z hz
    by_cases e : i = y
    · rw [e, rset_s] at hz
      exact mBack_mem (fun q hq => hk y q hyN hq) hx (hR y) hz
    · rw [rset_n _ _ _ _ (fun q => e q.1)] at hz
      exact hR i z hz
theorem mRow_cg {N wd x l f : Nat} {R : Nat → Nat → List Nat} (hx : x < N) (hf : f < x) (hR : LT R l x) (hk : ∀ o y, o < N → y < N → kfs o y % 100 = y) (hkf : ∀ o y, o < N → y < N → kfs o y = kfs' o y) (h : ∀ a b, a < N → b < N → fb a b = fb' a b) : mRow kfs fb car wd R x l f = mRow kfs' fb' car wd R x l f := by
  have hki : ∀ y, y < x → kfs x y % 100 = y := fun y hy => hk x y hx (by omega)
  unfold mRow
  rw [← mGoing_cg hf (fun i _ => hR i) hki (fun y hy => hkf x y hx (by omega)), mChoose_cg h _ _ (fun k hkk => ?_) (fun _ q => absurd q List.not_mem_nil)]
  obtain ⟨y, hy, rfl⟩ := (mGoing_GO (e := 12) hf (fun i _ => hR i) hki).num k hkk
  rw [hki y hy]
  omega
theorem mJL_cg {N wd x l f : Nat} {R : Nat → Nat → List Nat} (hx : x < N) (hf : f < x) (hR : LT R l x) (hk : ∀ o y, o < N → y < N → kfs o y % 100 = y) (hkf : ∀ o y, o < N → y < N → kfs o y = kfs' o y) (h : ∀ a b, a < N → b < N → fb a b = fb' a b) : mJL kfs fb car wd R x l f = mJL kfs' fb' car wd R x l f := by
  have hrl := mRow_lt (fb := fb) (car := car) (wd := wd) hf hR (fun y hy => hk x y hx (by omega))
  unfold mJL
  rw [← mRow_cg hx hf hR hk hkf h, mLinks_cg hk hkf h hx _ _ (fun y hy => by have := hrl y hy; omega) ?_]
  intro i z hz
  by_cases e : i = x
  · rw [e, rset_s] at hz
    have := hrl z hz
    omega
  · rw [rset_n _ _ _ _ (fun q => e q.1)] at hz
    have := hR i z hz
    omega
theorem mJLs_cg {N wd x : Nat} (hx : x < N) (hk : ∀ o y, o < N → y < N → kfs o y % 100 = y) (hkf : ∀ o y, o < N → y < N → kfs o y = kfs' o y) (h : ∀ a b, a < N → b < N → fb a b = fb' a b) : ∀ (d : Nat) (R : Nat → Nat → List Nat) (f : Nat), f < x → (∀ l, l < d → LT R l x) → mJLs kfs fb car wd x d R f = mJLs kfs' fb' car wd x d R f
  | 0, _, _, _, _ => rfl
  | d + 1, R, f, hf, hR => by
    have hki : ∀ y, y < x → kfs x y % 100 = y := fun y hy => hk x y hx (by omega)
    have hRd := hR d (by omega)
    show mJLs kfs fb car wd x d (mJL kfs fb car wd R x d f) (mHead (mGoing (kfs x) (fun i => R i d) 12 f).2.1) = mJLs kfs' fb' car wd x d (mJL kfs' fb' car wd R x d f) (mHead (mGoing (kfs' x) (fun i => R i d) 12 f).2.1)
    rw [← mJL_cg hx hf hRd hk hkf h, ← mGoing_cg hf (fun i _ => hRd i) hki (fun y hy => hkf x y hx (by omega))]
    refine mJLs_cg hx hk hkf h d _ _ (mHead_lt (by decide) hf (fun i _ => hRd i) hki) (fun l hl => ?_)
    intro i y hy
    rw [mJL_other (by omega)] at hy
    exact hR l (by omega) i y hy
theorem mJoin_cg {N wd x : Nat} {lv lv' : Nat → Nat} {g : mSt} (hx : x < N) (hk : ∀ o y, o < N → y < N → kfs o y % 100 = y) (hkf : ∀ o y, o < N → y < N → kfs o y = kfs' o y) (h : ∀ a b, a < N → b < N → fb a b = fb' a b) (hlv : ∀ a, a < N → lv a = lv' a) (hR : ∀ l, LT g.1 l x) (he : ∀ e, g.2 = some e → e < x) : mJoin kfs fb car wd lv g x = mJoin kfs' fb' car wd lv' g x := by
  obtain ⟨R, ent⟩ := g
  cases ent with
  | none => rfl
  | some e =>
    have he : e < x := he e rfl
    have hR : ∀ l, LT R l x := hR
    have hki : ∀ y, y < x → kfs x y % 100 = y := fun y hy => hk x y hx (by omega)
    show ((mJLs kfs fb car wd x (min (lv x) (lv e) + 1) R (mDesc (kfs x) R (lv x) (lv e - lv x) e).1, some (if lv e < lv x then x else e)) : mSt) = (mJLs kfs' fb' car wd x (min (lv' x) (lv' e) + 1) R (mDesc (kfs' x) R (lv' x) (lv' e - lv' x) e).1, some (if lv' e < lv' x then x else e))
    rw [← hlv x hx, ← hlv e (by omega), ← mDesc_cg hR hki (fun y hy => hkf x y hx (by omega)) _ _ he, ← mJLs_cg hx hk hkf h _ _ _ (mDesc_lt hR hki _ _ he) (fun l _ => hR l)]
theorem mBuild_cg {N wd : Nat} {lv lv' : Nat → Nat} (hk : ∀ o y, o < N → y < N → kfs o y % 100 = y) (hkf : ∀ o y, o < N → y < N → kfs o y = kfs' o y) (h : ∀ a b, a < N → b < N → fb a b = fb' a b) (hlv : ∀ a, a < N → lv a = lv' a) : ∀ n, n ≤ N → mBuild kfs fb car wd lv n = mBuild kfs' fb' car wd lv' n
  | 0, _ => rfl
  | n + 1, hn => by
    have hb := mBuild_lt (kfs := kfs) (fb := fb) (car := car) (wd := wd) (lv := lv) n (fun o y ho hy => hk o y (by omega) (by omega))
    show mJoin kfs fb car wd lv (mBuild kfs fb car wd lv n) n = mJoin kfs' fb' car wd lv' (mBuild kfs' fb' car wd lv' n) n
    rw [← mBuild_cg hk hkf h hlv n (by omega)]
    exact mJoin_cg (by omega) hk hkf h hlv hb.1 hb.2.1
end CG
/-! LEVEL: one and the same number -/
theorem i32_eq0 {a : Int32} : a = 0 ↔ a.toUInt32.toNat = 0 := by
  constructor
  · intro h; rw [h]; rfl
  · intro h
    have h1 : a.toUInt32 = 0 := UInt32.toNat_inj.mp h
    have h2 : a.toUInt32.toInt32 = (0 : UInt32).toInt32 := by rw [h1]
    simpa using h2
theorem ush_nat {h : Int32} {z : Nat} (hz : z < 32) : (ush h z).toUInt32.toNat = h.toUInt32.toNat / 2 ^ z := by
  have e : ((zi (z : Int)).toUInt32 &&& Int32.toUInt32 31).toNat % 32 = z := by
    have : ∀ z : Fin 32, ((zi ((z : Nat) : Int)).toUInt32 &&& Int32.toUInt32 31).toNat % 32 = z := by decide
    exact this ⟨z, hz⟩
  unfold ush
  rw [UInt32.toUInt32_toInt32, UInt32.toNat_shiftRight, e, Nat.shiftRight_eq_div_pow]
theorem and1 {a : Int32} : a &&& 1 = 0 ↔ a.toUInt32.toNat % 2 = 0 := by
  rw [i32_eq0, show (a &&& 1).toUInt32 = a.toUInt32 &&& 1 from rfl, UInt32.toNat_and, show (1 : UInt32).toNat = 2 ^ 1 - 1 from rfl, Nat.and_two_pow_sub_one_eq_mod]
theorem and3 {a : Int32} : a &&& 3 = 0 ↔ a.toUInt32.toNat % 4 = 0 := by
  rw [i32_eq0, show (a &&& 3).toUInt32 = a.toUInt32 &&& 3 from rfl, UInt32.toNat_and, show (3 : UInt32).toNat = 2 ^ 2 - 1 from rfl, Nat.and_two_pow_sub_one_eq_mod]
theorem tz_0 {d z : Nat} {h : Int32} (hz : z < 32) (q : h.toUInt32.toNat / 2 ^ z % 2 = 0) : tzC (d + 1) h z = tzC d h (z + 1) := by
  rw [tzC, if_pos (by rw [and1, ush_nat hz]; exact q)]
theorem tz_1 {d z : Nat} {h : Int32} (hz : z < 32) (q : ¬ h.toUInt32.toNat / 2 ^ z % 2 = 0) : tzC (d + 1) h z = z := by
  rw [tzC, if_neg (by rw [and1, ush_nat hz]; exact q)]
theorem lv_0 {d : Nat} {h : Int32} (q : h.toUInt32.toNat % 4 = 0) : levC (d + 1) h = 1 + levC d (ush h 2) := by
  rw [levC, if_pos (and3.mpr q)]
theorem lv_1 {d : Nat} {h : Int32} (q : ¬ h.toUInt32.toNat % 4 = 0) : levC (d + 1) h = 0 := by
  rw [levC, if_neg (fun z => q (and3.mp z))]
theorem tzC_ge : ∀ (d : Nat) (h : Int32) (z : Nat), z ≤ tzC d h z
  | 0, _, z => Nat.le_refl _
  | d + 1, h, z => by
    unfold tzC
    have := tzC_ge d h (z + 1)
    split <;> omega
theorem lev_tz : ∀ (j : Nat), j ≤ 4 → ∀ (h h0 : Int32), h.toUInt32.toNat = h0.toUInt32.toNat / 2 ^ (2 * (4 - j)) → levC j h + (4 - j) = (if 4 < tzC (32 - 2 * (4 - j)) h0 (2 * (4 - j)) / 2 then 4 else tzC (32 - 2 * (4 - j)) h0 (2 * (4 - j)) / 2)
  | 0, _, h, h0, _ => by
    have := tzC_ge 24 h0 8
    show 0 + 4 = (if 4 < tzC 24 h0 8 / 2 then 4 else tzC 24 h0 8 / 2)
    split <;> omega
  | j + 1, hj, h, h0, e => by
    obtain ⟨t, ht, rfl⟩ : ∃ t, t ≤ 3 ∧ j = 3 - t := ⟨3 - j, by omega, by omega⟩
    have e1 : 4 - (3 - t + 1) = t := by omega
    have e2 : 32 - 2 * t = (30 - 2 * t) + 1 + 1 := by omega
    have e3 : 4 - (3 - t) = t + 1 := by omega
    have e4 : 2 * t + 1 + 1 = 2 * (t + 1) := by omega
    have e5 : 30 - 2 * t = 32 - 2 * (t + 1) := by omega
    rw [e1] at e ⊢
    have hd1 : h0.toUInt32.toNat / 2 ^ (2 * t + 1) = h.toUInt32.toNat / 2 := by rw [e, Nat.pow_succ, Nat.div_div_eq_div_mul]
    by_cases q0 : h.toUInt32.toNat % 2 = 0
    · by_cases q1 : h.toUInt32.toNat / 2 % 2 = 0
      · have ih := lev_tz (3 - t) (by omega) (ush h 2) h0 (by
          have := ush_nat (h := h) (z := 2) (by decide)
          rw [e3, show (2 : Int) = ((2 : Nat) : Int) from rfl, this, e, Nat.div_div_eq_div_mul, ← Nat.pow_add, show 2 * (t + 1) = 2 * t + 2 from rfl])
        rw [e3] at ih
        rw [lv_0 (by omega), e2, tz_0 (by omega) (by rw [← e]; exact q0), tz_0 (by omega) (by rw [hd1]; exact q1), e4, e5, ← ih]
        omega
      · rw [lv_1 (by omega), e2, tz_0 (by omega) (by rw [← e]; exact q0), tz_1 (by omega) (by rw [hd1]; exact q1)]
        split <;> omega
    · rw [lv_1 (by omega), e2, tz_1 (by omega) (by rw [← e]; exact q0)]
      split <;> omega
theorem lev_gen (h : Int32) : (if 4 < tzC 32 h 0 / 2 then 4 else tzC 32 h 0 / 2) = levC 4 h := by
  have h1 := lev_tz 4 (by decide) h h (by simp)
  simp only [Nat.sub_self, Nat.mul_zero, Nat.sub_zero, Nat.add_zero] at h1
  exact h1.symm
theorem lev_T (s : Int) (i : Nat) : levT s i = lev s i := by
  unfold levT lev
  exact lev_gen _
