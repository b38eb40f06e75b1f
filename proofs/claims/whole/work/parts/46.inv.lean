/-! one state, seen by the class and by the reference -/
def LQ (I : Nat → Int) (F : Nat → Nat → Int) (J : Nat → Int) (G : Nat → Nat → Int) (P N M wd : Nat) (car : Bool) (s : Int) (V : Nat → Nat → Int) (L : List Nat) : Prop := (VW I F P N M) ∧ (TW J G P N M) ∧ (∀ i, i < N → ∀ k, k < P → vec F P i k = V i k) ∧ (∀ i, i < N → ∀ k, k < P → tv G i k = V i k) ∧ (∀ k, k < P → vec F P 100 k = tv G 100 k) ∧ (∀ x, x < N → F 0 x = G 2 x) ∧ (∀ x, x < N → F 1 x = G 1 x) ∧ (I 8 = s) ∧ (J 2 = s) ∧ (I 3 = wd) ∧ (J 4 = wd) ∧ (2 ≤ wd) ∧ (wd ≤ 6) ∧ (I 4 = if car = true then 1 else 0) ∧ (J 5 = if car = true then 1 else 0) ∧ (GW F (mBuild (kfV V P M) (fbV V P M) car wd (lev s) N).1 N) ∧ (I 2 = entI (mBuild (kfV V P M) (fbV V P M) car wd (lev s) N).2) ∧ (RK 3 I F L) ∧ (J 11 = L.length) ∧ (∀ j, j < L.length → G 3 j = ((L.getD j 0 % 100 : Nat) : Int)) ∧ (I 6 = J 12) ∧ (J 13 = 0 ∨ J 13 = 1) ∧ (J 13 = 0 → TB J G P N M s (mBuild (kfV V P M) (fbV V P M) car wd (lev s) N))
theorem LQ.hV {I : Nat → Int} {F : Nat → Nat → Int} {J : Nat → Int} {G : Nat → Nat → Int} {P N M wd : Nat} {car : Bool} {s : Int} {V : Nat → Nat → Int} {L : List Nat} (h : LQ I F J G P N M wd car s V L) : VW I F P N M := h.1
theorem LQ.hT {I : Nat → Int} {F : Nat → Nat → Int} {J : Nat → Int} {G : Nat → Nat → Int} {P N M wd : Nat} {car : Bool} {s : Int} {V : Nat → Nat → Int} {L : List Nat} (h : LQ I F J G P N M wd car s V L) : TW J G P N M := h.2.1
theorem LQ.v1 {I : Nat → Int} {F : Nat → Nat → Int} {J : Nat → Int} {G : Nat → Nat → Int} {P N M wd : Nat} {car : Bool} {s : Int} {V : Nat → Nat → Int} {L : List Nat} (h : LQ I F J G P N M wd car s V L) : ∀ i, i < N → ∀ k, k < P → vec F P i k = V i k := h.2.2.1
theorem LQ.v2 {I : Nat → Int} {F : Nat → Nat → Int} {J : Nat → Int} {G : Nat → Nat → Int} {P N M wd : Nat} {car : Bool} {s : Int} {V : Nat → Nat → Int} {L : List Nat} (h : LQ I F J G P N M wd car s V L) : ∀ i, i < N → ∀ k, k < P → tv G i k = V i k := h.2.2.2.1
theorem LQ.hd {I : Nat → Int} {F : Nat → Nat → Int} {J : Nat → Int} {G : Nat → Nat → Int} {P N M wd : Nat} {car : Bool} {s : Int} {V : Nat → Nat → Int} {L : List Nat} (h : LQ I F J G P N M wd car s V L) : ∀ k, k < P → vec F P 100 k = tv G 100 k := h.2.2.2.2.1
theorem LQ.r0 {I : Nat → Int} {F : Nat → Nat → Int} {J : Nat → Int} {G : Nat → Nat → Int} {P N M wd : Nat} {car : Bool} {s : Int} {V : Nat → Nat → Int} {L : List Nat} (h : LQ I F J G P N M wd car s V L) : ∀ x, x < N → F 0 x = G 2 x := h.2.2.2.2.2.1
theorem LQ.r1 {I : Nat → Int} {F : Nat → Nat → Int} {J : Nat → Int} {G : Nat → Nat → Int} {P N M wd : Nat} {car : Bool} {s : Int} {V : Nat → Nat → Int} {L : List Nat} (h : LQ I F J G P N M wd car s V L) : ∀ x, x < N → F 1 x = G 1 x := h.2.2.2.2.2.2.1
theorem LQ.s1 {I : Nat → Int} {F : Nat → Nat → Int} {J : Nat → Int} {G : Nat → Nat → Int} {P N M wd : Nat} {car : Bool} {s : Int} {V : Nat → Nat → Int} {L : List Nat} (h : LQ I F J G P N M wd car s V L) : I 8 = s := h.2.2.2.2.2.2.2.1
theorem LQ.s2 {I : Nat → Int} {F : Nat → Nat → Int} {J : Nat → Int} {G : Nat → Nat → Int} {P N M wd : Nat} {car : Bool} {s : Int} {V : Nat → Nat → Int} {L : List Nat} (h : LQ I F J G P N M wd car s V L) : J 2 = s := h.2.2.2.2.2.2.2.2.1
theorem LQ.w1 {I : Nat → Int} {F : Nat → Nat → Int} {J : Nat → Int} {G : Nat → Nat → Int} {P N M wd : Nat} {car : Bool} {s : Int} {V : Nat → Nat → Int} {L : List Nat} (h : LQ I F J G P N M wd car s V L) : I 3 = wd := h.2.2.2.2.2.2.2.2.2.1
theorem LQ.w2 {I : Nat → Int} {F : Nat → Nat → Int} {J : Nat → Int} {G : Nat → Nat → Int} {P N M wd : Nat} {car : Bool} {s : Int} {V : Nat → Nat → Int} {L : List Nat} (h : LQ I F J G P N M wd car s V L) : J 4 = wd := h.2.2.2.2.2.2.2.2.2.2.1
theorem LQ.wl {I : Nat → Int} {F : Nat → Nat → Int} {J : Nat → Int} {G : Nat → Nat → Int} {P N M wd : Nat} {car : Bool} {s : Int} {V : Nat → Nat → Int} {L : List Nat} (h : LQ I F J G P N M wd car s V L) : 2 ≤ wd := h.2.2.2.2.2.2.2.2.2.2.2.1
theorem LQ.wh {I : Nat → Int} {F : Nat → Nat → Int} {J : Nat → Int} {G : Nat → Nat → Int} {P N M wd : Nat} {car : Bool} {s : Int} {V : Nat → Nat → Int} {L : List Nat} (h : LQ I F J G P N M wd car s V L) : wd ≤ 6 := h.2.2.2.2.2.2.2.2.2.2.2.2.1
theorem LQ.c1 {I : Nat → Int} {F : Nat → Nat → Int} {J : Nat → Int} {G : Nat → Nat → Int} {P N M wd : Nat} {car : Bool} {s : Int} {V : Nat → Nat → Int} {L : List Nat} (h : LQ I F J G P N M wd car s V L) : I 4 = if car = true then 1 else 0 := h.2.2.2.2.2.2.2.2.2.2.2.2.2.1
theorem LQ.c2 {I : Nat → Int} {F : Nat → Nat → Int} {J : Nat → Int} {G : Nat → Nat → Int} {P N M wd : Nat} {car : Bool} {s : Int} {V : Nat → Nat → Int} {L : List Nat} (h : LQ I F J G P N M wd car s V L) : J 5 = if car = true then 1 else 0 := h.2.2.2.2.2.2.2.2.2.2.2.2.2.2.1
theorem LQ.gr {I : Nat → Int} {F : Nat → Nat → Int} {J : Nat → Int} {G : Nat → Nat → Int} {P N M wd : Nat} {car : Bool} {s : Int} {V : Nat → Nat → Int} {L : List Nat} (h : LQ I F J G P N M wd car s V L) : GW F (mBuild (kfV V P M) (fbV V P M) car wd (lev s) N).1 N := h.2.2.2.2.2.2.2.2.2.2.2.2.2.2.2.1
theorem LQ.en {I : Nat → Int} {F : Nat → Nat → Int} {J : Nat → Int} {G : Nat → Nat → Int} {P N M wd : Nat} {car : Bool} {s : Int} {V : Nat → Nat → Int} {L : List Nat} (h : LQ I F J G P N M wd car s V L) : I 2 = entI (mBuild (kfV V P M) (fbV V P M) car wd (lev s) N).2 := h.2.2.2.2.2.2.2.2.2.2.2.2.2.2.2.2.1
theorem LQ.rk {I : Nat → Int} {F : Nat → Nat → Int} {J : Nat → Int} {G : Nat → Nat → Int} {P N M wd : Nat} {car : Bool} {s : Int} {V : Nat → Nat → Int} {L : List Nat} (h : LQ I F J G P N M wd car s V L) : RK 3 I F L := h.2.2.2.2.2.2.2.2.2.2.2.2.2.2.2.2.2.1
theorem LQ.t1 {I : Nat → Int} {F : Nat → Nat → Int} {J : Nat → Int} {G : Nat → Nat → Int} {P N M wd : Nat} {car : Bool} {s : Int} {V : Nat → Nat → Int} {L : List Nat} (h : LQ I F J G P N M wd car s V L) : J 11 = L.length := h.2.2.2.2.2.2.2.2.2.2.2.2.2.2.2.2.2.2.1
theorem LQ.t3 {I : Nat → Int} {F : Nat → Nat → Int} {J : Nat → Int} {G : Nat → Nat → Int} {P N M wd : Nat} {car : Bool} {s : Int} {V : Nat → Nat → Int} {L : List Nat} (h : LQ I F J G P N M wd car s V L) : ∀ j, j < L.length → G 3 j = ((L.getD j 0 % 100 : Nat) : Int) := h.2.2.2.2.2.2.2.2.2.2.2.2.2.2.2.2.2.2.2.1
theorem LQ.st {I : Nat → Int} {F : Nat → Nat → Int} {J : Nat → Int} {G : Nat → Nat → Int} {P N M wd : Nat} {car : Bool} {s : Int} {V : Nat → Nat → Int} {L : List Nat} (h : LQ I F J G P N M wd car s V L) : I 6 = J 12 := h.2.2.2.2.2.2.2.2.2.2.2.2.2.2.2.2.2.2.2.2.1
theorem LQ.sl {I : Nat → Int} {F : Nat → Nat → Int} {J : Nat → Int} {G : Nat → Nat → Int} {P N M wd : Nat} {car : Bool} {s : Int} {V : Nat → Nat → Int} {L : List Nat} (h : LQ I F J G P N M wd car s V L) : J 13 = 0 ∨ J 13 = 1 := h.2.2.2.2.2.2.2.2.2.2.2.2.2.2.2.2.2.2.2.2.2.1
theorem LQ.tb {I : Nat → Int} {F : Nat → Nat → Int} {J : Nat → Int} {G : Nat → Nat → Int} {P N M wd : Nat} {car : Bool} {s : Int} {V : Nat → Nat → Int} {L : List Nat} (h : LQ I F J G P N M wd car s V L) : J 13 = 0 → TB J G P N M s (mBuild (kfV V P M) (fbV V P M) car wd (lev s) N) := h.2.2.2.2.2.2.2.2.2.2.2.2.2.2.2.2.2.2.2.2.2.2
theorem LQ.mk {I : Nat → Int} {F : Nat → Nat → Int} {J : Nat → Int} {G : Nat → Nat → Int} {P N M wd : Nat} {car : Bool} {s : Int} {V : Nat → Nat → Int} {L : List Nat} (hV : VW I F P N M) (hT : TW J G P N M) (v1 : ∀ i, i < N → ∀ k, k < P → vec F P i k = V i k) (v2 : ∀ i, i < N → ∀ k, k < P → tv G i k = V i k) (hd : ∀ k, k < P → vec F P 100 k = tv G 100 k) (r0 : ∀ x, x < N → F 0 x = G 2 x) (r1 : ∀ x, x < N → F 1 x = G 1 x) (s1 : I 8 = s) (s2 : J 2 = s) (w1 : I 3 = wd) (w2 : J 4 = wd) (wl : 2 ≤ wd) (wh : wd ≤ 6) (c1 : I 4 = if car = true then 1 else 0) (c2 : J 5 = if car = true then 1 else 0) (gr : GW F (mBuild (kfV V P M) (fbV V P M) car wd (lev s) N).1 N) (en : I 2 = entI (mBuild (kfV V P M) (fbV V P M) car wd (lev s) N).2) (rk : RK 3 I F L) (t1 : J 11 = L.length) (t3 : ∀ j, j < L.length → G 3 j = ((L.getD j 0 % 100 : Nat) : Int)) (st : I 6 = J 12) (sl : J 13 = 0 ∨ J 13 = 1) (tb : J 13 = 0 → TB J G P N M s (mBuild (kfV V P M) (fbV V P M) car wd (lev s) N)) : LQ I F J G P N M wd car s V L := ⟨hV, hT, v1, v2, hd, r0, r1, s1, s2, w1, w2, wl, wh, c1, c2, gr, en, rk, t1, t3, st, sl, tb⟩
def INV (I : Nat → Int) (F : Nat → Nat → Int) (J : Nat → Int) (G : Nat → Nat → Int) : Prop := ∃ (P N M wd : Nat) (car : Bool) (s : Int) (V : Nat → Nat → Int) (L : List Nat), LQ I F J G P N M wd car s V L
section
variable {I I' : Nat → Int} {F F' : Nat → Nat → Int} {J J' : Nat → Int} {G G' : Nat → Nat → Int} {P N M wd : Nat} {car : Bool} {s : Int} {V : Nat → Nat → Int} {L L' : List Nat}
theorem LQ.inv (h : LQ I F J G P N M wd car s V L) : INV I F J G := ⟨_, _, _, _, _, _, _, _, h⟩
theorem LQ.fr (h : LQ I F J G P N M wd car s V L) (hI : ∀ r, r < 5 ∨ r = 7 ∨ r = 8 → I' r = I r) (hF : ∀ r, r < 5 → F' r = F r) (hJ : ∀ r, 0 < r → r < 8 → J' r = J r) (hG : ∀ r, r < 3 → G' r = G r) (rk : RK 3 I' F' L') (t1 : J' 11 = L'.length) (t3 : ∀ j, j < L'.length → G' 3 j = ((L'.getD j 0 % 100 : Nat) : Int)) (st : I' 6 = J' 12) (sl : J' 13 = 0 ∨ J' 13 = 1) (tb : J' 13 = 0 → TB J' G' P N M s (mBuild (kfV V P M) (fbV V P M) car wd (lev s) N)) : LQ I' F' J' G' P N M wd car s V L' := LQ.mk
  (hV := h.hV.same (hI 7 (by omega)) (hI 0 (by omega)) (hI 1 (by omega)) (hF 2 (by omega)) (hF 0 (by omega)) (hF 1 (by omega)))
  (hT := h.hT.same (hJ 1 (by omega) (by omega)) (hJ 7 (by omega) (by omega)) (hJ 3 (by omega) (by omega)) (hG 0 (by omega)) (hG 1 (by omega)) (hG 2 (by omega)))
  (v1 := fun i hi k hk => by
    show F' 2 (i * P + k) = _
    rw [hF 2 (by omega)]
    exact h.v1 i hi k hk)
  (v2 := fun i hi k hk => by
    show G' 0 (8 * i + k) = _
    rw [hG 0 (by omega)]
    exact h.v2 i hi k hk)
  (hd := fun k hk => by
    show F' 2 (100 * P + k) = G' 0 (8 * 100 + k)
    rw [hF 2 (by omega), hG 0 (by omega)]
    exact h.hd k hk)
  (r0 := fun x hx => by rw [hF 0 (by omega), hG 2 (by omega)]; exact h.r0 x hx)
  (r1 := fun x hx => by rw [hF 1 (by omega), hG 1 (by omega)]; exact h.r1 x hx)
  (s1 := (hI 8 (by omega)).trans h.s1)
  (s2 := (hJ 2 (by omega) (by omega)).trans h.s2)
  (w1 := (hI 3 (by omega)).trans h.w1)
  (w2 := (hJ 4 (by omega) (by omega)).trans h.w2)
  (wl := h.wl)
  (wh := h.wh)
  (c1 := (hI 4 (by omega)).trans h.c1)
  (c2 := (hJ 5 (by omega) (by omega)).trans h.c2)
  (gr := h.gr.same (hF 3 (by omega)) (hF 4 (by omega)))
  (en := (hI 2 (by omega)).trans h.en)
  (rk := rk)
  (t1 := t1)
  (t3 := t3)
  (st := st)
  (sl := sl)
  (tb := tb)
theorem tb_j {g : mSt} (h : TB J G P N M s g) (e : J' 16 = J 16) : TB J' G P N M s g := ⟨h.1, h.2.1, h.2.2.1, e.trans h.2.2.2⟩
/-- the reference's registers but 0 as they were -/
theorem LQ.j (h : LQ I F J G P N M wd car s V L) (hJ : ∀ r, r ≠ 0 → J' r = J r) : LQ I F J' G P N M wd car s V L := h.fr (fun _ _ => rfl) (fun _ _ => rfl) (fun r h1 _ => hJ r (by omega)) (fun _ _ => rfl) h.rk ((hJ 11 (by decide)).trans h.t1) h.t3 (h.st.trans (hJ 12 (by decide)).symm) (by rw [hJ 13 (by decide)]; exact h.sl) (fun e => tb_j (h.tb ((hJ 13 (by decide)).symm.trans e)) (hJ 16 (by decide)))
theorem LQ.j0 (h : LQ I F J G P N M wd car s V L) : LQ I F (va_up J 0 0) G P N M wd car s V L := h.j (fun _ hr => va_un _ _ _ hr)
/-- the reference built its graph -/
theorem LQ.nd (h : LQ I F J G P N M wd car s V L) (hJ : ∀ r, r ≠ 0 → r ≠ 13 → r ≠ 16 → r ≠ 21 → J' r = J r) (hG : ∀ r, r < 4 ∨ 11 < r → G' r = G r) (h13 : J' 13 = 0) (tb : TB J' G' P N M s (mBuild (kfV V P M) (fbV V P M) car wd (lev s) N)) : LQ I F J' G' P N M wd car s V L := h.fr (fun _ _ => rfl) (fun _ _ => rfl) (fun r h1 h2 => hJ r (by omega) (by omega) (by omega) (by omega)) (fun r hr => hG r (by omega)) h.rk ((hJ 11 (by decide) (by decide) (by decide) (by decide)).trans h.t1) (fun j hj => by rw [hG 3 (by omega)]; exact h.t3 j hj) (h.st.trans (hJ 12 (by decide) (by decide) (by decide) (by decide)).symm) (Or.inl h13) (fun _ => tb)
theorem LQ.kq (h : LQ I F J G P N M wd car s V L) (q : Nat) {x : Nat} (hx : x < N) : kfT G P M q x = kfQ (F 2) P M q x := by
  have e : farT G P M q 100 x = farW (F 2) P M q 100 x := farI_congr (fun k hk => (h.hd k hk).symm) (fun k hk => (h.v2 x hx k hk).trans (h.v1 x hx k hk).symm)
  show (farT G P M q 100 x).toNat * 100 + x = (farW (F 2) P M q 100 x).toNat * 100 + x
  rw [e]
theorem LQ.fe (h : LQ I F J G P N M wd car s V L) {x : Nat} (hx : x < N) : freeT G x = freeI F N x := by
  unfold freeT freeI
  rw [Int.toNat_natCast, h.r0 x hx, h.r1 x hx]
  by_cases a : G 1 x = 0 ∧ G 2 x = 0
  · rw [if_pos a, if_pos ⟨by omega, by omega, a.2, a.1⟩]
  · rw [if_neg a, if_neg (fun c => a ⟨c.2.2.2, c.2.2.1⟩)]
theorem LQ.n100 (h : LQ I F J G P N M wd car s V L) : N ≤ 100 := h.hV.2.2.2.2.1
theorem freeI_b (F : Nat → Nat → Int) (N : Nat) (i : Int) : freeI F N i = 0 ∨ freeI F N i = 1 := by
  unfold freeI
  split
  · exact Or.inr rfl
  · exact Or.inl rfl
theorem kfQ_mod {w : Nat → Int} {q x : Nat} (hx : x < 100) : kfQ w P M q x % 100 = x := by
  show ((farW w P M q 100 x).toNat * 100 + x) % 100 = x
  omega
theorem LQ.sbQ (h : LQ I F J G P N M wd car s V L) (q : Nat) : SB (fun i : Nat => freeI F N i) (kfQ (F 2) P M q) N (mFree (kfQ (F 2) P M q) (fun i : Nat => freeI F N i) N) := mFree_SB (fun y hy => kfQ_mod (by have := h.n100; omega)) (fun x _ => freeI_b F N x)
theorem LQ.sbf (h : LQ I F J G P N M wd car s V L) (q : Nat) : SB (freeT G) (kfT G P M q) N (mFree (kfQ (F 2) P M q) (fun i : Nat => freeI F N i) N) := (h.sbQ q).cg (fun x hx => (h.kq q hx).symm) (fun x hx => h.fe hx)
theorem LQ.lt (h : LQ I F J G P N M wd car s V L) : (∀ l, LT (mBuild (kfV V P M) (fbV V P M) car wd (lev s) N).1 l N) ∧ ∀ e, (mBuild (kfV V P M) (fbV V P M) car wd (lev s) N).2 = some e → e < N := by
  have hN := h.n100
  have := mBuild_lt (kfs := kfV V P M) (fb := fbV V P M) (car := car) (wd := wd) (lv := lev s) N (fun o y _ hy => kfV_mod (by omega))
  exact ⟨this.1, this.2.1⟩
theorem SB.nd {b : Nat → Int} {kf : Nat → Nat} {N : Nat} {L : List Nat} (h1 : L.Pairwise (· < ·)) (h2 : ∀ k ∈ L, ∃ x, x < N ∧ k = kf x) (hk : ∀ y, y < N → kf y % 100 = y) (m : Nat) : ((L.take m).map (· % 100)).Nodup := by
  have h3 := (RS_keys hk h1 h2).nodup
  rw [List.map_take]
  exact h3.sublist (List.take_sublist _ _)
theorem cntH_f (A : List Nat) : ∀ B : List Nat, cntH A B = ((B.map (· % 100)).filter (fun x => decide (x ∈ A.map (· % 100)))).length
  | [] => rfl
  | k :: ks => by
    show rkHas A (k % 100) + cntH A ks = _
    rw [cntH_f A ks, List.map_cons, List.filter_cons]
    by_cases hx : k % 100 ∈ A.map (· % 100)
    · rw [has_in (fun z => z hx), if_pos (decide_eq_true hx), List.length_cons]
      omega
    · rw [has_out hx, if_neg (by rw [decide_eq_true_eq]; exact hx)]
      omega
theorem cntH_sym {A B : List Nat} (hA : (A.map (· % 100)).Nodup) (hB : (B.map (· % 100)).Nodup) : cntH A B = cntH B A := by
  rw [cntH_f, cntH_f]
  have h1 := sub_len ((B.map (· % 100)).filter (fun x => decide (x ∈ A.map (· % 100)))) ((A.map (· % 100)).filter (fun x => decide (x ∈ B.map (· % 100)))) (hB.sublist List.filter_sublist) (fun x hx => by
    obtain ⟨a, b⟩ := List.mem_filter.mp hx
    exact List.mem_filter.mpr ⟨of_decide_eq_true b, decide_eq_true a⟩)
  have h2 := sub_len ((A.map (· % 100)).filter (fun x => decide (x ∈ B.map (· % 100)))) ((B.map (· % 100)).filter (fun x => decide (x ∈ A.map (· % 100)))) (hA.sublist List.filter_sublist) (fun x hx => by
    obtain ⟨a, b⟩ := List.mem_filter.mp hx
    exact List.mem_filter.mpr ⟨of_decide_eq_true b, decide_eq_true a⟩)
  omega
theorem cntI_cg {p q : Nat → Int} : ∀ n, (∀ x, x < n → p x = q x) → cntI p n = cntI q n
  | 0, _ => rfl
  | n + 1, h => by
    show cntI p n + (if p n = 1 then 1 else 0) = cntI q n + (if q n = 1 then 1 else 0)
    rw [cntI_cg n (fun x hx => h x (by omega)), h n (by omega)]
theorem keepL_cg {p q : Nat → Int} : ∀ n, (∀ x, x < n → p x = q x) → keepL p n = keepL q n
  | 0, _ => rfl
  | n + 1, h => by
    unfold keepL
    rw [keepL_cg n (fun x hx => h x (by omega)), h n (by omega)]
theorem mSearch_slt {kf : Nat → Nat} {lv : Nat → Nat} {g : mSt} {e N : Nat} (hR : ∀ l, LT g.1 l N) (hk : ∀ y, y < N → kf y % 100 = y) (hent : ∀ e, g.2 = some e → e < N) : (mSearch kf lv g e).1.Pairwise (· < ·) ∧ ∀ k ∈ (mSearch kf lv g e).1, ∃ x, x < N ∧ k = kf x := by
  unfold mSearch
  split
  · exact ⟨List.Pairwise.nil, fun _ h => absurd h List.not_mem_nil⟩
  next en he =>
    have hg := mGoing_GO (kf := kf) (row := fun i => g.1 i 0) (e := e) (N := N) (f := (mDesc kf g.1 0 (lv en) en).1) (mDesc_lt hR hk _ _ (hent en he)) (fun i _ => hR 0 i) hk
    exact ⟨hg.1, hg.num⟩
theorem LQ.sea (h : LQ I F J G P N M wd car s V L) (e : Nat) : (mFF (fun i : Nat => freeI F N i) (mSearch (kfW (F 2) P M 100) (lev s) (mBuild (kfV V P M) (fbV V P M) car wd (lev s) N) e).1 []).Pairwise (· < ·) ∧ ∀ k ∈ mFF (fun i : Nat => freeI F N i) (mSearch (kfW (F 2) P M 100) (lev s) (mBuild (kfV V P M) (fbV V P M) car wd (lev s) N) e).1 [], ∃ x, x < N ∧ k = kfQ (F 2) P M 100 x := by
  have hN := h.n100
  have h1 := mSearch_slt (kf := kfQ (F 2) P M 100) (lv := lev s) (e := e) h.lt.1 (fun y hy => kfQ_mod (by omega)) h.lt.2
  refine ⟨mFF_slt List.Pairwise.nil h1.1 (fun _ _ => List.not_mem_nil), fun k hk => ?_⟩
  rcases mFF_mem.mp hk with q | q
  · exact absurd q List.not_mem_nil
  · exact h1.2 k q.1
theorem LQ.sbp (h : LQ I F J G P N M wd car s V L) {ys : List Nat} (hd : ys.Nodup) (hl : ∀ y ∈ ys, y < N) : SB (fun x => if x ∈ ys then 1 else 0) (kfT G P M 100) N (mPool (kfQ (F 2) P M 100) ys []) := by
  have hN := h.n100
  have hk : ∀ y, y < N → kfQ (F 2) P M 100 y % 100 = y := fun y hy => kfQ_mod (by omega)
  have h0 : SB (fun x => if x ∈ ys then 1 else 0) (kfQ (F 2) P M 100) N (mPool (kfQ (F 2) P M 100) ys []) := by
    refine ⟨mPool_slt hk ys [] List.Pairwise.nil hd hl (fun _ _ => List.not_mem_nil), fun k hkk => ?_, fun x hx => ?_⟩
    · rcases (mPool_mem _ _ _ _).mp hkk with q | ⟨y, hy, e⟩
      · exact absurd q List.not_mem_nil
      · exact ⟨y, hl y hy, e⟩
    · show (if x ∈ ys then (1 : Int) else 0) = _
      by_cases hm : x ∈ ys
      · rw [if_pos hm, if_pos ((mPool_mem _ _ _ _).mpr (Or.inr ⟨x, hm, rfl⟩))]
      · rw [if_neg hm, if_neg]
        intro c
        rcases (mPool_mem _ _ _ _).mp c with q | ⟨y, hy, e⟩
        · exact absurd q List.not_mem_nil
        · exact hm (by rw [kf_inj hk hx (hl y hy) e]; exact hy)
  exact h0.cg (fun x hx => (h.kq 100 hx).symm) (fun _ _ => rfl)
theorem LQ.fv (h : LQ I F J G P N M wd car s V L) {a b : Nat} (ha : a < N ∨ a = 100) (hb : b < N) : farT G P M 100 a b = farV F P M 100 a b := by
  refine farI_congr (fun k hk => ?_) (fun k hk => (h.v2 b hb k hk).trans (h.v1 b hb k hk).symm)
  rcases ha with ha | rfl
  · exact (h.v2 a ha k hk).trans (h.v1 a ha k hk).symm
  · exact (h.hd k hk).symm
/-- the hand alone changed -/
theorem LQ.hand (h : LQ I F J G P N M wd car s V L) (hV' : VW I F' P N M) (hT' : TW J' G' P N M) (hF : ∀ r, r ≠ 2 → F' r = F r) (hv : ∀ i, i < N → ∀ k, k < P → vec F' P i k = vec F P i k) (hh : ∀ k, k < P → vec F' P 100 k = tv G' 100 k) (hJ : ∀ r, r ≠ 0 → J' r = J r) (hG : ∀ r, r ≠ 0 → G' r = G r) (ht : ∀ i, i < N → ∀ k, k < P → tv G' i k = tv G i k) : LQ I F' J' G' P N M wd car s V L := LQ.mk
  (hV := hV')
  (hT := hT')
  (v1 := fun i hi k hk => (hv i hi k hk).trans (h.v1 i hi k hk))
  (v2 := fun i hi k hk => (ht i hi k hk).trans (h.v2 i hi k hk))
  (hd := hh)
  (r0 := fun x hx => by rw [hF 0 (by omega), hG 2 (by omega)]; exact h.r0 x hx)
  (r1 := fun x hx => by rw [hF 1 (by omega), hG 1 (by omega)]; exact h.r1 x hx)
  (s1 := h.s1)
  (s2 := (hJ 2 (by omega)).trans h.s2)
  (w1 := h.w1)
  (w2 := (hJ 4 (by omega)).trans h.w2)
  (wl := h.wl)
  (wh := h.wh)
  (c1 := h.c1)
  (c2 := (hJ 5 (by omega)).trans h.c2)
  (gr := h.gr.same (hF 3 (by omega)) (hF 4 (by omega)))
  (en := h.en)
  (rk := h.rk.same rfl (hF 13 (by omega)))
  (t1 := (hJ 11 (by omega)).trans h.t1)
  (t3 := fun j hj => by rw [hG 3 (by omega)]; exact h.t3 j hj)
  (st := h.st.trans (hJ 12 (by omega)).symm)
  (sl := by rw [hJ 13 (by omega)]; exact h.sl)
  (tb := fun e => (h.tb ((hJ 13 (by omega)).symm.trans e)).keep h.n100 ht (hG 4 (by omega)) (hG 5 (by omega)) (fun p _ => by rw [hG 6 (by omega)]) (hJ 16 (by omega)))
/-- REMOVED or BARRED changed alike -/
theorem LQ.mark (h : LQ I F J G P N M wd car s V L) (hV' : VW I F' P N M) (hT' : TW J' G' P N M) (hF : ∀ r, 1 < r → F' r = F r) (hJ : ∀ r, r ≠ 0 → J' r = J r) (hG : ∀ r, r ≠ 1 → r ≠ 2 → G' r = G r) (r0 : ∀ x, x < N → F' 0 x = G' 2 x) (r1 : ∀ x, x < N → F' 1 x = G' 1 x) : LQ I F' J' G' P N M wd car s V L := LQ.mk
  (hV := hV')
  (hT := hT')
  (v1 := fun i hi k hk => by
    show F' 2 (i * P + k) = _
    rw [hF 2 (by omega)]
    exact h.v1 i hi k hk)
  (v2 := fun i hi k hk => by
    show G' 0 (8 * i + k) = _
    rw [hG 0 (by omega) (by omega)]
    exact h.v2 i hi k hk)
  (hd := fun k hk => by
    show F' 2 (100 * P + k) = G' 0 (8 * 100 + k)
    rw [hF 2 (by omega), hG 0 (by omega) (by omega)]
    exact h.hd k hk)
  (r0 := r0)
  (r1 := r1)
  (s1 := h.s1)
  (s2 := (hJ 2 (by omega)).trans h.s2)
  (w1 := h.w1)
  (w2 := (hJ 4 (by omega)).trans h.w2)
  (wl := h.wl)
  (wh := h.wh)
  (c1 := h.c1)
  (c2 := (hJ 5 (by omega)).trans h.c2)
  (gr := h.gr.same (hF 3 (by omega)) (hF 4 (by omega)))
  (en := h.en)
  (rk := h.rk.same rfl (hF 13 (by omega)))
  (t1 := (hJ 11 (by omega)).trans h.t1)
  (t3 := fun j hj => by rw [hG 3 (by omega) (by omega)]; exact h.t3 j hj)
  (st := h.st.trans (hJ 12 (by omega)).symm)
  (sl := by rw [hJ 13 (by omega)]; exact h.sl)
  (tb := fun e => (h.tb ((hJ 13 (by omega)).symm.trans e)).keep h.n100 (fun a _ k _ => by show G' 0 (8 * a + k) = G 0 (8 * a + k); rw [hG 0 (by omega) (by omega)]) (hG 4 (by omega) (by omega)) (hG 5 (by omega) (by omega)) (fun p _ => by rw [hG 6 (by omega) (by omega)]) (hJ 16 (by omega)))
end
