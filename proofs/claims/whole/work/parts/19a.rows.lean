/-! rows of neighbours: one row set anew; the way back -/
def rset (rows : Nat → Nat → List Nat) (i l : Nat) (v : List Nat) : Nat → Nat → List Nat := fun a b => if a = i ∧ b = l then v else rows a b
theorem rset_s (rows : Nat → Nat → List Nat) (i l : Nat) (v : List Nat) : rset rows i l v i l = v := if_pos ⟨rfl, rfl⟩
theorem rset_n (rows : Nat → Nat → List Nat) (i l : Nat) (v : List Nat) {a b : Nat} (h : ¬ (a = i ∧ b = l)) : rset rows i l v a b = rows a b := if_neg h
def limN (wd l : Nat) : Nat := if l = 0 then 2 * wd else wd
theorem lim_rl {wd l : Nat} (h : wd ≤ 6) : limN wd l ≤ rlN l := by unfold limN rlN; split <;> omega
def LW (rows : Nat → Nat → List Nat) (wd : Nat) : Prop := ∀ i l, i < 100 → l < 5 → (rows i l).length ≤ limN wd l
theorem rs_apart {a b i l k : Nat} (hb : b < 5) (hl : l < 5) (hk : k < rlN b) (h : ¬ (a = i ∧ b = l)) : ¬ (rsN i l ≤ rsN a b + k ∧ rsN a b + k < rsN i l + rlN l) := by
  unfold rlN at *
  unfold rsN
  split at hk <;> split <;> omega
def mPool (kf : Nat → Nat) : List Nat → List Nat → List Nat
  | [], L => L
  | y :: ys, L => mPool kf ys (ins (kf y) L)
theorem mPool_len (kf : Nat → Nat) : ∀ (ys L : List Nat), (mPool kf ys L).length = L.length + ys.length
  | [], L => rfl
  | y :: ys, L => by
    show (mPool kf ys (ins (kf y) L)).length = _
    rw [mPool_len kf ys, ins_len, List.length_cons]
    omega
theorem mPool_srt (kf : Nat → Nat) : ∀ (ys : List Nat) {L : List Nat}, Srt L → Srt (mPool kf ys L)
  | [], _, h => h
  | _ :: ys, _, h => mPool_srt kf ys (ins_srt h)
theorem mPool_mem (kf : Nat → Nat) : ∀ (ys L : List Nat) (x : Nat), x ∈ mPool kf ys L ↔ x ∈ L ∨ ∃ y ∈ ys, x = kf y
  | [], L, x => by simp [mPool]
  | y :: ys, L, x => by
    show x ∈ mPool kf ys (ins (kf y) L) ↔ _
    rw [mPool_mem kf ys, ins_mem]
    constructor
    · rintro ((h | h) | ⟨z, hz, h⟩)
      · exact Or.inr ⟨y, List.mem_cons_self, h⟩
      · exact Or.inl h
      · exact Or.inr ⟨z, List.mem_cons_of_mem _ hz, h⟩
    · rintro (h | ⟨z, hz, h⟩)
      · exact Or.inl (Or.inr h)
      · rcases List.mem_cons.mp hz with rfl | hz
        · exact Or.inl (Or.inl h)
        · exact Or.inr ⟨z, hz, h⟩
def mPick (fb : Nat → Nat → Nat) (car : Bool) (lim : Nat) (p : List Nat) : List Nat := if lim < p.length then mChoose fb car lim p [] else p
/-- x becomes a NEIGHBOUR of the one whose row is row: its row then -/
def mBack (kf : Nat → Nat) (fb : Nat → Nat → Nat) (car : Bool) (lim : Nat) (row : List Nat) (x : Nat) : List Nat := (mPick fb car lim (ins (kf x) (mPool kf row []))).map (· % 100)
theorem mPick_len {fb : Nat → Nat → Nat} {car : Bool} {lim : Nat} {p : List Nat} : (mPick fb car lim p).length ≤ lim := by
  unfold mPick
  split
  · exact mChoose_len p [] (Nat.zero_le _)
  · omega
theorem mPick_mem {fb : Nat → Nat → Nat} {car : Bool} {lim : Nat} {p : List Nat} {x : Nat} (h : x ∈ mPick fb car lim p) : x ∈ p := by
  unfold mPick at h
  split at h
  · rcases mChoose_mem p [] x h with h | h
    · cases h
    · exact h
  · exact h
theorem mBack_len {kf : Nat → Nat} {fb : Nat → Nat → Nat} {car : Bool} {lim : Nat} {row : List Nat} {x : Nat} : (mBack kf fb car lim row x).length ≤ lim := by
  unfold mBack
  rw [List.length_map]
  exact mPick_len
theorem mBack_mem {kf : Nat → Nat} {fb : Nat → Nat → Nat} {car : Bool} {lim : Nat} {row : List Nat} {x y N : Nat} (hk : ∀ z, z < N → kf z % 100 = z) (hx : x < N) (hr : ∀ z ∈ row, z < N) (h : y ∈ mBack kf fb car lim row x) : y < N := by
  unfold mBack at h
  obtain ⟨q, hq, rfl⟩ := List.mem_map.mp h
  rcases ins_mem.mp (mPick_mem hq) with rfl | hq
  · show kf x % 100 < N
    rw [hk x hx]; exact hx
  · rcases (mPool_mem kf row [] q).mp hq with hq | ⟨z, hz, rfl⟩
    · cases hq
    · show kf z % 100 < N
      rw [hk z (hr z hz)]; exact hr z hz
/-- what the making of the graph may change -/
def FrJ (I : Nat → Int) (F : Nat → Nat → Int) (I' : Nat → Int) (F' : Nat → Nat → Int) : Prop := (∀ j, j ≠ 5 → j ≠ 10 → j ≠ 11 → j ≠ 12 → I' j = I j) ∧ ∀ j, j ≠ 3 → j ≠ 4 → j ≠ 5 → j ≠ 10 → j ≠ 11 → j ≠ 12 → F' j = F j
theorem FrJ.rf {I : Nat → Int} {F : Nat → Nat → Int} : FrJ I F I F := ⟨fun _ _ _ _ _ => rfl, fun _ _ _ _ _ _ _ => rfl⟩
theorem FrJ.tr {I I' I2 : Nat → Int} {F F' F2 : Nat → Nat → Int} (h : FrJ I F I' F') (h2 : FrJ I' F' I2 F2) : FrJ I F I2 F2 := ⟨fun j a b c d => (h2.1 j a b c d).trans (h.1 j a b c d), fun j a b c d e f => (h2.2 j a b c d e f).trans (h.2 j a b c d e f)⟩
theorem Fr3.J {I I' : Nat → Int} {F F' : Nat → Nat → Int} (h : Fr3 I F I' F') : FrJ I F I' F' := ⟨fun j a b c _ => h.1 j (by unfold G3; omega), fun j _ _ a b c _ => h.2 j (by unfold G3; omega)⟩
theorem VW.frJ {I I' : Nat → Int} {F F' : Nat → Nat → Int} {P N M : Nat} (h : VW I F P N M) (hf : FrJ I F I' F') : VW I' F' P N M := h.same (hf.1 7 (by decide) (by decide) (by decide) (by decide)) (hf.1 0 (by decide) (by decide) (by decide) (by decide)) (hf.1 1 (by decide) (by decide) (by decide) (by decide)) (hf.2 2 (by decide) (by decide) (by decide) (by decide) (by decide) (by decide)) (hf.2 0 (by decide) (by decide) (by decide) (by decide) (by decide) (by decide)) (hf.2 1 (by decide) (by decide) (by decide) (by decide) (by decide) (by decide))
theorem FrJ.w {I I' : Nat → Int} {F F' : Nat → Nat → Int} (hf : FrJ I F I' F') : F' 2 = F 2 := hf.2 2 (by decide) (by decide) (by decide) (by decide) (by decide) (by decide)
theorem FrJ.i {I I' : Nat → Int} {F F' : Nat → Nat → Int} (hf : FrJ I F I' F') {j : Nat} (h : j < 5 ∨ 5 < j ∧ j < 10 ∨ 12 < j) : I' j = I j := hf.1 j (by omega) (by omega) (by omega) (by omega)
