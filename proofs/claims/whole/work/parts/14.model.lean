/-! the document in lists: a key is FAR times 100 plus the number -/
abbrev mG : Type := List Nat × List Nat × List Nat
abbrev lastLt (L : List Nat) (k : Nat) : Prop := 0 < L.length ∧ L.getD (L.length - 1) 0 < k
/-- one vector is met: (met, FOUND, OPEN), keys by kf, e at most in FOUND -/
def mMeet (kf : Nat → Nat) (e x : Nat) (s : mG) : mG :=
  if x ∈ s.1 then s
  else if s.2.1.length < e ∨ ¬ lastLt s.2.1 (kf x) then (x :: s.1, (ins (kf x) s.2.1).take e, ins (kf x) s.2.2)
  else (x :: s.1, s.2.1, s.2.2)
def mMeets (kf : Nat → Nat) (e : Nat) : List Nat → mG → mG
  | [], s => s
  | x :: xs, s => mMeets kf e xs (mMeet kf e x s)
/-- GOING, so many turns at most -/
def mGo (kf : Nat → Nat) (row : Nat → List Nat) (e : Nat) : Nat → mG → mG
  | 0, s => s
  | n + 1, s => if s.2.2 = [] then s
    else if e ≤ s.2.1.length ∧ lastLt s.2.1 (s.2.2.getD 0 0) then (s.1, s.2.1, s.2.2.tail)
    else mGo kf row e n (mMeets kf e (row (s.2.2.getD 0 0 % 100)) (s.1, s.2.1, s.2.2.tail))
def mGoing (kf : Nat → Nat) (row : Nat → List Nat) (e at_ : Nat) : mG := mGo kf row e 100 (mMeet kf e at_ ([], [], []))
theorem nodup_le : ∀ (N : Nat) (L : List Nat), L.Nodup → (∀ x ∈ L, x < N) → L.length ≤ N
  | 0, L, _, h => by
    cases L with
    | nil => exact Nat.le_refl _
    | cons a l => exact absurd (h a List.mem_cons_self) (Nat.not_lt_zero _)
  | N + 1, L, hd, h => by
    by_cases hN : N ∈ L
    · have h1 := nodup_le N (L.erase N) (hd.erase N) (fun x hx => by
        have h2 := (hd.mem_erase_iff).mp hx
        have h3 := h x h2.2
        have h4 := h2.1
        omega)
      rw [List.length_erase_of_mem hN] at h1
      omega
    · have h1 := nodup_le N L hd (fun x hx => by
        have h3 := h x hx
        have h4 : x ≠ N := fun e => hN (e ▸ hx)
        omega)
      omega
/-- what holds in a GOING -/
def GI (kf : Nat → Nat) (e N : Nat) (S : mG) : Prop := Srt S.2.1 ∧ Srt S.2.2 ∧ S.2.1.length ≤ e ∧ S.2.2.length ≤ S.1.length ∧ S.1.Nodup ∧ (∀ x ∈ S.1, x < N) ∧ (∀ k ∈ S.2.1, ∃ x, x < N ∧ k = kf x) ∧ (∀ k ∈ S.2.2, ∃ x, x < N ∧ k = kf x)
theorem GI.nil {kf : Nat → Nat} {e N : Nat} : GI kf e N ([], [], []) := ⟨List.Pairwise.nil, List.Pairwise.nil, Nat.zero_le _, Nat.le_refl _, List.nodup_nil, fun _ h => absurd h List.not_mem_nil, fun _ h => absurd h List.not_mem_nil, fun _ h => absurd h List.not_mem_nil⟩
theorem GI.room {kf : Nat → Nat} {e N : Nat} {S : mG} (h : GI kf e N S) {x : Nat} (hx : x < N) (hm : x ∉ S.1) : S.2.2.length < N := by
  have h1 := nodup_le N (x :: S.1) (List.nodup_cons.mpr ⟨hm, h.2.2.2.2.1⟩) (fun y hy => by
    rcases List.mem_cons.mp hy with rfl | hy
    · exact hx
    · exact h.2.2.2.2.2.1 y hy)
  have h2 := h.2.2.2.1
  rw [List.length_cons] at h1
  omega
theorem GI.meet {kf : Nat → Nat} {e N : Nat} {S : mG} (h : GI kf e N S) {x : Nat} (hx : x < N) : GI kf e N (mMeet kf e x S) := by
  obtain ⟨h1, h2, h3, h4, h5, h6, h7, h8⟩ := h
  unfold mMeet
  split
  · exact ⟨h1, h2, h3, h4, h5, h6, h7, h8⟩
  next hm =>
    have h5' : (x :: S.1).Nodup := List.nodup_cons.mpr ⟨hm, h5⟩
    have h6' : ∀ y ∈ x :: S.1, y < N := fun y hy => by
      rcases List.mem_cons.mp hy with rfl | hy
      · exact hx
      · exact h6 y hy
    split
    · refine ⟨srt_take (ins_srt h1) e, ins_srt h2, by show ((ins (kf x) S.2.1).take e).length ≤ e; rw [List.length_take]; omega, by show (ins (kf x) S.2.2).length ≤ (x :: S.1).length; rw [ins_len, List.length_cons]; omega, h5', h6', fun k hk => ?_, fun k hk => ?_⟩
      · rcases ins_mem.mp (List.mem_of_mem_take hk) with rfl | hk
        · exact ⟨x, hx, rfl⟩
        · exact h7 k hk
      · rcases ins_mem.mp hk with rfl | hk
        · exact ⟨x, hx, rfl⟩
        · exact h8 k hk
    · exact ⟨h1, h2, h3, by show S.2.2.length ≤ (x :: S.1).length; rw [List.length_cons]; omega, h5', h6', h7, h8⟩
theorem GI.tl {kf : Nat → Nat} {e N : Nat} {S : mG} (h : GI kf e N S) : GI kf e N (S.1, S.2.1, S.2.2.tail) := by
  obtain ⟨h1, h2, h3, h4, h5, h6, h7, h8⟩ := h
  exact ⟨h1, srt_tail h2, h3, by show S.2.2.tail.length ≤ S.1.length; rw [List.length_tail]; omega, h5, h6, h7, fun k hk => h8 k (List.mem_of_mem_tail hk)⟩
theorem GI.meets {kf : Nat → Nat} {e N : Nat} : ∀ {xs : List Nat} {S : mG}, GI kf e N S → (∀ x ∈ xs, x < N) → GI kf e N (mMeets kf e xs S)
  | [], _, h, _ => h
  | x :: xs, _, h, hx => GI.meets (xs := xs) (h.meet (hx x List.mem_cons_self)) (fun y hy => hx y (List.mem_cons_of_mem _ hy))
theorem GI.go {kf : Nat → Nat} {row : Nat → List Nat} {e N : Nat} (hr : ∀ i, i < N → ∀ x ∈ row i, x < N) (hk : ∀ x, x < N → kf x % 100 = x) : ∀ (d : Nat) {S : mG}, GI kf e N S → GI kf e N (mGo kf row e d S)
  | 0, _, h => h
  | d + 1, S, h => by
    unfold mGo
    split
    · exact h
    next hne =>
      split
      · exact h.tl
      · refine GI.go hr hk d (GI.meets h.tl ?_)
        have hl : 0 < S.2.2.length := List.length_pos_iff.mpr hne
        obtain ⟨x, hx, e1⟩ := h.2.2.2.2.2.2.2 _ (gd_mem hl)
        rw [e1, hk x hx]
        exact hr x hx
/-- FOUND is never empty behind the first meeting -/
theorem mMeet_ne {kf : Nat → Nat} {e x : Nat} (he : 1 ≤ e) {S : mG} (h : S.2.1 ≠ [] ∨ S.1 = []) : (mMeet kf e x S).2.1 ≠ [] := by
  have hins : (ins (kf x) S.2.1).take e ≠ [] := by
    intro h0
    have := congrArg List.length h0
    rw [List.length_take, ins_len] at this
    simp at this
    omega
  unfold mMeet
  split
  next hm =>
    rcases h with h | h
    · exact h
    · rw [h] at hm; cases hm
  · split
    · exact hins
    next hc =>
      rcases h with h | h
      · exact h
      · intro h0
        apply hc
        left
        rw [h0]
        exact he
theorem mMeets_ne {kf : Nat → Nat} {e : Nat} (he : 1 ≤ e) : ∀ (xs : List Nat) {S : mG}, S.2.1 ≠ [] → (mMeets kf e xs S).2.1 ≠ []
  | [], _, h => h
  | x :: xs, _, h => mMeets_ne he xs (mMeet_ne he (Or.inl h))
theorem mGo_ne {kf : Nat → Nat} {row : Nat → List Nat} {e : Nat} (he : 1 ≤ e) : ∀ (d : Nat) {S : mG}, S.2.1 ≠ [] → (mGo kf row e d S).2.1 ≠ []
  | 0, _, h => h
  | d + 1, S, h => by
    unfold mGo
    split
    · exact h
    · split
      · exact h
      · exact mGo_ne he d (mMeets_ne he _ h)
theorem mMeet_len (kf : Nat → Nat) (e x : Nat) (S : mG) : (mMeet kf e x S).1.length = S.1.length + (if x ∈ S.1 then 0 else 1) := by
  unfold mMeet
  split
  · rfl
  · split <;> rfl
theorem drop_get {L : List Nat} {j : Nat} (h : j < L.length) : L.drop j = L.getD j 0 :: L.drop (j + 1) := by
  rw [List.drop_eq_getElem_cons h, List.getD_eq_getElem?_getD, List.getElem?_eq_getElem h]
  rfl
/-- the number of the first of FOUND -/
def mHead (L : List Nat) : Nat := L.getD 0 0 % 100
/-- downwards from level bot + d to bot + 1, with 1: where one comes to, and the STEPS -/
def mDesc (kf : Nat → Nat) (rows : Nat → Nat → List Nat) (bot : Nat) : Nat → Nat → Nat × Nat
  | 0, f => (f, 0)
  | d + 1, f => ((mDesc kf rows bot d (mHead (mGoing kf (fun i => rows i (bot + d + 1)) 1 f).2.1)).1, (mGoing kf (fun i => rows i (bot + d + 1)) 1 f).1.length + (mDesc kf rows bot d (mHead (mGoing kf (fun i => rows i (bot + d + 1)) 1 f).2.1)).2)
/-- CHOOSING w out of keys (in order), fb the FAR of two -/
def mChoose (fb : Nat → Nat → Nat) (car : Bool) (w : Nat) : List Nat → List Nat → List Nat
  | [], t => t
  | k :: ks, t => if t.length < w then (if car = false ∨ ∀ y ∈ t, k / 100 < fb (k % 100) (y % 100) then mChoose fb car w ks (t ++ [k]) else mChoose fb car w ks t) else t
theorem mGoing_GI {kf : Nat → Nat} {row : Nat → List Nat} {e N f : Nat} (hf : f < N) (hr : ∀ i, i < N → ∀ x ∈ row i, x < N) (hk : ∀ x, x < N → kf x % 100 = x) : GI kf e N (mGoing kf row e f) := GI.go hr hk 100 (GI.nil.meet hf)
theorem mGoing_ne {kf : Nat → Nat} {row : Nat → List Nat} {e f : Nat} (he : 1 ≤ e) : (mGoing kf row e f).2.1 ≠ [] := mGo_ne he 100 (mMeet_ne he (Or.inr rfl))
theorem mHead_lt {kf : Nat → Nat} {row : Nat → List Nat} {e N f : Nat} (he : 1 ≤ e) (hf : f < N) (hr : ∀ i, i < N → ∀ x ∈ row i, x < N) (hk : ∀ x, x < N → kf x % 100 = x) : mHead (mGoing kf row e f).2.1 < N := by
  have h := mGoing_GI (e := e) hf hr hk
  have hne := mGoing_ne (kf := kf) (row := row) (f := f) he
  obtain ⟨x, hx, e1⟩ := h.2.2.2.2.2.2.1 _ (gd_mem (List.length_pos_iff.mpr hne))
  unfold mHead
  rw [e1, hk x hx]
  exact hx
theorem mChoose_len {fb : Nat → Nat → Nat} {car : Bool} {w : Nat} : ∀ (L T : List Nat), T.length ≤ w → (mChoose fb car w L T).length ≤ w
  | [], _, h => h
  | k :: ks, T, h => by
    unfold mChoose
    split
    · split
      · exact mChoose_len ks (T ++ [k]) (by rw [List.length_append]; simp; omega)
      · exact mChoose_len ks T h
    · exact h
theorem mChoose_mem {fb : Nat → Nat → Nat} {car : Bool} {w : Nat} : ∀ (L T : List Nat) (x : Nat), x ∈ mChoose fb car w L T → x ∈ T ∨ x ∈ L
  | [], _, _, h => Or.inl h
  | k :: ks, T, x, h => by
    unfold mChoose at h
    split at h
    · split at h
      · rcases mChoose_mem ks (T ++ [k]) x h with h | h
        · rcases List.mem_append.mp h with h | h
          · exact Or.inl h
          · rw [List.mem_singleton.mp h]; exact Or.inr List.mem_cons_self
        · exact Or.inr (List.mem_cons_of_mem _ h)
      · rcases mChoose_mem ks T x h with h | h
        · exact Or.inl h
        · exact Or.inr (List.mem_cons_of_mem _ h)
    · exact Or.inl h
/-- LEVEL -/
def ush (x : Int32) (k : Int) : Int32 := (x.toUInt32 >>> ((zi k).toUInt32 &&& Int32.toUInt32 31)).toInt32
def hashI (s i : Int32) : Int32 :=
  let h1 := (s ^^^ i) * (-1640531535)
  let h2 := (h1 ^^^ ush h1 16) * (-2048144789)
  h2 ^^^ ush h2 13
def levC : Nat → Int32 → Nat
  | 0, _ => 0
  | d + 1, h => if h &&& 3 = 0 then 1 + levC d (ush h 2) else 0
theorem levC_le : ∀ (d : Nat) (h : Int32), levC d h ≤ d
  | 0, _ => Nat.le_refl _
  | d + 1, h => by
    unfold levC
    have := levC_le d (ush h 2)
    split <;> omega
def lev (s : Int) (i : Nat) : Nat := levC 4 (hashI (zi s) (zi i))
theorem lev_le (s : Int) (i : Nat) : lev s i ≤ 4 := levC_le 4 _
