/-! lists of keys, in order -/
def ins (k : Nat) : List Nat → List Nat
  | [] => [k]
  | x :: xs => if x ≤ k then x :: ins k xs else k :: x :: xs
theorem ins_len (k : Nat) : ∀ L : List Nat, (ins k L).length = L.length + 1
  | [] => rfl
  | x :: xs => by
    unfold ins
    split
    · simp [ins_len k xs]
    · simp
theorem ins_mem {k y : Nat} : ∀ {L : List Nat}, y ∈ ins k L ↔ y = k ∨ y ∈ L
  | [] => by simp [ins]
  | x :: xs => by
    unfold ins
    split
    · rw [List.mem_cons, ins_mem, List.mem_cons]
      constructor
      · rintro (h | h | h)
        · exact Or.inr (Or.inl h)
        · exact Or.inl h
        · exact Or.inr (Or.inr h)
      · rintro (h | h | h)
        · exact Or.inr (Or.inl h)
        · exact Or.inl h
        · exact Or.inr (Or.inr h)
    · simp
abbrev Srt (L : List Nat) : Prop := L.Pairwise (· ≤ ·)
theorem ins_srt {k : Nat} : ∀ {L : List Nat}, Srt L → Srt (ins k L)
  | [], _ => by simp [ins, Srt]
  | x :: xs, h => by
    have hx := List.pairwise_cons.mp h
    unfold ins
    split
    next hk =>
      refine List.pairwise_cons.mpr ⟨fun y hy => ?_, ins_srt hx.2⟩
      rcases ins_mem.mp hy with rfl | hy
      · exact hk
      · exact hx.1 y hy
    next hk =>
      refine List.pairwise_cons.mpr ⟨fun y hy => ?_, h⟩
      rcases List.mem_cons.mp hy with rfl | hy
      · omega
      · have := hx.1 y hy
        omega
theorem ins_at {k : Nat} : ∀ {L : List Nat} {p : Nat}, p ≤ L.length → (∀ j, j < p → L.getD j 0 ≤ k) → (∀ j, p ≤ j → j < L.length → k < L.getD j 0) → ins k L = L.take p ++ k :: L.drop p
  | [], p, hp, _, _ => by
    have : p = 0 := by simpa using hp
    subst this
    rfl
  | x :: xs, 0, _, _, h2 => by
    have := h2 0 (Nat.le_refl _) (by simp)
    have hx : ¬ x ≤ k := by
      have h3 : k < x := this
      omega
    unfold ins
    rw [if_neg hx]
    rfl
  | x :: xs, p + 1, hp, h1, h2 => by
    have hx : x ≤ k := h1 0 (by omega)
    unfold ins
    rw [if_pos hx, ins_at (p := p) (by simpa using hp) (fun j hj => h1 (j + 1) (by omega)) (fun j hj hl => h2 (j + 1) (by omega) (by simpa using hl))]
    rfl
theorem srt_get {L : List Nat} (h : Srt L) {i j : Nat} (hij : i ≤ j) (hj : j < L.length) : L.getD i 0 ≤ L.getD j 0 := by
  rcases Nat.lt_or_eq_of_le hij with hlt | rfl
  · have h1 : i < L.length := by omega
    have := List.pairwise_iff_getElem.mp h i j h1 hj hlt
    simpa [List.getD_eq_getElem?_getD, List.getElem?_eq_getElem h1, List.getElem?_eq_getElem hj] using this
  · exact Nat.le_refl _
theorem srt_take {L : List Nat} (h : Srt L) (n : Nat) : Srt (L.take n) := h.sublist (List.take_sublist n L)
theorem srt_tail {L : List Nat} (h : Srt L) : Srt L.tail := h.sublist (List.tail_sublist L)
theorem gd_mem {L : List Nat} {j : Nat} (h : j < L.length) : L.getD j 0 ∈ L := by
  rw [List.getD_eq_getElem?_getD, List.getElem?_eq_getElem h]
  exact List.getElem_mem h
theorem gd_ins {L : List Nat} {p key : Nat} (hp : p ≤ L.length) (j : Nat) : (L.take p ++ key :: L.drop p).getD j 0 = if j < p then L.getD j 0 else if j = p then key else L.getD (j - 1) 0 := by
  have hl : (L.take p).length = p := by rw [List.length_take]; omega
  simp only [List.getD_eq_getElem?_getD]
  by_cases h1 : j < p
  · rw [if_pos h1, List.getElem?_append_left (by omega), List.getElem?_take_of_lt h1]
  · rw [if_neg h1, List.getElem?_append_right (by omega), hl]
    by_cases h2 : j = p
    · subst h2
      simp
    · rw [if_neg h2]
      obtain ⟨d, rfl⟩ : ∃ d, j = p + 1 + d := ⟨j - p - 1, by omega⟩
      have e1 : p + 1 + d - p = d + 1 := by omega
      have e2 : p + 1 + d - 1 = p + d := by omega
      rw [e1, e2, List.getElem?_cons_succ, List.getElem?_drop]
theorem gd_set {L : List Nat} {j v x : Nat} (hx : x < L.length) : (L.set j v).getD x 0 = if x = j then v else L.getD x 0 := by
  rw [List.getD_eq_getElem?_getD, List.getElem?_set]
  by_cases e : j = x
  · subst e
    rw [if_pos rfl, if_pos hx, if_pos rfl]
    rfl
  · rw [if_neg e, if_neg (fun z => e z.symm), List.getD_eq_getElem?_getD]
theorem gd_tail {L : List Nat} {x : Nat} : L.tail.getD x 0 = L.getD (x + 1) 0 := by
  cases L <;> simp
theorem gd_take {L : List Nat} {m x : Nat} (h : x < m) : (L.take m).getD x 0 = L.getD x 0 := by
  rw [List.getD_eq_getElem?_getD, List.getD_eq_getElem?_getD, List.getElem?_take_of_lt h]
